section
-- ===== PART A: goes FIRST, ahead of the names: the tables' words, and 'selects' of the private methods out of them =====
/-- a private method of a class that the tables say can be made, by its rows of tables_1 -/
def lw_okq (q : MethodName × Nat) : Prop := (q.1.cls ≠ "java/lang/invoke/MethodHandle" ∧ q.1.cls ≠ "java/lang/invoke/VarHandle") ∧ Cond.instantiable q.1.cls q.2 ∈ tables_1 ∧ Cond.privateMethod q.1 ∈ tables_1 ∧ Cond.instanceMethod q.1 ∈ tables_1
theorem lw_p0 : lw_okq (⟨"SkewedSquare$History", "dropOldest", "()V"⟩, 2) := ⟨⟨by decide +kernel, by decide +kernel⟩, List.mem_of_getElem? (i := 156) (by decide +kernel), List.mem_of_getElem? (i := 242) (by decide +kernel), List.mem_of_getElem? (i := 243) (by decide +kernel)⟩
theorem lw_p1 : lw_okq (⟨"SkewedSquare$State", "tilesAlong", "(I)I"⟩, 5) := ⟨⟨by decide +kernel, by decide +kernel⟩, List.mem_of_getElem? (i := 21) (by decide +kernel), List.mem_of_getElem? (i := 287) (by decide +kernel), List.mem_of_getElem? (i := 288) (by decide +kernel)⟩
theorem lw_p2 : lw_okq (⟨"SkewedSquare", "setEntry", "(LSkewedSquare$Matrix;III)I"⟩, 4) := ⟨⟨by decide +kernel, by decide +kernel⟩, List.mem_of_getElem? (i := 13) (by decide +kernel), List.mem_of_getElem? (i := 299) (by decide +kernel), List.mem_of_getElem? (i := 300) (by decide +kernel)⟩
theorem lw_p3 : lw_okq (⟨"SkewedSquare$State", "goOnce", "()V"⟩, 5) := ⟨⟨by decide +kernel, by decide +kernel⟩, List.mem_of_getElem? (i := 21) (by decide +kernel), List.mem_of_getElem? (i := 374) (by decide +kernel), List.mem_of_getElem? (i := 375) (by decide +kernel)⟩
theorem lw_p4 : lw_okq (⟨"SkewedSquare$State", "fromLeft", "(II)I"⟩, 5) := ⟨⟨by decide +kernel, by decide +kernel⟩, List.mem_of_getElem? (i := 21) (by decide +kernel), List.mem_of_getElem? (i := 386) (by decide +kernel), List.mem_of_getElem? (i := 387) (by decide +kernel)⟩
theorem lw_p5 : lw_okq (⟨"SkewedSquare$State", "fromAbove", "(II)I"⟩, 5) := ⟨⟨by decide +kernel, by decide +kernel⟩, List.mem_of_getElem? (i := 21) (by decide +kernel), List.mem_of_getElem? (i := 399) (by decide +kernel), List.mem_of_getElem? (i := 400) (by decide +kernel)⟩
theorem lw_p6 : lw_okq (⟨"SkewedSquare", "ofCellAtWork", "(II)I"⟩, 4) := ⟨⟨by decide +kernel, by decide +kernel⟩, List.mem_of_getElem? (i := 13) (by decide +kernel), List.mem_of_getElem? (i := 455) (by decide +kernel), List.mem_of_getElem? (i := 456) (by decide +kernel)⟩
theorem lw_p7 : lw_okq (⟨"SkewedSquare$State", "dueSumOfRow", "(I)I"⟩, 5) := ⟨⟨by decide +kernel, by decide +kernel⟩, List.mem_of_getElem? (i := 21) (by decide +kernel), List.mem_of_getElem? (i := 511) (by decide +kernel), List.mem_of_getElem? (i := 512) (by decide +kernel)⟩
theorem lw_p8 : lw_okq (⟨"SkewedSquare$State", "dueSumOfColumn", "(I)I"⟩, 5) := ⟨⟨by decide +kernel, by decide +kernel⟩, List.mem_of_getElem? (i := 21) (by decide +kernel), List.mem_of_getElem? (i := 527) (by decide +kernel), List.mem_of_getElem? (i := 528) (by decide +kernel)⟩
theorem lw_p9 : lw_okq (⟨"SkewedSquare", "wrongWithout", "(I)I"⟩, 4) := ⟨⟨by decide +kernel, by decide +kernel⟩, List.mem_of_getElem? (i := 13) (by decide +kernel), List.mem_of_getElem? (i := 535) (by decide +kernel), List.mem_of_getElem? (i := 536) (by decide +kernel)⟩
theorem lw_p10 : lw_okq (⟨"SkewedSquare$Text", "startScan", "()V"⟩, 11) := ⟨⟨by decide +kernel, by decide +kernel⟩, List.mem_of_getElem? (i := 173) (by decide +kernel), List.mem_of_getElem? (i := 573) (by decide +kernel), List.mem_of_getElem? (i := 574) (by decide +kernel)⟩
theorem lw_p11 : lw_okq (⟨"SkewedSquare$Text", "startEntry", "()V"⟩, 11) := ⟨⟨by decide +kernel, by decide +kernel⟩, List.mem_of_getElem? (i := 173) (by decide +kernel), List.mem_of_getElem? (i := 578) (by decide +kernel), List.mem_of_getElem? (i := 579) (by decide +kernel)⟩
theorem lw_p12 : lw_okq (⟨"SkewedSquare$Text", "scanSign", "(IC)V"⟩, 11) := ⟨⟨by decide +kernel, by decide +kernel⟩, List.mem_of_getElem? (i := 173) (by decide +kernel), List.mem_of_getElem? (i := 582) (by decide +kernel), List.mem_of_getElem? (i := 583) (by decide +kernel)⟩
theorem lw_p13 : lw_okq (⟨"SkewedSquare$Text", "scanComma", "(I)V"⟩, 11) := ⟨⟨by decide +kernel, by decide +kernel⟩, List.mem_of_getElem? (i := 173) (by decide +kernel), List.mem_of_getElem? (i := 586) (by decide +kernel), List.mem_of_getElem? (i := 587) (by decide +kernel)⟩
theorem lw_p14 : lw_okq (⟨"SkewedSquare$Text", "setFault", "(II)V"⟩, 11) := ⟨⟨by decide +kernel, by decide +kernel⟩, List.mem_of_getElem? (i := 173) (by decide +kernel), List.mem_of_getElem? (i := 590) (by decide +kernel), List.mem_of_getElem? (i := 591) (by decide +kernel)⟩
theorem lw_p15 : lw_okq (⟨"SkewedSquare$Text", "endEntry", "()V"⟩, 11) := ⟨⟨by decide +kernel, by decide +kernel⟩, List.mem_of_getElem? (i := 173) (by decide +kernel), List.mem_of_getElem? (i := 594) (by decide +kernel), List.mem_of_getElem? (i := 595) (by decide +kernel)⟩
def lw_privs_1 : List (MethodName × Nat) := [(⟨"SkewedSquare$History", "dropOldest", "()V"⟩, 2), (⟨"SkewedSquare$State", "tilesAlong", "(I)I"⟩, 5), (⟨"SkewedSquare", "setEntry", "(LSkewedSquare$Matrix;III)I"⟩, 4), (⟨"SkewedSquare$State", "goOnce", "()V"⟩, 5), (⟨"SkewedSquare$State", "fromLeft", "(II)I"⟩, 5), (⟨"SkewedSquare$State", "fromAbove", "(II)I"⟩, 5), (⟨"SkewedSquare", "ofCellAtWork", "(II)I"⟩, 4), (⟨"SkewedSquare$State", "dueSumOfRow", "(I)I"⟩, 5), (⟨"SkewedSquare$State", "dueSumOfColumn", "(I)I"⟩, 5), (⟨"SkewedSquare", "wrongWithout", "(I)I"⟩, 4), (⟨"SkewedSquare$Text", "startScan", "()V"⟩, 11), (⟨"SkewedSquare$Text", "startEntry", "()V"⟩, 11), (⟨"SkewedSquare$Text", "scanSign", "(IC)V"⟩, 11), (⟨"SkewedSquare$Text", "scanComma", "(I)V"⟩, 11), (⟨"SkewedSquare$Text", "setFault", "(II)V"⟩, 11), (⟨"SkewedSquare$Text", "endEntry", "()V"⟩, 11)]
theorem lw_r1 : ∀ q ∈ lw_privs_1, lw_okq q := List.forall_mem_cons.mpr ⟨lw_p0, List.forall_mem_cons.mpr ⟨lw_p1, List.forall_mem_cons.mpr ⟨lw_p2, List.forall_mem_cons.mpr ⟨lw_p3, List.forall_mem_cons.mpr ⟨lw_p4, List.forall_mem_cons.mpr ⟨lw_p5, List.forall_mem_cons.mpr ⟨lw_p6, List.forall_mem_cons.mpr ⟨lw_p7, List.forall_mem_cons.mpr ⟨lw_p8, List.forall_mem_cons.mpr ⟨lw_p9, List.forall_mem_cons.mpr ⟨lw_p10, List.forall_mem_cons.mpr ⟨lw_p11, List.forall_mem_cons.mpr ⟨lw_p12, List.forall_mem_cons.mpr ⟨lw_p13, List.forall_mem_cons.mpr ⟨lw_p14, List.forall_mem_cons.mpr ⟨lw_p15, fun _ h => absurd h List.not_mem_nil⟩⟩⟩⟩⟩⟩⟩⟩⟩⟩⟩⟩⟩⟩⟩⟩
theorem lw_p16 : lw_okq (⟨"SkewedSquare$Text", "scanSemicolon", "(I)V"⟩, 11) := ⟨⟨by decide +kernel, by decide +kernel⟩, List.mem_of_getElem? (i := 173) (by decide +kernel), List.mem_of_getElem? (i := 599) (by decide +kernel), List.mem_of_getElem? (i := 600) (by decide +kernel)⟩
theorem lw_p17 : lw_okq (⟨"SkewedSquare$Text", "rowIsShort", "()Z"⟩, 11) := ⟨⟨by decide +kernel, by decide +kernel⟩, List.mem_of_getElem? (i := 173) (by decide +kernel), List.mem_of_getElem? (i := 603) (by decide +kernel), List.mem_of_getElem? (i := 604) (by decide +kernel)⟩
theorem lw_p18 : lw_okq (⟨"SkewedSquare$Text", "endRow", "()V"⟩, 11) := ⟨⟨by decide +kernel, by decide +kernel⟩, List.mem_of_getElem? (i := 173) (by decide +kernel), List.mem_of_getElem? (i := 607) (by decide +kernel), List.mem_of_getElem? (i := 608) (by decide +kernel)⟩
theorem lw_p19 : lw_okq (⟨"SkewedSquare$Text", "finishScan", "()V"⟩, 11) := ⟨⟨by decide +kernel, by decide +kernel⟩, List.mem_of_getElem? (i := 173) (by decide +kernel), List.mem_of_getElem? (i := 611) (by decide +kernel), List.mem_of_getElem? (i := 612) (by decide +kernel)⟩
theorem lw_p20 : lw_okq (⟨"SkewedSquareModel", "changes", "()V"⟩, 16) := ⟨⟨by decide +kernel, by decide +kernel⟩, List.mem_of_getElem? (i := 627) (by decide +kernel), List.mem_of_getElem? (i := 690) (by decide +kernel), List.mem_of_getElem? (i := 691) (by decide +kernel)⟩
theorem lw_p21 : lw_okq (⟨"SkewedSquareModel", "clears", "(II)V"⟩, 16) := ⟨⟨by decide +kernel, by decide +kernel⟩, List.mem_of_getElem? (i := 627) (by decide +kernel), List.mem_of_getElem? (i := 694) (by decide +kernel), List.mem_of_getElem? (i := 695) (by decide +kernel)⟩
theorem lw_p22 : lw_okq (⟨"SkewedSquareModel", "tiles", "()I"⟩, 16) := ⟨⟨by decide +kernel, by decide +kernel⟩, List.mem_of_getElem? (i := 627) (by decide +kernel), List.mem_of_getElem? (i := 702) (by decide +kernel), List.mem_of_getElem? (i := 703) (by decide +kernel)⟩
theorem lw_p23 : lw_okq (⟨"SkewedSquareModel", "along", "(I)I"⟩, 16) := ⟨⟨by decide +kernel, by decide +kernel⟩, List.mem_of_getElem? (i := 627) (by decide +kernel), List.mem_of_getElem? (i := 706) (by decide +kernel), List.mem_of_getElem? (i := 707) (by decide +kernel)⟩
theorem lw_p24 : lw_okq (⟨"SkewedSquareModel", "sets", "(IIII)I"⟩, 16) := ⟨⟨by decide +kernel, by decide +kernel⟩, List.mem_of_getElem? (i := 627) (by decide +kernel), List.mem_of_getElem? (i := 714) (by decide +kernel), List.mem_of_getElem? (i := 715) (by decide +kernel)⟩
theorem lw_p25 : lw_okq (⟨"SkewedSquareModel", "isEntry", "(III)Z"⟩, 16) := ⟨⟨by decide +kernel, by decide +kernel⟩, List.mem_of_getElem? (i := 627) (by decide +kernel), List.mem_of_getElem? (i := 718) (by decide +kernel), List.mem_of_getElem? (i := 719) (by decide +kernel)⟩
theorem lw_p26 : lw_okq (⟨"SkewedSquareModel", "rowsOf", "(I)I"⟩, 16) := ⟨⟨by decide +kernel, by decide +kernel⟩, List.mem_of_getElem? (i := 627) (by decide +kernel), List.mem_of_getElem? (i := 722) (by decide +kernel), List.mem_of_getElem? (i := 723) (by decide +kernel)⟩
theorem lw_p27 : lw_okq (⟨"SkewedSquareModel", "columnsOf", "(I)I"⟩, 16) := ⟨⟨by decide +kernel, by decide +kernel⟩, List.mem_of_getElem? (i := 627) (by decide +kernel), List.mem_of_getElem? (i := 726) (by decide +kernel), List.mem_of_getElem? (i := 727) (by decide +kernel)⟩
theorem lw_p28 : lw_okq (⟨"SkewedSquareModel", "begins", "(II)V"⟩, 16) := ⟨⟨by decide +kernel, by decide +kernel⟩, List.mem_of_getElem? (i := 627) (by decide +kernel), List.mem_of_getElem? (i := 747) (by decide +kernel), List.mem_of_getElem? (i := 748) (by decide +kernel)⟩
theorem lw_p29 : lw_okq (⟨"SkewedSquareModel", "ticks", "()I"⟩, 16) := ⟨⟨by decide +kernel, by decide +kernel⟩, List.mem_of_getElem? (i := 627) (by decide +kernel), List.mem_of_getElem? (i := 751) (by decide +kernel), List.mem_of_getElem? (i := 752) (by decide +kernel)⟩
theorem lw_p30 : lw_okq (⟨"SkewedSquareModel", "tileRows", "()I"⟩, 16) := ⟨⟨by decide +kernel, by decide +kernel⟩, List.mem_of_getElem? (i := 627) (by decide +kernel), List.mem_of_getElem? (i := 755) (by decide +kernel), List.mem_of_getElem? (i := 756) (by decide +kernel)⟩
theorem lw_p31 : lw_okq (⟨"SkewedSquareModel", "tileColumns", "()I"⟩, 16) := ⟨⟨by decide +kernel, by decide +kernel⟩, List.mem_of_getElem? (i := 627) (by decide +kernel), List.mem_of_getElem? (i := 759) (by decide +kernel), List.mem_of_getElem? (i := 760) (by decide +kernel)⟩
def lw_privs_2 : List (MethodName × Nat) := [(⟨"SkewedSquare$Text", "scanSemicolon", "(I)V"⟩, 11), (⟨"SkewedSquare$Text", "rowIsShort", "()Z"⟩, 11), (⟨"SkewedSquare$Text", "endRow", "()V"⟩, 11), (⟨"SkewedSquare$Text", "finishScan", "()V"⟩, 11), (⟨"SkewedSquareModel", "changes", "()V"⟩, 16), (⟨"SkewedSquareModel", "clears", "(II)V"⟩, 16), (⟨"SkewedSquareModel", "tiles", "()I"⟩, 16), (⟨"SkewedSquareModel", "along", "(I)I"⟩, 16), (⟨"SkewedSquareModel", "sets", "(IIII)I"⟩, 16), (⟨"SkewedSquareModel", "isEntry", "(III)Z"⟩, 16), (⟨"SkewedSquareModel", "rowsOf", "(I)I"⟩, 16), (⟨"SkewedSquareModel", "columnsOf", "(I)I"⟩, 16), (⟨"SkewedSquareModel", "begins", "(II)V"⟩, 16), (⟨"SkewedSquareModel", "ticks", "()I"⟩, 16), (⟨"SkewedSquareModel", "tileRows", "()I"⟩, 16), (⟨"SkewedSquareModel", "tileColumns", "()I"⟩, 16)]
theorem lw_r2 : ∀ q ∈ lw_privs_2, lw_okq q := List.forall_mem_cons.mpr ⟨lw_p16, List.forall_mem_cons.mpr ⟨lw_p17, List.forall_mem_cons.mpr ⟨lw_p18, List.forall_mem_cons.mpr ⟨lw_p19, List.forall_mem_cons.mpr ⟨lw_p20, List.forall_mem_cons.mpr ⟨lw_p21, List.forall_mem_cons.mpr ⟨lw_p22, List.forall_mem_cons.mpr ⟨lw_p23, List.forall_mem_cons.mpr ⟨lw_p24, List.forall_mem_cons.mpr ⟨lw_p25, List.forall_mem_cons.mpr ⟨lw_p26, List.forall_mem_cons.mpr ⟨lw_p27, List.forall_mem_cons.mpr ⟨lw_p28, List.forall_mem_cons.mpr ⟨lw_p29, List.forall_mem_cons.mpr ⟨lw_p30, List.forall_mem_cons.mpr ⟨lw_p31, fun _ h => absurd h List.not_mem_nil⟩⟩⟩⟩⟩⟩⟩⟩⟩⟩⟩⟩⟩⟩⟩⟩
theorem lw_p32 : lw_okq (⟨"SkewedSquareModel", "isDone", "()Z"⟩, 16) := ⟨⟨by decide +kernel, by decide +kernel⟩, List.mem_of_getElem? (i := 627) (by decide +kernel), List.mem_of_getElem? (i := 767) (by decide +kernel), List.mem_of_getElem? (i := 768) (by decide +kernel)⟩
theorem lw_p33 : lw_okq (⟨"SkewedSquareModel", "goes", "()V"⟩, 16) := ⟨⟨by decide +kernel, by decide +kernel⟩, List.mem_of_getElem? (i := 627) (by decide +kernel), List.mem_of_getElem? (i := 771) (by decide +kernel), List.mem_of_getElem? (i := 772) (by decide +kernel)⟩
theorem lw_p34 : lw_okq (⟨"SkewedSquareModel", "gets", "(II)V"⟩, 16) := ⟨⟨by decide +kernel, by decide +kernel⟩, List.mem_of_getElem? (i := 627) (by decide +kernel), List.mem_of_getElem? (i := 775) (by decide +kernel), List.mem_of_getElem? (i := 776) (by decide +kernel)⟩
theorem lw_p35 : lw_okq (⟨"SkewedSquareModel", "faultOf", "(II)I"⟩, 16) := ⟨⟨by decide +kernel, by decide +kernel⟩, List.mem_of_getElem? (i := 627) (by decide +kernel), List.mem_of_getElem? (i := 782) (by decide +kernel), List.mem_of_getElem? (i := 783) (by decide +kernel)⟩
theorem lw_p36 : lw_okq (⟨"SkewedSquareModel", "placeOf", "(I)I"⟩, 16) := ⟨⟨by decide +kernel, by decide +kernel⟩, List.mem_of_getElem? (i := 627) (by decide +kernel), List.mem_of_getElem? (i := 786) (by decide +kernel), List.mem_of_getElem? (i := 787) (by decide +kernel)⟩
theorem lw_p37 : lw_okq (⟨"SkewedSquareModel", "drains", "()V"⟩, 16) := ⟨⟨by decide +kernel, by decide +kernel⟩, List.mem_of_getElem? (i := 627) (by decide +kernel), List.mem_of_getElem? (i := 794) (by decide +kernel), List.mem_of_getElem? (i := 795) (by decide +kernel)⟩
theorem lw_p38 : lw_okq (⟨"SkewedSquareModel", "known", "()I"⟩, 16) := ⟨⟨by decide +kernel, by decide +kernel⟩, List.mem_of_getElem? (i := 627) (by decide +kernel), List.mem_of_getElem? (i := 798) (by decide +kernel), List.mem_of_getElem? (i := 799) (by decide +kernel)⟩
theorem lw_p39 : lw_okq (⟨"SkewedSquareModel", "doesAll", "()I"⟩, 16) := ⟨⟨by decide +kernel, by decide +kernel⟩, List.mem_of_getElem? (i := 627) (by decide +kernel), List.mem_of_getElem? (i := 806) (by decide +kernel), List.mem_of_getElem? (i := 807) (by decide +kernel)⟩
theorem lw_p40 : lw_okq (⟨"SkewedSquareModel", "due", "(II)I"⟩, 16) := ⟨⟨by decide +kernel, by decide +kernel⟩, List.mem_of_getElem? (i := 627) (by decide +kernel), List.mem_of_getElem? (i := 823) (by decide +kernel), List.mem_of_getElem? (i := 824) (by decide +kernel)⟩
theorem lw_p41 : lw_okq (⟨"SkewedSquareModel", "isKnown", "(II)Z"⟩, 16) := ⟨⟨by decide +kernel, by decide +kernel⟩, List.mem_of_getElem? (i := 627) (by decide +kernel), List.mem_of_getElem? (i := 827) (by decide +kernel), List.mem_of_getElem? (i := 828) (by decide +kernel)⟩
theorem lw_p42 : lw_okq (⟨"SkewedSquareModel", "wrong", "()I"⟩, 16) := ⟨⟨by decide +kernel, by decide +kernel⟩, List.mem_of_getElem? (i := 627) (by decide +kernel), List.mem_of_getElem? (i := 835) (by decide +kernel), List.mem_of_getElem? (i := 836) (by decide +kernel)⟩
theorem lw_p43 : lw_okq (⟨"SkewedSquareModel", "faulty", "()I"⟩, 16) := ⟨⟨by decide +kernel, by decide +kernel⟩, List.mem_of_getElem? (i := 627) (by decide +kernel), List.mem_of_getElem? (i := 839) (by decide +kernel), List.mem_of_getElem? (i := 840) (by decide +kernel)⟩
theorem lw_p44 : lw_okq (⟨"SkewedSquareModel", "isSuspect", "(II)Z"⟩, 16) := ⟨⟨by decide +kernel, by decide +kernel⟩, List.mem_of_getElem? (i := 627) (by decide +kernel), List.mem_of_getElem? (i := 847) (by decide +kernel), List.mem_of_getElem? (i := 848) (by decide +kernel)⟩
theorem lw_p45 : lw_okq (⟨"SkewedSquareModel", "wrongWithout", "(I)I"⟩, 16) := ⟨⟨by decide +kernel, by decide +kernel⟩, List.mem_of_getElem? (i := 627) (by decide +kernel), List.mem_of_getElem? (i := 855) (by decide +kernel), List.mem_of_getElem? (i := 856) (by decide +kernel)⟩
theorem lw_p46 : lw_okq (⟨"SkewedSquareModel", "isRight", "()Z"⟩, 16) := ⟨⟨by decide +kernel, by decide +kernel⟩, List.mem_of_getElem? (i := 627) (by decide +kernel), List.mem_of_getElem? (i := 880) (by decide +kernel), List.mem_of_getElem? (i := 881) (by decide +kernel)⟩
theorem lw_p47 : lw_okq (⟨"SkewedSquareModel", "number", "()Z"⟩, 16) := ⟨⟨by decide +kernel, by decide +kernel⟩, List.mem_of_getElem? (i := 627) (by decide +kernel), List.mem_of_getElem? (i := 884) (by decide +kernel), List.mem_of_getElem? (i := 885) (by decide +kernel)⟩
def lw_privs_3 : List (MethodName × Nat) := [(⟨"SkewedSquareModel", "isDone", "()Z"⟩, 16), (⟨"SkewedSquareModel", "goes", "()V"⟩, 16), (⟨"SkewedSquareModel", "gets", "(II)V"⟩, 16), (⟨"SkewedSquareModel", "faultOf", "(II)I"⟩, 16), (⟨"SkewedSquareModel", "placeOf", "(I)I"⟩, 16), (⟨"SkewedSquareModel", "drains", "()V"⟩, 16), (⟨"SkewedSquareModel", "known", "()I"⟩, 16), (⟨"SkewedSquareModel", "doesAll", "()I"⟩, 16), (⟨"SkewedSquareModel", "due", "(II)I"⟩, 16), (⟨"SkewedSquareModel", "isKnown", "(II)Z"⟩, 16), (⟨"SkewedSquareModel", "wrong", "()I"⟩, 16), (⟨"SkewedSquareModel", "faulty", "()I"⟩, 16), (⟨"SkewedSquareModel", "isSuspect", "(II)Z"⟩, 16), (⟨"SkewedSquareModel", "wrongWithout", "(I)I"⟩, 16), (⟨"SkewedSquareModel", "isRight", "()Z"⟩, 16), (⟨"SkewedSquareModel", "number", "()Z"⟩, 16)]
theorem lw_r3 : ∀ q ∈ lw_privs_3, lw_okq q := List.forall_mem_cons.mpr ⟨lw_p32, List.forall_mem_cons.mpr ⟨lw_p33, List.forall_mem_cons.mpr ⟨lw_p34, List.forall_mem_cons.mpr ⟨lw_p35, List.forall_mem_cons.mpr ⟨lw_p36, List.forall_mem_cons.mpr ⟨lw_p37, List.forall_mem_cons.mpr ⟨lw_p38, List.forall_mem_cons.mpr ⟨lw_p39, List.forall_mem_cons.mpr ⟨lw_p40, List.forall_mem_cons.mpr ⟨lw_p41, List.forall_mem_cons.mpr ⟨lw_p42, List.forall_mem_cons.mpr ⟨lw_p43, List.forall_mem_cons.mpr ⟨lw_p44, List.forall_mem_cons.mpr ⟨lw_p45, List.forall_mem_cons.mpr ⟨lw_p46, List.forall_mem_cons.mpr ⟨lw_p47, fun _ h => absurd h List.not_mem_nil⟩⟩⟩⟩⟩⟩⟩⟩⟩⟩⟩⟩⟩⟩⟩⟩
theorem lw_p48 : lw_okq (⟨"SkewedSquareModel", "isDigit", "()Z"⟩, 16) := ⟨⟨by decide +kernel, by decide +kernel⟩, List.mem_of_getElem? (i := 627) (by decide +kernel), List.mem_of_getElem? (i := 888) (by decide +kernel), List.mem_of_getElem? (i := 889) (by decide +kernel)⟩
theorem lw_p49 : lw_okq (⟨"SkewedSquareModel", "rowEnds", "(Z)Z"⟩, 16) := ⟨⟨by decide +kernel, by decide +kernel⟩, List.mem_of_getElem? (i := 627) (by decide +kernel), List.mem_of_getElem? (i := 892) (by decide +kernel), List.mem_of_getElem? (i := 893) (by decide +kernel)⟩
theorem lw_p50 : lw_okq (⟨"SkewedSquareModel", "fails", "(I)Z"⟩, 16) := ⟨⟨by decide +kernel, by decide +kernel⟩, List.mem_of_getElem? (i := 627) (by decide +kernel), List.mem_of_getElem? (i := 896) (by decide +kernel), List.mem_of_getElem? (i := 897) (by decide +kernel)⟩
def lw_privs_4 : List (MethodName × Nat) := [(⟨"SkewedSquareModel", "isDigit", "()Z"⟩, 16), (⟨"SkewedSquareModel", "rowEnds", "(Z)Z"⟩, 16), (⟨"SkewedSquareModel", "fails", "(I)Z"⟩, 16)]
theorem lw_r4 : ∀ q ∈ lw_privs_4, lw_okq q := List.forall_mem_cons.mpr ⟨lw_p48, List.forall_mem_cons.mpr ⟨lw_p49, List.forall_mem_cons.mpr ⟨lw_p50, fun _ h => absurd h List.not_mem_nil⟩⟩⟩
def lw_privs : List (MethodName × Nat) := lw_privs_1 ++ (lw_privs_2 ++ (lw_privs_3 ++ (lw_privs_4)))
def lw_tbl : List Cond := k2_sels lw_privs ++ tables_1
theorem lw_privs_ok : ∀ q ∈ lw_privs, lw_okq q := by
  show ∀ q ∈ lw_privs_1 ++ (lw_privs_2 ++ (lw_privs_3 ++ (lw_privs_4))), lw_okq q
  exact List.forall_mem_append.mpr ⟨lw_r1, List.forall_mem_append.mpr ⟨lw_r2, List.forall_mem_append.mpr ⟨lw_r3, lw_r4⟩⟩⟩
/-! ===== BEGIN words of one list among another's, by their places ===== -/
theorem goodIn_r {big : List Cond} (ws : List Cond) (ps : List Nat) (hp : ws = ps.filterMap (fun i => big[i]?)) (h : ws.all goodWord = true) : GoodIn big ws := by
  intro w hw
  have h1 := List.all_eq_true.mp h w hw
  rw [hp] at hw
  obtain ⟨i, -, hi⟩ := List.mem_filterMap.mp hw
  have hm : w ∈ big := by first | exact List.mem_of_getElem? hi | exact List.getElem?_mem hi
  exact ⟨hm, good_of_word h1⟩
theorem goodIn_app {big a b : List Cond} (ha : GoodIn big a) (hb : GoodIn big b) : GoodIn big (a ++ b) := fun w h => (List.mem_append.mp h).elim (ha w) (hb w)
theorem goodIn_ca {big a b : List Cond} {c : Cond} (ha : GoodIn big (c :: a)) (hb : GoodIn big b) : GoodIn big (c :: (a ++ b)) := fun w h => (List.mem_cons.mp h).elim (fun e => ha w (List.mem_cons.mpr (Or.inl e))) (fun h => (List.mem_append.mp h).elim (fun h => ha w (List.mem_cons.mpr (Or.inr h))) (hb w))
theorem goodIn_sub {big ws : List Cond} (hm : ∀ w ∈ ws, w ∈ big) (h : ws.all goodWord = true) : GoodIn big ws := fun w hw => ⟨hm w hw, good_of_word (List.all_eq_true.mp h w hw)⟩
/-! ===== END ===== -/

/-! ===== BEGIN printed: names, fields, word lists, decode rows ===== -/
def RX0 : String := "SkewedSquare$History"
def TX0 : u_T := fun k => match k with
  | 0 => ("SkewedSquare$History", "states", "[LSkewedSquare$State;", true)
  | _ => ("SkewedSquare$History", "size", "I", false)
def tyX0 : Nat → FieldType := fun k => match k with
  | 0 => .array (.object "SkewedSquare$State")
  | _ => .int
abbrev wsX00 : List Cond := u_ws RX0 TX0 2
theorem nmX0 : ∀ a, a < 2 → ∀ b, b < 2 → a ≠ b → (TX0 a).2.1 ≠ (TX0 b).2.1 := by decide +kernel
theorem tyX0_ok : ∀ k, k < 2 → parseFieldDescriptor (TX0 k).2.2.1 = some (tyX0 k) := by decide +kernel
abbrev cX0_init : ByteArray := prog_2_method_1_code
def yX0_init : MethodName := ⟨RX0, "<init>", "()V"⟩
abbrev cX0_remember : ByteArray := prog_2_method_2_code
def yX0_remember : MethodName := ⟨RX0, "remember", "(LSkewedSquare$State;)V"⟩
abbrev cX0_dropOldest : ByteArray := prog_2_method_3_code
def yX0_dropOldest : MethodName := ⟨RX0, "dropOldest", "()V"⟩
abbrev cX0_restore : ByteArray := prog_2_method_4_code
def yX0_restore : MethodName := ⟨RX0, "restore", "(LSkewedSquare$State;)V"⟩
def RX1 : String := "SkewedSquare$Matrix"
def TX1 : u_T := fun k => match k with
  | 0 => ("SkewedSquare$Matrix", "rows", "I", false)
  | 1 => ("SkewedSquare$Matrix", "columns", "I", false)
  | _ => ("SkewedSquare$Matrix", "entries", "[I", true)
def tyX1 : Nat → FieldType := fun k => match k with
  | 0 => .int
  | 1 => .int
  | _ => .array .int
abbrev wsX10 : List Cond := u_ws RX1 TX1 3
theorem nmX1 : ∀ a, a < 3 → ∀ b, b < 3 → a ≠ b → (TX1 a).2.1 ≠ (TX1 b).2.1 := by decide +kernel
theorem tyX1_ok : ∀ k, k < 3 → parseFieldDescriptor (TX1 k).2.2.1 = some (tyX1 k) := by decide +kernel
abbrev cX1_init : ByteArray := prog_3_method_1_code
def yX1_init : MethodName := ⟨RX1, "<init>", "()V"⟩
abbrev cX1_has : ByteArray := prog_3_method_2_code
def yX1_has : MethodName := ⟨RX1, "has", "(II)Z"⟩
abbrev cX1_at : ByteArray := prog_3_method_3_code
def yX1_at : MethodName := ⟨RX1, "at", "(II)I"⟩
abbrev cX1_put : ByteArray := prog_3_method_4_code
def yX1_put : MethodName := ⟨RX1, "put", "(III)V"⟩
abbrev cX1_renew : ByteArray := prog_3_method_5_code
def yX1_renew : MethodName := ⟨RX1, "renew", "(III)V"⟩
abbrev cX1_copyFrom : ByteArray := prog_3_method_6_code
def yX1_copyFrom : MethodName := ⟨RX1, "copyFrom", "(LSkewedSquare$Matrix;)V"⟩
abbrev cX1_sumOfRow : ByteArray := prog_3_method_7_code
def yX1_sumOfRow : MethodName := ⟨RX1, "sumOfRow", "(I)I"⟩
abbrev cX1_sumOfColumn : ByteArray := prog_3_method_8_code
def yX1_sumOfColumn : MethodName := ⟨RX1, "sumOfColumn", "(I)I"⟩
abbrev cX1_isWholeInRow : ByteArray := prog_3_method_9_code
def yX1_isWholeInRow : MethodName := ⟨RX1, "isWholeInRow", "(I)Z"⟩
abbrev cX1_isWholeInColumn : ByteArray := prog_3_method_10_code
def yX1_isWholeInColumn : MethodName := ⟨RX1, "isWholeInColumn", "(I)Z"⟩
def RX2 : String := "SkewedSquare$Square"
def TX2 : u_T := fun k => match k with
  | 0 => ("SkewedSquare$Square", "side", "I", false)
  | 1 => ("SkewedSquare$Square", "leftOut", "I", false)
  | _ => ("SkewedSquare$Square", "kinds", "[I", true)
def tyX2 : Nat → FieldType := fun k => match k with
  | 0 => .int
  | 1 => .int
  | _ => .array .int
abbrev wsX20 : List Cond := u_ws RX2 TX2 3
theorem nmX2 : ∀ a, a < 3 → ∀ b, b < 3 → a ≠ b → (TX2 a).2.1 ≠ (TX2 b).2.1 := by decide +kernel
theorem tyX2_ok : ∀ k, k < 3 → parseFieldDescriptor (TX2 k).2.2.1 = some (tyX2 k) := by decide +kernel
abbrev cX2_init : ByteArray := prog_4_method_1_code
def yX2_init : MethodName := ⟨RX2, "<init>", "()V"⟩
abbrev cX2_renew : ByteArray := prog_4_method_2_code
def yX2_renew : MethodName := ⟨RX2, "renew", "(I)V"⟩
abbrev cX2_has : ByteArray := prog_4_method_3_code
def yX2_has : MethodName := ⟨RX2, "has", "(II)Z"⟩
abbrev cX2_kindAt : ByteArray := prog_4_method_4_code
def yX2_kindAt : MethodName := ⟨RX2, "kindAt", "(II)I"⟩
abbrev cX2_setKind : ByteArray := prog_4_method_5_code
def yX2_setKind : MethodName := ⟨RX2, "setKind", "(III)V"⟩
abbrev cX2_placeOf : ByteArray := prog_4_method_6_code
def yX2_placeOf : MethodName := ⟨RX2, "placeOf", "(I)I"⟩
abbrev cX2_faultyCells : ByteArray := prog_4_method_7_code
def yX2_faultyCells : MethodName := ⟨RX2, "faultyCells", "()I"⟩
abbrev cX2_copyFrom : ByteArray := prog_4_method_8_code
def yX2_copyFrom : MethodName := ⟨RX2, "copyFrom", "(LSkewedSquare$Square;)V"⟩
def RX3 : String := "SkewedSquare$State"
def TX3 : u_T := fun k => match k with
  | 0 => ("SkewedSquare$State", "square", "LSkewedSquare$Square;", true)
  | 1 => ("SkewedSquare$State", "leftMatrix", "LSkewedSquare$Matrix;", true)
  | 2 => ("SkewedSquare$State", "rightMatrix", "LSkewedSquare$Matrix;", true)
  | 3 => ("SkewedSquare$State", "results", "LSkewedSquare$Matrix;", true)
  | _ => ("SkewedSquare$State", "tile", "LSkewedSquare$Tile;", true)
def tyX3 : Nat → FieldType := fun k => match k with
  | 0 => .object "SkewedSquare$Square"
  | 1 => .object "SkewedSquare$Matrix"
  | 2 => .object "SkewedSquare$Matrix"
  | 3 => .object "SkewedSquare$Matrix"
  | _ => .object "SkewedSquare$Tile"
abbrev wsX30 : List Cond := u_ws RX3 TX3 5
theorem nmX3 : ∀ a, a < 5 → ∀ b, b < 5 → a ≠ b → (TX3 a).2.1 ≠ (TX3 b).2.1 := by decide +kernel
theorem tyX3_ok : ∀ k, k < 5 → parseFieldDescriptor (TX3 k).2.2.1 = some (tyX3 k) := by decide +kernel
abbrev cX3_init : ByteArray := prog_5_method_1_code
def yX3_init : MethodName := ⟨RX3, "<init>", "()V"⟩
abbrev cX3_copyFrom : ByteArray := prog_5_method_2_code
def yX3_copyFrom : MethodName := ⟨RX3, "copyFrom", "(LSkewedSquare$State;)V"⟩
abbrev cX3_forgetResults : ByteArray := prog_5_method_3_code
def yX3_forgetResults : MethodName := ⟨RX3, "forgetResults", "()V"⟩
abbrev cX3_takeLeft : ByteArray := prog_5_method_4_code
def yX3_takeLeft : MethodName := ⟨RX3, "takeLeft", "(LSkewedSquare$Matrix;)V"⟩
abbrev cX3_takeRight : ByteArray := prog_5_method_5_code
def yX3_takeRight : MethodName := ⟨RX3, "takeRight", "(LSkewedSquare$Matrix;)V"⟩
abbrev cX3_tilesDown : ByteArray := prog_5_method_6_code
def yX3_tilesDown : MethodName := ⟨RX3, "tilesDown", "()I"⟩
abbrev cX3_tilesAcross : ByteArray := prog_5_method_7_code
def yX3_tilesAcross : MethodName := ⟨RX3, "tilesAcross", "()I"⟩
abbrev cX3_tiles : ByteArray := prog_5_method_8_code
def yX3_tiles : MethodName := ⟨RX3, "tiles", "()I"⟩
abbrev cX3_tilesAlong : ByteArray := prog_5_method_9_code
def yX3_tilesAlong : MethodName := ⟨RX3, "tilesAlong", "(I)I"⟩
abbrev cX3_beginTile : ByteArray := prog_5_method_10_code
def yX3_beginTile : MethodName := ⟨RX3, "beginTile", "(II)V"⟩
abbrev cX3_goOn : ByteArray := prog_5_method_11_code
def yX3_goOn : MethodName := ⟨RX3, "goOn", "(I)V"⟩
abbrev cX3_goOnce : ByteArray := prog_5_method_12_code
def yX3_goOnce : MethodName := ⟨RX3, "goOnce", "()V"⟩
abbrev cX3_fromLeft : ByteArray := prog_5_method_13_code
def yX3_fromLeft : MethodName := ⟨RX3, "fromLeft", "(II)I"⟩
abbrev cX3_fromAbove : ByteArray := prog_5_method_14_code
def yX3_fromAbove : MethodName := ⟨RX3, "fromAbove", "(II)I"⟩
abbrev cX3_drainTile : ByteArray := prog_5_method_15_code
def yX3_drainTile : MethodName := ⟨RX3, "drainTile", "()V"⟩
abbrev cX3_doAllTiles : ByteArray := prog_5_method_16_code
def yX3_doAllTiles : MethodName := ⟨RX3, "doAllTiles", "()I"⟩
abbrev cX3_dueAt : ByteArray := prog_5_method_17_code
def yX3_dueAt : MethodName := ⟨RX3, "dueAt", "(II)I"⟩
abbrev cX3_knownEntries : ByteArray := prog_5_method_18_code
def yX3_knownEntries : MethodName := ⟨RX3, "knownEntries", "()I"⟩
abbrev cX3_wrongEntries : ByteArray := prog_5_method_19_code
def yX3_wrongEntries : MethodName := ⟨RX3, "wrongEntries", "()I"⟩
abbrev cX3_suspectRows : ByteArray := prog_5_method_20_code
def yX3_suspectRows : MethodName := ⟨RX3, "suspectRows", "()I"⟩
abbrev cX3_suspectColumns : ByteArray := prog_5_method_21_code
def yX3_suspectColumns : MethodName := ⟨RX3, "suspectColumns", "()I"⟩
abbrev cX3_dueSumOfRow : ByteArray := prog_5_method_22_code
def yX3_dueSumOfRow : MethodName := ⟨RX3, "dueSumOfRow", "(I)I"⟩
abbrev cX3_dueSumOfColumn : ByteArray := prog_5_method_23_code
def yX3_dueSumOfColumn : MethodName := ⟨RX3, "dueSumOfColumn", "(I)I"⟩
def RX4 : String := "SkewedSquare$Text"
def TX4 : u_T := fun k => match k with
  | 0 => ("SkewedSquare$Text", "signs", "[C", true)
  | 1 => ("SkewedSquare$Text", "length", "I", false)
  | 2 => ("SkewedSquare$Text", "matrix", "LSkewedSquare$Matrix;", true)
  | 3 => ("SkewedSquare$Text", "faultPlace", "I", false)
  | 4 => ("SkewedSquare$Text", "reason", "I", false)
  | 5 => ("SkewedSquare$Text", "row", "I", false)
  | 6 => ("SkewedSquare$Text", "column", "I", false)
  | 7 => ("SkewedSquare$Text", "width", "I", false)
  | 8 => ("SkewedSquare$Text", "negative", "Z", false)
  | 9 => ("SkewedSquare$Text", "digits", "I", false)
  | _ => ("SkewedSquare$Text", "value", "I", false)
def tyX4 : Nat → FieldType := fun k => match k with
  | 0 => .array .char
  | 1 => .int
  | 2 => .object "SkewedSquare$Matrix"
  | 3 => .int
  | 4 => .int
  | 5 => .int
  | 6 => .int
  | 7 => .int
  | 8 => .boolean
  | 9 => .int
  | _ => .int
abbrev wsX40 : List Cond := u_ws RX4 TX4 11
theorem nmX4 : ∀ a, a < 11 → ∀ b, b < 11 → a ≠ b → (TX4 a).2.1 ≠ (TX4 b).2.1 := by decide +kernel
theorem tyX4_ok : ∀ k, k < 11 → parseFieldDescriptor (TX4 k).2.2.1 = some (tyX4 k) := by decide +kernel
abbrev cX4_init : ByteArray := prog_6_method_1_code
def yX4_init : MethodName := ⟨RX4, "<init>", "()V"⟩
abbrev cX4_append : ByteArray := prog_6_method_2_code
def yX4_append : MethodName := ⟨RX4, "append", "(C)V"⟩
abbrev cX4_scan : ByteArray := prog_6_method_3_code
def yX4_scan : MethodName := ⟨RX4, "scan", "()V"⟩
abbrev cX4_startScan : ByteArray := prog_6_method_4_code
def yX4_startScan : MethodName := ⟨RX4, "startScan", "()V"⟩
abbrev cX4_startEntry : ByteArray := prog_6_method_5_code
def yX4_startEntry : MethodName := ⟨RX4, "startEntry", "()V"⟩
abbrev cX4_scanSign : ByteArray := prog_6_method_6_code
def yX4_scanSign : MethodName := ⟨RX4, "scanSign", "(IC)V"⟩
abbrev cX4_scanComma : ByteArray := prog_6_method_7_code
def yX4_scanComma : MethodName := ⟨RX4, "scanComma", "(I)V"⟩
abbrev cX4_scanSemicolon : ByteArray := prog_6_method_8_code
def yX4_scanSemicolon : MethodName := ⟨RX4, "scanSemicolon", "(I)V"⟩
abbrev cX4_finishScan : ByteArray := prog_6_method_9_code
def yX4_finishScan : MethodName := ⟨RX4, "finishScan", "()V"⟩
abbrev cX4_rowIsShort : ByteArray := prog_6_method_10_code
def yX4_rowIsShort : MethodName := ⟨RX4, "rowIsShort", "()Z"⟩
abbrev cX4_endEntry : ByteArray := prog_6_method_11_code
def yX4_endEntry : MethodName := ⟨RX4, "endEntry", "()V"⟩
abbrev cX4_endRow : ByteArray := prog_6_method_12_code
def yX4_endRow : MethodName := ⟨RX4, "endRow", "()V"⟩
abbrev cX4_setFault : ByteArray := prog_6_method_13_code
def yX4_setFault : MethodName := ⟨RX4, "setFault", "(II)V"⟩
def RX5 : String := "SkewedSquare$Tile"
def TX5 : u_T := fun k => match k with
  | 0 => ("SkewedSquare$Tile", "begun", "Z", false)
  | 1 => ("SkewedSquare$Tile", "row", "I", false)
  | 2 => ("SkewedSquare$Tile", "column", "I", false)
  | 3 => ("SkewedSquare$Tile", "height", "I", false)
  | 4 => ("SkewedSquare$Tile", "width", "I", false)
  | 5 => ("SkewedSquare$Tile", "ticks", "I", false)
  | 6 => ("SkewedSquare$Tile", "ticksNeeded", "I", false)
  | 7 => ("SkewedSquare$Tile", "sums", "[I", true)
  | 8 => ("SkewedSquare$Tile", "meetings", "[I", true)
  | 9 => ("SkewedSquare$Tile", "rightward", "[I", true)
  | _ => ("SkewedSquare$Tile", "downward", "[I", true)
def tyX5 : Nat → FieldType := fun k => match k with
  | 0 => .boolean
  | 1 => .int
  | 2 => .int
  | 3 => .int
  | 4 => .int
  | 5 => .int
  | 6 => .int
  | 7 => .array .int
  | 8 => .array .int
  | 9 => .array .int
  | _ => .array .int
abbrev wsX50 : List Cond := u_ws RX5 TX5 11
theorem nmX5 : ∀ a, a < 11 → ∀ b, b < 11 → a ≠ b → (TX5 a).2.1 ≠ (TX5 b).2.1 := by decide +kernel
theorem tyX5_ok : ∀ k, k < 11 → parseFieldDescriptor (TX5 k).2.2.1 = some (tyX5 k) := by decide +kernel
abbrev cX5_init : ByteArray := prog_7_method_1_code
def yX5_init : MethodName := ⟨RX5, "<init>", "()V"⟩
abbrev cX5_cell : ByteArray := prog_7_method_2_code
def yX5_cell : MethodName := ⟨RX5, "cell", "(II)I"⟩
abbrev cX5_isCell : ByteArray := prog_7_method_3_code
def yX5_isCell : MethodName := ⟨RX5, "isCell", "(I)Z"⟩
abbrev cX5_empty : ByteArray := prog_7_method_4_code
def yX5_empty : MethodName := ⟨RX5, "empty", "()V"⟩
abbrev cX5_ticksLeft : ByteArray := prog_7_method_5_code
def yX5_ticksLeft : MethodName := ⟨RX5, "ticksLeft", "()I"⟩
abbrev cX5_sumOf : ByteArray := prog_7_method_6_code
def yX5_sumOf : MethodName := ⟨RX5, "sumOf", "(I)I"⟩
abbrev cX5_meetingsOf : ByteArray := prog_7_method_7_code
def yX5_meetingsOf : MethodName := ⟨RX5, "meetingsOf", "(I)I"⟩
abbrev cX5_rightwardOf : ByteArray := prog_7_method_8_code
def yX5_rightwardOf : MethodName := ⟨RX5, "rightwardOf", "(I)I"⟩
abbrev cX5_downwardOf : ByteArray := prog_7_method_9_code
def yX5_downwardOf : MethodName := ⟨RX5, "downwardOf", "(I)I"⟩
abbrev cX5_pass : ByteArray := prog_7_method_10_code
def yX5_pass : MethodName := ⟨RX5, "pass", "(IIII)V"⟩
abbrev cX5_timesAdded : ByteArray := prog_7_method_11_code
def yX5_timesAdded : MethodName := ⟨RX5, "timesAdded", "(I)I"⟩
abbrev cX5_zeroIfAny : ByteArray := prog_7_method_12_code
def yX5_zeroIfAny : MethodName := ⟨RX5, "zeroIfAny", "(I)I"⟩
abbrev cX5_copyFrom : ByteArray := prog_7_method_13_code
def yX5_copyFrom : MethodName := ⟨RX5, "copyFrom", "(LSkewedSquare$Tile;)V"⟩
def RX6 : String := "SkewedSquare"
def TX6 : u_T := fun k => match k with
  | 0 => ("SkewedSquare", "now", "LSkewedSquare$State;", true)
  | 1 => ("SkewedSquare", "trial", "LSkewedSquare$State;", true)
  | 2 => ("SkewedSquare", "history", "LSkewedSquare$History;", true)
  | _ => ("SkewedSquare", "text", "LSkewedSquare$Text;", true)
def tyX6 : Nat → FieldType := fun k => match k with
  | 0 => .object "SkewedSquare$State"
  | 1 => .object "SkewedSquare$State"
  | 2 => .object "SkewedSquare$History"
  | _ => .object "SkewedSquare$Text"
abbrev wsX60 : List Cond := u_ws RX6 TX6 4
theorem nmX6 : ∀ a, a < 4 → ∀ b, b < 4 → a ≠ b → (TX6 a).2.1 ≠ (TX6 b).2.1 := by decide +kernel
theorem tyX6_ok : ∀ k, k < 4 → parseFieldDescriptor (TX6 k).2.2.1 = some (tyX6 k) := by decide +kernel
abbrev cX6_init : ByteArray := prog_1_method_1_code
def yX6_init : MethodName := ⟨RX6, "<init>", "()V"⟩
abbrev cX6_side : ByteArray := prog_1_method_2_code
def yX6_side : MethodName := ⟨RX6, "side", "(I)I"⟩
abbrev cX6_shape : ByteArray := prog_1_method_3_code
def yX6_shape : MethodName := ⟨RX6, "shape", "(III)I"⟩
abbrev cX6_left : ByteArray := prog_1_method_4_code
def yX6_left : MethodName := ⟨RX6, "left", "(III)I"⟩
abbrev cX6_right : ByteArray := prog_1_method_5_code
def yX6_right : MethodName := ⟨RX6, "right", "(III)I"⟩
abbrev cX6_fault : ByteArray := prog_1_method_6_code
def yX6_fault : MethodName := ⟨RX6, "fault", "(III)I"⟩
abbrev cX6_leave : ByteArray := prog_1_method_7_code
def yX6_leave : MethodName := ⟨RX6, "leave", "(I)I"⟩
abbrev cX6_begin : ByteArray := prog_1_method_8_code
def yX6_begin : MethodName := ⟨RX6, "begin", "(II)I"⟩
abbrev cX6_tick : ByteArray := prog_1_method_9_code
def yX6_tick : MethodName := ⟨RX6, "tick", "(I)I"⟩
abbrev cX6_drain : ByteArray := prog_1_method_10_code
def yX6_drain : MethodName := ⟨RX6, "drain", "()I"⟩
abbrev cX6_all : ByteArray := prog_1_method_11_code
def yX6_all : MethodName := ⟨RX6, "all", "()I"⟩
abbrev cX6_entry : ByteArray := prog_1_method_12_code
def yX6_entry : MethodName := ⟨RX6, "entry", "(III)I"⟩
abbrev cX6_cellOf : ByteArray := prog_1_method_13_code
def yX6_cellOf : MethodName := ⟨RX6, "cellOf", "(III)I"⟩
abbrev cX6_result : ByteArray := prog_1_method_14_code
def yX6_result : MethodName := ⟨RX6, "result", "(III)I"⟩
abbrev cX6_count : ByteArray := prog_1_method_15_code
def yX6_count : MethodName := ⟨RX6, "count", "(I)I"⟩
abbrev cX6_suspects : ByteArray := prog_1_method_16_code
def yX6_suspects : MethodName := ⟨RX6, "suspects", "(I)I"⟩
abbrev cX6_wouldBeWrong : ByteArray := prog_1_method_17_code
def yX6_wouldBeWrong : MethodName := ⟨RX6, "wouldBeWrong", "(I)I"⟩
abbrev cX6_best : ByteArray := prog_1_method_18_code
def yX6_best : MethodName := ⟨RX6, "best", "()I"⟩
abbrev cX6_undo : ByteArray := prog_1_method_19_code
def yX6_undo : MethodName := ⟨RX6, "undo", "()I"⟩
abbrev cX6_type : ByteArray := prog_1_method_20_code
def yX6_type : MethodName := ⟨RX6, "type", "(I)I"⟩
abbrev cX6_clearText : ByteArray := prog_1_method_21_code
def yX6_clearText : MethodName := ⟨RX6, "clearText", "()I"⟩
abbrev cX6_textFault : ByteArray := prog_1_method_22_code
def yX6_textFault : MethodName := ⟨RX6, "textFault", "(I)I"⟩
abbrev cX6_read : ByteArray := prog_1_method_23_code
def yX6_read : MethodName := ⟨RX6, "read", "(I)I"⟩
abbrev cX6_isLength : ByteArray := prog_1_method_24_code
def yX6_isLength : MethodName := ⟨RX6, "isLength", "(I)Z"⟩
abbrev cX6_orNotFound : ByteArray := prog_1_method_25_code
def yX6_orNotFound : MethodName := ⟨RX6, "orNotFound", "(I)I"⟩
abbrev cX6_setEntry : ByteArray := prog_1_method_26_code
def yX6_setEntry : MethodName := ⟨RX6, "setEntry", "(LSkewedSquare$Matrix;III)I"⟩
abbrev cX6_ofCellAtWork : ByteArray := prog_1_method_27_code
def yX6_ofCellAtWork : MethodName := ⟨RX6, "ofCellAtWork", "(II)I"⟩
abbrev cX6_wrongWithout : ByteArray := prog_1_method_28_code
def yX6_wrongWithout : MethodName := ⟨RX6, "wrongWithout", "(I)I"⟩
def RX7 : String := "SkewedSquareModel"
def TX7 : u_T := fun k => match k with
  | 0 => ("SkewedSquareModel", "s", "[I", true)
  | 1 => ("SkewedSquareModel", "past", "[I", true)
  | 2 => ("SkewedSquareModel", "tried", "[I", true)
  | 3 => ("SkewedSquareModel", "pasts", "I", false)
  | 4 => ("SkewedSquareModel", "text", "[I", true)
  | 5 => ("SkewedSquareModel", "typed", "I", false)
  | 6 => ("SkewedSquareModel", "hasLeft", "Z", false)
  | 7 => ("SkewedSquareModel", "fromLeft", "I", false)
  | 8 => ("SkewedSquareModel", "hasAbove", "Z", false)
  | 9 => ("SkewedSquareModel", "fromAbove", "I", false)
  | 10 => ("SkewedSquareModel", "spot", "I", false)
  | 11 => ("SkewedSquareModel", "reason", "I", false)
  | 12 => ("SkewedSquareModel", "told", "[I", true)
  | 13 => ("SkewedSquareModel", "wide", "I", false)
  | 14 => ("SkewedSquareModel", "high", "I", false)
  | _ => ("SkewedSquareModel", "own", "I", false)
def tyX7 : Nat → FieldType := fun k => match k with
  | 0 => .array .int
  | 1 => .array .int
  | 2 => .array .int
  | 3 => .int
  | 4 => .array .int
  | 5 => .int
  | 6 => .boolean
  | 7 => .int
  | 8 => .boolean
  | 9 => .int
  | 10 => .int
  | 11 => .int
  | 12 => .array .int
  | 13 => .int
  | 14 => .int
  | _ => .int
abbrev wsX70 : List Cond := u_ws RX7 TX7 16
theorem nmX7 : ∀ a, a < 16 → ∀ b, b < 16 → a ≠ b → (TX7 a).2.1 ≠ (TX7 b).2.1 := by decide +kernel
theorem tyX7_ok : ∀ k, k < 16 → parseFieldDescriptor (TX7 k).2.2.1 = some (tyX7 k) := by decide +kernel
abbrev cX7_init : ByteArray := prog_9_method_1_code
def yX7_init : MethodName := ⟨RX7, "<init>", "()V"⟩
abbrev cX7_in : ByteArray := prog_9_method_3_code
def yX7_in : MethodName := ⟨RX7, "in", "(III)Z"⟩
abbrev cX7_changes : ByteArray := prog_9_method_4_code
def yX7_changes : MethodName := ⟨RX7, "changes", "()V"⟩
abbrev cX7_clears : ByteArray := prog_9_method_5_code
def yX7_clears : MethodName := ⟨RX7, "clears", "(II)V"⟩
abbrev cX7_along : ByteArray := prog_9_method_6_code
def yX7_along : MethodName := ⟨RX7, "along", "(I)I"⟩
abbrev cX7_tiles : ByteArray := prog_9_method_7_code
def yX7_tiles : MethodName := ⟨RX7, "tiles", "()I"⟩
abbrev cX7_side : ByteArray := prog_9_method_8_code
def yX7_side : MethodName := ⟨RX7, "side", "(I)I"⟩
abbrev cX7_shape : ByteArray := prog_9_method_9_code
def yX7_shape : MethodName := ⟨RX7, "shape", "(III)I"⟩
abbrev cX7_rowsOf : ByteArray := prog_9_method_10_code
def yX7_rowsOf : MethodName := ⟨RX7, "rowsOf", "(I)I"⟩
abbrev cX7_columnsOf : ByteArray := prog_9_method_11_code
def yX7_columnsOf : MethodName := ⟨RX7, "columnsOf", "(I)I"⟩
abbrev cX7_isEntry : ByteArray := prog_9_method_12_code
def yX7_isEntry : MethodName := ⟨RX7, "isEntry", "(III)Z"⟩
abbrev cX7_sets : ByteArray := prog_9_method_13_code
def yX7_sets : MethodName := ⟨RX7, "sets", "(IIII)I"⟩
abbrev cX7_left : ByteArray := prog_9_method_14_code
def yX7_left : MethodName := ⟨RX7, "left", "(III)I"⟩
abbrev cX7_right : ByteArray := prog_9_method_15_code
def yX7_right : MethodName := ⟨RX7, "right", "(III)I"⟩
abbrev cX7_fault : ByteArray := prog_9_method_16_code
def yX7_fault : MethodName := ⟨RX7, "fault", "(III)I"⟩
abbrev cX7_leave : ByteArray := prog_9_method_17_code
def yX7_leave : MethodName := ⟨RX7, "leave", "(I)I"⟩
abbrev cX7_tileRows : ByteArray := prog_9_method_18_code
def yX7_tileRows : MethodName := ⟨RX7, "tileRows", "()I"⟩
abbrev cX7_tileColumns : ByteArray := prog_9_method_19_code
def yX7_tileColumns : MethodName := ⟨RX7, "tileColumns", "()I"⟩
abbrev cX7_ticks : ByteArray := prog_9_method_20_code
def yX7_ticks : MethodName := ⟨RX7, "ticks", "()I"⟩
abbrev cX7_begins : ByteArray := prog_9_method_21_code
def yX7_begins : MethodName := ⟨RX7, "begins", "(II)V"⟩
abbrev cX7_begin : ByteArray := prog_9_method_22_code
def yX7_begin : MethodName := ⟨RX7, "begin", "(II)I"⟩
abbrev cX7_placeOf : ByteArray := prog_9_method_23_code
def yX7_placeOf : MethodName := ⟨RX7, "placeOf", "(I)I"⟩
abbrev cX7_faultOf : ByteArray := prog_9_method_24_code
def yX7_faultOf : MethodName := ⟨RX7, "faultOf", "(II)I"⟩
abbrev cX7_cell : ByteArray := prog_9_method_25_code
def yX7_cell : MethodName := ⟨RX7, "cell", "(II)I"⟩
abbrev cX7_gets : ByteArray := prog_9_method_26_code
def yX7_gets : MethodName := ⟨RX7, "gets", "(II)V"⟩
abbrev cX7_goes : ByteArray := prog_9_method_27_code
def yX7_goes : MethodName := ⟨RX7, "goes", "()V"⟩
abbrev cX7_isDone : ByteArray := prog_9_method_28_code
def yX7_isDone : MethodName := ⟨RX7, "isDone", "()Z"⟩
abbrev cX7_tick : ByteArray := prog_9_method_29_code
def yX7_tick : MethodName := ⟨RX7, "tick", "(I)I"⟩
abbrev cX7_drains : ByteArray := prog_9_method_30_code
def yX7_drains : MethodName := ⟨RX7, "drains", "()V"⟩
abbrev cX7_known : ByteArray := prog_9_method_31_code
def yX7_known : MethodName := ⟨RX7, "known", "()I"⟩
abbrev cX7_drain : ByteArray := prog_9_method_32_code
def yX7_drain : MethodName := ⟨RX7, "drain", "()I"⟩
abbrev cX7_doesAll : ByteArray := prog_9_method_33_code
def yX7_doesAll : MethodName := ⟨RX7, "doesAll", "()I"⟩
abbrev cX7_all : ByteArray := prog_9_method_34_code
def yX7_all : MethodName := ⟨RX7, "all", "()I"⟩
abbrev cX7_entry : ByteArray := prog_9_method_35_code
def yX7_entry : MethodName := ⟨RX7, "entry", "(III)I"⟩
abbrev cX7_cellOf : ByteArray := prog_9_method_36_code
def yX7_cellOf : MethodName := ⟨RX7, "cellOf", "(III)I"⟩
abbrev cX7_due : ByteArray := prog_9_method_37_code
def yX7_due : MethodName := ⟨RX7, "due", "(II)I"⟩
abbrev cX7_isKnown : ByteArray := prog_9_method_38_code
def yX7_isKnown : MethodName := ⟨RX7, "isKnown", "(II)Z"⟩
abbrev cX7_result : ByteArray := prog_9_method_39_code
def yX7_result : MethodName := ⟨RX7, "result", "(III)I"⟩
abbrev cX7_wrong : ByteArray := prog_9_method_40_code
def yX7_wrong : MethodName := ⟨RX7, "wrong", "()I"⟩
abbrev cX7_faulty : ByteArray := prog_9_method_41_code
def yX7_faulty : MethodName := ⟨RX7, "faulty", "()I"⟩
abbrev cX7_count : ByteArray := prog_9_method_42_code
def yX7_count : MethodName := ⟨RX7, "count", "(I)I"⟩
abbrev cX7_isSuspect : ByteArray := prog_9_method_43_code
def yX7_isSuspect : MethodName := ⟨RX7, "isSuspect", "(II)Z"⟩
abbrev cX7_suspects : ByteArray := prog_9_method_44_code
def yX7_suspects : MethodName := ⟨RX7, "suspects", "(I)I"⟩
abbrev cX7_wrongWithout : ByteArray := prog_9_method_45_code
def yX7_wrongWithout : MethodName := ⟨RX7, "wrongWithout", "(I)I"⟩
abbrev cX7_wouldBeWrong : ByteArray := prog_9_method_46_code
def yX7_wouldBeWrong : MethodName := ⟨RX7, "wouldBeWrong", "(I)I"⟩
abbrev cX7_best : ByteArray := prog_9_method_47_code
def yX7_best : MethodName := ⟨RX7, "best", "()I"⟩
abbrev cX7_undo : ByteArray := prog_9_method_48_code
def yX7_undo : MethodName := ⟨RX7, "undo", "()I"⟩
abbrev cX7_type : ByteArray := prog_9_method_49_code
def yX7_type : MethodName := ⟨RX7, "type", "(I)I"⟩
abbrev cX7_clearText : ByteArray := prog_9_method_50_code
def yX7_clearText : MethodName := ⟨RX7, "clearText", "()I"⟩
abbrev cX7_isDigit : ByteArray := prog_9_method_51_code
def yX7_isDigit : MethodName := ⟨RX7, "isDigit", "()Z"⟩
abbrev cX7_number : ByteArray := prog_9_method_52_code
def yX7_number : MethodName := ⟨RX7, "number", "()Z"⟩
abbrev cX7_fails : ByteArray := prog_9_method_53_code
def yX7_fails : MethodName := ⟨RX7, "fails", "(I)Z"⟩
abbrev cX7_rowEnds : ByteArray := prog_9_method_54_code
def yX7_rowEnds : MethodName := ⟨RX7, "rowEnds", "(Z)Z"⟩
abbrev cX7_isRight : ByteArray := prog_9_method_55_code
def yX7_isRight : MethodName := ⟨RX7, "isRight", "()Z"⟩
abbrev cX7_textFault : ByteArray := prog_9_method_56_code
def yX7_textFault : MethodName := ⟨RX7, "textFault", "(I)I"⟩
abbrev cX7_read : ByteArray := prog_9_method_57_code
def yX7_read : MethodName := ⟨RX7, "read", "(I)I"⟩
def RJ9 : String := "java/lang/Math"
def TJ9 : u_T := fun k => match k with
  | _ => ("", "", "", false)
def tyJ9 : Nat → FieldType := fun k => match k with
  | _ => .int
abbrev wsJ90 : List Cond := u_ws RJ9 TJ9 0
theorem nmJ9 : ∀ a, a < 0 → ∀ b, b < 0 → a ≠ b → (TJ9 a).2.1 ≠ (TJ9 b).2.1 := by decide +kernel
theorem tyJ9_ok : ∀ k, k < 0 → parseFieldDescriptor (TJ9 k).2.2.1 = some (tyJ9 k) := by decide +kernel
abbrev cJ9_min_7cf53 : ByteArray := prog_10_method_69_code
def yJ9_min_7cf53 : MethodName := ⟨RJ9, "min", "(II)I"⟩
def RJ10 : String := "java/lang/System"
def TJ10 : u_T := fun k => match k with
  | _ => ("", "", "", false)
def tyJ10 : Nat → FieldType := fun k => match k with
  | _ => .int
abbrev wsJ100 : List Cond := u_ws RJ10 TJ10 0
theorem nmJ10 : ∀ a, a < 0 → ∀ b, b < 0 → a ≠ b → (TJ10 a).2.1 ≠ (TJ10 b).2.1 := by decide +kernel
theorem tyJ10_ok : ∀ k, k < 0 → parseFieldDescriptor (TJ10 k).2.2.1 = some (tyJ10 k) := by decide +kernel
def RJ7 : String := "java/util/Arrays"
def TJ7 : u_T := fun k => match k with
  | _ => ("", "", "", false)
def tyJ7 : Nat → FieldType := fun k => match k with
  | _ => .int
abbrev wsJ70 : List Cond := u_ws RJ7 TJ7 0
theorem nmJ7 : ∀ a, a < 0 → ∀ b, b < 0 → a ≠ b → (TJ7 a).2.1 ≠ (TJ7 b).2.1 := by decide +kernel
theorem tyJ7_ok : ∀ k, k < 0 → parseFieldDescriptor (TJ7 k).2.2.1 = some (tyJ7 k) := by decide +kernel
abbrev cJ7_fill_53178 : ByteArray := prog_12_method_103_code
def yJ7_fill_53178 : MethodName := ⟨RJ7, "fill", "([II)V"⟩
def RL : String := "SkewedSquareLaw"
abbrev cL_law : ByteArray := code
def yL_law : MethodName := ⟨RL, "law", "([I)Z"⟩
def wsX2_init : List Cond := .code yX2_init cX2_init 1 none :: ([.methodLink RX2 3 objectInit, .instanceMethod objectInit, .code objectInit ⟨#[0xb1]⟩ 1 none, .fieldLink RX2 9 "SkewedSquare$Square" "side" "I", .fieldLink RX2 15 "SkewedSquare$Square" "leftOut" "I", .arrayClass .int, .fieldLink RX2 18 "SkewedSquare$Square" "kinds" "[I"] ++ wsX20)
def wsX1_init : List Cond := .code yX1_init cX1_init 1 none :: ([.methodLink RX1 3 objectInit, .instanceMethod objectInit, .code objectInit ⟨#[0xb1]⟩ 1 none, .fieldLink RX1 9 "SkewedSquare$Matrix" "rows" "I", .fieldLink RX1 15 "SkewedSquare$Matrix" "columns" "I", .arrayClass .int, .fieldLink RX1 18 "SkewedSquare$Matrix" "entries" "[I"] ++ wsX10)
def wsX5_init : List Cond := .code yX5_init cX5_init 1 none :: ([.methodLink RX5 3 objectInit, .instanceMethod objectInit, .code objectInit ⟨#[0xb1]⟩ 1 none, .arrayClass .int, .fieldLink RX5 9 "SkewedSquare$Tile" "sums" "[I", .fieldLink RX5 15 "SkewedSquare$Tile" "meetings" "[I", .fieldLink RX5 18 "SkewedSquare$Tile" "rightward" "[I", .fieldLink RX5 21 "SkewedSquare$Tile" "downward" "[I"] ++ wsX50)
def wsX6_isLength : List Cond := .code yX6_isLength cX6_isLength 1 (some .boolean) :: ([])
def wsJ7_fill_53178 : List Cond := .code yJ7_fill_53178 cJ7_fill_53178 4 none :: ([])
def wsX1_renew : List Cond := .code yX1_renew cX1_renew 4 none :: ([.fieldLink RX1 9 "SkewedSquare$Matrix" "rows" "I", .fieldLink RX1 15 "SkewedSquare$Matrix" "columns" "I", .fieldLink RX1 18 "SkewedSquare$Matrix" "entries" "[I", .static yX6_isLength, .initialized RX6, .code yX6_isLength cX6_isLength 1 (some .boolean), .methodLink RX1 30 yJ7_fill_53178, .static yJ7_fill_53178, .initialized RJ7, .code yJ7_fill_53178 cJ7_fill_53178 4 none] ++ wsX10)
def wsX3_forgetResults : List Cond := .code yX3_forgetResults cX3_forgetResults 1 none :: ([.fieldLink RX3 28 "SkewedSquare$State" "results" "LSkewedSquare$Matrix;", .fieldLink RX3 21 "SkewedSquare$State" "leftMatrix" "LSkewedSquare$Matrix;", .fieldLink RX3 51 "SkewedSquare$Matrix" "rows" "I", .fieldLink RX3 25 "SkewedSquare$State" "rightMatrix" "LSkewedSquare$Matrix;", .fieldLink RX3 55 "SkewedSquare$Matrix" "columns" "I", .constant RX3 58 (-999999999), .methodLink RX3 59 yX1_renew, .instanceMethod yX1_renew, .selects RX1 yX1_renew yX1_renew, .initialized RX1, .code yX1_renew cX1_renew 4 none, .fieldLink RX1 9 "SkewedSquare$Matrix" "rows" "I", .fieldLink RX1 15 "SkewedSquare$Matrix" "columns" "I", .fieldLink RX1 18 "SkewedSquare$Matrix" "entries" "[I", .static yX6_isLength, .initialized RX6, .code yX6_isLength cX6_isLength 1 (some .boolean), .methodLink RX1 30 yJ7_fill_53178, .static yJ7_fill_53178, .initialized RJ7, .code yJ7_fill_53178 cJ7_fill_53178 4 none] ++ wsX30 ++ wsX10)
def wsX3_init_r1 : List Cond := [Cond.methodLink RX3 3 objectInit, Cond.instanceMethod objectInit, Cond.code objectInit ⟨#[0xb1]⟩ 1 none, Cond.classLink RX3 9 RX2, Cond.instantiable RX2 3, Cond.initialized RX2, Cond.fieldLink RX3 12 "SkewedSquare$State" "square" "LSkewedSquare$Square;", Cond.classLink RX3 18 RX1, Cond.instantiable RX1 3, Cond.initialized RX1, Cond.fieldLink RX3 21 "SkewedSquare$State" "leftMatrix" "LSkewedSquare$Matrix;", Cond.fieldLink RX3 25 "SkewedSquare$State" "rightMatrix" "LSkewedSquare$Matrix;", Cond.fieldLink RX3 28 "SkewedSquare$State" "results" "LSkewedSquare$Matrix;", Cond.classLink RX3 31 RX5, Cond.instantiable RX5 11, Cond.initialized RX5, Cond.fieldLink RX3 34 "SkewedSquare$State" "tile" "LSkewedSquare$Tile;", Cond.instanceMethod yX2_init, Cond.code yX2_init cX2_init 1 none, Cond.methodLink RX2 3 objectInit, Cond.fieldLink RX2 9 "SkewedSquare$Square" "side" "I", Cond.fieldLink RX2 15 "SkewedSquare$Square" "leftOut" "I", Cond.arrayClass .int, Cond.fieldLink RX2 18 "SkewedSquare$Square" "kinds" "[I"]
def wsX3_init_r2 : List Cond := [Cond.instanceMethod yX1_init, Cond.code yX1_init cX1_init 1 none, Cond.methodLink RX1 3 objectInit, Cond.fieldLink RX1 9 "SkewedSquare$Matrix" "rows" "I", Cond.fieldLink RX1 15 "SkewedSquare$Matrix" "columns" "I", Cond.fieldLink RX1 18 "SkewedSquare$Matrix" "entries" "[I", Cond.instanceMethod yX5_init, Cond.code yX5_init cX5_init 1 none, Cond.methodLink RX5 3 objectInit, Cond.fieldLink RX5 9 "SkewedSquare$Tile" "sums" "[I", Cond.fieldLink RX5 15 "SkewedSquare$Tile" "meetings" "[I", Cond.fieldLink RX5 18 "SkewedSquare$Tile" "rightward" "[I", Cond.fieldLink RX5 21 "SkewedSquare$Tile" "downward" "[I", Cond.methodLink RX3 38 yX3_forgetResults, Cond.instanceMethod yX3_forgetResults, Cond.selects RX3 yX3_forgetResults yX3_forgetResults, Cond.initialized RX3, Cond.code yX3_forgetResults cX3_forgetResults 1 none, Cond.fieldLink RX3 51 "SkewedSquare$Matrix" "rows" "I", Cond.fieldLink RX3 55 "SkewedSquare$Matrix" "columns" "I", Cond.constant RX3 58 (-999999999), Cond.methodLink RX3 59 yX1_renew, Cond.instanceMethod yX1_renew, Cond.selects RX1 yX1_renew yX1_renew]
def wsX3_init_r3 : List Cond := [Cond.code yX1_renew cX1_renew 4 none, Cond.static yX6_isLength, Cond.initialized RX6, Cond.code yX6_isLength cX6_isLength 1 (some .boolean), Cond.methodLink RX1 30 yJ7_fill_53178, Cond.static yJ7_fill_53178, Cond.initialized RJ7, Cond.code yJ7_fill_53178 cJ7_fill_53178 4 none]
def wsX3_init : List Cond := .code yX3_init cX3_init 1 none :: ((wsX3_init_r1 ++ (wsX3_init_r2 ++ wsX3_init_r3)) ++ wsX20 ++ wsX30 ++ wsX10 ++ wsX50)
def wsX0_init_r1 : List Cond := [Cond.methodLink RX0 3 objectInit, Cond.instanceMethod objectInit, Cond.code objectInit ⟨#[0xb1]⟩ 1 none, Cond.classLink RX0 9 RX3, Cond.fieldLink RX0 11 "SkewedSquare$History" "states" "[LSkewedSquare$State;", Cond.instantiable RX3 5, Cond.initialized RX3, Cond.methodLink RX0 17 yX3_init, Cond.instanceMethod yX3_init, Cond.code yX3_init cX3_init 1 none, Cond.methodLink RX3 3 objectInit, Cond.classLink RX3 9 RX2, Cond.instantiable RX2 3, Cond.initialized RX2, Cond.fieldLink RX3 12 "SkewedSquare$State" "square" "LSkewedSquare$Square;", Cond.classLink RX3 18 RX1, Cond.instantiable RX1 3, Cond.initialized RX1, Cond.fieldLink RX3 21 "SkewedSquare$State" "leftMatrix" "LSkewedSquare$Matrix;", Cond.fieldLink RX3 25 "SkewedSquare$State" "rightMatrix" "LSkewedSquare$Matrix;", Cond.fieldLink RX3 28 "SkewedSquare$State" "results" "LSkewedSquare$Matrix;", Cond.classLink RX3 31 RX5, Cond.instantiable RX5 11, Cond.initialized RX5]
def wsX0_init_r2 : List Cond := [Cond.fieldLink RX3 34 "SkewedSquare$State" "tile" "LSkewedSquare$Tile;", Cond.instanceMethod yX2_init, Cond.code yX2_init cX2_init 1 none, Cond.methodLink RX2 3 objectInit, Cond.fieldLink RX2 9 "SkewedSquare$Square" "side" "I", Cond.fieldLink RX2 15 "SkewedSquare$Square" "leftOut" "I", Cond.arrayClass .int, Cond.fieldLink RX2 18 "SkewedSquare$Square" "kinds" "[I", Cond.instanceMethod yX1_init, Cond.code yX1_init cX1_init 1 none, Cond.methodLink RX1 3 objectInit, Cond.fieldLink RX1 9 "SkewedSquare$Matrix" "rows" "I", Cond.fieldLink RX1 15 "SkewedSquare$Matrix" "columns" "I", Cond.fieldLink RX1 18 "SkewedSquare$Matrix" "entries" "[I", Cond.instanceMethod yX5_init, Cond.code yX5_init cX5_init 1 none, Cond.methodLink RX5 3 objectInit, Cond.fieldLink RX5 9 "SkewedSquare$Tile" "sums" "[I", Cond.fieldLink RX5 15 "SkewedSquare$Tile" "meetings" "[I", Cond.fieldLink RX5 18 "SkewedSquare$Tile" "rightward" "[I", Cond.fieldLink RX5 21 "SkewedSquare$Tile" "downward" "[I", Cond.methodLink RX3 38 yX3_forgetResults, Cond.instanceMethod yX3_forgetResults, Cond.selects RX3 yX3_forgetResults yX3_forgetResults]
def wsX0_init_r3 : List Cond := [Cond.code yX3_forgetResults cX3_forgetResults 1 none, Cond.fieldLink RX3 51 "SkewedSquare$Matrix" "rows" "I", Cond.fieldLink RX3 55 "SkewedSquare$Matrix" "columns" "I", Cond.constant RX3 58 (-999999999), Cond.methodLink RX3 59 yX1_renew, Cond.instanceMethod yX1_renew, Cond.selects RX1 yX1_renew yX1_renew, Cond.code yX1_renew cX1_renew 4 none, Cond.static yX6_isLength, Cond.initialized RX6, Cond.code yX6_isLength cX6_isLength 1 (some .boolean), Cond.methodLink RX1 30 yJ7_fill_53178, Cond.static yJ7_fill_53178, Cond.initialized RJ7, Cond.code yJ7_fill_53178 cJ7_fill_53178 4 none]
def wsX0_init : List Cond := .code yX0_init cX0_init 2 none :: ((wsX0_init_r1 ++ (wsX0_init_r2 ++ wsX0_init_r3)) ++ wsX00 ++ wsX30 ++ wsX20 ++ wsX10 ++ wsX50)
def wsX0_dropOldest : List Cond := .code yX0_dropOldest cX0_dropOldest 3 none :: ([.fieldLink RX0 11 "SkewedSquare$History" "states" "[LSkewedSquare$State;", .fieldLink RX0 18 "SkewedSquare$History" "size" "I"] ++ wsX00)
def wsX2_copyFrom : List Cond := .code yX2_copyFrom cX2_copyFrom 2 none :: ([.fieldLink RX2 9 "SkewedSquare$Square" "side" "I", .fieldLink RX2 15 "SkewedSquare$Square" "leftOut" "I", .fieldLink RX2 18 "SkewedSquare$Square" "kinds" "[I", .methodLink RX2 36 arraycopyName, .native arraycopyName, .static arraycopyName, .initialized "java/lang/System"] ++ wsX20)
def wsX1_copyFrom : List Cond := .code yX1_copyFrom cX1_copyFrom 2 none :: ([.fieldLink RX1 9 "SkewedSquare$Matrix" "rows" "I", .fieldLink RX1 15 "SkewedSquare$Matrix" "columns" "I", .fieldLink RX1 18 "SkewedSquare$Matrix" "entries" "[I", .methodLink RX1 36 arraycopyName, .native arraycopyName, .static arraycopyName, .initialized "java/lang/System"] ++ wsX10)
def wsX5_copyFrom : List Cond := .code yX5_copyFrom cX5_copyFrom 2 none :: ([.fieldLink RX5 49 "SkewedSquare$Tile" "begun" "Z", .fieldLink RX5 53 "SkewedSquare$Tile" "row" "I", .fieldLink RX5 56 "SkewedSquare$Tile" "column" "I", .fieldLink RX5 59 "SkewedSquare$Tile" "height" "I", .fieldLink RX5 62 "SkewedSquare$Tile" "width" "I", .fieldLink RX5 31 "SkewedSquare$Tile" "ticks" "I", .fieldLink RX5 35 "SkewedSquare$Tile" "ticksNeeded" "I", .fieldLink RX5 9 "SkewedSquare$Tile" "sums" "[I", .methodLink RX5 65 arraycopyName, .native arraycopyName, .static arraycopyName, .initialized "java/lang/System", .fieldLink RX5 15 "SkewedSquare$Tile" "meetings" "[I", .fieldLink RX5 18 "SkewedSquare$Tile" "rightward" "[I", .fieldLink RX5 21 "SkewedSquare$Tile" "downward" "[I"] ++ wsX50)
def wsX3_copyFrom_r1 : List Cond := [Cond.fieldLink RX3 12 "SkewedSquare$State" "square" "LSkewedSquare$Square;", Cond.fieldLink RX3 21 "SkewedSquare$State" "leftMatrix" "LSkewedSquare$Matrix;", Cond.fieldLink RX3 25 "SkewedSquare$State" "rightMatrix" "LSkewedSquare$Matrix;", Cond.fieldLink RX3 28 "SkewedSquare$State" "results" "LSkewedSquare$Matrix;", Cond.fieldLink RX3 34 "SkewedSquare$State" "tile" "LSkewedSquare$Tile;", Cond.methodLink RX3 41 yX2_copyFrom, Cond.instanceMethod yX2_copyFrom, Cond.selects RX2 yX2_copyFrom yX2_copyFrom, Cond.initialized RX2, Cond.code yX2_copyFrom cX2_copyFrom 2 none, Cond.fieldLink RX2 9 "SkewedSquare$Square" "side" "I", Cond.fieldLink RX2 15 "SkewedSquare$Square" "leftOut" "I", Cond.fieldLink RX2 18 "SkewedSquare$Square" "kinds" "[I", Cond.methodLink RX2 36 arraycopyName, Cond.native arraycopyName, Cond.static arraycopyName, Cond.initialized "java/lang/System", Cond.methodLink RX3 45 yX1_copyFrom, Cond.instanceMethod yX1_copyFrom, Cond.selects RX1 yX1_copyFrom yX1_copyFrom, Cond.initialized RX1, Cond.code yX1_copyFrom cX1_copyFrom 2 none, Cond.fieldLink RX1 9 "SkewedSquare$Matrix" "rows" "I", Cond.fieldLink RX1 15 "SkewedSquare$Matrix" "columns" "I"]
def wsX3_copyFrom_r2 : List Cond := [Cond.fieldLink RX1 18 "SkewedSquare$Matrix" "entries" "[I", Cond.methodLink RX1 36 arraycopyName, Cond.methodLink RX3 48 yX5_copyFrom, Cond.instanceMethod yX5_copyFrom, Cond.selects RX5 yX5_copyFrom yX5_copyFrom, Cond.initialized RX5, Cond.code yX5_copyFrom cX5_copyFrom 2 none, Cond.fieldLink RX5 49 "SkewedSquare$Tile" "begun" "Z", Cond.fieldLink RX5 53 "SkewedSquare$Tile" "row" "I", Cond.fieldLink RX5 56 "SkewedSquare$Tile" "column" "I", Cond.fieldLink RX5 59 "SkewedSquare$Tile" "height" "I", Cond.fieldLink RX5 62 "SkewedSquare$Tile" "width" "I", Cond.fieldLink RX5 31 "SkewedSquare$Tile" "ticks" "I", Cond.fieldLink RX5 35 "SkewedSquare$Tile" "ticksNeeded" "I", Cond.fieldLink RX5 9 "SkewedSquare$Tile" "sums" "[I", Cond.methodLink RX5 65 arraycopyName, Cond.fieldLink RX5 15 "SkewedSquare$Tile" "meetings" "[I", Cond.fieldLink RX5 18 "SkewedSquare$Tile" "rightward" "[I", Cond.fieldLink RX5 21 "SkewedSquare$Tile" "downward" "[I"]
def wsX3_copyFrom : List Cond := .code yX3_copyFrom cX3_copyFrom 2 none :: ((wsX3_copyFrom_r1 ++ wsX3_copyFrom_r2) ++ wsX30 ++ wsX20 ++ wsX10 ++ wsX50)
def wsX0_remember_r1 : List Cond := [Cond.fieldLink RX0 18 "SkewedSquare$History" "size" "I", Cond.fieldLink RX0 11 "SkewedSquare$History" "states" "[LSkewedSquare$State;", Cond.methodLink RX0 22 yX0_dropOldest, Cond.instanceMethod yX0_dropOldest, Cond.selects RX0 yX0_dropOldest yX0_dropOldest, Cond.initialized RX0, Cond.code yX0_dropOldest cX0_dropOldest 3 none, Cond.methodLink RX0 25 yX3_copyFrom, Cond.instanceMethod yX3_copyFrom, Cond.selects RX3 yX3_copyFrom yX3_copyFrom, Cond.initialized RX3, Cond.code yX3_copyFrom cX3_copyFrom 2 none, Cond.fieldLink RX3 12 "SkewedSquare$State" "square" "LSkewedSquare$Square;", Cond.fieldLink RX3 21 "SkewedSquare$State" "leftMatrix" "LSkewedSquare$Matrix;", Cond.fieldLink RX3 25 "SkewedSquare$State" "rightMatrix" "LSkewedSquare$Matrix;", Cond.fieldLink RX3 28 "SkewedSquare$State" "results" "LSkewedSquare$Matrix;", Cond.fieldLink RX3 34 "SkewedSquare$State" "tile" "LSkewedSquare$Tile;", Cond.methodLink RX3 41 yX2_copyFrom, Cond.instanceMethod yX2_copyFrom, Cond.selects RX2 yX2_copyFrom yX2_copyFrom, Cond.initialized RX2, Cond.code yX2_copyFrom cX2_copyFrom 2 none, Cond.fieldLink RX2 9 "SkewedSquare$Square" "side" "I", Cond.fieldLink RX2 15 "SkewedSquare$Square" "leftOut" "I"]
def wsX0_remember_r2 : List Cond := [Cond.fieldLink RX2 18 "SkewedSquare$Square" "kinds" "[I", Cond.methodLink RX2 36 arraycopyName, Cond.native arraycopyName, Cond.static arraycopyName, Cond.initialized "java/lang/System", Cond.methodLink RX3 45 yX1_copyFrom, Cond.instanceMethod yX1_copyFrom, Cond.selects RX1 yX1_copyFrom yX1_copyFrom, Cond.initialized RX1, Cond.code yX1_copyFrom cX1_copyFrom 2 none, Cond.fieldLink RX1 9 "SkewedSquare$Matrix" "rows" "I", Cond.fieldLink RX1 15 "SkewedSquare$Matrix" "columns" "I", Cond.fieldLink RX1 18 "SkewedSquare$Matrix" "entries" "[I", Cond.methodLink RX1 36 arraycopyName, Cond.methodLink RX3 48 yX5_copyFrom, Cond.instanceMethod yX5_copyFrom, Cond.selects RX5 yX5_copyFrom yX5_copyFrom, Cond.initialized RX5, Cond.code yX5_copyFrom cX5_copyFrom 2 none, Cond.fieldLink RX5 49 "SkewedSquare$Tile" "begun" "Z", Cond.fieldLink RX5 53 "SkewedSquare$Tile" "row" "I", Cond.fieldLink RX5 56 "SkewedSquare$Tile" "column" "I", Cond.fieldLink RX5 59 "SkewedSquare$Tile" "height" "I", Cond.fieldLink RX5 62 "SkewedSquare$Tile" "width" "I"]
def wsX0_remember_r3 : List Cond := [Cond.fieldLink RX5 31 "SkewedSquare$Tile" "ticks" "I", Cond.fieldLink RX5 35 "SkewedSquare$Tile" "ticksNeeded" "I", Cond.fieldLink RX5 9 "SkewedSquare$Tile" "sums" "[I", Cond.methodLink RX5 65 arraycopyName, Cond.fieldLink RX5 15 "SkewedSquare$Tile" "meetings" "[I", Cond.fieldLink RX5 18 "SkewedSquare$Tile" "rightward" "[I", Cond.fieldLink RX5 21 "SkewedSquare$Tile" "downward" "[I"]
def wsX0_remember : List Cond := .code yX0_remember cX0_remember 2 none :: ((wsX0_remember_r1 ++ (wsX0_remember_r2 ++ wsX0_remember_r3)) ++ wsX00 ++ wsX30 ++ wsX20 ++ wsX10 ++ wsX50)
def wsX0_restore_r1 : List Cond := [Cond.fieldLink RX0 18 "SkewedSquare$History" "size" "I", Cond.fieldLink RX0 11 "SkewedSquare$History" "states" "[LSkewedSquare$State;", Cond.methodLink RX0 25 yX3_copyFrom, Cond.instanceMethod yX3_copyFrom, Cond.selects RX3 yX3_copyFrom yX3_copyFrom, Cond.initialized RX3, Cond.code yX3_copyFrom cX3_copyFrom 2 none, Cond.fieldLink RX3 12 "SkewedSquare$State" "square" "LSkewedSquare$Square;", Cond.fieldLink RX3 21 "SkewedSquare$State" "leftMatrix" "LSkewedSquare$Matrix;", Cond.fieldLink RX3 25 "SkewedSquare$State" "rightMatrix" "LSkewedSquare$Matrix;", Cond.fieldLink RX3 28 "SkewedSquare$State" "results" "LSkewedSquare$Matrix;", Cond.fieldLink RX3 34 "SkewedSquare$State" "tile" "LSkewedSquare$Tile;", Cond.methodLink RX3 41 yX2_copyFrom, Cond.instanceMethod yX2_copyFrom, Cond.selects RX2 yX2_copyFrom yX2_copyFrom, Cond.initialized RX2, Cond.code yX2_copyFrom cX2_copyFrom 2 none, Cond.fieldLink RX2 9 "SkewedSquare$Square" "side" "I", Cond.fieldLink RX2 15 "SkewedSquare$Square" "leftOut" "I", Cond.fieldLink RX2 18 "SkewedSquare$Square" "kinds" "[I", Cond.methodLink RX2 36 arraycopyName, Cond.native arraycopyName, Cond.static arraycopyName, Cond.initialized "java/lang/System"]
def wsX0_restore_r2 : List Cond := [Cond.methodLink RX3 45 yX1_copyFrom, Cond.instanceMethod yX1_copyFrom, Cond.selects RX1 yX1_copyFrom yX1_copyFrom, Cond.initialized RX1, Cond.code yX1_copyFrom cX1_copyFrom 2 none, Cond.fieldLink RX1 9 "SkewedSquare$Matrix" "rows" "I", Cond.fieldLink RX1 15 "SkewedSquare$Matrix" "columns" "I", Cond.fieldLink RX1 18 "SkewedSquare$Matrix" "entries" "[I", Cond.methodLink RX1 36 arraycopyName, Cond.methodLink RX3 48 yX5_copyFrom, Cond.instanceMethod yX5_copyFrom, Cond.selects RX5 yX5_copyFrom yX5_copyFrom, Cond.initialized RX5, Cond.code yX5_copyFrom cX5_copyFrom 2 none, Cond.fieldLink RX5 49 "SkewedSquare$Tile" "begun" "Z", Cond.fieldLink RX5 53 "SkewedSquare$Tile" "row" "I", Cond.fieldLink RX5 56 "SkewedSquare$Tile" "column" "I", Cond.fieldLink RX5 59 "SkewedSquare$Tile" "height" "I", Cond.fieldLink RX5 62 "SkewedSquare$Tile" "width" "I", Cond.fieldLink RX5 31 "SkewedSquare$Tile" "ticks" "I", Cond.fieldLink RX5 35 "SkewedSquare$Tile" "ticksNeeded" "I", Cond.fieldLink RX5 9 "SkewedSquare$Tile" "sums" "[I", Cond.methodLink RX5 65 arraycopyName, Cond.fieldLink RX5 15 "SkewedSquare$Tile" "meetings" "[I"]
def wsX0_restore_r3 : List Cond := [Cond.fieldLink RX5 18 "SkewedSquare$Tile" "rightward" "[I", Cond.fieldLink RX5 21 "SkewedSquare$Tile" "downward" "[I"]
def wsX0_restore : List Cond := .code yX0_restore cX0_restore 2 none :: ((wsX0_restore_r1 ++ (wsX0_restore_r2 ++ wsX0_restore_r3)) ++ wsX00 ++ wsX30 ++ wsX20 ++ wsX10 ++ wsX50)
def wsX1_has : List Cond := .code yX1_has cX1_has 3 (some .boolean) :: ([.fieldLink RX1 9 "SkewedSquare$Matrix" "rows" "I", .fieldLink RX1 15 "SkewedSquare$Matrix" "columns" "I"] ++ wsX10)
def wsX1_at : List Cond := .code yX1_at cX1_at 3 (some .int) :: ([.fieldLink RX1 9 "SkewedSquare$Matrix" "rows" "I", .fieldLink RX1 15 "SkewedSquare$Matrix" "columns" "I", .fieldLink RX1 18 "SkewedSquare$Matrix" "entries" "[I"] ++ wsX10)
def wsX1_put : List Cond := .code yX1_put cX1_put 4 none :: ([.fieldLink RX1 18 "SkewedSquare$Matrix" "entries" "[I", .methodLink RX1 22 yX1_has, .instanceMethod yX1_has, .selects RX1 yX1_has yX1_has, .initialized RX1, .code yX1_has cX1_has 3 (some .boolean), .fieldLink RX1 9 "SkewedSquare$Matrix" "rows" "I", .fieldLink RX1 15 "SkewedSquare$Matrix" "columns" "I"] ++ wsX10)
def wsX1_sumOfRow : List Cond := .code yX1_sumOfRow cX1_sumOfRow 4 (some .int) :: ([.fieldLink RX1 15 "SkewedSquare$Matrix" "columns" "I", .methodLink RX1 42 yX1_at, .instanceMethod yX1_at, .selects RX1 yX1_at yX1_at, .initialized RX1, .code yX1_at cX1_at 3 (some .int), .fieldLink RX1 9 "SkewedSquare$Matrix" "rows" "I", .fieldLink RX1 18 "SkewedSquare$Matrix" "entries" "[I"] ++ wsX10)
def wsX1_sumOfColumn : List Cond := .code yX1_sumOfColumn cX1_sumOfColumn 4 (some .int) :: ([.fieldLink RX1 9 "SkewedSquare$Matrix" "rows" "I", .methodLink RX1 42 yX1_at, .instanceMethod yX1_at, .selects RX1 yX1_at yX1_at, .initialized RX1, .code yX1_at cX1_at 3 (some .int), .fieldLink RX1 15 "SkewedSquare$Matrix" "columns" "I", .fieldLink RX1 18 "SkewedSquare$Matrix" "entries" "[I"] ++ wsX10)
def wsX1_isWholeInRow : List Cond := .code yX1_isWholeInRow cX1_isWholeInRow 3 (some .boolean) :: ([.fieldLink RX1 15 "SkewedSquare$Matrix" "columns" "I", .constant RX1 46 (-999999999), .methodLink RX1 42 yX1_at, .instanceMethod yX1_at, .selects RX1 yX1_at yX1_at, .initialized RX1, .code yX1_at cX1_at 3 (some .int), .fieldLink RX1 9 "SkewedSquare$Matrix" "rows" "I", .fieldLink RX1 18 "SkewedSquare$Matrix" "entries" "[I"] ++ wsX10)
def wsX1_isWholeInColumn : List Cond := .code yX1_isWholeInColumn cX1_isWholeInColumn 3 (some .boolean) :: ([.fieldLink RX1 9 "SkewedSquare$Matrix" "rows" "I", .constant RX1 46 (-999999999), .methodLink RX1 42 yX1_at, .instanceMethod yX1_at, .selects RX1 yX1_at yX1_at, .initialized RX1, .code yX1_at cX1_at 3 (some .int), .fieldLink RX1 15 "SkewedSquare$Matrix" "columns" "I", .fieldLink RX1 18 "SkewedSquare$Matrix" "entries" "[I"] ++ wsX10)
def wsX2_renew : List Cond := .code yX2_renew cX2_renew 2 none :: ([.fieldLink RX2 9 "SkewedSquare$Square" "side" "I", .fieldLink RX2 15 "SkewedSquare$Square" "leftOut" "I", .fieldLink RX2 18 "SkewedSquare$Square" "kinds" "[I", .methodLink RX2 22 yJ7_fill_53178, .static yJ7_fill_53178, .initialized RJ7, .code yJ7_fill_53178 cJ7_fill_53178 4 none] ++ wsX20)
def wsX2_has : List Cond := .code yX2_has cX2_has 3 (some .boolean) :: ([.fieldLink RX2 9 "SkewedSquare$Square" "side" "I"] ++ wsX20)
def wsX2_kindAt : List Cond := .code yX2_kindAt cX2_kindAt 3 (some .int) :: ([.fieldLink RX2 18 "SkewedSquare$Square" "kinds" "[I", .methodLink RX2 28 yX2_has, .instanceMethod yX2_has, .selects RX2 yX2_has yX2_has, .initialized RX2, .code yX2_has cX2_has 3 (some .boolean), .fieldLink RX2 9 "SkewedSquare$Square" "side" "I"] ++ wsX20)
def wsX2_setKind : List Cond := .code yX2_setKind cX2_setKind 4 none :: ([.fieldLink RX2 18 "SkewedSquare$Square" "kinds" "[I", .methodLink RX2 28 yX2_has, .instanceMethod yX2_has, .selects RX2 yX2_has yX2_has, .initialized RX2, .code yX2_has cX2_has 3 (some .boolean), .fieldLink RX2 9 "SkewedSquare$Square" "side" "I"] ++ wsX20)
def wsX2_placeOf : List Cond := .code yX2_placeOf cX2_placeOf 2 (some .int) :: ([.fieldLink RX2 15 "SkewedSquare$Square" "leftOut" "I"] ++ wsX20)
def wsX2_faultyCells : List Cond := .code yX2_faultyCells cX2_faultyCells 4 (some .int) :: ([.fieldLink RX2 9 "SkewedSquare$Square" "side" "I", .methodLink RX2 32 yX2_kindAt, .instanceMethod yX2_kindAt, .selects RX2 yX2_kindAt yX2_kindAt, .initialized RX2, .code yX2_kindAt cX2_kindAt 3 (some .int), .fieldLink RX2 18 "SkewedSquare$Square" "kinds" "[I", .methodLink RX2 28 yX2_has, .instanceMethod yX2_has, .selects RX2 yX2_has yX2_has, .code yX2_has cX2_has 3 (some .boolean)] ++ wsX20)
def wsX3_takeLeft_r1 : List Cond := [Cond.fieldLink RX3 21 "SkewedSquare$State" "leftMatrix" "LSkewedSquare$Matrix;", Cond.fieldLink RX3 25 "SkewedSquare$State" "rightMatrix" "LSkewedSquare$Matrix;", Cond.fieldLink RX3 51 "SkewedSquare$Matrix" "rows" "I", Cond.fieldLink RX3 55 "SkewedSquare$Matrix" "columns" "I", Cond.methodLink RX3 45 yX1_copyFrom, Cond.instanceMethod yX1_copyFrom, Cond.selects RX1 yX1_copyFrom yX1_copyFrom, Cond.initialized RX1, Cond.code yX1_copyFrom cX1_copyFrom 2 none, Cond.fieldLink RX1 9 "SkewedSquare$Matrix" "rows" "I", Cond.fieldLink RX1 15 "SkewedSquare$Matrix" "columns" "I", Cond.fieldLink RX1 18 "SkewedSquare$Matrix" "entries" "[I", Cond.methodLink RX1 36 arraycopyName, Cond.native arraycopyName, Cond.static arraycopyName, Cond.initialized "java/lang/System", Cond.methodLink RX3 59 yX1_renew, Cond.instanceMethod yX1_renew, Cond.selects RX1 yX1_renew yX1_renew, Cond.code yX1_renew cX1_renew 4 none, Cond.static yX6_isLength, Cond.initialized RX6, Cond.code yX6_isLength cX6_isLength 1 (some .boolean), Cond.methodLink RX1 30 yJ7_fill_53178]
def wsX3_takeLeft_r2 : List Cond := [Cond.static yJ7_fill_53178, Cond.initialized RJ7, Cond.code yJ7_fill_53178 cJ7_fill_53178 4 none, Cond.methodLink RX3 38 yX3_forgetResults, Cond.instanceMethod yX3_forgetResults, Cond.selects RX3 yX3_forgetResults yX3_forgetResults, Cond.initialized RX3, Cond.code yX3_forgetResults cX3_forgetResults 1 none, Cond.fieldLink RX3 28 "SkewedSquare$State" "results" "LSkewedSquare$Matrix;", Cond.constant RX3 58 (-999999999)]
def wsX3_takeLeft : List Cond := .code yX3_takeLeft cX3_takeLeft 2 none :: ((wsX3_takeLeft_r1 ++ wsX3_takeLeft_r2) ++ wsX30 ++ wsX10)
def wsX3_takeRight_r1 : List Cond := [Cond.fieldLink RX3 25 "SkewedSquare$State" "rightMatrix" "LSkewedSquare$Matrix;", Cond.fieldLink RX3 21 "SkewedSquare$State" "leftMatrix" "LSkewedSquare$Matrix;", Cond.fieldLink RX3 55 "SkewedSquare$Matrix" "columns" "I", Cond.fieldLink RX3 51 "SkewedSquare$Matrix" "rows" "I", Cond.methodLink RX3 45 yX1_copyFrom, Cond.instanceMethod yX1_copyFrom, Cond.selects RX1 yX1_copyFrom yX1_copyFrom, Cond.initialized RX1, Cond.code yX1_copyFrom cX1_copyFrom 2 none, Cond.fieldLink RX1 9 "SkewedSquare$Matrix" "rows" "I", Cond.fieldLink RX1 15 "SkewedSquare$Matrix" "columns" "I", Cond.fieldLink RX1 18 "SkewedSquare$Matrix" "entries" "[I", Cond.methodLink RX1 36 arraycopyName, Cond.native arraycopyName, Cond.static arraycopyName, Cond.initialized "java/lang/System", Cond.methodLink RX3 59 yX1_renew, Cond.instanceMethod yX1_renew, Cond.selects RX1 yX1_renew yX1_renew, Cond.code yX1_renew cX1_renew 4 none, Cond.static yX6_isLength, Cond.initialized RX6, Cond.code yX6_isLength cX6_isLength 1 (some .boolean), Cond.methodLink RX1 30 yJ7_fill_53178]
def wsX3_takeRight_r2 : List Cond := [Cond.static yJ7_fill_53178, Cond.initialized RJ7, Cond.code yJ7_fill_53178 cJ7_fill_53178 4 none, Cond.methodLink RX3 38 yX3_forgetResults, Cond.instanceMethod yX3_forgetResults, Cond.selects RX3 yX3_forgetResults yX3_forgetResults, Cond.initialized RX3, Cond.code yX3_forgetResults cX3_forgetResults 1 none, Cond.fieldLink RX3 28 "SkewedSquare$State" "results" "LSkewedSquare$Matrix;", Cond.constant RX3 58 (-999999999)]
def wsX3_takeRight : List Cond := .code yX3_takeRight cX3_takeRight 2 none :: ((wsX3_takeRight_r1 ++ wsX3_takeRight_r2) ++ wsX30 ++ wsX10)
def wsX3_tilesAlong : List Cond := .code yX3_tilesAlong cX3_tilesAlong 2 (some .int) :: ([.fieldLink RX3 12 "SkewedSquare$State" "square" "LSkewedSquare$Square;", .fieldLink RX3 74 "SkewedSquare$Square" "side" "I"] ++ wsX30 ++ wsX20)
def wsX3_tilesDown : List Cond := .code yX3_tilesDown cX3_tilesDown 1 (some .int) :: ([.fieldLink RX3 21 "SkewedSquare$State" "leftMatrix" "LSkewedSquare$Matrix;", .fieldLink RX3 51 "SkewedSquare$Matrix" "rows" "I", .methodLink RX3 63 yX3_tilesAlong, .instanceMethod yX3_tilesAlong, .selects RX3 yX3_tilesAlong yX3_tilesAlong, .initialized RX3, .code yX3_tilesAlong cX3_tilesAlong 2 (some .int), .fieldLink RX3 12 "SkewedSquare$State" "square" "LSkewedSquare$Square;", .fieldLink RX3 74 "SkewedSquare$Square" "side" "I"] ++ wsX30 ++ wsX10 ++ wsX20)
def wsX3_tilesAcross : List Cond := .code yX3_tilesAcross cX3_tilesAcross 1 (some .int) :: ([.fieldLink RX3 25 "SkewedSquare$State" "rightMatrix" "LSkewedSquare$Matrix;", .fieldLink RX3 55 "SkewedSquare$Matrix" "columns" "I", .methodLink RX3 63 yX3_tilesAlong, .instanceMethod yX3_tilesAlong, .selects RX3 yX3_tilesAlong yX3_tilesAlong, .initialized RX3, .code yX3_tilesAlong cX3_tilesAlong 2 (some .int), .fieldLink RX3 12 "SkewedSquare$State" "square" "LSkewedSquare$Square;", .fieldLink RX3 74 "SkewedSquare$Square" "side" "I"] ++ wsX30 ++ wsX10 ++ wsX20)
def wsX3_tiles : List Cond := .code yX3_tiles cX3_tiles 1 (some .int) :: ([.methodLink RX3 67 yX3_tilesDown, .instanceMethod yX3_tilesDown, .selects RX3 yX3_tilesDown yX3_tilesDown, .initialized RX3, .code yX3_tilesDown cX3_tilesDown 1 (some .int), .fieldLink RX3 21 "SkewedSquare$State" "leftMatrix" "LSkewedSquare$Matrix;", .fieldLink RX3 51 "SkewedSquare$Matrix" "rows" "I", .methodLink RX3 63 yX3_tilesAlong, .instanceMethod yX3_tilesAlong, .selects RX3 yX3_tilesAlong yX3_tilesAlong, .code yX3_tilesAlong cX3_tilesAlong 2 (some .int), .fieldLink RX3 12 "SkewedSquare$State" "square" "LSkewedSquare$Square;", .fieldLink RX3 74 "SkewedSquare$Square" "side" "I", .methodLink RX3 71 yX3_tilesAcross, .instanceMethod yX3_tilesAcross, .selects RX3 yX3_tilesAcross yX3_tilesAcross, .code yX3_tilesAcross cX3_tilesAcross 1 (some .int), .fieldLink RX3 25 "SkewedSquare$State" "rightMatrix" "LSkewedSquare$Matrix;", .fieldLink RX3 55 "SkewedSquare$Matrix" "columns" "I"] ++ wsX30 ++ wsX10 ++ wsX20)
def wsX5_empty : List Cond := .code yX5_empty cX5_empty 1 none :: ([.fieldLink RX5 9 "SkewedSquare$Tile" "sums" "[I", .fieldLink RX5 15 "SkewedSquare$Tile" "meetings" "[I", .fieldLink RX5 18 "SkewedSquare$Tile" "rightward" "[I", .constant RX5 30 (-999999999), .fieldLink RX5 21 "SkewedSquare$Tile" "downward" "[I", .fieldLink RX5 31 "SkewedSquare$Tile" "ticks" "I", .methodLink RX5 24 yJ7_fill_53178, .static yJ7_fill_53178, .initialized RJ7, .code yJ7_fill_53178 cJ7_fill_53178 4 none] ++ wsX50)
def wsX3_beginTile_r1 : List Cond := [Cond.fieldLink RX3 34 "SkewedSquare$State" "tile" "LSkewedSquare$Tile;", Cond.fieldLink RX3 80 "SkewedSquare$Tile" "begun" "Z", Cond.fieldLink RX3 84 "SkewedSquare$Tile" "row" "I", Cond.fieldLink RX3 87 "SkewedSquare$Tile" "column" "I", Cond.fieldLink RX3 12 "SkewedSquare$State" "square" "LSkewedSquare$Square;", Cond.fieldLink RX3 74 "SkewedSquare$Square" "side" "I", Cond.fieldLink RX3 21 "SkewedSquare$State" "leftMatrix" "LSkewedSquare$Matrix;", Cond.fieldLink RX3 51 "SkewedSquare$Matrix" "rows" "I", Cond.methodLink RX3 90 Lib.Math.min.name, Cond.static Lib.Math.min.name, Cond.initialized "java/lang/Math", Cond.code Lib.Math.min.name Lib.Math.min.code 2 (some .int), Cond.fieldLink RX3 96 "SkewedSquare$Tile" "height" "I", Cond.fieldLink RX3 25 "SkewedSquare$State" "rightMatrix" "LSkewedSquare$Matrix;", Cond.fieldLink RX3 55 "SkewedSquare$Matrix" "columns" "I", Cond.fieldLink RX3 99 "SkewedSquare$Tile" "width" "I", Cond.fieldLink RX3 102 "SkewedSquare$Tile" "ticksNeeded" "I", Cond.methodLink RX3 77 yX5_empty, Cond.instanceMethod yX5_empty, Cond.selects RX5 yX5_empty yX5_empty, Cond.initialized RX5, Cond.code yX5_empty cX5_empty 1 none, Cond.fieldLink RX5 9 "SkewedSquare$Tile" "sums" "[I", Cond.fieldLink RX5 15 "SkewedSquare$Tile" "meetings" "[I"]
def wsX3_beginTile_r2 : List Cond := [Cond.fieldLink RX5 18 "SkewedSquare$Tile" "rightward" "[I", Cond.constant RX5 30 (-999999999), Cond.fieldLink RX5 21 "SkewedSquare$Tile" "downward" "[I", Cond.fieldLink RX5 31 "SkewedSquare$Tile" "ticks" "I", Cond.methodLink RX5 24 yJ7_fill_53178, Cond.static yJ7_fill_53178, Cond.initialized RJ7, Cond.code yJ7_fill_53178 cJ7_fill_53178 4 none]
def wsX3_beginTile : List Cond := .code yX3_beginTile cX3_beginTile 3 none :: ((wsX3_beginTile_r1 ++ wsX3_beginTile_r2) ++ wsX30 ++ wsX50 ++ wsX20 ++ wsX10)
def wsX5_ticksLeft : List Cond := .code yX5_ticksLeft cX5_ticksLeft 1 (some .int) :: ([.fieldLink RX5 35 "SkewedSquare$Tile" "ticksNeeded" "I", .fieldLink RX5 31 "SkewedSquare$Tile" "ticks" "I"] ++ wsX50)
def wsX5_cell : List Cond := .code yX5_cell cX5_cell 2 (some .int) :: ([])
def wsX5_isCell : List Cond := .code yX5_isCell cX5_isCell 1 (some .boolean) :: ([])
def wsX5_rightwardOf : List Cond := .code yX5_rightwardOf cX5_rightwardOf 2 (some .int) :: ([.fieldLink RX5 18 "SkewedSquare$Tile" "rightward" "[I", .constant RX5 30 (-999999999), .methodLink RX5 38 yX5_isCell, .static yX5_isCell, .initialized RX5, .code yX5_isCell cX5_isCell 1 (some .boolean)] ++ wsX50)
def wsX3_fromLeft_r1 : List Cond := [Cond.fieldLink RX3 34 "SkewedSquare$State" "tile" "LSkewedSquare$Tile;", Cond.fieldLink RX3 84 "SkewedSquare$Tile" "row" "I", Cond.fieldLink RX3 12 "SkewedSquare$State" "square" "LSkewedSquare$Square;", Cond.fieldLink RX3 74 "SkewedSquare$Square" "side" "I", Cond.fieldLink RX3 130 "SkewedSquare$Tile" "ticks" "I", Cond.fieldLink RX3 21 "SkewedSquare$State" "leftMatrix" "LSkewedSquare$Matrix;", Cond.constant RX3 58 (-999999999), Cond.methodLink RX3 117 yX5_cell, Cond.static yX5_cell, Cond.initialized RX5, Cond.code yX5_cell cX5_cell 2 (some .int), Cond.methodLink RX3 133 yX5_rightwardOf, Cond.instanceMethod yX5_rightwardOf, Cond.selects RX5 yX5_rightwardOf yX5_rightwardOf, Cond.code yX5_rightwardOf cX5_rightwardOf 2 (some .int), Cond.fieldLink RX5 18 "SkewedSquare$Tile" "rightward" "[I", Cond.constant RX5 30 (-999999999), Cond.methodLink RX5 38 yX5_isCell, Cond.static yX5_isCell, Cond.code yX5_isCell cX5_isCell 1 (some .boolean), Cond.methodLink RX3 136 yX1_has, Cond.instanceMethod yX1_has, Cond.selects RX1 yX1_has yX1_has, Cond.initialized RX1]
def wsX3_fromLeft_r2 : List Cond := [Cond.code yX1_has cX1_has 3 (some .boolean), Cond.fieldLink RX1 9 "SkewedSquare$Matrix" "rows" "I", Cond.fieldLink RX1 15 "SkewedSquare$Matrix" "columns" "I", Cond.methodLink RX3 140 yX1_at, Cond.instanceMethod yX1_at, Cond.selects RX1 yX1_at yX1_at, Cond.code yX1_at cX1_at 3 (some .int), Cond.fieldLink RX1 18 "SkewedSquare$Matrix" "entries" "[I"]
def wsX3_fromLeft : List Cond := .code yX3_fromLeft cX3_fromLeft 5 (some .int) :: ((wsX3_fromLeft_r1 ++ wsX3_fromLeft_r2) ++ wsX30 ++ wsX50 ++ wsX20 ++ wsX10)
def wsX5_downwardOf : List Cond := .code yX5_downwardOf cX5_downwardOf 2 (some .int) :: ([.fieldLink RX5 21 "SkewedSquare$Tile" "downward" "[I", .constant RX5 30 (-999999999), .methodLink RX5 38 yX5_isCell, .static yX5_isCell, .initialized RX5, .code yX5_isCell cX5_isCell 1 (some .boolean)] ++ wsX50)
def wsX3_fromAbove_r1 : List Cond := [Cond.fieldLink RX3 34 "SkewedSquare$State" "tile" "LSkewedSquare$Tile;", Cond.fieldLink RX3 87 "SkewedSquare$Tile" "column" "I", Cond.fieldLink RX3 12 "SkewedSquare$State" "square" "LSkewedSquare$Square;", Cond.fieldLink RX3 74 "SkewedSquare$Square" "side" "I", Cond.fieldLink RX3 130 "SkewedSquare$Tile" "ticks" "I", Cond.fieldLink RX3 25 "SkewedSquare$State" "rightMatrix" "LSkewedSquare$Matrix;", Cond.constant RX3 58 (-999999999), Cond.methodLink RX3 117 yX5_cell, Cond.static yX5_cell, Cond.initialized RX5, Cond.code yX5_cell cX5_cell 2 (some .int), Cond.methodLink RX3 143 yX5_downwardOf, Cond.instanceMethod yX5_downwardOf, Cond.selects RX5 yX5_downwardOf yX5_downwardOf, Cond.code yX5_downwardOf cX5_downwardOf 2 (some .int), Cond.fieldLink RX5 21 "SkewedSquare$Tile" "downward" "[I", Cond.constant RX5 30 (-999999999), Cond.methodLink RX5 38 yX5_isCell, Cond.static yX5_isCell, Cond.code yX5_isCell cX5_isCell 1 (some .boolean), Cond.methodLink RX3 136 yX1_has, Cond.instanceMethod yX1_has, Cond.selects RX1 yX1_has yX1_has, Cond.initialized RX1]
def wsX3_fromAbove_r2 : List Cond := [Cond.code yX1_has cX1_has 3 (some .boolean), Cond.fieldLink RX1 9 "SkewedSquare$Matrix" "rows" "I", Cond.fieldLink RX1 15 "SkewedSquare$Matrix" "columns" "I", Cond.methodLink RX3 140 yX1_at, Cond.instanceMethod yX1_at, Cond.selects RX1 yX1_at yX1_at, Cond.code yX1_at cX1_at 3 (some .int), Cond.fieldLink RX1 18 "SkewedSquare$Matrix" "entries" "[I"]
def wsX3_fromAbove : List Cond := .code yX3_fromAbove cX3_fromAbove 5 (some .int) :: ((wsX3_fromAbove_r1 ++ wsX3_fromAbove_r2) ++ wsX30 ++ wsX50 ++ wsX20 ++ wsX10)
def wsX5_timesAdded : List Cond := .code yX5_timesAdded cX5_timesAdded 1 (some .int) :: ([])
def wsX5_zeroIfAny : List Cond := .code yX5_zeroIfAny cX5_zeroIfAny 1 (some .int) :: ([.constant RX5 30 (-999999999)])
def wsX5_pass : List Cond := .code yX5_pass cX5_pass 5 none :: ([.constant RX5 30 (-999999999), .fieldLink RX5 15 "SkewedSquare$Tile" "meetings" "[I", .fieldLink RX5 9 "SkewedSquare$Tile" "sums" "[I", .fieldLink RX5 18 "SkewedSquare$Tile" "rightward" "[I", .fieldLink RX5 21 "SkewedSquare$Tile" "downward" "[I", .methodLink RX5 38 yX5_isCell, .static yX5_isCell, .initialized RX5, .code yX5_isCell cX5_isCell 1 (some .boolean), .methodLink RX5 42 yX5_timesAdded, .static yX5_timesAdded, .code yX5_timesAdded cX5_timesAdded 1 (some .int), .methodLink RX5 46 yX5_zeroIfAny, .static yX5_zeroIfAny, .code yX5_zeroIfAny cX5_zeroIfAny 1 (some .int)] ++ wsX50)
def wsX3_goOnce_r1 : List Cond := [Cond.fieldLink RX3 34 "SkewedSquare$State" "tile" "LSkewedSquare$Tile;", Cond.fieldLink RX3 96 "SkewedSquare$Tile" "height" "I", Cond.fieldLink RX3 99 "SkewedSquare$Tile" "width" "I", Cond.fieldLink RX3 12 "SkewedSquare$State" "square" "LSkewedSquare$Square;", Cond.fieldLink RX3 130 "SkewedSquare$Tile" "ticks" "I", Cond.methodLink RX3 111 yX2_placeOf, Cond.instanceMethod yX2_placeOf, Cond.selects RX2 yX2_placeOf yX2_placeOf, Cond.initialized RX2, Cond.code yX2_placeOf cX2_placeOf 2 (some .int), Cond.fieldLink RX2 15 "SkewedSquare$Square" "leftOut" "I", Cond.methodLink RX3 114 yX2_kindAt, Cond.instanceMethod yX2_kindAt, Cond.selects RX2 yX2_kindAt yX2_kindAt, Cond.code yX2_kindAt cX2_kindAt 3 (some .int), Cond.fieldLink RX2 18 "SkewedSquare$Square" "kinds" "[I", Cond.methodLink RX2 28 yX2_has, Cond.instanceMethod yX2_has, Cond.selects RX2 yX2_has yX2_has, Cond.code yX2_has cX2_has 3 (some .boolean), Cond.fieldLink RX2 9 "SkewedSquare$Square" "side" "I", Cond.methodLink RX3 117 yX5_cell, Cond.static yX5_cell, Cond.initialized RX5]
def wsX3_goOnce_r2 : List Cond := [Cond.code yX5_cell cX5_cell 2 (some .int), Cond.methodLink RX3 120 yX3_fromLeft, Cond.instanceMethod yX3_fromLeft, Cond.selects RX3 yX3_fromLeft yX3_fromLeft, Cond.initialized RX3, Cond.code yX3_fromLeft cX3_fromLeft 5 (some .int), Cond.fieldLink RX3 84 "SkewedSquare$Tile" "row" "I", Cond.fieldLink RX3 74 "SkewedSquare$Square" "side" "I", Cond.fieldLink RX3 21 "SkewedSquare$State" "leftMatrix" "LSkewedSquare$Matrix;", Cond.constant RX3 58 (-999999999), Cond.methodLink RX3 133 yX5_rightwardOf, Cond.instanceMethod yX5_rightwardOf, Cond.selects RX5 yX5_rightwardOf yX5_rightwardOf, Cond.code yX5_rightwardOf cX5_rightwardOf 2 (some .int), Cond.fieldLink RX5 18 "SkewedSquare$Tile" "rightward" "[I", Cond.constant RX5 30 (-999999999), Cond.methodLink RX5 38 yX5_isCell, Cond.static yX5_isCell, Cond.code yX5_isCell cX5_isCell 1 (some .boolean), Cond.methodLink RX3 136 yX1_has, Cond.instanceMethod yX1_has, Cond.selects RX1 yX1_has yX1_has, Cond.initialized RX1, Cond.code yX1_has cX1_has 3 (some .boolean)]
def wsX3_goOnce_r3 : List Cond := [Cond.fieldLink RX1 9 "SkewedSquare$Matrix" "rows" "I", Cond.fieldLink RX1 15 "SkewedSquare$Matrix" "columns" "I", Cond.methodLink RX3 140 yX1_at, Cond.instanceMethod yX1_at, Cond.selects RX1 yX1_at yX1_at, Cond.code yX1_at cX1_at 3 (some .int), Cond.fieldLink RX1 18 "SkewedSquare$Matrix" "entries" "[I", Cond.methodLink RX3 123 yX3_fromAbove, Cond.instanceMethod yX3_fromAbove, Cond.selects RX3 yX3_fromAbove yX3_fromAbove, Cond.code yX3_fromAbove cX3_fromAbove 5 (some .int), Cond.fieldLink RX3 87 "SkewedSquare$Tile" "column" "I", Cond.fieldLink RX3 25 "SkewedSquare$State" "rightMatrix" "LSkewedSquare$Matrix;", Cond.methodLink RX3 143 yX5_downwardOf, Cond.instanceMethod yX5_downwardOf, Cond.selects RX5 yX5_downwardOf yX5_downwardOf, Cond.code yX5_downwardOf cX5_downwardOf 2 (some .int), Cond.fieldLink RX5 21 "SkewedSquare$Tile" "downward" "[I", Cond.methodLink RX3 126 yX5_pass, Cond.instanceMethod yX5_pass, Cond.selects RX5 yX5_pass yX5_pass, Cond.code yX5_pass cX5_pass 5 none, Cond.fieldLink RX5 15 "SkewedSquare$Tile" "meetings" "[I", Cond.fieldLink RX5 9 "SkewedSquare$Tile" "sums" "[I"]
def wsX3_goOnce_r4 : List Cond := [Cond.methodLink RX5 42 yX5_timesAdded, Cond.static yX5_timesAdded, Cond.code yX5_timesAdded cX5_timesAdded 1 (some .int), Cond.methodLink RX5 46 yX5_zeroIfAny, Cond.static yX5_zeroIfAny, Cond.code yX5_zeroIfAny cX5_zeroIfAny 1 (some .int)]
def wsX3_goOnce : List Cond := .code yX3_goOnce cX3_goOnce 4 none :: ((wsX3_goOnce_r1 ++ (wsX3_goOnce_r2 ++ (wsX3_goOnce_r3 ++ wsX3_goOnce_r4))) ++ wsX30 ++ wsX50 ++ wsX20 ++ wsX10)
def wsX3_goOn_r1 : List Cond := [Cond.fieldLink RX3 34 "SkewedSquare$State" "tile" "LSkewedSquare$Tile;", Cond.methodLink RX3 90 Lib.Math.min.name, Cond.static Lib.Math.min.name, Cond.initialized "java/lang/Math", Cond.code Lib.Math.min.name Lib.Math.min.code 2 (some .int), Cond.methodLink RX3 105 yX5_ticksLeft, Cond.instanceMethod yX5_ticksLeft, Cond.selects RX5 yX5_ticksLeft yX5_ticksLeft, Cond.initialized RX5, Cond.code yX5_ticksLeft cX5_ticksLeft 1 (some .int), Cond.fieldLink RX5 35 "SkewedSquare$Tile" "ticksNeeded" "I", Cond.fieldLink RX5 31 "SkewedSquare$Tile" "ticks" "I", Cond.methodLink RX3 108 yX3_goOnce, Cond.instanceMethod yX3_goOnce, Cond.selects RX3 yX3_goOnce yX3_goOnce, Cond.initialized RX3, Cond.code yX3_goOnce cX3_goOnce 4 none, Cond.fieldLink RX3 96 "SkewedSquare$Tile" "height" "I", Cond.fieldLink RX3 99 "SkewedSquare$Tile" "width" "I", Cond.fieldLink RX3 12 "SkewedSquare$State" "square" "LSkewedSquare$Square;", Cond.fieldLink RX3 130 "SkewedSquare$Tile" "ticks" "I", Cond.methodLink RX3 111 yX2_placeOf, Cond.instanceMethod yX2_placeOf, Cond.selects RX2 yX2_placeOf yX2_placeOf]
def wsX3_goOn_r2 : List Cond := [Cond.initialized RX2, Cond.code yX2_placeOf cX2_placeOf 2 (some .int), Cond.fieldLink RX2 15 "SkewedSquare$Square" "leftOut" "I", Cond.methodLink RX3 114 yX2_kindAt, Cond.instanceMethod yX2_kindAt, Cond.selects RX2 yX2_kindAt yX2_kindAt, Cond.code yX2_kindAt cX2_kindAt 3 (some .int), Cond.fieldLink RX2 18 "SkewedSquare$Square" "kinds" "[I", Cond.methodLink RX2 28 yX2_has, Cond.instanceMethod yX2_has, Cond.selects RX2 yX2_has yX2_has, Cond.code yX2_has cX2_has 3 (some .boolean), Cond.fieldLink RX2 9 "SkewedSquare$Square" "side" "I", Cond.methodLink RX3 117 yX5_cell, Cond.static yX5_cell, Cond.code yX5_cell cX5_cell 2 (some .int), Cond.methodLink RX3 120 yX3_fromLeft, Cond.instanceMethod yX3_fromLeft, Cond.selects RX3 yX3_fromLeft yX3_fromLeft, Cond.code yX3_fromLeft cX3_fromLeft 5 (some .int), Cond.fieldLink RX3 84 "SkewedSquare$Tile" "row" "I", Cond.fieldLink RX3 74 "SkewedSquare$Square" "side" "I", Cond.fieldLink RX3 21 "SkewedSquare$State" "leftMatrix" "LSkewedSquare$Matrix;", Cond.constant RX3 58 (-999999999)]
def wsX3_goOn_r3 : List Cond := [Cond.methodLink RX3 133 yX5_rightwardOf, Cond.instanceMethod yX5_rightwardOf, Cond.selects RX5 yX5_rightwardOf yX5_rightwardOf, Cond.code yX5_rightwardOf cX5_rightwardOf 2 (some .int), Cond.fieldLink RX5 18 "SkewedSquare$Tile" "rightward" "[I", Cond.constant RX5 30 (-999999999), Cond.methodLink RX5 38 yX5_isCell, Cond.static yX5_isCell, Cond.code yX5_isCell cX5_isCell 1 (some .boolean), Cond.methodLink RX3 136 yX1_has, Cond.instanceMethod yX1_has, Cond.selects RX1 yX1_has yX1_has, Cond.initialized RX1, Cond.code yX1_has cX1_has 3 (some .boolean), Cond.fieldLink RX1 9 "SkewedSquare$Matrix" "rows" "I", Cond.fieldLink RX1 15 "SkewedSquare$Matrix" "columns" "I", Cond.methodLink RX3 140 yX1_at, Cond.instanceMethod yX1_at, Cond.selects RX1 yX1_at yX1_at, Cond.code yX1_at cX1_at 3 (some .int), Cond.fieldLink RX1 18 "SkewedSquare$Matrix" "entries" "[I", Cond.methodLink RX3 123 yX3_fromAbove, Cond.instanceMethod yX3_fromAbove, Cond.selects RX3 yX3_fromAbove yX3_fromAbove]
def wsX3_goOn_r4 : List Cond := [Cond.code yX3_fromAbove cX3_fromAbove 5 (some .int), Cond.fieldLink RX3 87 "SkewedSquare$Tile" "column" "I", Cond.fieldLink RX3 25 "SkewedSquare$State" "rightMatrix" "LSkewedSquare$Matrix;", Cond.methodLink RX3 143 yX5_downwardOf, Cond.instanceMethod yX5_downwardOf, Cond.selects RX5 yX5_downwardOf yX5_downwardOf, Cond.code yX5_downwardOf cX5_downwardOf 2 (some .int), Cond.fieldLink RX5 21 "SkewedSquare$Tile" "downward" "[I", Cond.methodLink RX3 126 yX5_pass, Cond.instanceMethod yX5_pass, Cond.selects RX5 yX5_pass yX5_pass, Cond.code yX5_pass cX5_pass 5 none, Cond.fieldLink RX5 15 "SkewedSquare$Tile" "meetings" "[I", Cond.fieldLink RX5 9 "SkewedSquare$Tile" "sums" "[I", Cond.methodLink RX5 42 yX5_timesAdded, Cond.static yX5_timesAdded, Cond.code yX5_timesAdded cX5_timesAdded 1 (some .int), Cond.methodLink RX5 46 yX5_zeroIfAny, Cond.static yX5_zeroIfAny, Cond.code yX5_zeroIfAny cX5_zeroIfAny 1 (some .int)]
def wsX3_goOn : List Cond := .code yX3_goOn cX3_goOn 4 none :: ((wsX3_goOn_r1 ++ (wsX3_goOn_r2 ++ (wsX3_goOn_r3 ++ wsX3_goOn_r4))) ++ wsX30 ++ wsX50 ++ wsX20 ++ wsX10)
def wsX5_sumOf : List Cond := .code yX5_sumOf cX5_sumOf 2 (some .int) :: ([.fieldLink RX5 9 "SkewedSquare$Tile" "sums" "[I", .methodLink RX5 38 yX5_isCell, .static yX5_isCell, .initialized RX5, .code yX5_isCell cX5_isCell 1 (some .boolean)] ++ wsX50)
def wsX3_drainTile_r1 : List Cond := [Cond.fieldLink RX3 34 "SkewedSquare$State" "tile" "LSkewedSquare$Tile;", Cond.fieldLink RX3 84 "SkewedSquare$Tile" "row" "I", Cond.fieldLink RX3 12 "SkewedSquare$State" "square" "LSkewedSquare$Square;", Cond.fieldLink RX3 74 "SkewedSquare$Square" "side" "I", Cond.fieldLink RX3 87 "SkewedSquare$Tile" "column" "I", Cond.fieldLink RX3 96 "SkewedSquare$Tile" "height" "I", Cond.fieldLink RX3 99 "SkewedSquare$Tile" "width" "I", Cond.fieldLink RX3 28 "SkewedSquare$State" "results" "LSkewedSquare$Matrix;", Cond.fieldLink RX3 80 "SkewedSquare$Tile" "begun" "Z", Cond.methodLink RX3 117 yX5_cell, Cond.static yX5_cell, Cond.initialized RX5, Cond.code yX5_cell cX5_cell 2 (some .int), Cond.methodLink RX3 146 yX5_sumOf, Cond.instanceMethod yX5_sumOf, Cond.selects RX5 yX5_sumOf yX5_sumOf, Cond.code yX5_sumOf cX5_sumOf 2 (some .int), Cond.fieldLink RX5 9 "SkewedSquare$Tile" "sums" "[I", Cond.methodLink RX5 38 yX5_isCell, Cond.static yX5_isCell, Cond.code yX5_isCell cX5_isCell 1 (some .boolean), Cond.methodLink RX3 149 yX1_put, Cond.instanceMethod yX1_put, Cond.selects RX1 yX1_put yX1_put]
def wsX3_drainTile_r2 : List Cond := [Cond.initialized RX1, Cond.code yX1_put cX1_put 4 none, Cond.fieldLink RX1 18 "SkewedSquare$Matrix" "entries" "[I", Cond.methodLink RX1 22 yX1_has, Cond.instanceMethod yX1_has, Cond.selects RX1 yX1_has yX1_has, Cond.code yX1_has cX1_has 3 (some .boolean), Cond.fieldLink RX1 9 "SkewedSquare$Matrix" "rows" "I", Cond.fieldLink RX1 15 "SkewedSquare$Matrix" "columns" "I"]
def wsX3_drainTile : List Cond := .code yX3_drainTile cX3_drainTile 5 none :: ((wsX3_drainTile_r1 ++ wsX3_drainTile_r2) ++ wsX30 ++ wsX50 ++ wsX20 ++ wsX10)
def wsX3_doAllTiles_r1 : List Cond := [Cond.fieldLink RX3 34 "SkewedSquare$State" "tile" "LSkewedSquare$Tile;", Cond.methodLink RX3 67 yX3_tilesDown, Cond.instanceMethod yX3_tilesDown, Cond.selects RX3 yX3_tilesDown yX3_tilesDown, Cond.initialized RX3, Cond.code yX3_tilesDown cX3_tilesDown 1 (some .int), Cond.fieldLink RX3 21 "SkewedSquare$State" "leftMatrix" "LSkewedSquare$Matrix;", Cond.fieldLink RX3 51 "SkewedSquare$Matrix" "rows" "I", Cond.methodLink RX3 63 yX3_tilesAlong, Cond.instanceMethod yX3_tilesAlong, Cond.selects RX3 yX3_tilesAlong yX3_tilesAlong, Cond.code yX3_tilesAlong cX3_tilesAlong 2 (some .int), Cond.fieldLink RX3 12 "SkewedSquare$State" "square" "LSkewedSquare$Square;", Cond.fieldLink RX3 74 "SkewedSquare$Square" "side" "I", Cond.methodLink RX3 71 yX3_tilesAcross, Cond.instanceMethod yX3_tilesAcross, Cond.selects RX3 yX3_tilesAcross yX3_tilesAcross, Cond.code yX3_tilesAcross cX3_tilesAcross 1 (some .int), Cond.fieldLink RX3 25 "SkewedSquare$State" "rightMatrix" "LSkewedSquare$Matrix;", Cond.fieldLink RX3 55 "SkewedSquare$Matrix" "columns" "I", Cond.methodLink RX3 152 yX3_beginTile, Cond.instanceMethod yX3_beginTile, Cond.selects RX3 yX3_beginTile yX3_beginTile, Cond.code yX3_beginTile cX3_beginTile 3 none]
def wsX3_doAllTiles_r2 : List Cond := [Cond.fieldLink RX3 80 "SkewedSquare$Tile" "begun" "Z", Cond.fieldLink RX3 84 "SkewedSquare$Tile" "row" "I", Cond.fieldLink RX3 87 "SkewedSquare$Tile" "column" "I", Cond.methodLink RX3 90 Lib.Math.min.name, Cond.static Lib.Math.min.name, Cond.initialized "java/lang/Math", Cond.code Lib.Math.min.name Lib.Math.min.code 2 (some .int), Cond.fieldLink RX3 96 "SkewedSquare$Tile" "height" "I", Cond.fieldLink RX3 99 "SkewedSquare$Tile" "width" "I", Cond.fieldLink RX3 102 "SkewedSquare$Tile" "ticksNeeded" "I", Cond.methodLink RX3 77 yX5_empty, Cond.instanceMethod yX5_empty, Cond.selects RX5 yX5_empty yX5_empty, Cond.initialized RX5, Cond.code yX5_empty cX5_empty 1 none, Cond.fieldLink RX5 9 "SkewedSquare$Tile" "sums" "[I", Cond.fieldLink RX5 15 "SkewedSquare$Tile" "meetings" "[I", Cond.fieldLink RX5 18 "SkewedSquare$Tile" "rightward" "[I", Cond.constant RX5 30 (-999999999), Cond.fieldLink RX5 21 "SkewedSquare$Tile" "downward" "[I", Cond.fieldLink RX5 31 "SkewedSquare$Tile" "ticks" "I", Cond.methodLink RX5 24 yJ7_fill_53178, Cond.static yJ7_fill_53178, Cond.initialized RJ7]
def wsX3_doAllTiles_r3 : List Cond := [Cond.code yJ7_fill_53178 cJ7_fill_53178 4 none, Cond.methodLink RX3 105 yX5_ticksLeft, Cond.instanceMethod yX5_ticksLeft, Cond.selects RX5 yX5_ticksLeft yX5_ticksLeft, Cond.code yX5_ticksLeft cX5_ticksLeft 1 (some .int), Cond.fieldLink RX5 35 "SkewedSquare$Tile" "ticksNeeded" "I", Cond.methodLink RX3 156 yX3_goOn, Cond.instanceMethod yX3_goOn, Cond.selects RX3 yX3_goOn yX3_goOn, Cond.code yX3_goOn cX3_goOn 4 none, Cond.methodLink RX3 108 yX3_goOnce, Cond.instanceMethod yX3_goOnce, Cond.selects RX3 yX3_goOnce yX3_goOnce, Cond.code yX3_goOnce cX3_goOnce 4 none, Cond.fieldLink RX3 130 "SkewedSquare$Tile" "ticks" "I", Cond.methodLink RX3 111 yX2_placeOf, Cond.instanceMethod yX2_placeOf, Cond.selects RX2 yX2_placeOf yX2_placeOf, Cond.initialized RX2, Cond.code yX2_placeOf cX2_placeOf 2 (some .int), Cond.fieldLink RX2 15 "SkewedSquare$Square" "leftOut" "I", Cond.methodLink RX3 114 yX2_kindAt, Cond.instanceMethod yX2_kindAt, Cond.selects RX2 yX2_kindAt yX2_kindAt]
def wsX3_doAllTiles_r4 : List Cond := [Cond.code yX2_kindAt cX2_kindAt 3 (some .int), Cond.fieldLink RX2 18 "SkewedSquare$Square" "kinds" "[I", Cond.methodLink RX2 28 yX2_has, Cond.instanceMethod yX2_has, Cond.selects RX2 yX2_has yX2_has, Cond.code yX2_has cX2_has 3 (some .boolean), Cond.fieldLink RX2 9 "SkewedSquare$Square" "side" "I", Cond.methodLink RX3 117 yX5_cell, Cond.static yX5_cell, Cond.code yX5_cell cX5_cell 2 (some .int), Cond.methodLink RX3 120 yX3_fromLeft, Cond.instanceMethod yX3_fromLeft, Cond.selects RX3 yX3_fromLeft yX3_fromLeft, Cond.code yX3_fromLeft cX3_fromLeft 5 (some .int), Cond.constant RX3 58 (-999999999), Cond.methodLink RX3 133 yX5_rightwardOf, Cond.instanceMethod yX5_rightwardOf, Cond.selects RX5 yX5_rightwardOf yX5_rightwardOf, Cond.code yX5_rightwardOf cX5_rightwardOf 2 (some .int), Cond.methodLink RX5 38 yX5_isCell, Cond.static yX5_isCell, Cond.code yX5_isCell cX5_isCell 1 (some .boolean), Cond.methodLink RX3 136 yX1_has, Cond.instanceMethod yX1_has]
def wsX3_doAllTiles_r5 : List Cond := [Cond.selects RX1 yX1_has yX1_has, Cond.initialized RX1, Cond.code yX1_has cX1_has 3 (some .boolean), Cond.fieldLink RX1 9 "SkewedSquare$Matrix" "rows" "I", Cond.fieldLink RX1 15 "SkewedSquare$Matrix" "columns" "I", Cond.methodLink RX3 140 yX1_at, Cond.instanceMethod yX1_at, Cond.selects RX1 yX1_at yX1_at, Cond.code yX1_at cX1_at 3 (some .int), Cond.fieldLink RX1 18 "SkewedSquare$Matrix" "entries" "[I", Cond.methodLink RX3 123 yX3_fromAbove, Cond.instanceMethod yX3_fromAbove, Cond.selects RX3 yX3_fromAbove yX3_fromAbove, Cond.code yX3_fromAbove cX3_fromAbove 5 (some .int), Cond.methodLink RX3 143 yX5_downwardOf, Cond.instanceMethod yX5_downwardOf, Cond.selects RX5 yX5_downwardOf yX5_downwardOf, Cond.code yX5_downwardOf cX5_downwardOf 2 (some .int), Cond.methodLink RX3 126 yX5_pass, Cond.instanceMethod yX5_pass, Cond.selects RX5 yX5_pass yX5_pass, Cond.code yX5_pass cX5_pass 5 none, Cond.methodLink RX5 42 yX5_timesAdded, Cond.static yX5_timesAdded]
def wsX3_doAllTiles_r6 : List Cond := [Cond.code yX5_timesAdded cX5_timesAdded 1 (some .int), Cond.methodLink RX5 46 yX5_zeroIfAny, Cond.static yX5_zeroIfAny, Cond.code yX5_zeroIfAny cX5_zeroIfAny 1 (some .int), Cond.methodLink RX3 160 yX3_drainTile, Cond.instanceMethod yX3_drainTile, Cond.selects RX3 yX3_drainTile yX3_drainTile, Cond.code yX3_drainTile cX3_drainTile 5 none, Cond.fieldLink RX3 28 "SkewedSquare$State" "results" "LSkewedSquare$Matrix;", Cond.methodLink RX3 146 yX5_sumOf, Cond.instanceMethod yX5_sumOf, Cond.selects RX5 yX5_sumOf yX5_sumOf, Cond.code yX5_sumOf cX5_sumOf 2 (some .int), Cond.methodLink RX3 149 yX1_put, Cond.instanceMethod yX1_put, Cond.selects RX1 yX1_put yX1_put, Cond.code yX1_put cX1_put 4 none, Cond.methodLink RX1 22 yX1_has]
def wsX3_doAllTiles : List Cond := .code yX3_doAllTiles cX3_doAllTiles 6 (some .int) :: ((wsX3_doAllTiles_r1 ++ (wsX3_doAllTiles_r2 ++ (wsX3_doAllTiles_r3 ++ (wsX3_doAllTiles_r4 ++ (wsX3_doAllTiles_r5 ++ wsX3_doAllTiles_r6))))) ++ wsX30 ++ wsX10 ++ wsX20 ++ wsX50)
def wsX3_dueAt : List Cond := .code yX3_dueAt cX3_dueAt 5 (some .int) :: ([.fieldLink RX3 21 "SkewedSquare$State" "leftMatrix" "LSkewedSquare$Matrix;", .fieldLink RX3 55 "SkewedSquare$Matrix" "columns" "I", .fieldLink RX3 25 "SkewedSquare$State" "rightMatrix" "LSkewedSquare$Matrix;", .methodLink RX3 140 yX1_at, .instanceMethod yX1_at, .selects RX1 yX1_at yX1_at, .initialized RX1, .code yX1_at cX1_at 3 (some .int), .fieldLink RX1 9 "SkewedSquare$Matrix" "rows" "I", .fieldLink RX1 15 "SkewedSquare$Matrix" "columns" "I", .fieldLink RX1 18 "SkewedSquare$Matrix" "entries" "[I"] ++ wsX30 ++ wsX10)
def wsX3_knownEntries : List Cond := .code yX3_knownEntries cX3_knownEntries 4 (some .int) :: ([.fieldLink RX3 28 "SkewedSquare$State" "results" "LSkewedSquare$Matrix;", .fieldLink RX3 51 "SkewedSquare$Matrix" "rows" "I", .fieldLink RX3 55 "SkewedSquare$Matrix" "columns" "I", .constant RX3 58 (-999999999), .methodLink RX3 140 yX1_at, .instanceMethod yX1_at, .selects RX1 yX1_at yX1_at, .initialized RX1, .code yX1_at cX1_at 3 (some .int), .fieldLink RX1 9 "SkewedSquare$Matrix" "rows" "I", .fieldLink RX1 15 "SkewedSquare$Matrix" "columns" "I", .fieldLink RX1 18 "SkewedSquare$Matrix" "entries" "[I"] ++ wsX30 ++ wsX10)
def wsX3_wrongEntries : List Cond := .code yX3_wrongEntries cX3_wrongEntries 5 (some .int) :: ([.fieldLink RX3 28 "SkewedSquare$State" "results" "LSkewedSquare$Matrix;", .fieldLink RX3 51 "SkewedSquare$Matrix" "rows" "I", .fieldLink RX3 55 "SkewedSquare$Matrix" "columns" "I", .constant RX3 58 (-999999999), .methodLink RX3 140 yX1_at, .instanceMethod yX1_at, .selects RX1 yX1_at yX1_at, .initialized RX1, .code yX1_at cX1_at 3 (some .int), .fieldLink RX1 9 "SkewedSquare$Matrix" "rows" "I", .fieldLink RX1 15 "SkewedSquare$Matrix" "columns" "I", .fieldLink RX1 18 "SkewedSquare$Matrix" "entries" "[I", .methodLink RX3 163 yX3_dueAt, .instanceMethod yX3_dueAt, .selects RX3 yX3_dueAt yX3_dueAt, .initialized RX3, .code yX3_dueAt cX3_dueAt 5 (some .int), .fieldLink RX3 21 "SkewedSquare$State" "leftMatrix" "LSkewedSquare$Matrix;", .fieldLink RX3 25 "SkewedSquare$State" "rightMatrix" "LSkewedSquare$Matrix;"] ++ wsX30 ++ wsX10)
def wsX3_dueSumOfRow : List Cond := .code yX3_dueSumOfRow cX3_dueSumOfRow 4 (some .int) :: ([.fieldLink RX3 21 "SkewedSquare$State" "leftMatrix" "LSkewedSquare$Matrix;", .fieldLink RX3 55 "SkewedSquare$Matrix" "columns" "I", .fieldLink RX3 25 "SkewedSquare$State" "rightMatrix" "LSkewedSquare$Matrix;", .methodLink RX3 140 yX1_at, .instanceMethod yX1_at, .selects RX1 yX1_at yX1_at, .initialized RX1, .code yX1_at cX1_at 3 (some .int), .fieldLink RX1 9 "SkewedSquare$Matrix" "rows" "I", .fieldLink RX1 15 "SkewedSquare$Matrix" "columns" "I", .fieldLink RX1 18 "SkewedSquare$Matrix" "entries" "[I", .methodLink RX3 170 yX1_sumOfRow, .instanceMethod yX1_sumOfRow, .selects RX1 yX1_sumOfRow yX1_sumOfRow, .code yX1_sumOfRow cX1_sumOfRow 4 (some .int), .methodLink RX1 42 yX1_at] ++ wsX30 ++ wsX10)
def wsX3_suspectRows_r1 : List Cond := [Cond.fieldLink RX3 28 "SkewedSquare$State" "results" "LSkewedSquare$Matrix;", Cond.fieldLink RX3 51 "SkewedSquare$Matrix" "rows" "I", Cond.methodLink RX3 166 yX1_isWholeInRow, Cond.instanceMethod yX1_isWholeInRow, Cond.selects RX1 yX1_isWholeInRow yX1_isWholeInRow, Cond.initialized RX1, Cond.code yX1_isWholeInRow cX1_isWholeInRow 3 (some .boolean), Cond.fieldLink RX1 15 "SkewedSquare$Matrix" "columns" "I", Cond.constant RX1 46 (-999999999), Cond.methodLink RX1 42 yX1_at, Cond.instanceMethod yX1_at, Cond.selects RX1 yX1_at yX1_at, Cond.code yX1_at cX1_at 3 (some .int), Cond.fieldLink RX1 9 "SkewedSquare$Matrix" "rows" "I", Cond.fieldLink RX1 18 "SkewedSquare$Matrix" "entries" "[I", Cond.methodLink RX3 170 yX1_sumOfRow, Cond.instanceMethod yX1_sumOfRow, Cond.selects RX1 yX1_sumOfRow yX1_sumOfRow, Cond.code yX1_sumOfRow cX1_sumOfRow 4 (some .int), Cond.methodLink RX3 173 yX3_dueSumOfRow, Cond.instanceMethod yX3_dueSumOfRow, Cond.selects RX3 yX3_dueSumOfRow yX3_dueSumOfRow, Cond.initialized RX3, Cond.code yX3_dueSumOfRow cX3_dueSumOfRow 4 (some .int)]
def wsX3_suspectRows_r2 : List Cond := [Cond.fieldLink RX3 21 "SkewedSquare$State" "leftMatrix" "LSkewedSquare$Matrix;", Cond.fieldLink RX3 55 "SkewedSquare$Matrix" "columns" "I", Cond.fieldLink RX3 25 "SkewedSquare$State" "rightMatrix" "LSkewedSquare$Matrix;", Cond.methodLink RX3 140 yX1_at]
def wsX3_suspectRows : List Cond := .code yX3_suspectRows cX3_suspectRows 3 (some .int) :: ((wsX3_suspectRows_r1 ++ wsX3_suspectRows_r2) ++ wsX30 ++ wsX10)
def wsX3_dueSumOfColumn : List Cond := .code yX3_dueSumOfColumn cX3_dueSumOfColumn 4 (some .int) :: ([.fieldLink RX3 21 "SkewedSquare$State" "leftMatrix" "LSkewedSquare$Matrix;", .fieldLink RX3 55 "SkewedSquare$Matrix" "columns" "I", .fieldLink RX3 25 "SkewedSquare$State" "rightMatrix" "LSkewedSquare$Matrix;", .methodLink RX3 179 yX1_sumOfColumn, .instanceMethod yX1_sumOfColumn, .selects RX1 yX1_sumOfColumn yX1_sumOfColumn, .initialized RX1, .code yX1_sumOfColumn cX1_sumOfColumn 4 (some .int), .fieldLink RX1 9 "SkewedSquare$Matrix" "rows" "I", .methodLink RX1 42 yX1_at, .instanceMethod yX1_at, .selects RX1 yX1_at yX1_at, .code yX1_at cX1_at 3 (some .int), .fieldLink RX1 15 "SkewedSquare$Matrix" "columns" "I", .fieldLink RX1 18 "SkewedSquare$Matrix" "entries" "[I", .methodLink RX3 140 yX1_at] ++ wsX30 ++ wsX10)
def wsX3_suspectColumns_r1 : List Cond := [Cond.fieldLink RX3 28 "SkewedSquare$State" "results" "LSkewedSquare$Matrix;", Cond.fieldLink RX3 55 "SkewedSquare$Matrix" "columns" "I", Cond.methodLink RX3 176 yX1_isWholeInColumn, Cond.instanceMethod yX1_isWholeInColumn, Cond.selects RX1 yX1_isWholeInColumn yX1_isWholeInColumn, Cond.initialized RX1, Cond.code yX1_isWholeInColumn cX1_isWholeInColumn 3 (some .boolean), Cond.fieldLink RX1 9 "SkewedSquare$Matrix" "rows" "I", Cond.constant RX1 46 (-999999999), Cond.methodLink RX1 42 yX1_at, Cond.instanceMethod yX1_at, Cond.selects RX1 yX1_at yX1_at, Cond.code yX1_at cX1_at 3 (some .int), Cond.fieldLink RX1 15 "SkewedSquare$Matrix" "columns" "I", Cond.fieldLink RX1 18 "SkewedSquare$Matrix" "entries" "[I", Cond.methodLink RX3 179 yX1_sumOfColumn, Cond.instanceMethod yX1_sumOfColumn, Cond.selects RX1 yX1_sumOfColumn yX1_sumOfColumn, Cond.code yX1_sumOfColumn cX1_sumOfColumn 4 (some .int), Cond.methodLink RX3 182 yX3_dueSumOfColumn, Cond.instanceMethod yX3_dueSumOfColumn, Cond.selects RX3 yX3_dueSumOfColumn yX3_dueSumOfColumn, Cond.initialized RX3, Cond.code yX3_dueSumOfColumn cX3_dueSumOfColumn 4 (some .int)]
def wsX3_suspectColumns_r2 : List Cond := [Cond.fieldLink RX3 21 "SkewedSquare$State" "leftMatrix" "LSkewedSquare$Matrix;", Cond.fieldLink RX3 25 "SkewedSquare$State" "rightMatrix" "LSkewedSquare$Matrix;", Cond.methodLink RX3 140 yX1_at]
def wsX3_suspectColumns : List Cond := .code yX3_suspectColumns cX3_suspectColumns 3 (some .int) :: ((wsX3_suspectColumns_r1 ++ wsX3_suspectColumns_r2) ++ wsX30 ++ wsX10)
def wsX4_init : List Cond := .code yX4_init cX4_init 1 none :: ([.methodLink RX4 3 objectInit, .instanceMethod objectInit, .code objectInit ⟨#[0xb1]⟩ 1 none, .arrayClass .char, .fieldLink RX4 9 "SkewedSquare$Text" "signs" "[C", .classLink RX4 15 RX1, .instantiable RX1 3, .initialized RX1, .fieldLink RX4 18 "SkewedSquare$Text" "matrix" "LSkewedSquare$Matrix;", .instanceMethod yX1_init, .code yX1_init cX1_init 1 none, .methodLink RX1 3 objectInit, .fieldLink RX1 9 "SkewedSquare$Matrix" "rows" "I", .fieldLink RX1 15 "SkewedSquare$Matrix" "columns" "I", .arrayClass .int, .fieldLink RX1 18 "SkewedSquare$Matrix" "entries" "[I"] ++ wsX40 ++ wsX10)
def wsX4_append : List Cond := .code yX4_append cX4_append 2 none :: ([.fieldLink RX4 22 "SkewedSquare$Text" "length" "I", .fieldLink RX4 9 "SkewedSquare$Text" "signs" "[C"] ++ wsX40)
def wsX4_startEntry : List Cond := .code yX4_startEntry cX4_startEntry 1 none :: ([.fieldLink RX4 55 "SkewedSquare$Text" "negative" "Z", .fieldLink RX4 59 "SkewedSquare$Text" "digits" "I", .fieldLink RX4 62 "SkewedSquare$Text" "value" "I"] ++ wsX40)
def wsX4_startScan_r1 : List Cond := [Cond.fieldLink RX4 18 "SkewedSquare$Text" "matrix" "LSkewedSquare$Matrix;", Cond.fieldLink RX4 29 "SkewedSquare$Text" "reason" "I", Cond.fieldLink RX4 43 "SkewedSquare$Text" "row" "I", Cond.fieldLink RX4 46 "SkewedSquare$Text" "column" "I", Cond.fieldLink RX4 49 "SkewedSquare$Text" "width" "I", Cond.methodLink RX4 39 yX1_renew, Cond.instanceMethod yX1_renew, Cond.selects RX1 yX1_renew yX1_renew, Cond.initialized RX1, Cond.code yX1_renew cX1_renew 4 none, Cond.fieldLink RX1 9 "SkewedSquare$Matrix" "rows" "I", Cond.fieldLink RX1 15 "SkewedSquare$Matrix" "columns" "I", Cond.fieldLink RX1 18 "SkewedSquare$Matrix" "entries" "[I", Cond.static yX6_isLength, Cond.initialized RX6, Cond.code yX6_isLength cX6_isLength 1 (some .boolean), Cond.methodLink RX1 30 yJ7_fill_53178, Cond.static yJ7_fill_53178, Cond.initialized RJ7, Cond.code yJ7_fill_53178 cJ7_fill_53178 4 none, Cond.methodLink RX4 52 yX4_startEntry, Cond.instanceMethod yX4_startEntry, Cond.selects RX4 yX4_startEntry yX4_startEntry, Cond.initialized RX4]
def wsX4_startScan_r2 : List Cond := [Cond.code yX4_startEntry cX4_startEntry 1 none, Cond.fieldLink RX4 55 "SkewedSquare$Text" "negative" "Z", Cond.fieldLink RX4 59 "SkewedSquare$Text" "digits" "I", Cond.fieldLink RX4 62 "SkewedSquare$Text" "value" "I"]
def wsX4_startScan : List Cond := .code yX4_startScan cX4_startScan 1 none :: ((wsX4_startScan_r1 ++ wsX4_startScan_r2) ++ wsX40 ++ wsX10)
def wsX4_setFault : List Cond := .code yX4_setFault cX4_setFault 3 none :: ([.fieldLink RX4 95 "SkewedSquare$Text" "faultPlace" "I", .fieldLink RX4 29 "SkewedSquare$Text" "reason" "I"] ++ wsX40)
def wsX4_endEntry : List Cond := .code yX4_endEntry cX4_endEntry 1 none :: ([.fieldLink RX4 18 "SkewedSquare$Text" "matrix" "LSkewedSquare$Matrix;", .fieldLink RX4 43 "SkewedSquare$Text" "row" "I", .fieldLink RX4 46 "SkewedSquare$Text" "column" "I", .fieldLink RX4 55 "SkewedSquare$Text" "negative" "Z", .fieldLink RX4 62 "SkewedSquare$Text" "value" "I", .methodLink RX4 92 yX1_put, .instanceMethod yX1_put, .selects RX1 yX1_put yX1_put, .initialized RX1, .code yX1_put cX1_put 4 none, .fieldLink RX1 18 "SkewedSquare$Matrix" "entries" "[I", .methodLink RX1 22 yX1_has, .instanceMethod yX1_has, .selects RX1 yX1_has yX1_has, .code yX1_has cX1_has 3 (some .boolean), .fieldLink RX1 9 "SkewedSquare$Matrix" "rows" "I", .fieldLink RX1 15 "SkewedSquare$Matrix" "columns" "I", .methodLink RX4 52 yX4_startEntry, .instanceMethod yX4_startEntry, .selects RX4 yX4_startEntry yX4_startEntry, .initialized RX4, .code yX4_startEntry cX4_startEntry 1 none, .fieldLink RX4 59 "SkewedSquare$Text" "digits" "I"] ++ wsX40 ++ wsX10)
def wsX4_scanComma_r1 : List Cond := [Cond.fieldLink RX4 46 "SkewedSquare$Text" "column" "I", Cond.fieldLink RX4 49 "SkewedSquare$Text" "width" "I", Cond.methodLink RX4 72 yX4_setFault, Cond.instanceMethod yX4_setFault, Cond.selects RX4 yX4_setFault yX4_setFault, Cond.initialized RX4, Cond.code yX4_setFault cX4_setFault 3 none, Cond.fieldLink RX4 95 "SkewedSquare$Text" "faultPlace" "I", Cond.fieldLink RX4 29 "SkewedSquare$Text" "reason" "I", Cond.methodLink RX4 76 yX4_endEntry, Cond.instanceMethod yX4_endEntry, Cond.selects RX4 yX4_endEntry yX4_endEntry, Cond.code yX4_endEntry cX4_endEntry 1 none, Cond.fieldLink RX4 18 "SkewedSquare$Text" "matrix" "LSkewedSquare$Matrix;", Cond.fieldLink RX4 43 "SkewedSquare$Text" "row" "I", Cond.fieldLink RX4 55 "SkewedSquare$Text" "negative" "Z", Cond.fieldLink RX4 62 "SkewedSquare$Text" "value" "I", Cond.methodLink RX4 92 yX1_put, Cond.instanceMethod yX1_put, Cond.selects RX1 yX1_put yX1_put, Cond.initialized RX1, Cond.code yX1_put cX1_put 4 none, Cond.fieldLink RX1 18 "SkewedSquare$Matrix" "entries" "[I", Cond.methodLink RX1 22 yX1_has]
def wsX4_scanComma_r2 : List Cond := [Cond.instanceMethod yX1_has, Cond.selects RX1 yX1_has yX1_has, Cond.code yX1_has cX1_has 3 (some .boolean), Cond.fieldLink RX1 9 "SkewedSquare$Matrix" "rows" "I", Cond.fieldLink RX1 15 "SkewedSquare$Matrix" "columns" "I", Cond.methodLink RX4 52 yX4_startEntry, Cond.instanceMethod yX4_startEntry, Cond.selects RX4 yX4_startEntry yX4_startEntry, Cond.code yX4_startEntry cX4_startEntry 1 none, Cond.fieldLink RX4 59 "SkewedSquare$Text" "digits" "I"]
def wsX4_scanComma : List Cond := .code yX4_scanComma cX4_scanComma 2 none :: ((wsX4_scanComma_r1 ++ wsX4_scanComma_r2) ++ wsX40 ++ wsX10)
def wsX4_rowIsShort : List Cond := .code yX4_rowIsShort cX4_rowIsShort 1 (some .boolean) :: ([.fieldLink RX4 43 "SkewedSquare$Text" "row" "I", .fieldLink RX4 46 "SkewedSquare$Text" "column" "I", .fieldLink RX4 49 "SkewedSquare$Text" "width" "I"] ++ wsX40)
def wsX4_endRow : List Cond := .code yX4_endRow cX4_endRow 1 none :: ([.fieldLink RX4 43 "SkewedSquare$Text" "row" "I", .fieldLink RX4 46 "SkewedSquare$Text" "column" "I", .fieldLink RX4 49 "SkewedSquare$Text" "width" "I"] ++ wsX40)
def wsX4_scanSemicolon_r1 : List Cond := [Cond.fieldLink RX4 43 "SkewedSquare$Text" "row" "I", Cond.fieldLink RX4 46 "SkewedSquare$Text" "column" "I", Cond.methodLink RX4 79 yX4_rowIsShort, Cond.instanceMethod yX4_rowIsShort, Cond.selects RX4 yX4_rowIsShort yX4_rowIsShort, Cond.initialized RX4, Cond.code yX4_rowIsShort cX4_rowIsShort 1 (some .boolean), Cond.fieldLink RX4 49 "SkewedSquare$Text" "width" "I", Cond.methodLink RX4 72 yX4_setFault, Cond.instanceMethod yX4_setFault, Cond.selects RX4 yX4_setFault yX4_setFault, Cond.code yX4_setFault cX4_setFault 3 none, Cond.fieldLink RX4 95 "SkewedSquare$Text" "faultPlace" "I", Cond.fieldLink RX4 29 "SkewedSquare$Text" "reason" "I", Cond.methodLink RX4 76 yX4_endEntry, Cond.instanceMethod yX4_endEntry, Cond.selects RX4 yX4_endEntry yX4_endEntry, Cond.code yX4_endEntry cX4_endEntry 1 none, Cond.fieldLink RX4 18 "SkewedSquare$Text" "matrix" "LSkewedSquare$Matrix;", Cond.fieldLink RX4 55 "SkewedSquare$Text" "negative" "Z", Cond.fieldLink RX4 62 "SkewedSquare$Text" "value" "I", Cond.methodLink RX4 92 yX1_put, Cond.instanceMethod yX1_put, Cond.selects RX1 yX1_put yX1_put]
def wsX4_scanSemicolon_r2 : List Cond := [Cond.initialized RX1, Cond.code yX1_put cX1_put 4 none, Cond.fieldLink RX1 18 "SkewedSquare$Matrix" "entries" "[I", Cond.methodLink RX1 22 yX1_has, Cond.instanceMethod yX1_has, Cond.selects RX1 yX1_has yX1_has, Cond.code yX1_has cX1_has 3 (some .boolean), Cond.fieldLink RX1 9 "SkewedSquare$Matrix" "rows" "I", Cond.fieldLink RX1 15 "SkewedSquare$Matrix" "columns" "I", Cond.methodLink RX4 52 yX4_startEntry, Cond.instanceMethod yX4_startEntry, Cond.selects RX4 yX4_startEntry yX4_startEntry, Cond.code yX4_startEntry cX4_startEntry 1 none, Cond.fieldLink RX4 59 "SkewedSquare$Text" "digits" "I", Cond.methodLink RX4 83 yX4_endRow, Cond.instanceMethod yX4_endRow, Cond.selects RX4 yX4_endRow yX4_endRow, Cond.code yX4_endRow cX4_endRow 1 none]
def wsX4_scanSemicolon : List Cond := .code yX4_scanSemicolon cX4_scanSemicolon 2 none :: ((wsX4_scanSemicolon_r1 ++ wsX4_scanSemicolon_r2) ++ wsX40 ++ wsX10)
def wsX4_scanSign_r1 : List Cond := [Cond.fieldLink RX4 59 "SkewedSquare$Text" "digits" "I", Cond.fieldLink RX4 62 "SkewedSquare$Text" "value" "I", Cond.fieldLink RX4 55 "SkewedSquare$Text" "negative" "Z", Cond.methodLink RX4 65 yX4_scanComma, Cond.instanceMethod yX4_scanComma, Cond.selects RX4 yX4_scanComma yX4_scanComma, Cond.initialized RX4, Cond.code yX4_scanComma cX4_scanComma 2 none, Cond.fieldLink RX4 46 "SkewedSquare$Text" "column" "I", Cond.fieldLink RX4 49 "SkewedSquare$Text" "width" "I", Cond.methodLink RX4 72 yX4_setFault, Cond.instanceMethod yX4_setFault, Cond.selects RX4 yX4_setFault yX4_setFault, Cond.code yX4_setFault cX4_setFault 3 none, Cond.fieldLink RX4 95 "SkewedSquare$Text" "faultPlace" "I", Cond.fieldLink RX4 29 "SkewedSquare$Text" "reason" "I", Cond.methodLink RX4 76 yX4_endEntry, Cond.instanceMethod yX4_endEntry, Cond.selects RX4 yX4_endEntry yX4_endEntry, Cond.code yX4_endEntry cX4_endEntry 1 none, Cond.fieldLink RX4 18 "SkewedSquare$Text" "matrix" "LSkewedSquare$Matrix;", Cond.fieldLink RX4 43 "SkewedSquare$Text" "row" "I", Cond.methodLink RX4 92 yX1_put, Cond.instanceMethod yX1_put]
def wsX4_scanSign_r2 : List Cond := [Cond.selects RX1 yX1_put yX1_put, Cond.initialized RX1, Cond.code yX1_put cX1_put 4 none, Cond.fieldLink RX1 18 "SkewedSquare$Matrix" "entries" "[I", Cond.methodLink RX1 22 yX1_has, Cond.instanceMethod yX1_has, Cond.selects RX1 yX1_has yX1_has, Cond.code yX1_has cX1_has 3 (some .boolean), Cond.fieldLink RX1 9 "SkewedSquare$Matrix" "rows" "I", Cond.fieldLink RX1 15 "SkewedSquare$Matrix" "columns" "I", Cond.methodLink RX4 52 yX4_startEntry, Cond.instanceMethod yX4_startEntry, Cond.selects RX4 yX4_startEntry yX4_startEntry, Cond.code yX4_startEntry cX4_startEntry 1 none, Cond.methodLink RX4 69 yX4_scanSemicolon, Cond.instanceMethod yX4_scanSemicolon, Cond.selects RX4 yX4_scanSemicolon yX4_scanSemicolon, Cond.code yX4_scanSemicolon cX4_scanSemicolon 2 none, Cond.methodLink RX4 79 yX4_rowIsShort, Cond.instanceMethod yX4_rowIsShort, Cond.selects RX4 yX4_rowIsShort yX4_rowIsShort, Cond.code yX4_rowIsShort cX4_rowIsShort 1 (some .boolean), Cond.methodLink RX4 83 yX4_endRow, Cond.instanceMethod yX4_endRow]
def wsX4_scanSign_r3 : List Cond := [Cond.selects RX4 yX4_endRow yX4_endRow, Cond.code yX4_endRow cX4_endRow 1 none]
def wsX4_scanSign : List Cond := .code yX4_scanSign cX4_scanSign 3 none :: ((wsX4_scanSign_r1 ++ (wsX4_scanSign_r2 ++ wsX4_scanSign_r3)) ++ wsX40 ++ wsX10)
def wsX4_finishScan_r1 : List Cond := [Cond.fieldLink RX4 59 "SkewedSquare$Text" "digits" "I", Cond.fieldLink RX4 22 "SkewedSquare$Text" "length" "I", Cond.fieldLink RX4 18 "SkewedSquare$Text" "matrix" "LSkewedSquare$Matrix;", Cond.fieldLink RX4 43 "SkewedSquare$Text" "row" "I", Cond.fieldLink RX4 86 "SkewedSquare$Matrix" "rows" "I", Cond.fieldLink RX4 49 "SkewedSquare$Text" "width" "I", Cond.fieldLink RX4 89 "SkewedSquare$Matrix" "columns" "I", Cond.methodLink RX4 72 yX4_setFault, Cond.instanceMethod yX4_setFault, Cond.selects RX4 yX4_setFault yX4_setFault, Cond.initialized RX4, Cond.code yX4_setFault cX4_setFault 3 none, Cond.fieldLink RX4 95 "SkewedSquare$Text" "faultPlace" "I", Cond.fieldLink RX4 29 "SkewedSquare$Text" "reason" "I", Cond.methodLink RX4 79 yX4_rowIsShort, Cond.instanceMethod yX4_rowIsShort, Cond.selects RX4 yX4_rowIsShort yX4_rowIsShort, Cond.code yX4_rowIsShort cX4_rowIsShort 1 (some .boolean), Cond.fieldLink RX4 46 "SkewedSquare$Text" "column" "I", Cond.methodLink RX4 76 yX4_endEntry, Cond.instanceMethod yX4_endEntry, Cond.selects RX4 yX4_endEntry yX4_endEntry, Cond.code yX4_endEntry cX4_endEntry 1 none, Cond.fieldLink RX4 55 "SkewedSquare$Text" "negative" "Z"]
def wsX4_finishScan_r2 : List Cond := [Cond.fieldLink RX4 62 "SkewedSquare$Text" "value" "I", Cond.methodLink RX4 92 yX1_put, Cond.instanceMethod yX1_put, Cond.selects RX1 yX1_put yX1_put, Cond.initialized RX1, Cond.code yX1_put cX1_put 4 none, Cond.fieldLink RX1 18 "SkewedSquare$Matrix" "entries" "[I", Cond.methodLink RX1 22 yX1_has, Cond.instanceMethod yX1_has, Cond.selects RX1 yX1_has yX1_has, Cond.code yX1_has cX1_has 3 (some .boolean), Cond.fieldLink RX1 9 "SkewedSquare$Matrix" "rows" "I", Cond.fieldLink RX1 15 "SkewedSquare$Matrix" "columns" "I", Cond.methodLink RX4 52 yX4_startEntry, Cond.instanceMethod yX4_startEntry, Cond.selects RX4 yX4_startEntry yX4_startEntry, Cond.code yX4_startEntry cX4_startEntry 1 none, Cond.methodLink RX4 83 yX4_endRow, Cond.instanceMethod yX4_endRow, Cond.selects RX4 yX4_endRow yX4_endRow, Cond.code yX4_endRow cX4_endRow 1 none]
def wsX4_finishScan : List Cond := .code yX4_finishScan cX4_finishScan 1 none :: ((wsX4_finishScan_r1 ++ wsX4_finishScan_r2) ++ wsX40 ++ wsX10)
def wsX4_scan_r1 : List Cond := [Cond.fieldLink RX4 22 "SkewedSquare$Text" "length" "I", Cond.fieldLink RX4 9 "SkewedSquare$Text" "signs" "[C", Cond.fieldLink RX4 29 "SkewedSquare$Text" "reason" "I", Cond.methodLink RX4 26 yX4_startScan, Cond.instanceMethod yX4_startScan, Cond.selects RX4 yX4_startScan yX4_startScan, Cond.initialized RX4, Cond.code yX4_startScan cX4_startScan 1 none, Cond.fieldLink RX4 18 "SkewedSquare$Text" "matrix" "LSkewedSquare$Matrix;", Cond.fieldLink RX4 43 "SkewedSquare$Text" "row" "I", Cond.fieldLink RX4 46 "SkewedSquare$Text" "column" "I", Cond.fieldLink RX4 49 "SkewedSquare$Text" "width" "I", Cond.methodLink RX4 39 yX1_renew, Cond.instanceMethod yX1_renew, Cond.selects RX1 yX1_renew yX1_renew, Cond.initialized RX1, Cond.code yX1_renew cX1_renew 4 none, Cond.fieldLink RX1 9 "SkewedSquare$Matrix" "rows" "I", Cond.fieldLink RX1 15 "SkewedSquare$Matrix" "columns" "I", Cond.fieldLink RX1 18 "SkewedSquare$Matrix" "entries" "[I", Cond.static yX6_isLength, Cond.initialized RX6, Cond.code yX6_isLength cX6_isLength 1 (some .boolean), Cond.methodLink RX1 30 yJ7_fill_53178]
def wsX4_scan_r2 : List Cond := [Cond.static yJ7_fill_53178, Cond.initialized RJ7, Cond.code yJ7_fill_53178 cJ7_fill_53178 4 none, Cond.methodLink RX4 52 yX4_startEntry, Cond.instanceMethod yX4_startEntry, Cond.selects RX4 yX4_startEntry yX4_startEntry, Cond.code yX4_startEntry cX4_startEntry 1 none, Cond.fieldLink RX4 55 "SkewedSquare$Text" "negative" "Z", Cond.fieldLink RX4 59 "SkewedSquare$Text" "digits" "I", Cond.fieldLink RX4 62 "SkewedSquare$Text" "value" "I", Cond.methodLink RX4 32 yX4_scanSign, Cond.instanceMethod yX4_scanSign, Cond.selects RX4 yX4_scanSign yX4_scanSign, Cond.code yX4_scanSign cX4_scanSign 3 none, Cond.methodLink RX4 65 yX4_scanComma, Cond.instanceMethod yX4_scanComma, Cond.selects RX4 yX4_scanComma yX4_scanComma, Cond.code yX4_scanComma cX4_scanComma 2 none, Cond.methodLink RX4 72 yX4_setFault, Cond.instanceMethod yX4_setFault, Cond.selects RX4 yX4_setFault yX4_setFault, Cond.code yX4_setFault cX4_setFault 3 none, Cond.fieldLink RX4 95 "SkewedSquare$Text" "faultPlace" "I", Cond.methodLink RX4 76 yX4_endEntry]
def wsX4_scan_r3 : List Cond := [Cond.instanceMethod yX4_endEntry, Cond.selects RX4 yX4_endEntry yX4_endEntry, Cond.code yX4_endEntry cX4_endEntry 1 none, Cond.methodLink RX4 92 yX1_put, Cond.instanceMethod yX1_put, Cond.selects RX1 yX1_put yX1_put, Cond.code yX1_put cX1_put 4 none, Cond.methodLink RX1 22 yX1_has, Cond.instanceMethod yX1_has, Cond.selects RX1 yX1_has yX1_has, Cond.code yX1_has cX1_has 3 (some .boolean), Cond.methodLink RX4 69 yX4_scanSemicolon, Cond.instanceMethod yX4_scanSemicolon, Cond.selects RX4 yX4_scanSemicolon yX4_scanSemicolon, Cond.code yX4_scanSemicolon cX4_scanSemicolon 2 none, Cond.methodLink RX4 79 yX4_rowIsShort, Cond.instanceMethod yX4_rowIsShort, Cond.selects RX4 yX4_rowIsShort yX4_rowIsShort, Cond.code yX4_rowIsShort cX4_rowIsShort 1 (some .boolean), Cond.methodLink RX4 83 yX4_endRow, Cond.instanceMethod yX4_endRow, Cond.selects RX4 yX4_endRow yX4_endRow, Cond.code yX4_endRow cX4_endRow 1 none, Cond.methodLink RX4 36 yX4_finishScan]
def wsX4_scan_r4 : List Cond := [Cond.instanceMethod yX4_finishScan, Cond.selects RX4 yX4_finishScan yX4_finishScan, Cond.code yX4_finishScan cX4_finishScan 1 none, Cond.fieldLink RX4 86 "SkewedSquare$Matrix" "rows" "I", Cond.fieldLink RX4 89 "SkewedSquare$Matrix" "columns" "I"]
def wsX4_scan : List Cond := .code yX4_scan cX4_scan 2 none :: ((wsX4_scan_r1 ++ (wsX4_scan_r2 ++ (wsX4_scan_r3 ++ wsX4_scan_r4))) ++ wsX40 ++ wsX10)
def wsX5_meetingsOf : List Cond := .code yX5_meetingsOf cX5_meetingsOf 2 (some .int) :: ([.fieldLink RX5 15 "SkewedSquare$Tile" "meetings" "[I", .methodLink RX5 38 yX5_isCell, .static yX5_isCell, .initialized RX5, .code yX5_isCell cX5_isCell 1 (some .boolean)] ++ wsX50)
def wsX6_init_r1 : List Cond := [Cond.methodLink RX6 1 objectInit, Cond.instanceMethod objectInit, Cond.code objectInit ⟨#[0xb1]⟩ 1 none, Cond.classLink RX6 7 RX3, Cond.instantiable RX3 5, Cond.initialized RX3, Cond.fieldLink RX6 10 "SkewedSquare" "now" "LSkewedSquare$State;", Cond.fieldLink RX6 16 "SkewedSquare" "trial" "LSkewedSquare$State;", Cond.classLink RX6 19 RX0, Cond.instantiable RX0 2, Cond.initialized RX0, Cond.fieldLink RX6 22 "SkewedSquare" "history" "LSkewedSquare$History;", Cond.classLink RX6 26 RX4, Cond.instantiable RX4 11, Cond.initialized RX4, Cond.fieldLink RX6 29 "SkewedSquare" "text" "LSkewedSquare$Text;", Cond.methodLink RX6 9 yX3_init, Cond.instanceMethod yX3_init, Cond.code yX3_init cX3_init 1 none, Cond.methodLink RX3 3 objectInit, Cond.classLink RX3 9 RX2, Cond.instantiable RX2 3, Cond.initialized RX2, Cond.fieldLink RX3 12 "SkewedSquare$State" "square" "LSkewedSquare$Square;"]
def wsX6_init_r2 : List Cond := [Cond.classLink RX3 18 RX1, Cond.instantiable RX1 3, Cond.initialized RX1, Cond.fieldLink RX3 21 "SkewedSquare$State" "leftMatrix" "LSkewedSquare$Matrix;", Cond.fieldLink RX3 25 "SkewedSquare$State" "rightMatrix" "LSkewedSquare$Matrix;", Cond.fieldLink RX3 28 "SkewedSquare$State" "results" "LSkewedSquare$Matrix;", Cond.classLink RX3 31 RX5, Cond.instantiable RX5 11, Cond.initialized RX5, Cond.fieldLink RX3 34 "SkewedSquare$State" "tile" "LSkewedSquare$Tile;", Cond.instanceMethod yX2_init, Cond.code yX2_init cX2_init 1 none, Cond.methodLink RX2 3 objectInit, Cond.fieldLink RX2 9 "SkewedSquare$Square" "side" "I", Cond.fieldLink RX2 15 "SkewedSquare$Square" "leftOut" "I", Cond.arrayClass .int, Cond.fieldLink RX2 18 "SkewedSquare$Square" "kinds" "[I", Cond.instanceMethod yX1_init, Cond.code yX1_init cX1_init 1 none, Cond.methodLink RX1 3 objectInit, Cond.fieldLink RX1 9 "SkewedSquare$Matrix" "rows" "I", Cond.fieldLink RX1 15 "SkewedSquare$Matrix" "columns" "I", Cond.fieldLink RX1 18 "SkewedSquare$Matrix" "entries" "[I", Cond.instanceMethod yX5_init]
def wsX6_init_r3 : List Cond := [Cond.code yX5_init cX5_init 1 none, Cond.methodLink RX5 3 objectInit, Cond.fieldLink RX5 9 "SkewedSquare$Tile" "sums" "[I", Cond.fieldLink RX5 15 "SkewedSquare$Tile" "meetings" "[I", Cond.fieldLink RX5 18 "SkewedSquare$Tile" "rightward" "[I", Cond.fieldLink RX5 21 "SkewedSquare$Tile" "downward" "[I", Cond.methodLink RX3 38 yX3_forgetResults, Cond.instanceMethod yX3_forgetResults, Cond.selects RX3 yX3_forgetResults yX3_forgetResults, Cond.code yX3_forgetResults cX3_forgetResults 1 none, Cond.fieldLink RX3 51 "SkewedSquare$Matrix" "rows" "I", Cond.fieldLink RX3 55 "SkewedSquare$Matrix" "columns" "I", Cond.constant RX3 58 (-999999999), Cond.methodLink RX3 59 yX1_renew, Cond.instanceMethod yX1_renew, Cond.selects RX1 yX1_renew yX1_renew, Cond.code yX1_renew cX1_renew 4 none, Cond.static yX6_isLength, Cond.initialized RX6, Cond.code yX6_isLength cX6_isLength 1 (some .boolean), Cond.methodLink RX1 30 yJ7_fill_53178, Cond.static yJ7_fill_53178, Cond.initialized RJ7, Cond.code yJ7_fill_53178 cJ7_fill_53178 4 none]
def wsX6_init_r4 : List Cond := [Cond.methodLink RX6 21 yX0_init, Cond.instanceMethod yX0_init, Cond.code yX0_init cX0_init 2 none, Cond.methodLink RX0 3 objectInit, Cond.classLink RX0 9 RX3, Cond.fieldLink RX0 11 "SkewedSquare$History" "states" "[LSkewedSquare$State;", Cond.methodLink RX0 17 yX3_init, Cond.instanceMethod yX4_init, Cond.code yX4_init cX4_init 1 none, Cond.methodLink RX4 3 objectInit, Cond.arrayClass .char, Cond.fieldLink RX4 9 "SkewedSquare$Text" "signs" "[C", Cond.classLink RX4 15 RX1, Cond.fieldLink RX4 18 "SkewedSquare$Text" "matrix" "LSkewedSquare$Matrix;"]
def wsX6_init : List Cond := .code yX6_init cX6_init 1 none :: ((wsX6_init_r1 ++ (wsX6_init_r2 ++ (wsX6_init_r3 ++ wsX6_init_r4))) ++ wsX30 ++ wsX60 ++ wsX00 ++ wsX40 ++ wsX20 ++ wsX10 ++ wsX50)
def wsX6_side_r1 : List Cond := [Cond.constant RX6 33 (-1000001), Cond.fieldLink RX6 22 "SkewedSquare" "history" "LSkewedSquare$History;", Cond.fieldLink RX6 10 "SkewedSquare" "now" "LSkewedSquare$State;", Cond.fieldLink RX6 38 "SkewedSquare$State" "square" "LSkewedSquare$Square;", Cond.fieldLink RX6 42 "SkewedSquare$Square" "side" "I", Cond.fieldLink RX6 52 "SkewedSquare$State" "tile" "LSkewedSquare$Tile;", Cond.fieldLink RX6 56 "SkewedSquare$Tile" "begun" "Z", Cond.methodLink RX6 34 yX0_remember, Cond.instanceMethod yX0_remember, Cond.selects RX0 yX0_remember yX0_remember, Cond.initialized RX0, Cond.code yX0_remember cX0_remember 2 none, Cond.fieldLink RX0 18 "SkewedSquare$History" "size" "I", Cond.fieldLink RX0 11 "SkewedSquare$History" "states" "[LSkewedSquare$State;", Cond.methodLink RX0 22 yX0_dropOldest, Cond.instanceMethod yX0_dropOldest, Cond.selects RX0 yX0_dropOldest yX0_dropOldest, Cond.code yX0_dropOldest cX0_dropOldest 3 none, Cond.methodLink RX0 25 yX3_copyFrom, Cond.instanceMethod yX3_copyFrom, Cond.selects RX3 yX3_copyFrom yX3_copyFrom, Cond.initialized RX3, Cond.code yX3_copyFrom cX3_copyFrom 2 none, Cond.fieldLink RX3 12 "SkewedSquare$State" "square" "LSkewedSquare$Square;"]
def wsX6_side_r2 : List Cond := [Cond.fieldLink RX3 21 "SkewedSquare$State" "leftMatrix" "LSkewedSquare$Matrix;", Cond.fieldLink RX3 25 "SkewedSquare$State" "rightMatrix" "LSkewedSquare$Matrix;", Cond.fieldLink RX3 28 "SkewedSquare$State" "results" "LSkewedSquare$Matrix;", Cond.fieldLink RX3 34 "SkewedSquare$State" "tile" "LSkewedSquare$Tile;", Cond.methodLink RX3 41 yX2_copyFrom, Cond.instanceMethod yX2_copyFrom, Cond.selects RX2 yX2_copyFrom yX2_copyFrom, Cond.initialized RX2, Cond.code yX2_copyFrom cX2_copyFrom 2 none, Cond.fieldLink RX2 9 "SkewedSquare$Square" "side" "I", Cond.fieldLink RX2 15 "SkewedSquare$Square" "leftOut" "I", Cond.fieldLink RX2 18 "SkewedSquare$Square" "kinds" "[I", Cond.methodLink RX2 36 arraycopyName, Cond.native arraycopyName, Cond.static arraycopyName, Cond.initialized "java/lang/System", Cond.methodLink RX3 45 yX1_copyFrom, Cond.instanceMethod yX1_copyFrom, Cond.selects RX1 yX1_copyFrom yX1_copyFrom, Cond.initialized RX1, Cond.code yX1_copyFrom cX1_copyFrom 2 none, Cond.fieldLink RX1 9 "SkewedSquare$Matrix" "rows" "I", Cond.fieldLink RX1 15 "SkewedSquare$Matrix" "columns" "I", Cond.fieldLink RX1 18 "SkewedSquare$Matrix" "entries" "[I"]
def wsX6_side_r3 : List Cond := [Cond.methodLink RX1 36 arraycopyName, Cond.methodLink RX3 48 yX5_copyFrom, Cond.instanceMethod yX5_copyFrom, Cond.selects RX5 yX5_copyFrom yX5_copyFrom, Cond.initialized RX5, Cond.code yX5_copyFrom cX5_copyFrom 2 none, Cond.fieldLink RX5 49 "SkewedSquare$Tile" "begun" "Z", Cond.fieldLink RX5 53 "SkewedSquare$Tile" "row" "I", Cond.fieldLink RX5 56 "SkewedSquare$Tile" "column" "I", Cond.fieldLink RX5 59 "SkewedSquare$Tile" "height" "I", Cond.fieldLink RX5 62 "SkewedSquare$Tile" "width" "I", Cond.fieldLink RX5 31 "SkewedSquare$Tile" "ticks" "I", Cond.fieldLink RX5 35 "SkewedSquare$Tile" "ticksNeeded" "I", Cond.fieldLink RX5 9 "SkewedSquare$Tile" "sums" "[I", Cond.methodLink RX5 65 arraycopyName, Cond.fieldLink RX5 15 "SkewedSquare$Tile" "meetings" "[I", Cond.fieldLink RX5 18 "SkewedSquare$Tile" "rightward" "[I", Cond.fieldLink RX5 21 "SkewedSquare$Tile" "downward" "[I", Cond.methodLink RX6 48 yX2_renew, Cond.instanceMethod yX2_renew, Cond.selects RX2 yX2_renew yX2_renew, Cond.code yX2_renew cX2_renew 2 none, Cond.methodLink RX2 22 yJ7_fill_53178, Cond.static yJ7_fill_53178]
def wsX6_side_r4 : List Cond := [Cond.initialized RJ7, Cond.code yJ7_fill_53178 cJ7_fill_53178 4 none, Cond.methodLink RX6 62 yX3_forgetResults, Cond.instanceMethod yX3_forgetResults, Cond.selects RX3 yX3_forgetResults yX3_forgetResults, Cond.code yX3_forgetResults cX3_forgetResults 1 none, Cond.fieldLink RX3 51 "SkewedSquare$Matrix" "rows" "I", Cond.fieldLink RX3 55 "SkewedSquare$Matrix" "columns" "I", Cond.constant RX3 58 (-999999999), Cond.methodLink RX3 59 yX1_renew, Cond.instanceMethod yX1_renew, Cond.selects RX1 yX1_renew yX1_renew, Cond.code yX1_renew cX1_renew 4 none, Cond.static yX6_isLength, Cond.initialized RX6, Cond.code yX6_isLength cX6_isLength 1 (some .boolean), Cond.methodLink RX1 30 yJ7_fill_53178]
def wsX6_side : List Cond := .code yX6_side cX6_side 3 (some .int) :: ((wsX6_side_r1 ++ (wsX6_side_r2 ++ (wsX6_side_r3 ++ wsX6_side_r4))) ++ wsX60 ++ wsX30 ++ wsX20 ++ wsX50 ++ wsX00 ++ wsX10)
def wsX6_shape_r1 : List Cond := [Cond.constant RX6 33 (-1000001), Cond.fieldLink RX6 22 "SkewedSquare" "history" "LSkewedSquare$History;", Cond.fieldLink RX6 10 "SkewedSquare" "now" "LSkewedSquare$State;", Cond.fieldLink RX6 69 "SkewedSquare$State" "leftMatrix" "LSkewedSquare$Matrix;", Cond.fieldLink RX6 78 "SkewedSquare$State" "rightMatrix" "LSkewedSquare$Matrix;", Cond.fieldLink RX6 52 "SkewedSquare$State" "tile" "LSkewedSquare$Tile;", Cond.fieldLink RX6 56 "SkewedSquare$Tile" "begun" "Z", Cond.methodLink RX6 65 yX6_isLength, Cond.static yX6_isLength, Cond.initialized RX6, Cond.code yX6_isLength cX6_isLength 1 (some .boolean), Cond.methodLink RX6 34 yX0_remember, Cond.instanceMethod yX0_remember, Cond.selects RX0 yX0_remember yX0_remember, Cond.initialized RX0, Cond.code yX0_remember cX0_remember 2 none, Cond.fieldLink RX0 18 "SkewedSquare$History" "size" "I", Cond.fieldLink RX0 11 "SkewedSquare$History" "states" "[LSkewedSquare$State;", Cond.methodLink RX0 22 yX0_dropOldest, Cond.instanceMethod yX0_dropOldest, Cond.selects RX0 yX0_dropOldest yX0_dropOldest, Cond.code yX0_dropOldest cX0_dropOldest 3 none, Cond.methodLink RX0 25 yX3_copyFrom, Cond.instanceMethod yX3_copyFrom]
def wsX6_shape_r2 : List Cond := [Cond.selects RX3 yX3_copyFrom yX3_copyFrom, Cond.initialized RX3, Cond.code yX3_copyFrom cX3_copyFrom 2 none, Cond.fieldLink RX3 12 "SkewedSquare$State" "square" "LSkewedSquare$Square;", Cond.fieldLink RX3 21 "SkewedSquare$State" "leftMatrix" "LSkewedSquare$Matrix;", Cond.fieldLink RX3 25 "SkewedSquare$State" "rightMatrix" "LSkewedSquare$Matrix;", Cond.fieldLink RX3 28 "SkewedSquare$State" "results" "LSkewedSquare$Matrix;", Cond.fieldLink RX3 34 "SkewedSquare$State" "tile" "LSkewedSquare$Tile;", Cond.methodLink RX3 41 yX2_copyFrom, Cond.instanceMethod yX2_copyFrom, Cond.selects RX2 yX2_copyFrom yX2_copyFrom, Cond.initialized RX2, Cond.code yX2_copyFrom cX2_copyFrom 2 none, Cond.fieldLink RX2 9 "SkewedSquare$Square" "side" "I", Cond.fieldLink RX2 15 "SkewedSquare$Square" "leftOut" "I", Cond.fieldLink RX2 18 "SkewedSquare$Square" "kinds" "[I", Cond.methodLink RX2 36 arraycopyName, Cond.native arraycopyName, Cond.static arraycopyName, Cond.initialized "java/lang/System", Cond.methodLink RX3 45 yX1_copyFrom, Cond.instanceMethod yX1_copyFrom, Cond.selects RX1 yX1_copyFrom yX1_copyFrom, Cond.initialized RX1]
def wsX6_shape_r3 : List Cond := [Cond.code yX1_copyFrom cX1_copyFrom 2 none, Cond.fieldLink RX1 9 "SkewedSquare$Matrix" "rows" "I", Cond.fieldLink RX1 15 "SkewedSquare$Matrix" "columns" "I", Cond.fieldLink RX1 18 "SkewedSquare$Matrix" "entries" "[I", Cond.methodLink RX1 36 arraycopyName, Cond.methodLink RX3 48 yX5_copyFrom, Cond.instanceMethod yX5_copyFrom, Cond.selects RX5 yX5_copyFrom yX5_copyFrom, Cond.initialized RX5, Cond.code yX5_copyFrom cX5_copyFrom 2 none, Cond.fieldLink RX5 49 "SkewedSquare$Tile" "begun" "Z", Cond.fieldLink RX5 53 "SkewedSquare$Tile" "row" "I", Cond.fieldLink RX5 56 "SkewedSquare$Tile" "column" "I", Cond.fieldLink RX5 59 "SkewedSquare$Tile" "height" "I", Cond.fieldLink RX5 62 "SkewedSquare$Tile" "width" "I", Cond.fieldLink RX5 31 "SkewedSquare$Tile" "ticks" "I", Cond.fieldLink RX5 35 "SkewedSquare$Tile" "ticksNeeded" "I", Cond.fieldLink RX5 9 "SkewedSquare$Tile" "sums" "[I", Cond.methodLink RX5 65 arraycopyName, Cond.fieldLink RX5 15 "SkewedSquare$Tile" "meetings" "[I", Cond.fieldLink RX5 18 "SkewedSquare$Tile" "rightward" "[I", Cond.fieldLink RX5 21 "SkewedSquare$Tile" "downward" "[I", Cond.methodLink RX6 73 yX1_renew, Cond.instanceMethod yX1_renew]
def wsX6_shape_r4 : List Cond := [Cond.selects RX1 yX1_renew yX1_renew, Cond.code yX1_renew cX1_renew 4 none, Cond.methodLink RX1 30 yJ7_fill_53178, Cond.static yJ7_fill_53178, Cond.initialized RJ7, Cond.code yJ7_fill_53178 cJ7_fill_53178 4 none, Cond.methodLink RX6 62 yX3_forgetResults, Cond.instanceMethod yX3_forgetResults, Cond.selects RX3 yX3_forgetResults yX3_forgetResults, Cond.code yX3_forgetResults cX3_forgetResults 1 none, Cond.fieldLink RX3 51 "SkewedSquare$Matrix" "rows" "I", Cond.fieldLink RX3 55 "SkewedSquare$Matrix" "columns" "I", Cond.constant RX3 58 (-999999999), Cond.methodLink RX3 59 yX1_renew, Cond.methodLink RX6 81 yX3_tiles, Cond.instanceMethod yX3_tiles, Cond.selects RX3 yX3_tiles yX3_tiles, Cond.code yX3_tiles cX3_tiles 1 (some .int), Cond.methodLink RX3 67 yX3_tilesDown, Cond.instanceMethod yX3_tilesDown, Cond.selects RX3 yX3_tilesDown yX3_tilesDown, Cond.code yX3_tilesDown cX3_tilesDown 1 (some .int), Cond.methodLink RX3 63 yX3_tilesAlong, Cond.instanceMethod yX3_tilesAlong]
def wsX6_shape_r5 : List Cond := [Cond.selects RX3 yX3_tilesAlong yX3_tilesAlong, Cond.code yX3_tilesAlong cX3_tilesAlong 2 (some .int), Cond.fieldLink RX3 74 "SkewedSquare$Square" "side" "I", Cond.methodLink RX3 71 yX3_tilesAcross, Cond.instanceMethod yX3_tilesAcross, Cond.selects RX3 yX3_tilesAcross yX3_tilesAcross, Cond.code yX3_tilesAcross cX3_tilesAcross 1 (some .int)]
def wsX6_shape : List Cond := .code yX6_shape cX6_shape 4 (some .int) :: ((wsX6_shape_r1 ++ (wsX6_shape_r2 ++ (wsX6_shape_r3 ++ (wsX6_shape_r4 ++ wsX6_shape_r5)))) ++ wsX60 ++ wsX30 ++ wsX50 ++ wsX00 ++ wsX20 ++ wsX10)
def wsX6_setEntry_r1 : List Cond := [Cond.constant RX6 33 (-1000001), Cond.fieldLink RX6 10 "SkewedSquare" "now" "LSkewedSquare$State;", Cond.fieldLink RX6 52 "SkewedSquare$State" "tile" "LSkewedSquare$Tile;", Cond.fieldLink RX6 56 "SkewedSquare$Tile" "begun" "Z", Cond.constant RX6 93 (-1000002), Cond.fieldLink RX6 22 "SkewedSquare" "history" "LSkewedSquare$History;", Cond.methodLink RX6 129 yX1_has, Cond.instanceMethod yX1_has, Cond.selects RX1 yX1_has yX1_has, Cond.initialized RX1, Cond.code yX1_has cX1_has 3 (some .boolean), Cond.fieldLink RX1 9 "SkewedSquare$Matrix" "rows" "I", Cond.fieldLink RX1 15 "SkewedSquare$Matrix" "columns" "I", Cond.methodLink RX6 34 yX0_remember, Cond.instanceMethod yX0_remember, Cond.selects RX0 yX0_remember yX0_remember, Cond.initialized RX0, Cond.code yX0_remember cX0_remember 2 none, Cond.fieldLink RX0 18 "SkewedSquare$History" "size" "I", Cond.fieldLink RX0 11 "SkewedSquare$History" "states" "[LSkewedSquare$State;", Cond.methodLink RX0 22 yX0_dropOldest, Cond.instanceMethod yX0_dropOldest, Cond.selects RX0 yX0_dropOldest yX0_dropOldest, Cond.code yX0_dropOldest cX0_dropOldest 3 none]
def wsX6_setEntry_r2 : List Cond := [Cond.methodLink RX0 25 yX3_copyFrom, Cond.instanceMethod yX3_copyFrom, Cond.selects RX3 yX3_copyFrom yX3_copyFrom, Cond.initialized RX3, Cond.code yX3_copyFrom cX3_copyFrom 2 none, Cond.fieldLink RX3 12 "SkewedSquare$State" "square" "LSkewedSquare$Square;", Cond.fieldLink RX3 21 "SkewedSquare$State" "leftMatrix" "LSkewedSquare$Matrix;", Cond.fieldLink RX3 25 "SkewedSquare$State" "rightMatrix" "LSkewedSquare$Matrix;", Cond.fieldLink RX3 28 "SkewedSquare$State" "results" "LSkewedSquare$Matrix;", Cond.fieldLink RX3 34 "SkewedSquare$State" "tile" "LSkewedSquare$Tile;", Cond.methodLink RX3 41 yX2_copyFrom, Cond.instanceMethod yX2_copyFrom, Cond.selects RX2 yX2_copyFrom yX2_copyFrom, Cond.initialized RX2, Cond.code yX2_copyFrom cX2_copyFrom 2 none, Cond.fieldLink RX2 9 "SkewedSquare$Square" "side" "I", Cond.fieldLink RX2 15 "SkewedSquare$Square" "leftOut" "I", Cond.fieldLink RX2 18 "SkewedSquare$Square" "kinds" "[I", Cond.methodLink RX2 36 arraycopyName, Cond.native arraycopyName, Cond.static arraycopyName, Cond.initialized "java/lang/System", Cond.methodLink RX3 45 yX1_copyFrom, Cond.instanceMethod yX1_copyFrom]
def wsX6_setEntry_r3 : List Cond := [Cond.selects RX1 yX1_copyFrom yX1_copyFrom, Cond.code yX1_copyFrom cX1_copyFrom 2 none, Cond.fieldLink RX1 18 "SkewedSquare$Matrix" "entries" "[I", Cond.methodLink RX1 36 arraycopyName, Cond.methodLink RX3 48 yX5_copyFrom, Cond.instanceMethod yX5_copyFrom, Cond.selects RX5 yX5_copyFrom yX5_copyFrom, Cond.initialized RX5, Cond.code yX5_copyFrom cX5_copyFrom 2 none, Cond.fieldLink RX5 49 "SkewedSquare$Tile" "begun" "Z", Cond.fieldLink RX5 53 "SkewedSquare$Tile" "row" "I", Cond.fieldLink RX5 56 "SkewedSquare$Tile" "column" "I", Cond.fieldLink RX5 59 "SkewedSquare$Tile" "height" "I", Cond.fieldLink RX5 62 "SkewedSquare$Tile" "width" "I", Cond.fieldLink RX5 31 "SkewedSquare$Tile" "ticks" "I", Cond.fieldLink RX5 35 "SkewedSquare$Tile" "ticksNeeded" "I", Cond.fieldLink RX5 9 "SkewedSquare$Tile" "sums" "[I", Cond.methodLink RX5 65 arraycopyName, Cond.fieldLink RX5 15 "SkewedSquare$Tile" "meetings" "[I", Cond.fieldLink RX5 18 "SkewedSquare$Tile" "rightward" "[I", Cond.fieldLink RX5 21 "SkewedSquare$Tile" "downward" "[I", Cond.methodLink RX6 130 yX1_at, Cond.instanceMethod yX1_at, Cond.selects RX1 yX1_at yX1_at]
def wsX6_setEntry_r4 : List Cond := [Cond.code yX1_at cX1_at 3 (some .int), Cond.methodLink RX6 217 yX1_put, Cond.instanceMethod yX1_put, Cond.selects RX1 yX1_put yX1_put, Cond.code yX1_put cX1_put 4 none, Cond.methodLink RX1 22 yX1_has, Cond.methodLink RX6 62 yX3_forgetResults, Cond.instanceMethod yX3_forgetResults, Cond.selects RX3 yX3_forgetResults yX3_forgetResults, Cond.code yX3_forgetResults cX3_forgetResults 1 none, Cond.fieldLink RX3 51 "SkewedSquare$Matrix" "rows" "I", Cond.fieldLink RX3 55 "SkewedSquare$Matrix" "columns" "I", Cond.constant RX3 58 (-999999999), Cond.methodLink RX3 59 yX1_renew, Cond.instanceMethod yX1_renew, Cond.selects RX1 yX1_renew yX1_renew, Cond.code yX1_renew cX1_renew 4 none, Cond.static yX6_isLength, Cond.initialized RX6, Cond.code yX6_isLength cX6_isLength 1 (some .boolean), Cond.methodLink RX1 30 yJ7_fill_53178, Cond.static yJ7_fill_53178, Cond.initialized RJ7, Cond.code yJ7_fill_53178 cJ7_fill_53178 4 none]
def wsX6_setEntry : List Cond := .code yX6_setEntry cX6_setEntry 6 (some .int) :: ((wsX6_setEntry_r1 ++ (wsX6_setEntry_r2 ++ (wsX6_setEntry_r3 ++ wsX6_setEntry_r4))) ++ wsX60 ++ wsX30 ++ wsX50 ++ wsX10 ++ wsX00 ++ wsX20)
def wsX6_left_r1 : List Cond := [Cond.fieldLink RX6 10 "SkewedSquare" "now" "LSkewedSquare$State;", Cond.fieldLink RX6 69 "SkewedSquare$State" "leftMatrix" "LSkewedSquare$Matrix;", Cond.methodLink RX6 85 yX6_setEntry, Cond.instanceMethod yX6_setEntry, Cond.selects RX6 yX6_setEntry yX6_setEntry, Cond.initialized RX6, Cond.code yX6_setEntry cX6_setEntry 6 (some .int), Cond.constant RX6 33 (-1000001), Cond.fieldLink RX6 52 "SkewedSquare$State" "tile" "LSkewedSquare$Tile;", Cond.fieldLink RX6 56 "SkewedSquare$Tile" "begun" "Z", Cond.constant RX6 93 (-1000002), Cond.fieldLink RX6 22 "SkewedSquare" "history" "LSkewedSquare$History;", Cond.methodLink RX6 129 yX1_has, Cond.instanceMethod yX1_has, Cond.selects RX1 yX1_has yX1_has, Cond.initialized RX1, Cond.code yX1_has cX1_has 3 (some .boolean), Cond.fieldLink RX1 9 "SkewedSquare$Matrix" "rows" "I", Cond.fieldLink RX1 15 "SkewedSquare$Matrix" "columns" "I", Cond.methodLink RX6 34 yX0_remember, Cond.instanceMethod yX0_remember, Cond.selects RX0 yX0_remember yX0_remember, Cond.initialized RX0, Cond.code yX0_remember cX0_remember 2 none]
def wsX6_left_r2 : List Cond := [Cond.fieldLink RX0 18 "SkewedSquare$History" "size" "I", Cond.fieldLink RX0 11 "SkewedSquare$History" "states" "[LSkewedSquare$State;", Cond.methodLink RX0 22 yX0_dropOldest, Cond.instanceMethod yX0_dropOldest, Cond.selects RX0 yX0_dropOldest yX0_dropOldest, Cond.code yX0_dropOldest cX0_dropOldest 3 none, Cond.methodLink RX0 25 yX3_copyFrom, Cond.instanceMethod yX3_copyFrom, Cond.selects RX3 yX3_copyFrom yX3_copyFrom, Cond.initialized RX3, Cond.code yX3_copyFrom cX3_copyFrom 2 none, Cond.fieldLink RX3 12 "SkewedSquare$State" "square" "LSkewedSquare$Square;", Cond.fieldLink RX3 21 "SkewedSquare$State" "leftMatrix" "LSkewedSquare$Matrix;", Cond.fieldLink RX3 25 "SkewedSquare$State" "rightMatrix" "LSkewedSquare$Matrix;", Cond.fieldLink RX3 28 "SkewedSquare$State" "results" "LSkewedSquare$Matrix;", Cond.fieldLink RX3 34 "SkewedSquare$State" "tile" "LSkewedSquare$Tile;", Cond.methodLink RX3 41 yX2_copyFrom, Cond.instanceMethod yX2_copyFrom, Cond.selects RX2 yX2_copyFrom yX2_copyFrom, Cond.initialized RX2, Cond.code yX2_copyFrom cX2_copyFrom 2 none, Cond.fieldLink RX2 9 "SkewedSquare$Square" "side" "I", Cond.fieldLink RX2 15 "SkewedSquare$Square" "leftOut" "I", Cond.fieldLink RX2 18 "SkewedSquare$Square" "kinds" "[I"]
def wsX6_left_r3 : List Cond := [Cond.methodLink RX2 36 arraycopyName, Cond.native arraycopyName, Cond.static arraycopyName, Cond.initialized "java/lang/System", Cond.methodLink RX3 45 yX1_copyFrom, Cond.instanceMethod yX1_copyFrom, Cond.selects RX1 yX1_copyFrom yX1_copyFrom, Cond.code yX1_copyFrom cX1_copyFrom 2 none, Cond.fieldLink RX1 18 "SkewedSquare$Matrix" "entries" "[I", Cond.methodLink RX1 36 arraycopyName, Cond.methodLink RX3 48 yX5_copyFrom, Cond.instanceMethod yX5_copyFrom, Cond.selects RX5 yX5_copyFrom yX5_copyFrom, Cond.initialized RX5, Cond.code yX5_copyFrom cX5_copyFrom 2 none, Cond.fieldLink RX5 49 "SkewedSquare$Tile" "begun" "Z", Cond.fieldLink RX5 53 "SkewedSquare$Tile" "row" "I", Cond.fieldLink RX5 56 "SkewedSquare$Tile" "column" "I", Cond.fieldLink RX5 59 "SkewedSquare$Tile" "height" "I", Cond.fieldLink RX5 62 "SkewedSquare$Tile" "width" "I", Cond.fieldLink RX5 31 "SkewedSquare$Tile" "ticks" "I", Cond.fieldLink RX5 35 "SkewedSquare$Tile" "ticksNeeded" "I", Cond.fieldLink RX5 9 "SkewedSquare$Tile" "sums" "[I", Cond.methodLink RX5 65 arraycopyName]
def wsX6_left_r4 : List Cond := [Cond.fieldLink RX5 15 "SkewedSquare$Tile" "meetings" "[I", Cond.fieldLink RX5 18 "SkewedSquare$Tile" "rightward" "[I", Cond.fieldLink RX5 21 "SkewedSquare$Tile" "downward" "[I", Cond.methodLink RX6 130 yX1_at, Cond.instanceMethod yX1_at, Cond.selects RX1 yX1_at yX1_at, Cond.code yX1_at cX1_at 3 (some .int), Cond.methodLink RX6 217 yX1_put, Cond.instanceMethod yX1_put, Cond.selects RX1 yX1_put yX1_put, Cond.code yX1_put cX1_put 4 none, Cond.methodLink RX1 22 yX1_has, Cond.methodLink RX6 62 yX3_forgetResults, Cond.instanceMethod yX3_forgetResults, Cond.selects RX3 yX3_forgetResults yX3_forgetResults, Cond.code yX3_forgetResults cX3_forgetResults 1 none, Cond.fieldLink RX3 51 "SkewedSquare$Matrix" "rows" "I", Cond.fieldLink RX3 55 "SkewedSquare$Matrix" "columns" "I", Cond.constant RX3 58 (-999999999), Cond.methodLink RX3 59 yX1_renew, Cond.instanceMethod yX1_renew, Cond.selects RX1 yX1_renew yX1_renew, Cond.code yX1_renew cX1_renew 4 none, Cond.static yX6_isLength]
def wsX6_left_r5 : List Cond := [Cond.code yX6_isLength cX6_isLength 1 (some .boolean), Cond.methodLink RX1 30 yJ7_fill_53178, Cond.static yJ7_fill_53178, Cond.initialized RJ7, Cond.code yJ7_fill_53178 cJ7_fill_53178 4 none]
def wsX6_left : List Cond := .code yX6_left cX6_left 4 (some .int) :: ((wsX6_left_r1 ++ (wsX6_left_r2 ++ (wsX6_left_r3 ++ (wsX6_left_r4 ++ wsX6_left_r5)))) ++ wsX60 ++ wsX30 ++ wsX50 ++ wsX10 ++ wsX00 ++ wsX20)
def wsX6_right_r1 : List Cond := [Cond.fieldLink RX6 10 "SkewedSquare" "now" "LSkewedSquare$State;", Cond.fieldLink RX6 78 "SkewedSquare$State" "rightMatrix" "LSkewedSquare$Matrix;", Cond.methodLink RX6 85 yX6_setEntry, Cond.instanceMethod yX6_setEntry, Cond.selects RX6 yX6_setEntry yX6_setEntry, Cond.initialized RX6, Cond.code yX6_setEntry cX6_setEntry 6 (some .int), Cond.constant RX6 33 (-1000001), Cond.fieldLink RX6 52 "SkewedSquare$State" "tile" "LSkewedSquare$Tile;", Cond.fieldLink RX6 56 "SkewedSquare$Tile" "begun" "Z", Cond.constant RX6 93 (-1000002), Cond.fieldLink RX6 22 "SkewedSquare" "history" "LSkewedSquare$History;", Cond.methodLink RX6 129 yX1_has, Cond.instanceMethod yX1_has, Cond.selects RX1 yX1_has yX1_has, Cond.initialized RX1, Cond.code yX1_has cX1_has 3 (some .boolean), Cond.fieldLink RX1 9 "SkewedSquare$Matrix" "rows" "I", Cond.fieldLink RX1 15 "SkewedSquare$Matrix" "columns" "I", Cond.methodLink RX6 34 yX0_remember, Cond.instanceMethod yX0_remember, Cond.selects RX0 yX0_remember yX0_remember, Cond.initialized RX0, Cond.code yX0_remember cX0_remember 2 none]
def wsX6_right_r2 : List Cond := [Cond.fieldLink RX0 18 "SkewedSquare$History" "size" "I", Cond.fieldLink RX0 11 "SkewedSquare$History" "states" "[LSkewedSquare$State;", Cond.methodLink RX0 22 yX0_dropOldest, Cond.instanceMethod yX0_dropOldest, Cond.selects RX0 yX0_dropOldest yX0_dropOldest, Cond.code yX0_dropOldest cX0_dropOldest 3 none, Cond.methodLink RX0 25 yX3_copyFrom, Cond.instanceMethod yX3_copyFrom, Cond.selects RX3 yX3_copyFrom yX3_copyFrom, Cond.initialized RX3, Cond.code yX3_copyFrom cX3_copyFrom 2 none, Cond.fieldLink RX3 12 "SkewedSquare$State" "square" "LSkewedSquare$Square;", Cond.fieldLink RX3 21 "SkewedSquare$State" "leftMatrix" "LSkewedSquare$Matrix;", Cond.fieldLink RX3 25 "SkewedSquare$State" "rightMatrix" "LSkewedSquare$Matrix;", Cond.fieldLink RX3 28 "SkewedSquare$State" "results" "LSkewedSquare$Matrix;", Cond.fieldLink RX3 34 "SkewedSquare$State" "tile" "LSkewedSquare$Tile;", Cond.methodLink RX3 41 yX2_copyFrom, Cond.instanceMethod yX2_copyFrom, Cond.selects RX2 yX2_copyFrom yX2_copyFrom, Cond.initialized RX2, Cond.code yX2_copyFrom cX2_copyFrom 2 none, Cond.fieldLink RX2 9 "SkewedSquare$Square" "side" "I", Cond.fieldLink RX2 15 "SkewedSquare$Square" "leftOut" "I", Cond.fieldLink RX2 18 "SkewedSquare$Square" "kinds" "[I"]
def wsX6_right_r3 : List Cond := [Cond.methodLink RX2 36 arraycopyName, Cond.native arraycopyName, Cond.static arraycopyName, Cond.initialized "java/lang/System", Cond.methodLink RX3 45 yX1_copyFrom, Cond.instanceMethod yX1_copyFrom, Cond.selects RX1 yX1_copyFrom yX1_copyFrom, Cond.code yX1_copyFrom cX1_copyFrom 2 none, Cond.fieldLink RX1 18 "SkewedSquare$Matrix" "entries" "[I", Cond.methodLink RX1 36 arraycopyName, Cond.methodLink RX3 48 yX5_copyFrom, Cond.instanceMethod yX5_copyFrom, Cond.selects RX5 yX5_copyFrom yX5_copyFrom, Cond.initialized RX5, Cond.code yX5_copyFrom cX5_copyFrom 2 none, Cond.fieldLink RX5 49 "SkewedSquare$Tile" "begun" "Z", Cond.fieldLink RX5 53 "SkewedSquare$Tile" "row" "I", Cond.fieldLink RX5 56 "SkewedSquare$Tile" "column" "I", Cond.fieldLink RX5 59 "SkewedSquare$Tile" "height" "I", Cond.fieldLink RX5 62 "SkewedSquare$Tile" "width" "I", Cond.fieldLink RX5 31 "SkewedSquare$Tile" "ticks" "I", Cond.fieldLink RX5 35 "SkewedSquare$Tile" "ticksNeeded" "I", Cond.fieldLink RX5 9 "SkewedSquare$Tile" "sums" "[I", Cond.methodLink RX5 65 arraycopyName]
def wsX6_right_r4 : List Cond := [Cond.fieldLink RX5 15 "SkewedSquare$Tile" "meetings" "[I", Cond.fieldLink RX5 18 "SkewedSquare$Tile" "rightward" "[I", Cond.fieldLink RX5 21 "SkewedSquare$Tile" "downward" "[I", Cond.methodLink RX6 130 yX1_at, Cond.instanceMethod yX1_at, Cond.selects RX1 yX1_at yX1_at, Cond.code yX1_at cX1_at 3 (some .int), Cond.methodLink RX6 217 yX1_put, Cond.instanceMethod yX1_put, Cond.selects RX1 yX1_put yX1_put, Cond.code yX1_put cX1_put 4 none, Cond.methodLink RX1 22 yX1_has, Cond.methodLink RX6 62 yX3_forgetResults, Cond.instanceMethod yX3_forgetResults, Cond.selects RX3 yX3_forgetResults yX3_forgetResults, Cond.code yX3_forgetResults cX3_forgetResults 1 none, Cond.fieldLink RX3 51 "SkewedSquare$Matrix" "rows" "I", Cond.fieldLink RX3 55 "SkewedSquare$Matrix" "columns" "I", Cond.constant RX3 58 (-999999999), Cond.methodLink RX3 59 yX1_renew, Cond.instanceMethod yX1_renew, Cond.selects RX1 yX1_renew yX1_renew, Cond.code yX1_renew cX1_renew 4 none, Cond.static yX6_isLength]
def wsX6_right_r5 : List Cond := [Cond.code yX6_isLength cX6_isLength 1 (some .boolean), Cond.methodLink RX1 30 yJ7_fill_53178, Cond.static yJ7_fill_53178, Cond.initialized RJ7, Cond.code yJ7_fill_53178 cJ7_fill_53178 4 none]
def wsX6_right : List Cond := .code yX6_right cX6_right 4 (some .int) :: ((wsX6_right_r1 ++ (wsX6_right_r2 ++ (wsX6_right_r3 ++ (wsX6_right_r4 ++ wsX6_right_r5)))) ++ wsX60 ++ wsX30 ++ wsX50 ++ wsX10 ++ wsX00 ++ wsX20)
def wsX6_fault_r1 : List Cond := [Cond.fieldLink RX6 10 "SkewedSquare" "now" "LSkewedSquare$State;", Cond.fieldLink RX6 38 "SkewedSquare$State" "square" "LSkewedSquare$Square;", Cond.constant RX6 33 (-1000001), Cond.fieldLink RX6 52 "SkewedSquare$State" "tile" "LSkewedSquare$Tile;", Cond.fieldLink RX6 56 "SkewedSquare$Tile" "begun" "Z", Cond.constant RX6 93 (-1000002), Cond.fieldLink RX6 22 "SkewedSquare" "history" "LSkewedSquare$History;", Cond.methodLink RX6 89 yX2_has, Cond.instanceMethod yX2_has, Cond.selects RX2 yX2_has yX2_has, Cond.initialized RX2, Cond.code yX2_has cX2_has 3 (some .boolean), Cond.fieldLink RX2 9 "SkewedSquare$Square" "side" "I", Cond.methodLink RX6 34 yX0_remember, Cond.instanceMethod yX0_remember, Cond.selects RX0 yX0_remember yX0_remember, Cond.initialized RX0, Cond.code yX0_remember cX0_remember 2 none, Cond.fieldLink RX0 18 "SkewedSquare$History" "size" "I", Cond.fieldLink RX0 11 "SkewedSquare$History" "states" "[LSkewedSquare$State;", Cond.methodLink RX0 22 yX0_dropOldest, Cond.instanceMethod yX0_dropOldest, Cond.selects RX0 yX0_dropOldest yX0_dropOldest, Cond.code yX0_dropOldest cX0_dropOldest 3 none]
def wsX6_fault_r2 : List Cond := [Cond.methodLink RX0 25 yX3_copyFrom, Cond.instanceMethod yX3_copyFrom, Cond.selects RX3 yX3_copyFrom yX3_copyFrom, Cond.initialized RX3, Cond.code yX3_copyFrom cX3_copyFrom 2 none, Cond.fieldLink RX3 12 "SkewedSquare$State" "square" "LSkewedSquare$Square;", Cond.fieldLink RX3 21 "SkewedSquare$State" "leftMatrix" "LSkewedSquare$Matrix;", Cond.fieldLink RX3 25 "SkewedSquare$State" "rightMatrix" "LSkewedSquare$Matrix;", Cond.fieldLink RX3 28 "SkewedSquare$State" "results" "LSkewedSquare$Matrix;", Cond.fieldLink RX3 34 "SkewedSquare$State" "tile" "LSkewedSquare$Tile;", Cond.methodLink RX3 41 yX2_copyFrom, Cond.instanceMethod yX2_copyFrom, Cond.selects RX2 yX2_copyFrom yX2_copyFrom, Cond.code yX2_copyFrom cX2_copyFrom 2 none, Cond.fieldLink RX2 15 "SkewedSquare$Square" "leftOut" "I", Cond.fieldLink RX2 18 "SkewedSquare$Square" "kinds" "[I", Cond.methodLink RX2 36 arraycopyName, Cond.native arraycopyName, Cond.static arraycopyName, Cond.initialized "java/lang/System", Cond.methodLink RX3 45 yX1_copyFrom, Cond.instanceMethod yX1_copyFrom, Cond.selects RX1 yX1_copyFrom yX1_copyFrom, Cond.initialized RX1]
def wsX6_fault_r3 : List Cond := [Cond.code yX1_copyFrom cX1_copyFrom 2 none, Cond.fieldLink RX1 9 "SkewedSquare$Matrix" "rows" "I", Cond.fieldLink RX1 15 "SkewedSquare$Matrix" "columns" "I", Cond.fieldLink RX1 18 "SkewedSquare$Matrix" "entries" "[I", Cond.methodLink RX1 36 arraycopyName, Cond.methodLink RX3 48 yX5_copyFrom, Cond.instanceMethod yX5_copyFrom, Cond.selects RX5 yX5_copyFrom yX5_copyFrom, Cond.initialized RX5, Cond.code yX5_copyFrom cX5_copyFrom 2 none, Cond.fieldLink RX5 49 "SkewedSquare$Tile" "begun" "Z", Cond.fieldLink RX5 53 "SkewedSquare$Tile" "row" "I", Cond.fieldLink RX5 56 "SkewedSquare$Tile" "column" "I", Cond.fieldLink RX5 59 "SkewedSquare$Tile" "height" "I", Cond.fieldLink RX5 62 "SkewedSquare$Tile" "width" "I", Cond.fieldLink RX5 31 "SkewedSquare$Tile" "ticks" "I", Cond.fieldLink RX5 35 "SkewedSquare$Tile" "ticksNeeded" "I", Cond.fieldLink RX5 9 "SkewedSquare$Tile" "sums" "[I", Cond.methodLink RX5 65 arraycopyName, Cond.fieldLink RX5 15 "SkewedSquare$Tile" "meetings" "[I", Cond.fieldLink RX5 18 "SkewedSquare$Tile" "rightward" "[I", Cond.fieldLink RX5 21 "SkewedSquare$Tile" "downward" "[I", Cond.methodLink RX6 94 yX2_kindAt, Cond.instanceMethod yX2_kindAt]
def wsX6_fault_r4 : List Cond := [Cond.selects RX2 yX2_kindAt yX2_kindAt, Cond.code yX2_kindAt cX2_kindAt 3 (some .int), Cond.methodLink RX2 28 yX2_has, Cond.methodLink RX6 98 yX2_setKind, Cond.instanceMethod yX2_setKind, Cond.selects RX2 yX2_setKind yX2_setKind, Cond.code yX2_setKind cX2_setKind 4 none]
def wsX6_fault : List Cond := .code yX6_fault cX6_fault 5 (some .int) :: ((wsX6_fault_r1 ++ (wsX6_fault_r2 ++ (wsX6_fault_r3 ++ wsX6_fault_r4))) ++ wsX60 ++ wsX30 ++ wsX50 ++ wsX20 ++ wsX00 ++ wsX10)
def wsX6_leave_r1 : List Cond := [Cond.fieldLink RX6 10 "SkewedSquare" "now" "LSkewedSquare$State;", Cond.fieldLink RX6 38 "SkewedSquare$State" "square" "LSkewedSquare$Square;", Cond.fieldLink RX6 42 "SkewedSquare$Square" "side" "I", Cond.constant RX6 33 (-1000001), Cond.fieldLink RX6 52 "SkewedSquare$State" "tile" "LSkewedSquare$Tile;", Cond.fieldLink RX6 56 "SkewedSquare$Tile" "begun" "Z", Cond.constant RX6 93 (-1000002), Cond.fieldLink RX6 22 "SkewedSquare" "history" "LSkewedSquare$History;", Cond.fieldLink RX6 101 "SkewedSquare$Square" "leftOut" "I", Cond.methodLink RX6 34 yX0_remember, Cond.instanceMethod yX0_remember, Cond.selects RX0 yX0_remember yX0_remember, Cond.initialized RX0, Cond.code yX0_remember cX0_remember 2 none, Cond.fieldLink RX0 18 "SkewedSquare$History" "size" "I", Cond.fieldLink RX0 11 "SkewedSquare$History" "states" "[LSkewedSquare$State;", Cond.methodLink RX0 22 yX0_dropOldest, Cond.instanceMethod yX0_dropOldest, Cond.selects RX0 yX0_dropOldest yX0_dropOldest, Cond.code yX0_dropOldest cX0_dropOldest 3 none, Cond.methodLink RX0 25 yX3_copyFrom, Cond.instanceMethod yX3_copyFrom, Cond.selects RX3 yX3_copyFrom yX3_copyFrom, Cond.initialized RX3]
def wsX6_leave_r2 : List Cond := [Cond.code yX3_copyFrom cX3_copyFrom 2 none, Cond.fieldLink RX3 12 "SkewedSquare$State" "square" "LSkewedSquare$Square;", Cond.fieldLink RX3 21 "SkewedSquare$State" "leftMatrix" "LSkewedSquare$Matrix;", Cond.fieldLink RX3 25 "SkewedSquare$State" "rightMatrix" "LSkewedSquare$Matrix;", Cond.fieldLink RX3 28 "SkewedSquare$State" "results" "LSkewedSquare$Matrix;", Cond.fieldLink RX3 34 "SkewedSquare$State" "tile" "LSkewedSquare$Tile;", Cond.methodLink RX3 41 yX2_copyFrom, Cond.instanceMethod yX2_copyFrom, Cond.selects RX2 yX2_copyFrom yX2_copyFrom, Cond.initialized RX2, Cond.code yX2_copyFrom cX2_copyFrom 2 none, Cond.fieldLink RX2 9 "SkewedSquare$Square" "side" "I", Cond.fieldLink RX2 15 "SkewedSquare$Square" "leftOut" "I", Cond.fieldLink RX2 18 "SkewedSquare$Square" "kinds" "[I", Cond.methodLink RX2 36 arraycopyName, Cond.native arraycopyName, Cond.static arraycopyName, Cond.initialized "java/lang/System", Cond.methodLink RX3 45 yX1_copyFrom, Cond.instanceMethod yX1_copyFrom, Cond.selects RX1 yX1_copyFrom yX1_copyFrom, Cond.initialized RX1, Cond.code yX1_copyFrom cX1_copyFrom 2 none, Cond.fieldLink RX1 9 "SkewedSquare$Matrix" "rows" "I"]
def wsX6_leave_r3 : List Cond := [Cond.fieldLink RX1 15 "SkewedSquare$Matrix" "columns" "I", Cond.fieldLink RX1 18 "SkewedSquare$Matrix" "entries" "[I", Cond.methodLink RX1 36 arraycopyName, Cond.methodLink RX3 48 yX5_copyFrom, Cond.instanceMethod yX5_copyFrom, Cond.selects RX5 yX5_copyFrom yX5_copyFrom, Cond.initialized RX5, Cond.code yX5_copyFrom cX5_copyFrom 2 none, Cond.fieldLink RX5 49 "SkewedSquare$Tile" "begun" "Z", Cond.fieldLink RX5 53 "SkewedSquare$Tile" "row" "I", Cond.fieldLink RX5 56 "SkewedSquare$Tile" "column" "I", Cond.fieldLink RX5 59 "SkewedSquare$Tile" "height" "I", Cond.fieldLink RX5 62 "SkewedSquare$Tile" "width" "I", Cond.fieldLink RX5 31 "SkewedSquare$Tile" "ticks" "I", Cond.fieldLink RX5 35 "SkewedSquare$Tile" "ticksNeeded" "I", Cond.fieldLink RX5 9 "SkewedSquare$Tile" "sums" "[I", Cond.methodLink RX5 65 arraycopyName, Cond.fieldLink RX5 15 "SkewedSquare$Tile" "meetings" "[I", Cond.fieldLink RX5 18 "SkewedSquare$Tile" "rightward" "[I", Cond.fieldLink RX5 21 "SkewedSquare$Tile" "downward" "[I"]
def wsX6_leave : List Cond := .code yX6_leave cX6_leave 3 (some .int) :: ((wsX6_leave_r1 ++ (wsX6_leave_r2 ++ wsX6_leave_r3)) ++ wsX60 ++ wsX30 ++ wsX20 ++ wsX50 ++ wsX00 ++ wsX10)
def wsX6_begin_r1 : List Cond := [Cond.fieldLink RX6 10 "SkewedSquare" "now" "LSkewedSquare$State;", Cond.constant RX6 33 (-1000001), Cond.fieldLink RX6 52 "SkewedSquare$State" "tile" "LSkewedSquare$Tile;", Cond.fieldLink RX6 56 "SkewedSquare$Tile" "begun" "Z", Cond.constant RX6 93 (-1000002), Cond.fieldLink RX6 22 "SkewedSquare" "history" "LSkewedSquare$History;", Cond.methodLink RX6 104 yX3_tilesDown, Cond.instanceMethod yX3_tilesDown, Cond.selects RX3 yX3_tilesDown yX3_tilesDown, Cond.initialized RX3, Cond.code yX3_tilesDown cX3_tilesDown 1 (some .int), Cond.fieldLink RX3 21 "SkewedSquare$State" "leftMatrix" "LSkewedSquare$Matrix;", Cond.fieldLink RX3 51 "SkewedSquare$Matrix" "rows" "I", Cond.methodLink RX3 63 yX3_tilesAlong, Cond.instanceMethod yX3_tilesAlong, Cond.selects RX3 yX3_tilesAlong yX3_tilesAlong, Cond.code yX3_tilesAlong cX3_tilesAlong 2 (some .int), Cond.fieldLink RX3 12 "SkewedSquare$State" "square" "LSkewedSquare$Square;", Cond.fieldLink RX3 74 "SkewedSquare$Square" "side" "I", Cond.methodLink RX6 107 yX3_tilesAcross, Cond.instanceMethod yX3_tilesAcross, Cond.selects RX3 yX3_tilesAcross yX3_tilesAcross, Cond.code yX3_tilesAcross cX3_tilesAcross 1 (some .int), Cond.fieldLink RX3 25 "SkewedSquare$State" "rightMatrix" "LSkewedSquare$Matrix;"]
def wsX6_begin_r2 : List Cond := [Cond.fieldLink RX3 55 "SkewedSquare$Matrix" "columns" "I", Cond.methodLink RX6 34 yX0_remember, Cond.instanceMethod yX0_remember, Cond.selects RX0 yX0_remember yX0_remember, Cond.initialized RX0, Cond.code yX0_remember cX0_remember 2 none, Cond.fieldLink RX0 18 "SkewedSquare$History" "size" "I", Cond.fieldLink RX0 11 "SkewedSquare$History" "states" "[LSkewedSquare$State;", Cond.methodLink RX0 22 yX0_dropOldest, Cond.instanceMethod yX0_dropOldest, Cond.selects RX0 yX0_dropOldest yX0_dropOldest, Cond.code yX0_dropOldest cX0_dropOldest 3 none, Cond.methodLink RX0 25 yX3_copyFrom, Cond.instanceMethod yX3_copyFrom, Cond.selects RX3 yX3_copyFrom yX3_copyFrom, Cond.code yX3_copyFrom cX3_copyFrom 2 none, Cond.fieldLink RX3 28 "SkewedSquare$State" "results" "LSkewedSquare$Matrix;", Cond.fieldLink RX3 34 "SkewedSquare$State" "tile" "LSkewedSquare$Tile;", Cond.methodLink RX3 41 yX2_copyFrom, Cond.instanceMethod yX2_copyFrom, Cond.selects RX2 yX2_copyFrom yX2_copyFrom, Cond.initialized RX2, Cond.code yX2_copyFrom cX2_copyFrom 2 none, Cond.fieldLink RX2 9 "SkewedSquare$Square" "side" "I"]
def wsX6_begin_r3 : List Cond := [Cond.fieldLink RX2 15 "SkewedSquare$Square" "leftOut" "I", Cond.fieldLink RX2 18 "SkewedSquare$Square" "kinds" "[I", Cond.methodLink RX2 36 arraycopyName, Cond.native arraycopyName, Cond.static arraycopyName, Cond.initialized "java/lang/System", Cond.methodLink RX3 45 yX1_copyFrom, Cond.instanceMethod yX1_copyFrom, Cond.selects RX1 yX1_copyFrom yX1_copyFrom, Cond.initialized RX1, Cond.code yX1_copyFrom cX1_copyFrom 2 none, Cond.fieldLink RX1 9 "SkewedSquare$Matrix" "rows" "I", Cond.fieldLink RX1 15 "SkewedSquare$Matrix" "columns" "I", Cond.fieldLink RX1 18 "SkewedSquare$Matrix" "entries" "[I", Cond.methodLink RX1 36 arraycopyName, Cond.methodLink RX3 48 yX5_copyFrom, Cond.instanceMethod yX5_copyFrom, Cond.selects RX5 yX5_copyFrom yX5_copyFrom, Cond.initialized RX5, Cond.code yX5_copyFrom cX5_copyFrom 2 none, Cond.fieldLink RX5 49 "SkewedSquare$Tile" "begun" "Z", Cond.fieldLink RX5 53 "SkewedSquare$Tile" "row" "I", Cond.fieldLink RX5 56 "SkewedSquare$Tile" "column" "I", Cond.fieldLink RX5 59 "SkewedSquare$Tile" "height" "I"]
def wsX6_begin_r4 : List Cond := [Cond.fieldLink RX5 62 "SkewedSquare$Tile" "width" "I", Cond.fieldLink RX5 31 "SkewedSquare$Tile" "ticks" "I", Cond.fieldLink RX5 35 "SkewedSquare$Tile" "ticksNeeded" "I", Cond.fieldLink RX5 9 "SkewedSquare$Tile" "sums" "[I", Cond.methodLink RX5 65 arraycopyName, Cond.fieldLink RX5 15 "SkewedSquare$Tile" "meetings" "[I", Cond.fieldLink RX5 18 "SkewedSquare$Tile" "rightward" "[I", Cond.fieldLink RX5 21 "SkewedSquare$Tile" "downward" "[I", Cond.methodLink RX6 110 yX3_beginTile, Cond.instanceMethod yX3_beginTile, Cond.selects RX3 yX3_beginTile yX3_beginTile, Cond.code yX3_beginTile cX3_beginTile 3 none, Cond.fieldLink RX3 80 "SkewedSquare$Tile" "begun" "Z", Cond.fieldLink RX3 84 "SkewedSquare$Tile" "row" "I", Cond.fieldLink RX3 87 "SkewedSquare$Tile" "column" "I", Cond.methodLink RX3 90 Lib.Math.min.name, Cond.static Lib.Math.min.name, Cond.initialized "java/lang/Math", Cond.code Lib.Math.min.name Lib.Math.min.code 2 (some .int), Cond.fieldLink RX3 96 "SkewedSquare$Tile" "height" "I", Cond.fieldLink RX3 99 "SkewedSquare$Tile" "width" "I", Cond.fieldLink RX3 102 "SkewedSquare$Tile" "ticksNeeded" "I", Cond.methodLink RX3 77 yX5_empty, Cond.instanceMethod yX5_empty]
def wsX6_begin_r5 : List Cond := [Cond.selects RX5 yX5_empty yX5_empty, Cond.code yX5_empty cX5_empty 1 none, Cond.constant RX5 30 (-999999999), Cond.methodLink RX5 24 yJ7_fill_53178, Cond.static yJ7_fill_53178, Cond.initialized RJ7, Cond.code yJ7_fill_53178 cJ7_fill_53178 4 none, Cond.methodLink RX6 114 yX5_ticksLeft, Cond.instanceMethod yX5_ticksLeft, Cond.selects RX5 yX5_ticksLeft yX5_ticksLeft, Cond.code yX5_ticksLeft cX5_ticksLeft 1 (some .int)]
def wsX6_begin : List Cond := .code yX6_begin cX6_begin 3 (some .int) :: ((wsX6_begin_r1 ++ (wsX6_begin_r2 ++ (wsX6_begin_r3 ++ (wsX6_begin_r4 ++ wsX6_begin_r5)))) ++ wsX60 ++ wsX30 ++ wsX50 ++ wsX10 ++ wsX20 ++ wsX00)
def wsX6_tick_r1 : List Cond := [Cond.constant RX6 33 (-1000001), Cond.fieldLink RX6 10 "SkewedSquare" "now" "LSkewedSquare$State;", Cond.fieldLink RX6 52 "SkewedSquare$State" "tile" "LSkewedSquare$Tile;", Cond.fieldLink RX6 56 "SkewedSquare$Tile" "begun" "Z", Cond.constant RX6 93 (-1000002), Cond.fieldLink RX6 22 "SkewedSquare" "history" "LSkewedSquare$History;", Cond.methodLink RX6 114 yX5_ticksLeft, Cond.instanceMethod yX5_ticksLeft, Cond.selects RX5 yX5_ticksLeft yX5_ticksLeft, Cond.initialized RX5, Cond.code yX5_ticksLeft cX5_ticksLeft 1 (some .int), Cond.fieldLink RX5 35 "SkewedSquare$Tile" "ticksNeeded" "I", Cond.fieldLink RX5 31 "SkewedSquare$Tile" "ticks" "I", Cond.methodLink RX6 34 yX0_remember, Cond.instanceMethod yX0_remember, Cond.selects RX0 yX0_remember yX0_remember, Cond.initialized RX0, Cond.code yX0_remember cX0_remember 2 none, Cond.fieldLink RX0 18 "SkewedSquare$History" "size" "I", Cond.fieldLink RX0 11 "SkewedSquare$History" "states" "[LSkewedSquare$State;", Cond.methodLink RX0 22 yX0_dropOldest, Cond.instanceMethod yX0_dropOldest, Cond.selects RX0 yX0_dropOldest yX0_dropOldest, Cond.code yX0_dropOldest cX0_dropOldest 3 none]
def wsX6_tick_r2 : List Cond := [Cond.methodLink RX0 25 yX3_copyFrom, Cond.instanceMethod yX3_copyFrom, Cond.selects RX3 yX3_copyFrom yX3_copyFrom, Cond.initialized RX3, Cond.code yX3_copyFrom cX3_copyFrom 2 none, Cond.fieldLink RX3 12 "SkewedSquare$State" "square" "LSkewedSquare$Square;", Cond.fieldLink RX3 21 "SkewedSquare$State" "leftMatrix" "LSkewedSquare$Matrix;", Cond.fieldLink RX3 25 "SkewedSquare$State" "rightMatrix" "LSkewedSquare$Matrix;", Cond.fieldLink RX3 28 "SkewedSquare$State" "results" "LSkewedSquare$Matrix;", Cond.fieldLink RX3 34 "SkewedSquare$State" "tile" "LSkewedSquare$Tile;", Cond.methodLink RX3 41 yX2_copyFrom, Cond.instanceMethod yX2_copyFrom, Cond.selects RX2 yX2_copyFrom yX2_copyFrom, Cond.initialized RX2, Cond.code yX2_copyFrom cX2_copyFrom 2 none, Cond.fieldLink RX2 9 "SkewedSquare$Square" "side" "I", Cond.fieldLink RX2 15 "SkewedSquare$Square" "leftOut" "I", Cond.fieldLink RX2 18 "SkewedSquare$Square" "kinds" "[I", Cond.methodLink RX2 36 arraycopyName, Cond.native arraycopyName, Cond.static arraycopyName, Cond.initialized "java/lang/System", Cond.methodLink RX3 45 yX1_copyFrom, Cond.instanceMethod yX1_copyFrom]
def wsX6_tick_r3 : List Cond := [Cond.selects RX1 yX1_copyFrom yX1_copyFrom, Cond.initialized RX1, Cond.code yX1_copyFrom cX1_copyFrom 2 none, Cond.fieldLink RX1 9 "SkewedSquare$Matrix" "rows" "I", Cond.fieldLink RX1 15 "SkewedSquare$Matrix" "columns" "I", Cond.fieldLink RX1 18 "SkewedSquare$Matrix" "entries" "[I", Cond.methodLink RX1 36 arraycopyName, Cond.methodLink RX3 48 yX5_copyFrom, Cond.instanceMethod yX5_copyFrom, Cond.selects RX5 yX5_copyFrom yX5_copyFrom, Cond.code yX5_copyFrom cX5_copyFrom 2 none, Cond.fieldLink RX5 49 "SkewedSquare$Tile" "begun" "Z", Cond.fieldLink RX5 53 "SkewedSquare$Tile" "row" "I", Cond.fieldLink RX5 56 "SkewedSquare$Tile" "column" "I", Cond.fieldLink RX5 59 "SkewedSquare$Tile" "height" "I", Cond.fieldLink RX5 62 "SkewedSquare$Tile" "width" "I", Cond.fieldLink RX5 9 "SkewedSquare$Tile" "sums" "[I", Cond.methodLink RX5 65 arraycopyName, Cond.fieldLink RX5 15 "SkewedSquare$Tile" "meetings" "[I", Cond.fieldLink RX5 18 "SkewedSquare$Tile" "rightward" "[I", Cond.fieldLink RX5 21 "SkewedSquare$Tile" "downward" "[I", Cond.methodLink RX6 117 yX3_goOn, Cond.instanceMethod yX3_goOn, Cond.selects RX3 yX3_goOn yX3_goOn]
def wsX6_tick_r4 : List Cond := [Cond.code yX3_goOn cX3_goOn 4 none, Cond.methodLink RX3 90 Lib.Math.min.name, Cond.static Lib.Math.min.name, Cond.initialized "java/lang/Math", Cond.code Lib.Math.min.name Lib.Math.min.code 2 (some .int), Cond.methodLink RX3 105 yX5_ticksLeft, Cond.methodLink RX3 108 yX3_goOnce, Cond.instanceMethod yX3_goOnce, Cond.selects RX3 yX3_goOnce yX3_goOnce, Cond.code yX3_goOnce cX3_goOnce 4 none, Cond.fieldLink RX3 96 "SkewedSquare$Tile" "height" "I", Cond.fieldLink RX3 99 "SkewedSquare$Tile" "width" "I", Cond.fieldLink RX3 130 "SkewedSquare$Tile" "ticks" "I", Cond.methodLink RX3 111 yX2_placeOf, Cond.instanceMethod yX2_placeOf, Cond.selects RX2 yX2_placeOf yX2_placeOf, Cond.code yX2_placeOf cX2_placeOf 2 (some .int), Cond.methodLink RX3 114 yX2_kindAt, Cond.instanceMethod yX2_kindAt, Cond.selects RX2 yX2_kindAt yX2_kindAt, Cond.code yX2_kindAt cX2_kindAt 3 (some .int), Cond.methodLink RX2 28 yX2_has, Cond.instanceMethod yX2_has, Cond.selects RX2 yX2_has yX2_has]
def wsX6_tick_r5 : List Cond := [Cond.code yX2_has cX2_has 3 (some .boolean), Cond.methodLink RX3 117 yX5_cell, Cond.static yX5_cell, Cond.code yX5_cell cX5_cell 2 (some .int), Cond.methodLink RX3 120 yX3_fromLeft, Cond.instanceMethod yX3_fromLeft, Cond.selects RX3 yX3_fromLeft yX3_fromLeft, Cond.code yX3_fromLeft cX3_fromLeft 5 (some .int), Cond.fieldLink RX3 84 "SkewedSquare$Tile" "row" "I", Cond.fieldLink RX3 74 "SkewedSquare$Square" "side" "I", Cond.constant RX3 58 (-999999999), Cond.methodLink RX3 133 yX5_rightwardOf, Cond.instanceMethod yX5_rightwardOf, Cond.selects RX5 yX5_rightwardOf yX5_rightwardOf, Cond.code yX5_rightwardOf cX5_rightwardOf 2 (some .int), Cond.constant RX5 30 (-999999999), Cond.methodLink RX5 38 yX5_isCell, Cond.static yX5_isCell, Cond.code yX5_isCell cX5_isCell 1 (some .boolean), Cond.methodLink RX3 136 yX1_has, Cond.instanceMethod yX1_has, Cond.selects RX1 yX1_has yX1_has, Cond.code yX1_has cX1_has 3 (some .boolean), Cond.methodLink RX3 140 yX1_at]
def wsX6_tick_r6 : List Cond := [Cond.instanceMethod yX1_at, Cond.selects RX1 yX1_at yX1_at, Cond.code yX1_at cX1_at 3 (some .int), Cond.methodLink RX3 123 yX3_fromAbove, Cond.instanceMethod yX3_fromAbove, Cond.selects RX3 yX3_fromAbove yX3_fromAbove, Cond.code yX3_fromAbove cX3_fromAbove 5 (some .int), Cond.fieldLink RX3 87 "SkewedSquare$Tile" "column" "I", Cond.methodLink RX3 143 yX5_downwardOf, Cond.instanceMethod yX5_downwardOf, Cond.selects RX5 yX5_downwardOf yX5_downwardOf, Cond.code yX5_downwardOf cX5_downwardOf 2 (some .int), Cond.methodLink RX3 126 yX5_pass, Cond.instanceMethod yX5_pass, Cond.selects RX5 yX5_pass yX5_pass, Cond.code yX5_pass cX5_pass 5 none, Cond.methodLink RX5 42 yX5_timesAdded, Cond.static yX5_timesAdded, Cond.code yX5_timesAdded cX5_timesAdded 1 (some .int), Cond.methodLink RX5 46 yX5_zeroIfAny, Cond.static yX5_zeroIfAny, Cond.code yX5_zeroIfAny cX5_zeroIfAny 1 (some .int)]
def wsX6_tick : List Cond := .code yX6_tick cX6_tick 2 (some .int) :: ((wsX6_tick_r1 ++ (wsX6_tick_r2 ++ (wsX6_tick_r3 ++ (wsX6_tick_r4 ++ (wsX6_tick_r5 ++ wsX6_tick_r6))))) ++ wsX60 ++ wsX30 ++ wsX50 ++ wsX00 ++ wsX20 ++ wsX10)
def wsX6_drain_r1 : List Cond := [Cond.fieldLink RX6 10 "SkewedSquare" "now" "LSkewedSquare$State;", Cond.fieldLink RX6 52 "SkewedSquare$State" "tile" "LSkewedSquare$Tile;", Cond.fieldLink RX6 56 "SkewedSquare$Tile" "begun" "Z", Cond.constant RX6 93 (-1000002), Cond.fieldLink RX6 22 "SkewedSquare" "history" "LSkewedSquare$History;", Cond.methodLink RX6 114 yX5_ticksLeft, Cond.instanceMethod yX5_ticksLeft, Cond.selects RX5 yX5_ticksLeft yX5_ticksLeft, Cond.initialized RX5, Cond.code yX5_ticksLeft cX5_ticksLeft 1 (some .int), Cond.fieldLink RX5 35 "SkewedSquare$Tile" "ticksNeeded" "I", Cond.fieldLink RX5 31 "SkewedSquare$Tile" "ticks" "I", Cond.methodLink RX6 34 yX0_remember, Cond.instanceMethod yX0_remember, Cond.selects RX0 yX0_remember yX0_remember, Cond.initialized RX0, Cond.code yX0_remember cX0_remember 2 none, Cond.fieldLink RX0 18 "SkewedSquare$History" "size" "I", Cond.fieldLink RX0 11 "SkewedSquare$History" "states" "[LSkewedSquare$State;", Cond.methodLink RX0 22 yX0_dropOldest, Cond.instanceMethod yX0_dropOldest, Cond.selects RX0 yX0_dropOldest yX0_dropOldest, Cond.code yX0_dropOldest cX0_dropOldest 3 none, Cond.methodLink RX0 25 yX3_copyFrom]
def wsX6_drain_r2 : List Cond := [Cond.instanceMethod yX3_copyFrom, Cond.selects RX3 yX3_copyFrom yX3_copyFrom, Cond.initialized RX3, Cond.code yX3_copyFrom cX3_copyFrom 2 none, Cond.fieldLink RX3 12 "SkewedSquare$State" "square" "LSkewedSquare$Square;", Cond.fieldLink RX3 21 "SkewedSquare$State" "leftMatrix" "LSkewedSquare$Matrix;", Cond.fieldLink RX3 25 "SkewedSquare$State" "rightMatrix" "LSkewedSquare$Matrix;", Cond.fieldLink RX3 28 "SkewedSquare$State" "results" "LSkewedSquare$Matrix;", Cond.fieldLink RX3 34 "SkewedSquare$State" "tile" "LSkewedSquare$Tile;", Cond.methodLink RX3 41 yX2_copyFrom, Cond.instanceMethod yX2_copyFrom, Cond.selects RX2 yX2_copyFrom yX2_copyFrom, Cond.initialized RX2, Cond.code yX2_copyFrom cX2_copyFrom 2 none, Cond.fieldLink RX2 9 "SkewedSquare$Square" "side" "I", Cond.fieldLink RX2 15 "SkewedSquare$Square" "leftOut" "I", Cond.fieldLink RX2 18 "SkewedSquare$Square" "kinds" "[I", Cond.methodLink RX2 36 arraycopyName, Cond.native arraycopyName, Cond.static arraycopyName, Cond.initialized "java/lang/System", Cond.methodLink RX3 45 yX1_copyFrom, Cond.instanceMethod yX1_copyFrom, Cond.selects RX1 yX1_copyFrom yX1_copyFrom]
def wsX6_drain_r3 : List Cond := [Cond.initialized RX1, Cond.code yX1_copyFrom cX1_copyFrom 2 none, Cond.fieldLink RX1 9 "SkewedSquare$Matrix" "rows" "I", Cond.fieldLink RX1 15 "SkewedSquare$Matrix" "columns" "I", Cond.fieldLink RX1 18 "SkewedSquare$Matrix" "entries" "[I", Cond.methodLink RX1 36 arraycopyName, Cond.methodLink RX3 48 yX5_copyFrom, Cond.instanceMethod yX5_copyFrom, Cond.selects RX5 yX5_copyFrom yX5_copyFrom, Cond.code yX5_copyFrom cX5_copyFrom 2 none, Cond.fieldLink RX5 49 "SkewedSquare$Tile" "begun" "Z", Cond.fieldLink RX5 53 "SkewedSquare$Tile" "row" "I", Cond.fieldLink RX5 56 "SkewedSquare$Tile" "column" "I", Cond.fieldLink RX5 59 "SkewedSquare$Tile" "height" "I", Cond.fieldLink RX5 62 "SkewedSquare$Tile" "width" "I", Cond.fieldLink RX5 9 "SkewedSquare$Tile" "sums" "[I", Cond.methodLink RX5 65 arraycopyName, Cond.fieldLink RX5 15 "SkewedSquare$Tile" "meetings" "[I", Cond.fieldLink RX5 18 "SkewedSquare$Tile" "rightward" "[I", Cond.fieldLink RX5 21 "SkewedSquare$Tile" "downward" "[I", Cond.methodLink RX6 120 yX3_drainTile, Cond.instanceMethod yX3_drainTile, Cond.selects RX3 yX3_drainTile yX3_drainTile, Cond.code yX3_drainTile cX3_drainTile 5 none]
def wsX6_drain_r4 : List Cond := [Cond.fieldLink RX3 84 "SkewedSquare$Tile" "row" "I", Cond.fieldLink RX3 74 "SkewedSquare$Square" "side" "I", Cond.fieldLink RX3 87 "SkewedSquare$Tile" "column" "I", Cond.fieldLink RX3 96 "SkewedSquare$Tile" "height" "I", Cond.fieldLink RX3 99 "SkewedSquare$Tile" "width" "I", Cond.fieldLink RX3 80 "SkewedSquare$Tile" "begun" "Z", Cond.methodLink RX3 117 yX5_cell, Cond.static yX5_cell, Cond.code yX5_cell cX5_cell 2 (some .int), Cond.methodLink RX3 146 yX5_sumOf, Cond.instanceMethod yX5_sumOf, Cond.selects RX5 yX5_sumOf yX5_sumOf, Cond.code yX5_sumOf cX5_sumOf 2 (some .int), Cond.methodLink RX5 38 yX5_isCell, Cond.static yX5_isCell, Cond.code yX5_isCell cX5_isCell 1 (some .boolean), Cond.methodLink RX3 149 yX1_put, Cond.instanceMethod yX1_put, Cond.selects RX1 yX1_put yX1_put, Cond.code yX1_put cX1_put 4 none, Cond.methodLink RX1 22 yX1_has, Cond.instanceMethod yX1_has, Cond.selects RX1 yX1_has yX1_has, Cond.code yX1_has cX1_has 3 (some .boolean)]
def wsX6_drain_r5 : List Cond := [Cond.methodLink RX6 123 yX3_knownEntries, Cond.instanceMethod yX3_knownEntries, Cond.selects RX3 yX3_knownEntries yX3_knownEntries, Cond.code yX3_knownEntries cX3_knownEntries 4 (some .int), Cond.fieldLink RX3 51 "SkewedSquare$Matrix" "rows" "I", Cond.fieldLink RX3 55 "SkewedSquare$Matrix" "columns" "I", Cond.constant RX3 58 (-999999999), Cond.methodLink RX3 140 yX1_at, Cond.instanceMethod yX1_at, Cond.selects RX1 yX1_at yX1_at, Cond.code yX1_at cX1_at 3 (some .int)]
def wsX6_drain : List Cond := .code yX6_drain cX6_drain 1 (some .int) :: ((wsX6_drain_r1 ++ (wsX6_drain_r2 ++ (wsX6_drain_r3 ++ (wsX6_drain_r4 ++ wsX6_drain_r5)))) ++ wsX60 ++ wsX30 ++ wsX50 ++ wsX00 ++ wsX20 ++ wsX10)
def wsX6_all_r1 : List Cond := [Cond.fieldLink RX6 10 "SkewedSquare" "now" "LSkewedSquare$State;", Cond.fieldLink RX6 52 "SkewedSquare$State" "tile" "LSkewedSquare$Tile;", Cond.fieldLink RX6 56 "SkewedSquare$Tile" "begun" "Z", Cond.constant RX6 93 (-1000002), Cond.fieldLink RX6 22 "SkewedSquare" "history" "LSkewedSquare$History;", Cond.methodLink RX6 34 yX0_remember, Cond.instanceMethod yX0_remember, Cond.selects RX0 yX0_remember yX0_remember, Cond.initialized RX0, Cond.code yX0_remember cX0_remember 2 none, Cond.fieldLink RX0 18 "SkewedSquare$History" "size" "I", Cond.fieldLink RX0 11 "SkewedSquare$History" "states" "[LSkewedSquare$State;", Cond.methodLink RX0 22 yX0_dropOldest, Cond.instanceMethod yX0_dropOldest, Cond.selects RX0 yX0_dropOldest yX0_dropOldest, Cond.code yX0_dropOldest cX0_dropOldest 3 none, Cond.methodLink RX0 25 yX3_copyFrom, Cond.instanceMethod yX3_copyFrom, Cond.selects RX3 yX3_copyFrom yX3_copyFrom, Cond.initialized RX3, Cond.code yX3_copyFrom cX3_copyFrom 2 none, Cond.fieldLink RX3 12 "SkewedSquare$State" "square" "LSkewedSquare$Square;", Cond.fieldLink RX3 21 "SkewedSquare$State" "leftMatrix" "LSkewedSquare$Matrix;", Cond.fieldLink RX3 25 "SkewedSquare$State" "rightMatrix" "LSkewedSquare$Matrix;"]
def wsX6_all_r2 : List Cond := [Cond.fieldLink RX3 28 "SkewedSquare$State" "results" "LSkewedSquare$Matrix;", Cond.fieldLink RX3 34 "SkewedSquare$State" "tile" "LSkewedSquare$Tile;", Cond.methodLink RX3 41 yX2_copyFrom, Cond.instanceMethod yX2_copyFrom, Cond.selects RX2 yX2_copyFrom yX2_copyFrom, Cond.initialized RX2, Cond.code yX2_copyFrom cX2_copyFrom 2 none, Cond.fieldLink RX2 9 "SkewedSquare$Square" "side" "I", Cond.fieldLink RX2 15 "SkewedSquare$Square" "leftOut" "I", Cond.fieldLink RX2 18 "SkewedSquare$Square" "kinds" "[I", Cond.methodLink RX2 36 arraycopyName, Cond.native arraycopyName, Cond.static arraycopyName, Cond.initialized "java/lang/System", Cond.methodLink RX3 45 yX1_copyFrom, Cond.instanceMethod yX1_copyFrom, Cond.selects RX1 yX1_copyFrom yX1_copyFrom, Cond.initialized RX1, Cond.code yX1_copyFrom cX1_copyFrom 2 none, Cond.fieldLink RX1 9 "SkewedSquare$Matrix" "rows" "I", Cond.fieldLink RX1 15 "SkewedSquare$Matrix" "columns" "I", Cond.fieldLink RX1 18 "SkewedSquare$Matrix" "entries" "[I", Cond.methodLink RX1 36 arraycopyName, Cond.methodLink RX3 48 yX5_copyFrom]
def wsX6_all_r3 : List Cond := [Cond.instanceMethod yX5_copyFrom, Cond.selects RX5 yX5_copyFrom yX5_copyFrom, Cond.initialized RX5, Cond.code yX5_copyFrom cX5_copyFrom 2 none, Cond.fieldLink RX5 49 "SkewedSquare$Tile" "begun" "Z", Cond.fieldLink RX5 53 "SkewedSquare$Tile" "row" "I", Cond.fieldLink RX5 56 "SkewedSquare$Tile" "column" "I", Cond.fieldLink RX5 59 "SkewedSquare$Tile" "height" "I", Cond.fieldLink RX5 62 "SkewedSquare$Tile" "width" "I", Cond.fieldLink RX5 31 "SkewedSquare$Tile" "ticks" "I", Cond.fieldLink RX5 35 "SkewedSquare$Tile" "ticksNeeded" "I", Cond.fieldLink RX5 9 "SkewedSquare$Tile" "sums" "[I", Cond.methodLink RX5 65 arraycopyName, Cond.fieldLink RX5 15 "SkewedSquare$Tile" "meetings" "[I", Cond.fieldLink RX5 18 "SkewedSquare$Tile" "rightward" "[I", Cond.fieldLink RX5 21 "SkewedSquare$Tile" "downward" "[I", Cond.methodLink RX6 126 yX3_doAllTiles, Cond.instanceMethod yX3_doAllTiles, Cond.selects RX3 yX3_doAllTiles yX3_doAllTiles, Cond.code yX3_doAllTiles cX3_doAllTiles 6 (some .int), Cond.methodLink RX3 67 yX3_tilesDown, Cond.instanceMethod yX3_tilesDown, Cond.selects RX3 yX3_tilesDown yX3_tilesDown, Cond.code yX3_tilesDown cX3_tilesDown 1 (some .int)]
def wsX6_all_r4 : List Cond := [Cond.fieldLink RX3 51 "SkewedSquare$Matrix" "rows" "I", Cond.methodLink RX3 63 yX3_tilesAlong, Cond.instanceMethod yX3_tilesAlong, Cond.selects RX3 yX3_tilesAlong yX3_tilesAlong, Cond.code yX3_tilesAlong cX3_tilesAlong 2 (some .int), Cond.fieldLink RX3 74 "SkewedSquare$Square" "side" "I", Cond.methodLink RX3 71 yX3_tilesAcross, Cond.instanceMethod yX3_tilesAcross, Cond.selects RX3 yX3_tilesAcross yX3_tilesAcross, Cond.code yX3_tilesAcross cX3_tilesAcross 1 (some .int), Cond.fieldLink RX3 55 "SkewedSquare$Matrix" "columns" "I", Cond.methodLink RX3 152 yX3_beginTile, Cond.instanceMethod yX3_beginTile, Cond.selects RX3 yX3_beginTile yX3_beginTile, Cond.code yX3_beginTile cX3_beginTile 3 none, Cond.fieldLink RX3 80 "SkewedSquare$Tile" "begun" "Z", Cond.fieldLink RX3 84 "SkewedSquare$Tile" "row" "I", Cond.fieldLink RX3 87 "SkewedSquare$Tile" "column" "I", Cond.methodLink RX3 90 Lib.Math.min.name, Cond.static Lib.Math.min.name, Cond.initialized "java/lang/Math", Cond.code Lib.Math.min.name Lib.Math.min.code 2 (some .int), Cond.fieldLink RX3 96 "SkewedSquare$Tile" "height" "I", Cond.fieldLink RX3 99 "SkewedSquare$Tile" "width" "I"]
def wsX6_all_r5 : List Cond := [Cond.fieldLink RX3 102 "SkewedSquare$Tile" "ticksNeeded" "I", Cond.methodLink RX3 77 yX5_empty, Cond.instanceMethod yX5_empty, Cond.selects RX5 yX5_empty yX5_empty, Cond.code yX5_empty cX5_empty 1 none, Cond.constant RX5 30 (-999999999), Cond.methodLink RX5 24 yJ7_fill_53178, Cond.static yJ7_fill_53178, Cond.initialized RJ7, Cond.code yJ7_fill_53178 cJ7_fill_53178 4 none, Cond.methodLink RX3 105 yX5_ticksLeft, Cond.instanceMethod yX5_ticksLeft, Cond.selects RX5 yX5_ticksLeft yX5_ticksLeft, Cond.code yX5_ticksLeft cX5_ticksLeft 1 (some .int), Cond.methodLink RX3 156 yX3_goOn, Cond.instanceMethod yX3_goOn, Cond.selects RX3 yX3_goOn yX3_goOn, Cond.code yX3_goOn cX3_goOn 4 none, Cond.methodLink RX3 108 yX3_goOnce, Cond.instanceMethod yX3_goOnce, Cond.selects RX3 yX3_goOnce yX3_goOnce, Cond.code yX3_goOnce cX3_goOnce 4 none, Cond.fieldLink RX3 130 "SkewedSquare$Tile" "ticks" "I", Cond.methodLink RX3 111 yX2_placeOf]
def wsX6_all_r6 : List Cond := [Cond.instanceMethod yX2_placeOf, Cond.selects RX2 yX2_placeOf yX2_placeOf, Cond.code yX2_placeOf cX2_placeOf 2 (some .int), Cond.methodLink RX3 114 yX2_kindAt, Cond.instanceMethod yX2_kindAt, Cond.selects RX2 yX2_kindAt yX2_kindAt, Cond.code yX2_kindAt cX2_kindAt 3 (some .int), Cond.methodLink RX2 28 yX2_has, Cond.instanceMethod yX2_has, Cond.selects RX2 yX2_has yX2_has, Cond.code yX2_has cX2_has 3 (some .boolean), Cond.methodLink RX3 117 yX5_cell, Cond.static yX5_cell, Cond.code yX5_cell cX5_cell 2 (some .int), Cond.methodLink RX3 120 yX3_fromLeft, Cond.instanceMethod yX3_fromLeft, Cond.selects RX3 yX3_fromLeft yX3_fromLeft, Cond.code yX3_fromLeft cX3_fromLeft 5 (some .int), Cond.constant RX3 58 (-999999999), Cond.methodLink RX3 133 yX5_rightwardOf, Cond.instanceMethod yX5_rightwardOf, Cond.selects RX5 yX5_rightwardOf yX5_rightwardOf, Cond.code yX5_rightwardOf cX5_rightwardOf 2 (some .int), Cond.methodLink RX5 38 yX5_isCell]
def wsX6_all_r7 : List Cond := [Cond.static yX5_isCell, Cond.code yX5_isCell cX5_isCell 1 (some .boolean), Cond.methodLink RX3 136 yX1_has, Cond.instanceMethod yX1_has, Cond.selects RX1 yX1_has yX1_has, Cond.code yX1_has cX1_has 3 (some .boolean), Cond.methodLink RX3 140 yX1_at, Cond.instanceMethod yX1_at, Cond.selects RX1 yX1_at yX1_at, Cond.code yX1_at cX1_at 3 (some .int), Cond.methodLink RX3 123 yX3_fromAbove, Cond.instanceMethod yX3_fromAbove, Cond.selects RX3 yX3_fromAbove yX3_fromAbove, Cond.code yX3_fromAbove cX3_fromAbove 5 (some .int), Cond.methodLink RX3 143 yX5_downwardOf, Cond.instanceMethod yX5_downwardOf, Cond.selects RX5 yX5_downwardOf yX5_downwardOf, Cond.code yX5_downwardOf cX5_downwardOf 2 (some .int), Cond.methodLink RX3 126 yX5_pass, Cond.instanceMethod yX5_pass, Cond.selects RX5 yX5_pass yX5_pass, Cond.code yX5_pass cX5_pass 5 none, Cond.methodLink RX5 42 yX5_timesAdded, Cond.static yX5_timesAdded]
def wsX6_all_r8 : List Cond := [Cond.code yX5_timesAdded cX5_timesAdded 1 (some .int), Cond.methodLink RX5 46 yX5_zeroIfAny, Cond.static yX5_zeroIfAny, Cond.code yX5_zeroIfAny cX5_zeroIfAny 1 (some .int), Cond.methodLink RX3 160 yX3_drainTile, Cond.instanceMethod yX3_drainTile, Cond.selects RX3 yX3_drainTile yX3_drainTile, Cond.code yX3_drainTile cX3_drainTile 5 none, Cond.methodLink RX3 146 yX5_sumOf, Cond.instanceMethod yX5_sumOf, Cond.selects RX5 yX5_sumOf yX5_sumOf, Cond.code yX5_sumOf cX5_sumOf 2 (some .int), Cond.methodLink RX3 149 yX1_put, Cond.instanceMethod yX1_put, Cond.selects RX1 yX1_put yX1_put, Cond.code yX1_put cX1_put 4 none, Cond.methodLink RX1 22 yX1_has]
def wsX6_all : List Cond := .code yX6_all cX6_all 1 (some .int) :: ((wsX6_all_r1 ++ (wsX6_all_r2 ++ (wsX6_all_r3 ++ (wsX6_all_r4 ++ (wsX6_all_r5 ++ (wsX6_all_r6 ++ (wsX6_all_r7 ++ wsX6_all_r8))))))) ++ wsX60 ++ wsX30 ++ wsX50 ++ wsX00 ++ wsX20 ++ wsX10)
def wsX6_entry : List Cond := .code yX6_entry cX6_entry 5 (some .int) :: ([.constant RX6 33 (-1000001), .fieldLink RX6 10 "SkewedSquare" "now" "LSkewedSquare$State;", .fieldLink RX6 69 "SkewedSquare$State" "leftMatrix" "LSkewedSquare$Matrix;", .fieldLink RX6 78 "SkewedSquare$State" "rightMatrix" "LSkewedSquare$Matrix;", .methodLink RX6 129 yX1_has, .instanceMethod yX1_has, .selects RX1 yX1_has yX1_has, .initialized RX1, .code yX1_has cX1_has 3 (some .boolean), .fieldLink RX1 9 "SkewedSquare$Matrix" "rows" "I", .fieldLink RX1 15 "SkewedSquare$Matrix" "columns" "I", .methodLink RX6 130 yX1_at, .instanceMethod yX1_at, .selects RX1 yX1_at yX1_at, .code yX1_at cX1_at 3 (some .int), .fieldLink RX1 18 "SkewedSquare$Matrix" "entries" "[I"] ++ wsX60 ++ wsX30 ++ wsX10)
def wsX6_orNotFound : List Cond := .code yX6_orNotFound cX6_orNotFound 1 (some .int) :: ([.constant RX6 216 (-999999999), .constant RX6 161 (-1000004)])
def wsX6_ofCellAtWork_r1 : List Cond := [Cond.fieldLink RX6 10 "SkewedSquare" "now" "LSkewedSquare$State;", Cond.fieldLink RX6 52 "SkewedSquare$State" "tile" "LSkewedSquare$Tile;", Cond.methodLink RX6 220 yX5_sumOf, Cond.instanceMethod yX5_sumOf, Cond.selects RX5 yX5_sumOf yX5_sumOf, Cond.initialized RX5, Cond.code yX5_sumOf cX5_sumOf 2 (some .int), Cond.fieldLink RX5 9 "SkewedSquare$Tile" "sums" "[I", Cond.methodLink RX5 38 yX5_isCell, Cond.static yX5_isCell, Cond.code yX5_isCell cX5_isCell 1 (some .boolean), Cond.methodLink RX6 223 yX5_rightwardOf, Cond.instanceMethod yX5_rightwardOf, Cond.selects RX5 yX5_rightwardOf yX5_rightwardOf, Cond.code yX5_rightwardOf cX5_rightwardOf 2 (some .int), Cond.fieldLink RX5 18 "SkewedSquare$Tile" "rightward" "[I", Cond.constant RX5 30 (-999999999), Cond.methodLink RX6 149 yX6_orNotFound, Cond.static yX6_orNotFound, Cond.initialized RX6, Cond.code yX6_orNotFound cX6_orNotFound 1 (some .int), Cond.constant RX6 216 (-999999999), Cond.constant RX6 161 (-1000004), Cond.methodLink RX6 226 yX5_downwardOf]
def wsX6_ofCellAtWork_r2 : List Cond := [Cond.instanceMethod yX5_downwardOf, Cond.selects RX5 yX5_downwardOf yX5_downwardOf, Cond.code yX5_downwardOf cX5_downwardOf 2 (some .int), Cond.fieldLink RX5 21 "SkewedSquare$Tile" "downward" "[I", Cond.methodLink RX6 229 yX5_meetingsOf, Cond.instanceMethod yX5_meetingsOf, Cond.selects RX5 yX5_meetingsOf yX5_meetingsOf, Cond.code yX5_meetingsOf cX5_meetingsOf 2 (some .int), Cond.fieldLink RX5 15 "SkewedSquare$Tile" "meetings" "[I"]
def wsX6_ofCellAtWork : List Cond := .code yX6_ofCellAtWork cX6_ofCellAtWork 3 (some .int) :: ((wsX6_ofCellAtWork_r1 ++ wsX6_ofCellAtWork_r2) ++ wsX60 ++ wsX30 ++ wsX50)
def wsX6_cellOf_r1 : List Cond := [Cond.fieldLink RX6 10 "SkewedSquare" "now" "LSkewedSquare$State;", Cond.fieldLink RX6 38 "SkewedSquare$State" "square" "LSkewedSquare$Square;", Cond.fieldLink RX6 42 "SkewedSquare$Square" "side" "I", Cond.constant RX6 33 (-1000001), Cond.fieldLink RX6 52 "SkewedSquare$State" "tile" "LSkewedSquare$Tile;", Cond.fieldLink RX6 56 "SkewedSquare$Tile" "begun" "Z", Cond.constant RX6 93 (-1000002), Cond.methodLink RX6 133 yX2_placeOf, Cond.instanceMethod yX2_placeOf, Cond.selects RX2 yX2_placeOf yX2_placeOf, Cond.initialized RX2, Cond.code yX2_placeOf cX2_placeOf 2 (some .int), Cond.fieldLink RX2 15 "SkewedSquare$Square" "leftOut" "I", Cond.methodLink RX6 94 yX2_kindAt, Cond.instanceMethod yX2_kindAt, Cond.selects RX2 yX2_kindAt yX2_kindAt, Cond.code yX2_kindAt cX2_kindAt 3 (some .int), Cond.fieldLink RX2 18 "SkewedSquare$Square" "kinds" "[I", Cond.methodLink RX2 28 yX2_has, Cond.instanceMethod yX2_has, Cond.selects RX2 yX2_has yX2_has, Cond.code yX2_has cX2_has 3 (some .boolean), Cond.fieldLink RX2 9 "SkewedSquare$Square" "side" "I", Cond.methodLink RX6 137 yX5_cell]
def wsX6_cellOf_r2 : List Cond := [Cond.static yX5_cell, Cond.initialized RX5, Cond.code yX5_cell cX5_cell 2 (some .int), Cond.methodLink RX6 140 yX6_ofCellAtWork, Cond.instanceMethod yX6_ofCellAtWork, Cond.selects RX6 yX6_ofCellAtWork yX6_ofCellAtWork, Cond.initialized RX6, Cond.code yX6_ofCellAtWork cX6_ofCellAtWork 3 (some .int), Cond.methodLink RX6 220 yX5_sumOf, Cond.instanceMethod yX5_sumOf, Cond.selects RX5 yX5_sumOf yX5_sumOf, Cond.code yX5_sumOf cX5_sumOf 2 (some .int), Cond.fieldLink RX5 9 "SkewedSquare$Tile" "sums" "[I", Cond.methodLink RX5 38 yX5_isCell, Cond.static yX5_isCell, Cond.code yX5_isCell cX5_isCell 1 (some .boolean), Cond.methodLink RX6 223 yX5_rightwardOf, Cond.instanceMethod yX5_rightwardOf, Cond.selects RX5 yX5_rightwardOf yX5_rightwardOf, Cond.code yX5_rightwardOf cX5_rightwardOf 2 (some .int), Cond.fieldLink RX5 18 "SkewedSquare$Tile" "rightward" "[I", Cond.constant RX5 30 (-999999999), Cond.methodLink RX6 149 yX6_orNotFound, Cond.static yX6_orNotFound]
def wsX6_cellOf_r3 : List Cond := [Cond.code yX6_orNotFound cX6_orNotFound 1 (some .int), Cond.constant RX6 216 (-999999999), Cond.constant RX6 161 (-1000004), Cond.methodLink RX6 226 yX5_downwardOf, Cond.instanceMethod yX5_downwardOf, Cond.selects RX5 yX5_downwardOf yX5_downwardOf, Cond.code yX5_downwardOf cX5_downwardOf 2 (some .int), Cond.fieldLink RX5 21 "SkewedSquare$Tile" "downward" "[I", Cond.methodLink RX6 229 yX5_meetingsOf, Cond.instanceMethod yX5_meetingsOf, Cond.selects RX5 yX5_meetingsOf yX5_meetingsOf, Cond.code yX5_meetingsOf cX5_meetingsOf 2 (some .int), Cond.fieldLink RX5 15 "SkewedSquare$Tile" "meetings" "[I"]
def wsX6_cellOf : List Cond := .code yX6_cellOf cX6_cellOf 5 (some .int) :: ((wsX6_cellOf_r1 ++ (wsX6_cellOf_r2 ++ wsX6_cellOf_r3)) ++ wsX60 ++ wsX30 ++ wsX20 ++ wsX50)
def wsX6_result_r1 : List Cond := [Cond.fieldLink RX6 10 "SkewedSquare" "now" "LSkewedSquare$State;", Cond.fieldLink RX6 143 "SkewedSquare$State" "results" "LSkewedSquare$Matrix;", Cond.constant RX6 33 (-1000001), Cond.methodLink RX6 129 yX1_has, Cond.instanceMethod yX1_has, Cond.selects RX1 yX1_has yX1_has, Cond.initialized RX1, Cond.code yX1_has cX1_has 3 (some .boolean), Cond.fieldLink RX1 9 "SkewedSquare$Matrix" "rows" "I", Cond.fieldLink RX1 15 "SkewedSquare$Matrix" "columns" "I", Cond.methodLink RX6 146 yX3_dueAt, Cond.instanceMethod yX3_dueAt, Cond.selects RX3 yX3_dueAt yX3_dueAt, Cond.initialized RX3, Cond.code yX3_dueAt cX3_dueAt 5 (some .int), Cond.fieldLink RX3 21 "SkewedSquare$State" "leftMatrix" "LSkewedSquare$Matrix;", Cond.fieldLink RX3 55 "SkewedSquare$Matrix" "columns" "I", Cond.fieldLink RX3 25 "SkewedSquare$State" "rightMatrix" "LSkewedSquare$Matrix;", Cond.methodLink RX3 140 yX1_at, Cond.instanceMethod yX1_at, Cond.selects RX1 yX1_at yX1_at, Cond.code yX1_at cX1_at 3 (some .int), Cond.fieldLink RX1 18 "SkewedSquare$Matrix" "entries" "[I", Cond.methodLink RX6 130 yX1_at]
def wsX6_result_r2 : List Cond := [Cond.methodLink RX6 149 yX6_orNotFound, Cond.static yX6_orNotFound, Cond.initialized RX6, Cond.code yX6_orNotFound cX6_orNotFound 1 (some .int), Cond.constant RX6 216 (-999999999), Cond.constant RX6 161 (-1000004)]
def wsX6_result : List Cond := .code yX6_result cX6_result 4 (some .int) :: ((wsX6_result_r1 ++ wsX6_result_r2) ++ wsX60 ++ wsX30 ++ wsX10)
def wsX6_count_r1 : List Cond := [Cond.fieldLink RX6 10 "SkewedSquare" "now" "LSkewedSquare$State;", Cond.fieldLink RX6 38 "SkewedSquare$State" "square" "LSkewedSquare$Square;", Cond.fieldLink RX6 42 "SkewedSquare$Square" "side" "I", Cond.fieldLink RX6 69 "SkewedSquare$State" "leftMatrix" "LSkewedSquare$Matrix;", Cond.fieldLink RX6 152 "SkewedSquare$Matrix" "rows" "I", Cond.fieldLink RX6 155 "SkewedSquare$Matrix" "columns" "I", Cond.fieldLink RX6 78 "SkewedSquare$State" "rightMatrix" "LSkewedSquare$Matrix;", Cond.fieldLink RX6 101 "SkewedSquare$Square" "leftOut" "I", Cond.fieldLink RX6 52 "SkewedSquare$State" "tile" "LSkewedSquare$Tile;", Cond.fieldLink RX6 56 "SkewedSquare$Tile" "begun" "Z", Cond.fieldLink RX6 158 "SkewedSquare$Tile" "row" "I", Cond.constant RX6 161 (-1000004), Cond.fieldLink RX6 162 "SkewedSquare$Tile" "column" "I", Cond.fieldLink RX6 165 "SkewedSquare$Tile" "ticks" "I", Cond.fieldLink RX6 22 "SkewedSquare" "history" "LSkewedSquare$History;", Cond.fieldLink RX6 174 "SkewedSquare$History" "size" "I", Cond.fieldLink RX6 29 "SkewedSquare" "text" "LSkewedSquare$Text;", Cond.fieldLink RX6 177 "SkewedSquare$Text" "length" "I", Cond.constant RX6 33 (-1000001), Cond.methodLink RX6 81 yX3_tiles, Cond.instanceMethod yX3_tiles, Cond.selects RX3 yX3_tiles yX3_tiles, Cond.initialized RX3, Cond.code yX3_tiles cX3_tiles 1 (some .int)]
def wsX6_count_r2 : List Cond := [Cond.methodLink RX3 67 yX3_tilesDown, Cond.instanceMethod yX3_tilesDown, Cond.selects RX3 yX3_tilesDown yX3_tilesDown, Cond.code yX3_tilesDown cX3_tilesDown 1 (some .int), Cond.fieldLink RX3 21 "SkewedSquare$State" "leftMatrix" "LSkewedSquare$Matrix;", Cond.fieldLink RX3 51 "SkewedSquare$Matrix" "rows" "I", Cond.methodLink RX3 63 yX3_tilesAlong, Cond.instanceMethod yX3_tilesAlong, Cond.selects RX3 yX3_tilesAlong yX3_tilesAlong, Cond.code yX3_tilesAlong cX3_tilesAlong 2 (some .int), Cond.fieldLink RX3 12 "SkewedSquare$State" "square" "LSkewedSquare$Square;", Cond.fieldLink RX3 74 "SkewedSquare$Square" "side" "I", Cond.methodLink RX3 71 yX3_tilesAcross, Cond.instanceMethod yX3_tilesAcross, Cond.selects RX3 yX3_tilesAcross yX3_tilesAcross, Cond.code yX3_tilesAcross cX3_tilesAcross 1 (some .int), Cond.fieldLink RX3 25 "SkewedSquare$State" "rightMatrix" "LSkewedSquare$Matrix;", Cond.fieldLink RX3 55 "SkewedSquare$Matrix" "columns" "I", Cond.methodLink RX6 114 yX5_ticksLeft, Cond.instanceMethod yX5_ticksLeft, Cond.selects RX5 yX5_ticksLeft yX5_ticksLeft, Cond.initialized RX5, Cond.code yX5_ticksLeft cX5_ticksLeft 1 (some .int), Cond.fieldLink RX5 35 "SkewedSquare$Tile" "ticksNeeded" "I"]
def wsX6_count_r3 : List Cond := [Cond.fieldLink RX5 31 "SkewedSquare$Tile" "ticks" "I", Cond.methodLink RX6 123 yX3_knownEntries, Cond.instanceMethod yX3_knownEntries, Cond.selects RX3 yX3_knownEntries yX3_knownEntries, Cond.code yX3_knownEntries cX3_knownEntries 4 (some .int), Cond.fieldLink RX3 28 "SkewedSquare$State" "results" "LSkewedSquare$Matrix;", Cond.constant RX3 58 (-999999999), Cond.methodLink RX3 140 yX1_at, Cond.instanceMethod yX1_at, Cond.selects RX1 yX1_at yX1_at, Cond.initialized RX1, Cond.code yX1_at cX1_at 3 (some .int), Cond.fieldLink RX1 9 "SkewedSquare$Matrix" "rows" "I", Cond.fieldLink RX1 15 "SkewedSquare$Matrix" "columns" "I", Cond.fieldLink RX1 18 "SkewedSquare$Matrix" "entries" "[I", Cond.methodLink RX6 168 yX3_wrongEntries, Cond.instanceMethod yX3_wrongEntries, Cond.selects RX3 yX3_wrongEntries yX3_wrongEntries, Cond.code yX3_wrongEntries cX3_wrongEntries 5 (some .int), Cond.methodLink RX3 163 yX3_dueAt, Cond.instanceMethod yX3_dueAt, Cond.selects RX3 yX3_dueAt yX3_dueAt, Cond.code yX3_dueAt cX3_dueAt 5 (some .int), Cond.methodLink RX6 171 yX2_faultyCells]
def wsX6_count_r4 : List Cond := [Cond.instanceMethod yX2_faultyCells, Cond.selects RX2 yX2_faultyCells yX2_faultyCells, Cond.initialized RX2, Cond.code yX2_faultyCells cX2_faultyCells 4 (some .int), Cond.fieldLink RX2 9 "SkewedSquare$Square" "side" "I", Cond.methodLink RX2 32 yX2_kindAt, Cond.instanceMethod yX2_kindAt, Cond.selects RX2 yX2_kindAt yX2_kindAt, Cond.code yX2_kindAt cX2_kindAt 3 (some .int), Cond.fieldLink RX2 18 "SkewedSquare$Square" "kinds" "[I", Cond.methodLink RX2 28 yX2_has, Cond.instanceMethod yX2_has, Cond.selects RX2 yX2_has yX2_has, Cond.code yX2_has cX2_has 3 (some .boolean)]
def wsX6_count : List Cond := .code yX6_count cX6_count 2 (some .int) :: ((wsX6_count_r1 ++ (wsX6_count_r2 ++ (wsX6_count_r3 ++ wsX6_count_r4))) ++ wsX60 ++ wsX30 ++ wsX20 ++ wsX10 ++ wsX50 ++ wsX00 ++ wsX40)
def wsX6_suspects_r1 : List Cond := [Cond.constant RX6 33 (-1000001), Cond.fieldLink RX6 10 "SkewedSquare" "now" "LSkewedSquare$State;", Cond.methodLink RX6 180 yX3_suspectRows, Cond.instanceMethod yX3_suspectRows, Cond.selects RX3 yX3_suspectRows yX3_suspectRows, Cond.initialized RX3, Cond.code yX3_suspectRows cX3_suspectRows 3 (some .int), Cond.fieldLink RX3 28 "SkewedSquare$State" "results" "LSkewedSquare$Matrix;", Cond.fieldLink RX3 51 "SkewedSquare$Matrix" "rows" "I", Cond.methodLink RX3 166 yX1_isWholeInRow, Cond.instanceMethod yX1_isWholeInRow, Cond.selects RX1 yX1_isWholeInRow yX1_isWholeInRow, Cond.initialized RX1, Cond.code yX1_isWholeInRow cX1_isWholeInRow 3 (some .boolean), Cond.fieldLink RX1 15 "SkewedSquare$Matrix" "columns" "I", Cond.constant RX1 46 (-999999999), Cond.methodLink RX1 42 yX1_at, Cond.instanceMethod yX1_at, Cond.selects RX1 yX1_at yX1_at, Cond.code yX1_at cX1_at 3 (some .int), Cond.fieldLink RX1 9 "SkewedSquare$Matrix" "rows" "I", Cond.fieldLink RX1 18 "SkewedSquare$Matrix" "entries" "[I", Cond.methodLink RX3 170 yX1_sumOfRow, Cond.instanceMethod yX1_sumOfRow]
def wsX6_suspects_r2 : List Cond := [Cond.selects RX1 yX1_sumOfRow yX1_sumOfRow, Cond.code yX1_sumOfRow cX1_sumOfRow 4 (some .int), Cond.methodLink RX3 173 yX3_dueSumOfRow, Cond.instanceMethod yX3_dueSumOfRow, Cond.selects RX3 yX3_dueSumOfRow yX3_dueSumOfRow, Cond.code yX3_dueSumOfRow cX3_dueSumOfRow 4 (some .int), Cond.fieldLink RX3 21 "SkewedSquare$State" "leftMatrix" "LSkewedSquare$Matrix;", Cond.fieldLink RX3 55 "SkewedSquare$Matrix" "columns" "I", Cond.fieldLink RX3 25 "SkewedSquare$State" "rightMatrix" "LSkewedSquare$Matrix;", Cond.methodLink RX3 140 yX1_at, Cond.methodLink RX6 183 yX3_suspectColumns, Cond.instanceMethod yX3_suspectColumns, Cond.selects RX3 yX3_suspectColumns yX3_suspectColumns, Cond.code yX3_suspectColumns cX3_suspectColumns 3 (some .int), Cond.methodLink RX3 176 yX1_isWholeInColumn, Cond.instanceMethod yX1_isWholeInColumn, Cond.selects RX1 yX1_isWholeInColumn yX1_isWholeInColumn, Cond.code yX1_isWholeInColumn cX1_isWholeInColumn 3 (some .boolean), Cond.methodLink RX3 179 yX1_sumOfColumn, Cond.instanceMethod yX1_sumOfColumn, Cond.selects RX1 yX1_sumOfColumn yX1_sumOfColumn, Cond.code yX1_sumOfColumn cX1_sumOfColumn 4 (some .int), Cond.methodLink RX3 182 yX3_dueSumOfColumn, Cond.instanceMethod yX3_dueSumOfColumn]
def wsX6_suspects_r3 : List Cond := [Cond.selects RX3 yX3_dueSumOfColumn yX3_dueSumOfColumn, Cond.code yX3_dueSumOfColumn cX3_dueSumOfColumn 4 (some .int)]
def wsX6_suspects : List Cond := .code yX6_suspects cX6_suspects 2 (some .int) :: ((wsX6_suspects_r1 ++ (wsX6_suspects_r2 ++ wsX6_suspects_r3)) ++ wsX60 ++ wsX30 ++ wsX10)
def wsX6_wrongWithout_r1 : List Cond := [Cond.fieldLink RX6 16 "SkewedSquare" "trial" "LSkewedSquare$State;", Cond.fieldLink RX6 10 "SkewedSquare" "now" "LSkewedSquare$State;", Cond.fieldLink RX6 38 "SkewedSquare$State" "square" "LSkewedSquare$Square;", Cond.fieldLink RX6 101 "SkewedSquare$Square" "leftOut" "I", Cond.methodLink RX6 232 yX3_copyFrom, Cond.instanceMethod yX3_copyFrom, Cond.selects RX3 yX3_copyFrom yX3_copyFrom, Cond.initialized RX3, Cond.code yX3_copyFrom cX3_copyFrom 2 none, Cond.fieldLink RX3 12 "SkewedSquare$State" "square" "LSkewedSquare$Square;", Cond.fieldLink RX3 21 "SkewedSquare$State" "leftMatrix" "LSkewedSquare$Matrix;", Cond.fieldLink RX3 25 "SkewedSquare$State" "rightMatrix" "LSkewedSquare$Matrix;", Cond.fieldLink RX3 28 "SkewedSquare$State" "results" "LSkewedSquare$Matrix;", Cond.fieldLink RX3 34 "SkewedSquare$State" "tile" "LSkewedSquare$Tile;", Cond.methodLink RX3 41 yX2_copyFrom, Cond.instanceMethod yX2_copyFrom, Cond.selects RX2 yX2_copyFrom yX2_copyFrom, Cond.initialized RX2, Cond.code yX2_copyFrom cX2_copyFrom 2 none, Cond.fieldLink RX2 9 "SkewedSquare$Square" "side" "I", Cond.fieldLink RX2 15 "SkewedSquare$Square" "leftOut" "I", Cond.fieldLink RX2 18 "SkewedSquare$Square" "kinds" "[I", Cond.methodLink RX2 36 arraycopyName, Cond.native arraycopyName]
def wsX6_wrongWithout_r2 : List Cond := [Cond.static arraycopyName, Cond.initialized "java/lang/System", Cond.methodLink RX3 45 yX1_copyFrom, Cond.instanceMethod yX1_copyFrom, Cond.selects RX1 yX1_copyFrom yX1_copyFrom, Cond.initialized RX1, Cond.code yX1_copyFrom cX1_copyFrom 2 none, Cond.fieldLink RX1 9 "SkewedSquare$Matrix" "rows" "I", Cond.fieldLink RX1 15 "SkewedSquare$Matrix" "columns" "I", Cond.fieldLink RX1 18 "SkewedSquare$Matrix" "entries" "[I", Cond.methodLink RX1 36 arraycopyName, Cond.methodLink RX3 48 yX5_copyFrom, Cond.instanceMethod yX5_copyFrom, Cond.selects RX5 yX5_copyFrom yX5_copyFrom, Cond.initialized RX5, Cond.code yX5_copyFrom cX5_copyFrom 2 none, Cond.fieldLink RX5 49 "SkewedSquare$Tile" "begun" "Z", Cond.fieldLink RX5 53 "SkewedSquare$Tile" "row" "I", Cond.fieldLink RX5 56 "SkewedSquare$Tile" "column" "I", Cond.fieldLink RX5 59 "SkewedSquare$Tile" "height" "I", Cond.fieldLink RX5 62 "SkewedSquare$Tile" "width" "I", Cond.fieldLink RX5 31 "SkewedSquare$Tile" "ticks" "I", Cond.fieldLink RX5 35 "SkewedSquare$Tile" "ticksNeeded" "I", Cond.fieldLink RX5 9 "SkewedSquare$Tile" "sums" "[I"]
def wsX6_wrongWithout_r3 : List Cond := [Cond.methodLink RX5 65 arraycopyName, Cond.fieldLink RX5 15 "SkewedSquare$Tile" "meetings" "[I", Cond.fieldLink RX5 18 "SkewedSquare$Tile" "rightward" "[I", Cond.fieldLink RX5 21 "SkewedSquare$Tile" "downward" "[I", Cond.methodLink RX6 126 yX3_doAllTiles, Cond.instanceMethod yX3_doAllTiles, Cond.selects RX3 yX3_doAllTiles yX3_doAllTiles, Cond.code yX3_doAllTiles cX3_doAllTiles 6 (some .int), Cond.methodLink RX3 67 yX3_tilesDown, Cond.instanceMethod yX3_tilesDown, Cond.selects RX3 yX3_tilesDown yX3_tilesDown, Cond.code yX3_tilesDown cX3_tilesDown 1 (some .int), Cond.fieldLink RX3 51 "SkewedSquare$Matrix" "rows" "I", Cond.methodLink RX3 63 yX3_tilesAlong, Cond.instanceMethod yX3_tilesAlong, Cond.selects RX3 yX3_tilesAlong yX3_tilesAlong, Cond.code yX3_tilesAlong cX3_tilesAlong 2 (some .int), Cond.fieldLink RX3 74 "SkewedSquare$Square" "side" "I", Cond.methodLink RX3 71 yX3_tilesAcross, Cond.instanceMethod yX3_tilesAcross, Cond.selects RX3 yX3_tilesAcross yX3_tilesAcross, Cond.code yX3_tilesAcross cX3_tilesAcross 1 (some .int), Cond.fieldLink RX3 55 "SkewedSquare$Matrix" "columns" "I", Cond.methodLink RX3 152 yX3_beginTile]
def wsX6_wrongWithout_r4 : List Cond := [Cond.instanceMethod yX3_beginTile, Cond.selects RX3 yX3_beginTile yX3_beginTile, Cond.code yX3_beginTile cX3_beginTile 3 none, Cond.fieldLink RX3 80 "SkewedSquare$Tile" "begun" "Z", Cond.fieldLink RX3 84 "SkewedSquare$Tile" "row" "I", Cond.fieldLink RX3 87 "SkewedSquare$Tile" "column" "I", Cond.methodLink RX3 90 Lib.Math.min.name, Cond.static Lib.Math.min.name, Cond.initialized "java/lang/Math", Cond.code Lib.Math.min.name Lib.Math.min.code 2 (some .int), Cond.fieldLink RX3 96 "SkewedSquare$Tile" "height" "I", Cond.fieldLink RX3 99 "SkewedSquare$Tile" "width" "I", Cond.fieldLink RX3 102 "SkewedSquare$Tile" "ticksNeeded" "I", Cond.methodLink RX3 77 yX5_empty, Cond.instanceMethod yX5_empty, Cond.selects RX5 yX5_empty yX5_empty, Cond.code yX5_empty cX5_empty 1 none, Cond.constant RX5 30 (-999999999), Cond.methodLink RX5 24 yJ7_fill_53178, Cond.static yJ7_fill_53178, Cond.initialized RJ7, Cond.code yJ7_fill_53178 cJ7_fill_53178 4 none, Cond.methodLink RX3 105 yX5_ticksLeft, Cond.instanceMethod yX5_ticksLeft]
def wsX6_wrongWithout_r5 : List Cond := [Cond.selects RX5 yX5_ticksLeft yX5_ticksLeft, Cond.code yX5_ticksLeft cX5_ticksLeft 1 (some .int), Cond.methodLink RX3 156 yX3_goOn, Cond.instanceMethod yX3_goOn, Cond.selects RX3 yX3_goOn yX3_goOn, Cond.code yX3_goOn cX3_goOn 4 none, Cond.methodLink RX3 108 yX3_goOnce, Cond.instanceMethod yX3_goOnce, Cond.selects RX3 yX3_goOnce yX3_goOnce, Cond.code yX3_goOnce cX3_goOnce 4 none, Cond.fieldLink RX3 130 "SkewedSquare$Tile" "ticks" "I", Cond.methodLink RX3 111 yX2_placeOf, Cond.instanceMethod yX2_placeOf, Cond.selects RX2 yX2_placeOf yX2_placeOf, Cond.code yX2_placeOf cX2_placeOf 2 (some .int), Cond.methodLink RX3 114 yX2_kindAt, Cond.instanceMethod yX2_kindAt, Cond.selects RX2 yX2_kindAt yX2_kindAt, Cond.code yX2_kindAt cX2_kindAt 3 (some .int), Cond.methodLink RX2 28 yX2_has, Cond.instanceMethod yX2_has, Cond.selects RX2 yX2_has yX2_has, Cond.code yX2_has cX2_has 3 (some .boolean), Cond.methodLink RX3 117 yX5_cell]
def wsX6_wrongWithout_r6 : List Cond := [Cond.static yX5_cell, Cond.code yX5_cell cX5_cell 2 (some .int), Cond.methodLink RX3 120 yX3_fromLeft, Cond.instanceMethod yX3_fromLeft, Cond.selects RX3 yX3_fromLeft yX3_fromLeft, Cond.code yX3_fromLeft cX3_fromLeft 5 (some .int), Cond.constant RX3 58 (-999999999), Cond.methodLink RX3 133 yX5_rightwardOf, Cond.instanceMethod yX5_rightwardOf, Cond.selects RX5 yX5_rightwardOf yX5_rightwardOf, Cond.code yX5_rightwardOf cX5_rightwardOf 2 (some .int), Cond.methodLink RX5 38 yX5_isCell, Cond.static yX5_isCell, Cond.code yX5_isCell cX5_isCell 1 (some .boolean), Cond.methodLink RX3 136 yX1_has, Cond.instanceMethod yX1_has, Cond.selects RX1 yX1_has yX1_has, Cond.code yX1_has cX1_has 3 (some .boolean), Cond.methodLink RX3 140 yX1_at, Cond.instanceMethod yX1_at, Cond.selects RX1 yX1_at yX1_at, Cond.code yX1_at cX1_at 3 (some .int), Cond.methodLink RX3 123 yX3_fromAbove, Cond.instanceMethod yX3_fromAbove]
def wsX6_wrongWithout_r7 : List Cond := [Cond.selects RX3 yX3_fromAbove yX3_fromAbove, Cond.code yX3_fromAbove cX3_fromAbove 5 (some .int), Cond.methodLink RX3 143 yX5_downwardOf, Cond.instanceMethod yX5_downwardOf, Cond.selects RX5 yX5_downwardOf yX5_downwardOf, Cond.code yX5_downwardOf cX5_downwardOf 2 (some .int), Cond.methodLink RX3 126 yX5_pass, Cond.instanceMethod yX5_pass, Cond.selects RX5 yX5_pass yX5_pass, Cond.code yX5_pass cX5_pass 5 none, Cond.methodLink RX5 42 yX5_timesAdded, Cond.static yX5_timesAdded, Cond.code yX5_timesAdded cX5_timesAdded 1 (some .int), Cond.methodLink RX5 46 yX5_zeroIfAny, Cond.static yX5_zeroIfAny, Cond.code yX5_zeroIfAny cX5_zeroIfAny 1 (some .int), Cond.methodLink RX3 160 yX3_drainTile, Cond.instanceMethod yX3_drainTile, Cond.selects RX3 yX3_drainTile yX3_drainTile, Cond.code yX3_drainTile cX3_drainTile 5 none, Cond.methodLink RX3 146 yX5_sumOf, Cond.instanceMethod yX5_sumOf, Cond.selects RX5 yX5_sumOf yX5_sumOf, Cond.code yX5_sumOf cX5_sumOf 2 (some .int)]
def wsX6_wrongWithout_r8 : List Cond := [Cond.methodLink RX3 149 yX1_put, Cond.instanceMethod yX1_put, Cond.selects RX1 yX1_put yX1_put, Cond.code yX1_put cX1_put 4 none, Cond.methodLink RX1 22 yX1_has, Cond.methodLink RX6 168 yX3_wrongEntries, Cond.instanceMethod yX3_wrongEntries, Cond.selects RX3 yX3_wrongEntries yX3_wrongEntries, Cond.code yX3_wrongEntries cX3_wrongEntries 5 (some .int), Cond.methodLink RX3 163 yX3_dueAt, Cond.instanceMethod yX3_dueAt, Cond.selects RX3 yX3_dueAt yX3_dueAt, Cond.code yX3_dueAt cX3_dueAt 5 (some .int)]
def wsX6_wrongWithout : List Cond := .code yX6_wrongWithout cX6_wrongWithout 2 (some .int) :: ((wsX6_wrongWithout_r1 ++ (wsX6_wrongWithout_r2 ++ (wsX6_wrongWithout_r3 ++ (wsX6_wrongWithout_r4 ++ (wsX6_wrongWithout_r5 ++ (wsX6_wrongWithout_r6 ++ (wsX6_wrongWithout_r7 ++ wsX6_wrongWithout_r8))))))) ++ wsX60 ++ wsX30 ++ wsX20 ++ wsX10 ++ wsX50)
def wsX6_wouldBeWrong_r1 : List Cond := [Cond.fieldLink RX6 10 "SkewedSquare" "now" "LSkewedSquare$State;", Cond.fieldLink RX6 38 "SkewedSquare$State" "square" "LSkewedSquare$Square;", Cond.fieldLink RX6 42 "SkewedSquare$Square" "side" "I", Cond.constant RX6 33 (-1000001), Cond.methodLink RX6 186 yX6_wrongWithout, Cond.instanceMethod yX6_wrongWithout, Cond.selects RX6 yX6_wrongWithout yX6_wrongWithout, Cond.initialized RX6, Cond.code yX6_wrongWithout cX6_wrongWithout 2 (some .int), Cond.fieldLink RX6 16 "SkewedSquare" "trial" "LSkewedSquare$State;", Cond.fieldLink RX6 101 "SkewedSquare$Square" "leftOut" "I", Cond.methodLink RX6 232 yX3_copyFrom, Cond.instanceMethod yX3_copyFrom, Cond.selects RX3 yX3_copyFrom yX3_copyFrom, Cond.initialized RX3, Cond.code yX3_copyFrom cX3_copyFrom 2 none, Cond.fieldLink RX3 12 "SkewedSquare$State" "square" "LSkewedSquare$Square;", Cond.fieldLink RX3 21 "SkewedSquare$State" "leftMatrix" "LSkewedSquare$Matrix;", Cond.fieldLink RX3 25 "SkewedSquare$State" "rightMatrix" "LSkewedSquare$Matrix;", Cond.fieldLink RX3 28 "SkewedSquare$State" "results" "LSkewedSquare$Matrix;", Cond.fieldLink RX3 34 "SkewedSquare$State" "tile" "LSkewedSquare$Tile;", Cond.methodLink RX3 41 yX2_copyFrom, Cond.instanceMethod yX2_copyFrom, Cond.selects RX2 yX2_copyFrom yX2_copyFrom]
def wsX6_wouldBeWrong_r2 : List Cond := [Cond.initialized RX2, Cond.code yX2_copyFrom cX2_copyFrom 2 none, Cond.fieldLink RX2 9 "SkewedSquare$Square" "side" "I", Cond.fieldLink RX2 15 "SkewedSquare$Square" "leftOut" "I", Cond.fieldLink RX2 18 "SkewedSquare$Square" "kinds" "[I", Cond.methodLink RX2 36 arraycopyName, Cond.native arraycopyName, Cond.static arraycopyName, Cond.initialized "java/lang/System", Cond.methodLink RX3 45 yX1_copyFrom, Cond.instanceMethod yX1_copyFrom, Cond.selects RX1 yX1_copyFrom yX1_copyFrom, Cond.initialized RX1, Cond.code yX1_copyFrom cX1_copyFrom 2 none, Cond.fieldLink RX1 9 "SkewedSquare$Matrix" "rows" "I", Cond.fieldLink RX1 15 "SkewedSquare$Matrix" "columns" "I", Cond.fieldLink RX1 18 "SkewedSquare$Matrix" "entries" "[I", Cond.methodLink RX1 36 arraycopyName, Cond.methodLink RX3 48 yX5_copyFrom, Cond.instanceMethod yX5_copyFrom, Cond.selects RX5 yX5_copyFrom yX5_copyFrom, Cond.initialized RX5, Cond.code yX5_copyFrom cX5_copyFrom 2 none, Cond.fieldLink RX5 49 "SkewedSquare$Tile" "begun" "Z"]
def wsX6_wouldBeWrong_r3 : List Cond := [Cond.fieldLink RX5 53 "SkewedSquare$Tile" "row" "I", Cond.fieldLink RX5 56 "SkewedSquare$Tile" "column" "I", Cond.fieldLink RX5 59 "SkewedSquare$Tile" "height" "I", Cond.fieldLink RX5 62 "SkewedSquare$Tile" "width" "I", Cond.fieldLink RX5 31 "SkewedSquare$Tile" "ticks" "I", Cond.fieldLink RX5 35 "SkewedSquare$Tile" "ticksNeeded" "I", Cond.fieldLink RX5 9 "SkewedSquare$Tile" "sums" "[I", Cond.methodLink RX5 65 arraycopyName, Cond.fieldLink RX5 15 "SkewedSquare$Tile" "meetings" "[I", Cond.fieldLink RX5 18 "SkewedSquare$Tile" "rightward" "[I", Cond.fieldLink RX5 21 "SkewedSquare$Tile" "downward" "[I", Cond.methodLink RX6 126 yX3_doAllTiles, Cond.instanceMethod yX3_doAllTiles, Cond.selects RX3 yX3_doAllTiles yX3_doAllTiles, Cond.code yX3_doAllTiles cX3_doAllTiles 6 (some .int), Cond.methodLink RX3 67 yX3_tilesDown, Cond.instanceMethod yX3_tilesDown, Cond.selects RX3 yX3_tilesDown yX3_tilesDown, Cond.code yX3_tilesDown cX3_tilesDown 1 (some .int), Cond.fieldLink RX3 51 "SkewedSquare$Matrix" "rows" "I", Cond.methodLink RX3 63 yX3_tilesAlong, Cond.instanceMethod yX3_tilesAlong, Cond.selects RX3 yX3_tilesAlong yX3_tilesAlong, Cond.code yX3_tilesAlong cX3_tilesAlong 2 (some .int)]
def wsX6_wouldBeWrong_r4 : List Cond := [Cond.fieldLink RX3 74 "SkewedSquare$Square" "side" "I", Cond.methodLink RX3 71 yX3_tilesAcross, Cond.instanceMethod yX3_tilesAcross, Cond.selects RX3 yX3_tilesAcross yX3_tilesAcross, Cond.code yX3_tilesAcross cX3_tilesAcross 1 (some .int), Cond.fieldLink RX3 55 "SkewedSquare$Matrix" "columns" "I", Cond.methodLink RX3 152 yX3_beginTile, Cond.instanceMethod yX3_beginTile, Cond.selects RX3 yX3_beginTile yX3_beginTile, Cond.code yX3_beginTile cX3_beginTile 3 none, Cond.fieldLink RX3 80 "SkewedSquare$Tile" "begun" "Z", Cond.fieldLink RX3 84 "SkewedSquare$Tile" "row" "I", Cond.fieldLink RX3 87 "SkewedSquare$Tile" "column" "I", Cond.methodLink RX3 90 Lib.Math.min.name, Cond.static Lib.Math.min.name, Cond.initialized "java/lang/Math", Cond.code Lib.Math.min.name Lib.Math.min.code 2 (some .int), Cond.fieldLink RX3 96 "SkewedSquare$Tile" "height" "I", Cond.fieldLink RX3 99 "SkewedSquare$Tile" "width" "I", Cond.fieldLink RX3 102 "SkewedSquare$Tile" "ticksNeeded" "I", Cond.methodLink RX3 77 yX5_empty, Cond.instanceMethod yX5_empty, Cond.selects RX5 yX5_empty yX5_empty, Cond.code yX5_empty cX5_empty 1 none]
def wsX6_wouldBeWrong_r5 : List Cond := [Cond.constant RX5 30 (-999999999), Cond.methodLink RX5 24 yJ7_fill_53178, Cond.static yJ7_fill_53178, Cond.initialized RJ7, Cond.code yJ7_fill_53178 cJ7_fill_53178 4 none, Cond.methodLink RX3 105 yX5_ticksLeft, Cond.instanceMethod yX5_ticksLeft, Cond.selects RX5 yX5_ticksLeft yX5_ticksLeft, Cond.code yX5_ticksLeft cX5_ticksLeft 1 (some .int), Cond.methodLink RX3 156 yX3_goOn, Cond.instanceMethod yX3_goOn, Cond.selects RX3 yX3_goOn yX3_goOn, Cond.code yX3_goOn cX3_goOn 4 none, Cond.methodLink RX3 108 yX3_goOnce, Cond.instanceMethod yX3_goOnce, Cond.selects RX3 yX3_goOnce yX3_goOnce, Cond.code yX3_goOnce cX3_goOnce 4 none, Cond.fieldLink RX3 130 "SkewedSquare$Tile" "ticks" "I", Cond.methodLink RX3 111 yX2_placeOf, Cond.instanceMethod yX2_placeOf, Cond.selects RX2 yX2_placeOf yX2_placeOf, Cond.code yX2_placeOf cX2_placeOf 2 (some .int), Cond.methodLink RX3 114 yX2_kindAt, Cond.instanceMethod yX2_kindAt]
def wsX6_wouldBeWrong_r6 : List Cond := [Cond.selects RX2 yX2_kindAt yX2_kindAt, Cond.code yX2_kindAt cX2_kindAt 3 (some .int), Cond.methodLink RX2 28 yX2_has, Cond.instanceMethod yX2_has, Cond.selects RX2 yX2_has yX2_has, Cond.code yX2_has cX2_has 3 (some .boolean), Cond.methodLink RX3 117 yX5_cell, Cond.static yX5_cell, Cond.code yX5_cell cX5_cell 2 (some .int), Cond.methodLink RX3 120 yX3_fromLeft, Cond.instanceMethod yX3_fromLeft, Cond.selects RX3 yX3_fromLeft yX3_fromLeft, Cond.code yX3_fromLeft cX3_fromLeft 5 (some .int), Cond.constant RX3 58 (-999999999), Cond.methodLink RX3 133 yX5_rightwardOf, Cond.instanceMethod yX5_rightwardOf, Cond.selects RX5 yX5_rightwardOf yX5_rightwardOf, Cond.code yX5_rightwardOf cX5_rightwardOf 2 (some .int), Cond.methodLink RX5 38 yX5_isCell, Cond.static yX5_isCell, Cond.code yX5_isCell cX5_isCell 1 (some .boolean), Cond.methodLink RX3 136 yX1_has, Cond.instanceMethod yX1_has, Cond.selects RX1 yX1_has yX1_has]
def wsX6_wouldBeWrong_r7 : List Cond := [Cond.code yX1_has cX1_has 3 (some .boolean), Cond.methodLink RX3 140 yX1_at, Cond.instanceMethod yX1_at, Cond.selects RX1 yX1_at yX1_at, Cond.code yX1_at cX1_at 3 (some .int), Cond.methodLink RX3 123 yX3_fromAbove, Cond.instanceMethod yX3_fromAbove, Cond.selects RX3 yX3_fromAbove yX3_fromAbove, Cond.code yX3_fromAbove cX3_fromAbove 5 (some .int), Cond.methodLink RX3 143 yX5_downwardOf, Cond.instanceMethod yX5_downwardOf, Cond.selects RX5 yX5_downwardOf yX5_downwardOf, Cond.code yX5_downwardOf cX5_downwardOf 2 (some .int), Cond.methodLink RX3 126 yX5_pass, Cond.instanceMethod yX5_pass, Cond.selects RX5 yX5_pass yX5_pass, Cond.code yX5_pass cX5_pass 5 none, Cond.methodLink RX5 42 yX5_timesAdded, Cond.static yX5_timesAdded, Cond.code yX5_timesAdded cX5_timesAdded 1 (some .int), Cond.methodLink RX5 46 yX5_zeroIfAny, Cond.static yX5_zeroIfAny, Cond.code yX5_zeroIfAny cX5_zeroIfAny 1 (some .int), Cond.methodLink RX3 160 yX3_drainTile]
def wsX6_wouldBeWrong_r8 : List Cond := [Cond.instanceMethod yX3_drainTile, Cond.selects RX3 yX3_drainTile yX3_drainTile, Cond.code yX3_drainTile cX3_drainTile 5 none, Cond.methodLink RX3 146 yX5_sumOf, Cond.instanceMethod yX5_sumOf, Cond.selects RX5 yX5_sumOf yX5_sumOf, Cond.code yX5_sumOf cX5_sumOf 2 (some .int), Cond.methodLink RX3 149 yX1_put, Cond.instanceMethod yX1_put, Cond.selects RX1 yX1_put yX1_put, Cond.code yX1_put cX1_put 4 none, Cond.methodLink RX1 22 yX1_has, Cond.methodLink RX6 168 yX3_wrongEntries, Cond.instanceMethod yX3_wrongEntries, Cond.selects RX3 yX3_wrongEntries yX3_wrongEntries, Cond.code yX3_wrongEntries cX3_wrongEntries 5 (some .int), Cond.methodLink RX3 163 yX3_dueAt, Cond.instanceMethod yX3_dueAt, Cond.selects RX3 yX3_dueAt yX3_dueAt, Cond.code yX3_dueAt cX3_dueAt 5 (some .int)]
def wsX6_wouldBeWrong : List Cond := .code yX6_wouldBeWrong cX6_wouldBeWrong 2 (some .int) :: ((wsX6_wouldBeWrong_r1 ++ (wsX6_wouldBeWrong_r2 ++ (wsX6_wouldBeWrong_r3 ++ (wsX6_wouldBeWrong_r4 ++ (wsX6_wouldBeWrong_r5 ++ (wsX6_wouldBeWrong_r6 ++ (wsX6_wouldBeWrong_r7 ++ wsX6_wouldBeWrong_r8))))))) ++ wsX60 ++ wsX30 ++ wsX20 ++ wsX10 ++ wsX50)
def wsX6_best_r1 : List Cond := [Cond.fieldLink RX6 10 "SkewedSquare" "now" "LSkewedSquare$State;", Cond.fieldLink RX6 38 "SkewedSquare$State" "square" "LSkewedSquare$Square;", Cond.fieldLink RX6 42 "SkewedSquare$Square" "side" "I", Cond.methodLink RX6 186 yX6_wrongWithout, Cond.instanceMethod yX6_wrongWithout, Cond.selects RX6 yX6_wrongWithout yX6_wrongWithout, Cond.initialized RX6, Cond.code yX6_wrongWithout cX6_wrongWithout 2 (some .int), Cond.fieldLink RX6 16 "SkewedSquare" "trial" "LSkewedSquare$State;", Cond.fieldLink RX6 101 "SkewedSquare$Square" "leftOut" "I", Cond.methodLink RX6 232 yX3_copyFrom, Cond.instanceMethod yX3_copyFrom, Cond.selects RX3 yX3_copyFrom yX3_copyFrom, Cond.initialized RX3, Cond.code yX3_copyFrom cX3_copyFrom 2 none, Cond.fieldLink RX3 12 "SkewedSquare$State" "square" "LSkewedSquare$Square;", Cond.fieldLink RX3 21 "SkewedSquare$State" "leftMatrix" "LSkewedSquare$Matrix;", Cond.fieldLink RX3 25 "SkewedSquare$State" "rightMatrix" "LSkewedSquare$Matrix;", Cond.fieldLink RX3 28 "SkewedSquare$State" "results" "LSkewedSquare$Matrix;", Cond.fieldLink RX3 34 "SkewedSquare$State" "tile" "LSkewedSquare$Tile;", Cond.methodLink RX3 41 yX2_copyFrom, Cond.instanceMethod yX2_copyFrom, Cond.selects RX2 yX2_copyFrom yX2_copyFrom, Cond.initialized RX2]
def wsX6_best_r2 : List Cond := [Cond.code yX2_copyFrom cX2_copyFrom 2 none, Cond.fieldLink RX2 9 "SkewedSquare$Square" "side" "I", Cond.fieldLink RX2 15 "SkewedSquare$Square" "leftOut" "I", Cond.fieldLink RX2 18 "SkewedSquare$Square" "kinds" "[I", Cond.methodLink RX2 36 arraycopyName, Cond.native arraycopyName, Cond.static arraycopyName, Cond.initialized "java/lang/System", Cond.methodLink RX3 45 yX1_copyFrom, Cond.instanceMethod yX1_copyFrom, Cond.selects RX1 yX1_copyFrom yX1_copyFrom, Cond.initialized RX1, Cond.code yX1_copyFrom cX1_copyFrom 2 none, Cond.fieldLink RX1 9 "SkewedSquare$Matrix" "rows" "I", Cond.fieldLink RX1 15 "SkewedSquare$Matrix" "columns" "I", Cond.fieldLink RX1 18 "SkewedSquare$Matrix" "entries" "[I", Cond.methodLink RX1 36 arraycopyName, Cond.methodLink RX3 48 yX5_copyFrom, Cond.instanceMethod yX5_copyFrom, Cond.selects RX5 yX5_copyFrom yX5_copyFrom, Cond.initialized RX5, Cond.code yX5_copyFrom cX5_copyFrom 2 none, Cond.fieldLink RX5 49 "SkewedSquare$Tile" "begun" "Z", Cond.fieldLink RX5 53 "SkewedSquare$Tile" "row" "I"]
def wsX6_best_r3 : List Cond := [Cond.fieldLink RX5 56 "SkewedSquare$Tile" "column" "I", Cond.fieldLink RX5 59 "SkewedSquare$Tile" "height" "I", Cond.fieldLink RX5 62 "SkewedSquare$Tile" "width" "I", Cond.fieldLink RX5 31 "SkewedSquare$Tile" "ticks" "I", Cond.fieldLink RX5 35 "SkewedSquare$Tile" "ticksNeeded" "I", Cond.fieldLink RX5 9 "SkewedSquare$Tile" "sums" "[I", Cond.methodLink RX5 65 arraycopyName, Cond.fieldLink RX5 15 "SkewedSquare$Tile" "meetings" "[I", Cond.fieldLink RX5 18 "SkewedSquare$Tile" "rightward" "[I", Cond.fieldLink RX5 21 "SkewedSquare$Tile" "downward" "[I", Cond.methodLink RX6 126 yX3_doAllTiles, Cond.instanceMethod yX3_doAllTiles, Cond.selects RX3 yX3_doAllTiles yX3_doAllTiles, Cond.code yX3_doAllTiles cX3_doAllTiles 6 (some .int), Cond.methodLink RX3 67 yX3_tilesDown, Cond.instanceMethod yX3_tilesDown, Cond.selects RX3 yX3_tilesDown yX3_tilesDown, Cond.code yX3_tilesDown cX3_tilesDown 1 (some .int), Cond.fieldLink RX3 51 "SkewedSquare$Matrix" "rows" "I", Cond.methodLink RX3 63 yX3_tilesAlong, Cond.instanceMethod yX3_tilesAlong, Cond.selects RX3 yX3_tilesAlong yX3_tilesAlong, Cond.code yX3_tilesAlong cX3_tilesAlong 2 (some .int), Cond.fieldLink RX3 74 "SkewedSquare$Square" "side" "I"]
def wsX6_best_r4 : List Cond := [Cond.methodLink RX3 71 yX3_tilesAcross, Cond.instanceMethod yX3_tilesAcross, Cond.selects RX3 yX3_tilesAcross yX3_tilesAcross, Cond.code yX3_tilesAcross cX3_tilesAcross 1 (some .int), Cond.fieldLink RX3 55 "SkewedSquare$Matrix" "columns" "I", Cond.methodLink RX3 152 yX3_beginTile, Cond.instanceMethod yX3_beginTile, Cond.selects RX3 yX3_beginTile yX3_beginTile, Cond.code yX3_beginTile cX3_beginTile 3 none, Cond.fieldLink RX3 80 "SkewedSquare$Tile" "begun" "Z", Cond.fieldLink RX3 84 "SkewedSquare$Tile" "row" "I", Cond.fieldLink RX3 87 "SkewedSquare$Tile" "column" "I", Cond.methodLink RX3 90 Lib.Math.min.name, Cond.static Lib.Math.min.name, Cond.initialized "java/lang/Math", Cond.code Lib.Math.min.name Lib.Math.min.code 2 (some .int), Cond.fieldLink RX3 96 "SkewedSquare$Tile" "height" "I", Cond.fieldLink RX3 99 "SkewedSquare$Tile" "width" "I", Cond.fieldLink RX3 102 "SkewedSquare$Tile" "ticksNeeded" "I", Cond.methodLink RX3 77 yX5_empty, Cond.instanceMethod yX5_empty, Cond.selects RX5 yX5_empty yX5_empty, Cond.code yX5_empty cX5_empty 1 none, Cond.constant RX5 30 (-999999999)]
def wsX6_best_r5 : List Cond := [Cond.methodLink RX5 24 yJ7_fill_53178, Cond.static yJ7_fill_53178, Cond.initialized RJ7, Cond.code yJ7_fill_53178 cJ7_fill_53178 4 none, Cond.methodLink RX3 105 yX5_ticksLeft, Cond.instanceMethod yX5_ticksLeft, Cond.selects RX5 yX5_ticksLeft yX5_ticksLeft, Cond.code yX5_ticksLeft cX5_ticksLeft 1 (some .int), Cond.methodLink RX3 156 yX3_goOn, Cond.instanceMethod yX3_goOn, Cond.selects RX3 yX3_goOn yX3_goOn, Cond.code yX3_goOn cX3_goOn 4 none, Cond.methodLink RX3 108 yX3_goOnce, Cond.instanceMethod yX3_goOnce, Cond.selects RX3 yX3_goOnce yX3_goOnce, Cond.code yX3_goOnce cX3_goOnce 4 none, Cond.fieldLink RX3 130 "SkewedSquare$Tile" "ticks" "I", Cond.methodLink RX3 111 yX2_placeOf, Cond.instanceMethod yX2_placeOf, Cond.selects RX2 yX2_placeOf yX2_placeOf, Cond.code yX2_placeOf cX2_placeOf 2 (some .int), Cond.methodLink RX3 114 yX2_kindAt, Cond.instanceMethod yX2_kindAt, Cond.selects RX2 yX2_kindAt yX2_kindAt]
def wsX6_best_r6 : List Cond := [Cond.code yX2_kindAt cX2_kindAt 3 (some .int), Cond.methodLink RX2 28 yX2_has, Cond.instanceMethod yX2_has, Cond.selects RX2 yX2_has yX2_has, Cond.code yX2_has cX2_has 3 (some .boolean), Cond.methodLink RX3 117 yX5_cell, Cond.static yX5_cell, Cond.code yX5_cell cX5_cell 2 (some .int), Cond.methodLink RX3 120 yX3_fromLeft, Cond.instanceMethod yX3_fromLeft, Cond.selects RX3 yX3_fromLeft yX3_fromLeft, Cond.code yX3_fromLeft cX3_fromLeft 5 (some .int), Cond.constant RX3 58 (-999999999), Cond.methodLink RX3 133 yX5_rightwardOf, Cond.instanceMethod yX5_rightwardOf, Cond.selects RX5 yX5_rightwardOf yX5_rightwardOf, Cond.code yX5_rightwardOf cX5_rightwardOf 2 (some .int), Cond.methodLink RX5 38 yX5_isCell, Cond.static yX5_isCell, Cond.code yX5_isCell cX5_isCell 1 (some .boolean), Cond.methodLink RX3 136 yX1_has, Cond.instanceMethod yX1_has, Cond.selects RX1 yX1_has yX1_has, Cond.code yX1_has cX1_has 3 (some .boolean)]
def wsX6_best_r7 : List Cond := [Cond.methodLink RX3 140 yX1_at, Cond.instanceMethod yX1_at, Cond.selects RX1 yX1_at yX1_at, Cond.code yX1_at cX1_at 3 (some .int), Cond.methodLink RX3 123 yX3_fromAbove, Cond.instanceMethod yX3_fromAbove, Cond.selects RX3 yX3_fromAbove yX3_fromAbove, Cond.code yX3_fromAbove cX3_fromAbove 5 (some .int), Cond.methodLink RX3 143 yX5_downwardOf, Cond.instanceMethod yX5_downwardOf, Cond.selects RX5 yX5_downwardOf yX5_downwardOf, Cond.code yX5_downwardOf cX5_downwardOf 2 (some .int), Cond.methodLink RX3 126 yX5_pass, Cond.instanceMethod yX5_pass, Cond.selects RX5 yX5_pass yX5_pass, Cond.code yX5_pass cX5_pass 5 none, Cond.methodLink RX5 42 yX5_timesAdded, Cond.static yX5_timesAdded, Cond.code yX5_timesAdded cX5_timesAdded 1 (some .int), Cond.methodLink RX5 46 yX5_zeroIfAny, Cond.static yX5_zeroIfAny, Cond.code yX5_zeroIfAny cX5_zeroIfAny 1 (some .int), Cond.methodLink RX3 160 yX3_drainTile, Cond.instanceMethod yX3_drainTile]
def wsX6_best_r8 : List Cond := [Cond.selects RX3 yX3_drainTile yX3_drainTile, Cond.code yX3_drainTile cX3_drainTile 5 none, Cond.methodLink RX3 146 yX5_sumOf, Cond.instanceMethod yX5_sumOf, Cond.selects RX5 yX5_sumOf yX5_sumOf, Cond.code yX5_sumOf cX5_sumOf 2 (some .int), Cond.methodLink RX3 149 yX1_put, Cond.instanceMethod yX1_put, Cond.selects RX1 yX1_put yX1_put, Cond.code yX1_put cX1_put 4 none, Cond.methodLink RX1 22 yX1_has, Cond.methodLink RX6 168 yX3_wrongEntries, Cond.instanceMethod yX3_wrongEntries, Cond.selects RX3 yX3_wrongEntries yX3_wrongEntries, Cond.code yX3_wrongEntries cX3_wrongEntries 5 (some .int), Cond.methodLink RX3 163 yX3_dueAt, Cond.instanceMethod yX3_dueAt, Cond.selects RX3 yX3_dueAt yX3_dueAt, Cond.code yX3_dueAt cX3_dueAt 5 (some .int)]
def wsX6_best : List Cond := .code yX6_best cX6_best 5 (some .int) :: ((wsX6_best_r1 ++ (wsX6_best_r2 ++ (wsX6_best_r3 ++ (wsX6_best_r4 ++ (wsX6_best_r5 ++ (wsX6_best_r6 ++ (wsX6_best_r7 ++ wsX6_best_r8))))))) ++ wsX60 ++ wsX30 ++ wsX20 ++ wsX10 ++ wsX50)
def wsX6_undo_r1 : List Cond := [Cond.fieldLink RX6 22 "SkewedSquare" "history" "LSkewedSquare$History;", Cond.fieldLink RX6 174 "SkewedSquare$History" "size" "I", Cond.constant RX6 93 (-1000002), Cond.fieldLink RX6 10 "SkewedSquare" "now" "LSkewedSquare$State;", Cond.methodLink RX6 189 yX0_restore, Cond.instanceMethod yX0_restore, Cond.selects RX0 yX0_restore yX0_restore, Cond.initialized RX0, Cond.code yX0_restore cX0_restore 2 none, Cond.fieldLink RX0 18 "SkewedSquare$History" "size" "I", Cond.fieldLink RX0 11 "SkewedSquare$History" "states" "[LSkewedSquare$State;", Cond.methodLink RX0 25 yX3_copyFrom, Cond.instanceMethod yX3_copyFrom, Cond.selects RX3 yX3_copyFrom yX3_copyFrom, Cond.initialized RX3, Cond.code yX3_copyFrom cX3_copyFrom 2 none, Cond.fieldLink RX3 12 "SkewedSquare$State" "square" "LSkewedSquare$Square;", Cond.fieldLink RX3 21 "SkewedSquare$State" "leftMatrix" "LSkewedSquare$Matrix;", Cond.fieldLink RX3 25 "SkewedSquare$State" "rightMatrix" "LSkewedSquare$Matrix;", Cond.fieldLink RX3 28 "SkewedSquare$State" "results" "LSkewedSquare$Matrix;", Cond.fieldLink RX3 34 "SkewedSquare$State" "tile" "LSkewedSquare$Tile;", Cond.methodLink RX3 41 yX2_copyFrom, Cond.instanceMethod yX2_copyFrom, Cond.selects RX2 yX2_copyFrom yX2_copyFrom]
def wsX6_undo_r2 : List Cond := [Cond.initialized RX2, Cond.code yX2_copyFrom cX2_copyFrom 2 none, Cond.fieldLink RX2 9 "SkewedSquare$Square" "side" "I", Cond.fieldLink RX2 15 "SkewedSquare$Square" "leftOut" "I", Cond.fieldLink RX2 18 "SkewedSquare$Square" "kinds" "[I", Cond.methodLink RX2 36 arraycopyName, Cond.native arraycopyName, Cond.static arraycopyName, Cond.initialized "java/lang/System", Cond.methodLink RX3 45 yX1_copyFrom, Cond.instanceMethod yX1_copyFrom, Cond.selects RX1 yX1_copyFrom yX1_copyFrom, Cond.initialized RX1, Cond.code yX1_copyFrom cX1_copyFrom 2 none, Cond.fieldLink RX1 9 "SkewedSquare$Matrix" "rows" "I", Cond.fieldLink RX1 15 "SkewedSquare$Matrix" "columns" "I", Cond.fieldLink RX1 18 "SkewedSquare$Matrix" "entries" "[I", Cond.methodLink RX1 36 arraycopyName, Cond.methodLink RX3 48 yX5_copyFrom, Cond.instanceMethod yX5_copyFrom, Cond.selects RX5 yX5_copyFrom yX5_copyFrom, Cond.initialized RX5, Cond.code yX5_copyFrom cX5_copyFrom 2 none, Cond.fieldLink RX5 49 "SkewedSquare$Tile" "begun" "Z"]
def wsX6_undo_r3 : List Cond := [Cond.fieldLink RX5 53 "SkewedSquare$Tile" "row" "I", Cond.fieldLink RX5 56 "SkewedSquare$Tile" "column" "I", Cond.fieldLink RX5 59 "SkewedSquare$Tile" "height" "I", Cond.fieldLink RX5 62 "SkewedSquare$Tile" "width" "I", Cond.fieldLink RX5 31 "SkewedSquare$Tile" "ticks" "I", Cond.fieldLink RX5 35 "SkewedSquare$Tile" "ticksNeeded" "I", Cond.fieldLink RX5 9 "SkewedSquare$Tile" "sums" "[I", Cond.methodLink RX5 65 arraycopyName, Cond.fieldLink RX5 15 "SkewedSquare$Tile" "meetings" "[I", Cond.fieldLink RX5 18 "SkewedSquare$Tile" "rightward" "[I", Cond.fieldLink RX5 21 "SkewedSquare$Tile" "downward" "[I"]
def wsX6_undo : List Cond := .code yX6_undo cX6_undo 1 (some .int) :: ((wsX6_undo_r1 ++ (wsX6_undo_r2 ++ wsX6_undo_r3)) ++ wsX60 ++ wsX00 ++ wsX30 ++ wsX20 ++ wsX10 ++ wsX50)
def wsX6_type : List Cond := .code yX6_type cX6_type 2 (some .int) :: ([.constant RX6 33 (-1000001), .fieldLink RX6 29 "SkewedSquare" "text" "LSkewedSquare$Text;", .fieldLink RX6 177 "SkewedSquare$Text" "length" "I", .constant RX6 192 (-1000003), .methodLink RX6 193 yX4_append, .instanceMethod yX4_append, .selects RX4 yX4_append yX4_append, .initialized RX4, .code yX4_append cX4_append 2 none, .fieldLink RX4 22 "SkewedSquare$Text" "length" "I", .fieldLink RX4 9 "SkewedSquare$Text" "signs" "[C"] ++ wsX60 ++ wsX40)
def wsX6_clearText : List Cond := .code yX6_clearText cX6_clearText 2 (some .int) :: ([.fieldLink RX6 29 "SkewedSquare" "text" "LSkewedSquare$Text;", .fieldLink RX6 177 "SkewedSquare$Text" "length" "I"] ++ wsX60 ++ wsX40)
def wsX6_textFault_r1 : List Cond := [Cond.constant RX6 33 (-1000001), Cond.fieldLink RX6 29 "SkewedSquare" "text" "LSkewedSquare$Text;", Cond.fieldLink RX6 200 "SkewedSquare$Text" "reason" "I", Cond.constant RX6 161 (-1000004), Cond.fieldLink RX6 203 "SkewedSquare$Text" "faultPlace" "I", Cond.methodLink RX6 197 yX4_scan, Cond.instanceMethod yX4_scan, Cond.selects RX4 yX4_scan yX4_scan, Cond.initialized RX4, Cond.code yX4_scan cX4_scan 2 none, Cond.fieldLink RX4 22 "SkewedSquare$Text" "length" "I", Cond.fieldLink RX4 9 "SkewedSquare$Text" "signs" "[C", Cond.fieldLink RX4 29 "SkewedSquare$Text" "reason" "I", Cond.methodLink RX4 26 yX4_startScan, Cond.instanceMethod yX4_startScan, Cond.selects RX4 yX4_startScan yX4_startScan, Cond.code yX4_startScan cX4_startScan 1 none, Cond.fieldLink RX4 18 "SkewedSquare$Text" "matrix" "LSkewedSquare$Matrix;", Cond.fieldLink RX4 43 "SkewedSquare$Text" "row" "I", Cond.fieldLink RX4 46 "SkewedSquare$Text" "column" "I", Cond.fieldLink RX4 49 "SkewedSquare$Text" "width" "I", Cond.methodLink RX4 39 yX1_renew, Cond.instanceMethod yX1_renew, Cond.selects RX1 yX1_renew yX1_renew]
def wsX6_textFault_r2 : List Cond := [Cond.initialized RX1, Cond.code yX1_renew cX1_renew 4 none, Cond.fieldLink RX1 9 "SkewedSquare$Matrix" "rows" "I", Cond.fieldLink RX1 15 "SkewedSquare$Matrix" "columns" "I", Cond.fieldLink RX1 18 "SkewedSquare$Matrix" "entries" "[I", Cond.static yX6_isLength, Cond.initialized RX6, Cond.code yX6_isLength cX6_isLength 1 (some .boolean), Cond.methodLink RX1 30 yJ7_fill_53178, Cond.static yJ7_fill_53178, Cond.initialized RJ7, Cond.code yJ7_fill_53178 cJ7_fill_53178 4 none, Cond.methodLink RX4 52 yX4_startEntry, Cond.instanceMethod yX4_startEntry, Cond.selects RX4 yX4_startEntry yX4_startEntry, Cond.code yX4_startEntry cX4_startEntry 1 none, Cond.fieldLink RX4 55 "SkewedSquare$Text" "negative" "Z", Cond.fieldLink RX4 59 "SkewedSquare$Text" "digits" "I", Cond.fieldLink RX4 62 "SkewedSquare$Text" "value" "I", Cond.methodLink RX4 32 yX4_scanSign, Cond.instanceMethod yX4_scanSign, Cond.selects RX4 yX4_scanSign yX4_scanSign, Cond.code yX4_scanSign cX4_scanSign 3 none, Cond.methodLink RX4 65 yX4_scanComma]
def wsX6_textFault_r3 : List Cond := [Cond.instanceMethod yX4_scanComma, Cond.selects RX4 yX4_scanComma yX4_scanComma, Cond.code yX4_scanComma cX4_scanComma 2 none, Cond.methodLink RX4 72 yX4_setFault, Cond.instanceMethod yX4_setFault, Cond.selects RX4 yX4_setFault yX4_setFault, Cond.code yX4_setFault cX4_setFault 3 none, Cond.fieldLink RX4 95 "SkewedSquare$Text" "faultPlace" "I", Cond.methodLink RX4 76 yX4_endEntry, Cond.instanceMethod yX4_endEntry, Cond.selects RX4 yX4_endEntry yX4_endEntry, Cond.code yX4_endEntry cX4_endEntry 1 none, Cond.methodLink RX4 92 yX1_put, Cond.instanceMethod yX1_put, Cond.selects RX1 yX1_put yX1_put, Cond.code yX1_put cX1_put 4 none, Cond.methodLink RX1 22 yX1_has, Cond.instanceMethod yX1_has, Cond.selects RX1 yX1_has yX1_has, Cond.code yX1_has cX1_has 3 (some .boolean), Cond.methodLink RX4 69 yX4_scanSemicolon, Cond.instanceMethod yX4_scanSemicolon, Cond.selects RX4 yX4_scanSemicolon yX4_scanSemicolon, Cond.code yX4_scanSemicolon cX4_scanSemicolon 2 none]
def wsX6_textFault_r4 : List Cond := [Cond.methodLink RX4 79 yX4_rowIsShort, Cond.instanceMethod yX4_rowIsShort, Cond.selects RX4 yX4_rowIsShort yX4_rowIsShort, Cond.code yX4_rowIsShort cX4_rowIsShort 1 (some .boolean), Cond.methodLink RX4 83 yX4_endRow, Cond.instanceMethod yX4_endRow, Cond.selects RX4 yX4_endRow yX4_endRow, Cond.code yX4_endRow cX4_endRow 1 none, Cond.methodLink RX4 36 yX4_finishScan, Cond.instanceMethod yX4_finishScan, Cond.selects RX4 yX4_finishScan yX4_finishScan, Cond.code yX4_finishScan cX4_finishScan 1 none, Cond.fieldLink RX4 86 "SkewedSquare$Matrix" "rows" "I", Cond.fieldLink RX4 89 "SkewedSquare$Matrix" "columns" "I"]
def wsX6_textFault : List Cond := .code yX6_textFault cX6_textFault 2 (some .int) :: ((wsX6_textFault_r1 ++ (wsX6_textFault_r2 ++ (wsX6_textFault_r3 ++ wsX6_textFault_r4))) ++ wsX60 ++ wsX40 ++ wsX10)
def wsX6_read_r1 : List Cond := [Cond.constant RX6 33 (-1000001), Cond.fieldLink RX6 10 "SkewedSquare" "now" "LSkewedSquare$State;", Cond.fieldLink RX6 52 "SkewedSquare$State" "tile" "LSkewedSquare$Tile;", Cond.fieldLink RX6 56 "SkewedSquare$Tile" "begun" "Z", Cond.constant RX6 93 (-1000002), Cond.fieldLink RX6 29 "SkewedSquare" "text" "LSkewedSquare$Text;", Cond.fieldLink RX6 200 "SkewedSquare$Text" "reason" "I", Cond.fieldLink RX6 22 "SkewedSquare" "history" "LSkewedSquare$History;", Cond.fieldLink RX6 206 "SkewedSquare$Text" "matrix" "LSkewedSquare$Matrix;", Cond.fieldLink RX6 152 "SkewedSquare$Matrix" "rows" "I", Cond.fieldLink RX6 155 "SkewedSquare$Matrix" "columns" "I", Cond.methodLink RX6 197 yX4_scan, Cond.instanceMethod yX4_scan, Cond.selects RX4 yX4_scan yX4_scan, Cond.initialized RX4, Cond.code yX4_scan cX4_scan 2 none, Cond.fieldLink RX4 22 "SkewedSquare$Text" "length" "I", Cond.fieldLink RX4 9 "SkewedSquare$Text" "signs" "[C", Cond.fieldLink RX4 29 "SkewedSquare$Text" "reason" "I", Cond.methodLink RX4 26 yX4_startScan, Cond.instanceMethod yX4_startScan, Cond.selects RX4 yX4_startScan yX4_startScan, Cond.code yX4_startScan cX4_startScan 1 none, Cond.fieldLink RX4 18 "SkewedSquare$Text" "matrix" "LSkewedSquare$Matrix;"]
def wsX6_read_r2 : List Cond := [Cond.fieldLink RX4 43 "SkewedSquare$Text" "row" "I", Cond.fieldLink RX4 46 "SkewedSquare$Text" "column" "I", Cond.fieldLink RX4 49 "SkewedSquare$Text" "width" "I", Cond.methodLink RX4 39 yX1_renew, Cond.instanceMethod yX1_renew, Cond.selects RX1 yX1_renew yX1_renew, Cond.initialized RX1, Cond.code yX1_renew cX1_renew 4 none, Cond.fieldLink RX1 9 "SkewedSquare$Matrix" "rows" "I", Cond.fieldLink RX1 15 "SkewedSquare$Matrix" "columns" "I", Cond.fieldLink RX1 18 "SkewedSquare$Matrix" "entries" "[I", Cond.static yX6_isLength, Cond.initialized RX6, Cond.code yX6_isLength cX6_isLength 1 (some .boolean), Cond.methodLink RX1 30 yJ7_fill_53178, Cond.static yJ7_fill_53178, Cond.initialized RJ7, Cond.code yJ7_fill_53178 cJ7_fill_53178 4 none, Cond.methodLink RX4 52 yX4_startEntry, Cond.instanceMethod yX4_startEntry, Cond.selects RX4 yX4_startEntry yX4_startEntry, Cond.code yX4_startEntry cX4_startEntry 1 none, Cond.fieldLink RX4 55 "SkewedSquare$Text" "negative" "Z", Cond.fieldLink RX4 59 "SkewedSquare$Text" "digits" "I"]
def wsX6_read_r3 : List Cond := [Cond.fieldLink RX4 62 "SkewedSquare$Text" "value" "I", Cond.methodLink RX4 32 yX4_scanSign, Cond.instanceMethod yX4_scanSign, Cond.selects RX4 yX4_scanSign yX4_scanSign, Cond.code yX4_scanSign cX4_scanSign 3 none, Cond.methodLink RX4 65 yX4_scanComma, Cond.instanceMethod yX4_scanComma, Cond.selects RX4 yX4_scanComma yX4_scanComma, Cond.code yX4_scanComma cX4_scanComma 2 none, Cond.methodLink RX4 72 yX4_setFault, Cond.instanceMethod yX4_setFault, Cond.selects RX4 yX4_setFault yX4_setFault, Cond.code yX4_setFault cX4_setFault 3 none, Cond.fieldLink RX4 95 "SkewedSquare$Text" "faultPlace" "I", Cond.methodLink RX4 76 yX4_endEntry, Cond.instanceMethod yX4_endEntry, Cond.selects RX4 yX4_endEntry yX4_endEntry, Cond.code yX4_endEntry cX4_endEntry 1 none, Cond.methodLink RX4 92 yX1_put, Cond.instanceMethod yX1_put, Cond.selects RX1 yX1_put yX1_put, Cond.code yX1_put cX1_put 4 none, Cond.methodLink RX1 22 yX1_has, Cond.instanceMethod yX1_has]
def wsX6_read_r4 : List Cond := [Cond.selects RX1 yX1_has yX1_has, Cond.code yX1_has cX1_has 3 (some .boolean), Cond.methodLink RX4 69 yX4_scanSemicolon, Cond.instanceMethod yX4_scanSemicolon, Cond.selects RX4 yX4_scanSemicolon yX4_scanSemicolon, Cond.code yX4_scanSemicolon cX4_scanSemicolon 2 none, Cond.methodLink RX4 79 yX4_rowIsShort, Cond.instanceMethod yX4_rowIsShort, Cond.selects RX4 yX4_rowIsShort yX4_rowIsShort, Cond.code yX4_rowIsShort cX4_rowIsShort 1 (some .boolean), Cond.methodLink RX4 83 yX4_endRow, Cond.instanceMethod yX4_endRow, Cond.selects RX4 yX4_endRow yX4_endRow, Cond.code yX4_endRow cX4_endRow 1 none, Cond.methodLink RX4 36 yX4_finishScan, Cond.instanceMethod yX4_finishScan, Cond.selects RX4 yX4_finishScan yX4_finishScan, Cond.code yX4_finishScan cX4_finishScan 1 none, Cond.fieldLink RX4 86 "SkewedSquare$Matrix" "rows" "I", Cond.fieldLink RX4 89 "SkewedSquare$Matrix" "columns" "I", Cond.methodLink RX6 34 yX0_remember, Cond.instanceMethod yX0_remember, Cond.selects RX0 yX0_remember yX0_remember, Cond.initialized RX0]
def wsX6_read_r5 : List Cond := [Cond.code yX0_remember cX0_remember 2 none, Cond.fieldLink RX0 18 "SkewedSquare$History" "size" "I", Cond.fieldLink RX0 11 "SkewedSquare$History" "states" "[LSkewedSquare$State;", Cond.methodLink RX0 22 yX0_dropOldest, Cond.instanceMethod yX0_dropOldest, Cond.selects RX0 yX0_dropOldest yX0_dropOldest, Cond.code yX0_dropOldest cX0_dropOldest 3 none, Cond.methodLink RX0 25 yX3_copyFrom, Cond.instanceMethod yX3_copyFrom, Cond.selects RX3 yX3_copyFrom yX3_copyFrom, Cond.initialized RX3, Cond.code yX3_copyFrom cX3_copyFrom 2 none, Cond.fieldLink RX3 12 "SkewedSquare$State" "square" "LSkewedSquare$Square;", Cond.fieldLink RX3 21 "SkewedSquare$State" "leftMatrix" "LSkewedSquare$Matrix;", Cond.fieldLink RX3 25 "SkewedSquare$State" "rightMatrix" "LSkewedSquare$Matrix;", Cond.fieldLink RX3 28 "SkewedSquare$State" "results" "LSkewedSquare$Matrix;", Cond.fieldLink RX3 34 "SkewedSquare$State" "tile" "LSkewedSquare$Tile;", Cond.methodLink RX3 41 yX2_copyFrom, Cond.instanceMethod yX2_copyFrom, Cond.selects RX2 yX2_copyFrom yX2_copyFrom, Cond.initialized RX2, Cond.code yX2_copyFrom cX2_copyFrom 2 none, Cond.fieldLink RX2 9 "SkewedSquare$Square" "side" "I", Cond.fieldLink RX2 15 "SkewedSquare$Square" "leftOut" "I"]
def wsX6_read_r6 : List Cond := [Cond.fieldLink RX2 18 "SkewedSquare$Square" "kinds" "[I", Cond.methodLink RX2 36 arraycopyName, Cond.native arraycopyName, Cond.static arraycopyName, Cond.initialized "java/lang/System", Cond.methodLink RX3 45 yX1_copyFrom, Cond.instanceMethod yX1_copyFrom, Cond.selects RX1 yX1_copyFrom yX1_copyFrom, Cond.code yX1_copyFrom cX1_copyFrom 2 none, Cond.methodLink RX1 36 arraycopyName, Cond.methodLink RX3 48 yX5_copyFrom, Cond.instanceMethod yX5_copyFrom, Cond.selects RX5 yX5_copyFrom yX5_copyFrom, Cond.initialized RX5, Cond.code yX5_copyFrom cX5_copyFrom 2 none, Cond.fieldLink RX5 49 "SkewedSquare$Tile" "begun" "Z", Cond.fieldLink RX5 53 "SkewedSquare$Tile" "row" "I", Cond.fieldLink RX5 56 "SkewedSquare$Tile" "column" "I", Cond.fieldLink RX5 59 "SkewedSquare$Tile" "height" "I", Cond.fieldLink RX5 62 "SkewedSquare$Tile" "width" "I", Cond.fieldLink RX5 31 "SkewedSquare$Tile" "ticks" "I", Cond.fieldLink RX5 35 "SkewedSquare$Tile" "ticksNeeded" "I", Cond.fieldLink RX5 9 "SkewedSquare$Tile" "sums" "[I", Cond.methodLink RX5 65 arraycopyName]
def wsX6_read_r7 : List Cond := [Cond.fieldLink RX5 15 "SkewedSquare$Tile" "meetings" "[I", Cond.fieldLink RX5 18 "SkewedSquare$Tile" "rightward" "[I", Cond.fieldLink RX5 21 "SkewedSquare$Tile" "downward" "[I", Cond.methodLink RX6 209 yX3_takeLeft, Cond.instanceMethod yX3_takeLeft, Cond.selects RX3 yX3_takeLeft yX3_takeLeft, Cond.code yX3_takeLeft cX3_takeLeft 2 none, Cond.fieldLink RX3 51 "SkewedSquare$Matrix" "rows" "I", Cond.fieldLink RX3 55 "SkewedSquare$Matrix" "columns" "I", Cond.methodLink RX3 59 yX1_renew, Cond.methodLink RX3 38 yX3_forgetResults, Cond.instanceMethod yX3_forgetResults, Cond.selects RX3 yX3_forgetResults yX3_forgetResults, Cond.code yX3_forgetResults cX3_forgetResults 1 none, Cond.constant RX3 58 (-999999999), Cond.methodLink RX6 213 yX3_takeRight, Cond.instanceMethod yX3_takeRight, Cond.selects RX3 yX3_takeRight yX3_takeRight, Cond.code yX3_takeRight cX3_takeRight 2 none]
def wsX6_read : List Cond := .code yX6_read cX6_read 2 (some .int) :: ((wsX6_read_r1 ++ (wsX6_read_r2 ++ (wsX6_read_r3 ++ (wsX6_read_r4 ++ (wsX6_read_r5 ++ (wsX6_read_r6 ++ wsX6_read_r7)))))) ++ wsX60 ++ wsX30 ++ wsX50 ++ wsX40 ++ wsX10 ++ wsX00 ++ wsX20)
def wsX7_init : List Cond := .code yX7_init cX7_init 1 none :: ([.methodLink RX7 1 objectInit, .instanceMethod objectInit, .code objectInit ⟨#[0xb1]⟩ 1 none, .arrayClass .int, .fieldLink RX7 7 "SkewedSquareModel" "s" "[I", .fieldLink RX7 13 "SkewedSquareModel" "past" "[I", .fieldLink RX7 16 "SkewedSquareModel" "tried" "[I", .fieldLink RX7 19 "SkewedSquareModel" "text" "[I", .fieldLink RX7 22 "SkewedSquareModel" "told" "[I"] ++ wsX70)
def wsX7_in : List Cond := .code yX7_in cX7_in 3 (some .boolean) :: ([])
def wsX7_changes : List Cond := .code yX7_changes cX7_changes 2 none :: ([.fieldLink RX7 25 "SkewedSquareModel" "pasts" "I", .fieldLink RX7 13 "SkewedSquareModel" "past" "[I", .fieldLink RX7 7 "SkewedSquareModel" "s" "[I"] ++ wsX70)
def wsX7_clears : List Cond := .code yX7_clears cX7_clears 4 none :: ([.fieldLink RX7 7 "SkewedSquareModel" "s" "[I"] ++ wsX70)
def wsX7_along : List Cond := .code yX7_along cX7_along 2 (some .int) :: ([.fieldLink RX7 7 "SkewedSquareModel" "s" "[I"] ++ wsX70)
def wsX7_tiles : List Cond := .code yX7_tiles cX7_tiles 1 (some .int) :: ([.fieldLink RX7 7 "SkewedSquareModel" "s" "[I", .methodLink RX7 29 yX7_along, .instanceMethod yX7_along, .selects RX7 yX7_along yX7_along, .initialized RX7, .code yX7_along cX7_along 2 (some .int)] ++ wsX70)
def wsX7_side : List Cond := .code yX7_side cX7_side 3 (some .int) :: ([.constant RX7 37 (-1000001), .fieldLink RX7 7 "SkewedSquareModel" "s" "[I", .methodLink RX7 33 yX7_in, .static yX7_in, .initialized RX7, .code yX7_in cX7_in 3 (some .boolean), .methodLink RX7 38 yX7_changes, .instanceMethod yX7_changes, .selects RX7 yX7_changes yX7_changes, .code yX7_changes cX7_changes 2 none, .fieldLink RX7 25 "SkewedSquareModel" "pasts" "I", .fieldLink RX7 13 "SkewedSquareModel" "past" "[I", .methodLink RX7 41 yX7_clears, .instanceMethod yX7_clears, .selects RX7 yX7_clears yX7_clears, .code yX7_clears cX7_clears 4 none] ++ wsX70)
def wsX7_shape : List Cond := .code yX7_shape cX7_shape 4 (some .int) :: ([.constant RX7 37 (-1000001), .fieldLink RX7 7 "SkewedSquareModel" "s" "[I", .methodLink RX7 33 yX7_in, .static yX7_in, .initialized RX7, .code yX7_in cX7_in 3 (some .boolean), .methodLink RX7 38 yX7_changes, .instanceMethod yX7_changes, .selects RX7 yX7_changes yX7_changes, .code yX7_changes cX7_changes 2 none, .fieldLink RX7 25 "SkewedSquareModel" "pasts" "I", .fieldLink RX7 13 "SkewedSquareModel" "past" "[I", .methodLink RX7 41 yX7_clears, .instanceMethod yX7_clears, .selects RX7 yX7_clears yX7_clears, .code yX7_clears cX7_clears 4 none, .methodLink RX7 45 yX7_tiles, .instanceMethod yX7_tiles, .selects RX7 yX7_tiles yX7_tiles, .code yX7_tiles cX7_tiles 1 (some .int), .methodLink RX7 29 yX7_along, .instanceMethod yX7_along, .selects RX7 yX7_along yX7_along, .code yX7_along cX7_along 2 (some .int)] ++ wsX70)
def wsX7_rowsOf : List Cond := .code yX7_rowsOf cX7_rowsOf 2 (some .int) :: ([.fieldLink RX7 7 "SkewedSquareModel" "s" "[I"] ++ wsX70)
def wsX7_columnsOf : List Cond := .code yX7_columnsOf cX7_columnsOf 2 (some .int) :: ([.fieldLink RX7 7 "SkewedSquareModel" "s" "[I"] ++ wsX70)
def wsX7_isEntry : List Cond := .code yX7_isEntry cX7_isEntry 4 (some .boolean) :: ([.methodLink RX7 33 yX7_in, .static yX7_in, .initialized RX7, .code yX7_in cX7_in 3 (some .boolean), .methodLink RX7 49 yX7_rowsOf, .instanceMethod yX7_rowsOf, .selects RX7 yX7_rowsOf yX7_rowsOf, .code yX7_rowsOf cX7_rowsOf 2 (some .int), .fieldLink RX7 7 "SkewedSquareModel" "s" "[I", .methodLink RX7 52 yX7_columnsOf, .instanceMethod yX7_columnsOf, .selects RX7 yX7_columnsOf yX7_columnsOf, .code yX7_columnsOf cX7_columnsOf 2 (some .int)] ++ wsX70)
def wsX7_sets_r1 : List Cond := [Cond.constant RX7 37 (-1000001), Cond.fieldLink RX7 7 "SkewedSquareModel" "s" "[I", Cond.constant RX7 58 (-1000002), Cond.methodLink RX7 55 yX7_isEntry, Cond.instanceMethod yX7_isEntry, Cond.selects RX7 yX7_isEntry yX7_isEntry, Cond.initialized RX7, Cond.code yX7_isEntry cX7_isEntry 4 (some .boolean), Cond.methodLink RX7 33 yX7_in, Cond.static yX7_in, Cond.code yX7_in cX7_in 3 (some .boolean), Cond.methodLink RX7 49 yX7_rowsOf, Cond.instanceMethod yX7_rowsOf, Cond.selects RX7 yX7_rowsOf yX7_rowsOf, Cond.code yX7_rowsOf cX7_rowsOf 2 (some .int), Cond.methodLink RX7 52 yX7_columnsOf, Cond.instanceMethod yX7_columnsOf, Cond.selects RX7 yX7_columnsOf yX7_columnsOf, Cond.code yX7_columnsOf cX7_columnsOf 2 (some .int), Cond.methodLink RX7 38 yX7_changes, Cond.instanceMethod yX7_changes, Cond.selects RX7 yX7_changes yX7_changes, Cond.code yX7_changes cX7_changes 2 none, Cond.fieldLink RX7 25 "SkewedSquareModel" "pasts" "I"]
def wsX7_sets_r2 : List Cond := [Cond.fieldLink RX7 13 "SkewedSquareModel" "past" "[I", Cond.methodLink RX7 41 yX7_clears, Cond.instanceMethod yX7_clears, Cond.selects RX7 yX7_clears yX7_clears, Cond.code yX7_clears cX7_clears 4 none]
def wsX7_sets : List Cond := .code yX7_sets cX7_sets 7 (some .int) :: ((wsX7_sets_r1 ++ wsX7_sets_r2) ++ wsX70)
def wsX7_left_r1 : List Cond := [Cond.methodLink RX7 59 yX7_sets, Cond.instanceMethod yX7_sets, Cond.selects RX7 yX7_sets yX7_sets, Cond.initialized RX7, Cond.code yX7_sets cX7_sets 7 (some .int), Cond.constant RX7 37 (-1000001), Cond.fieldLink RX7 7 "SkewedSquareModel" "s" "[I", Cond.constant RX7 58 (-1000002), Cond.methodLink RX7 55 yX7_isEntry, Cond.instanceMethod yX7_isEntry, Cond.selects RX7 yX7_isEntry yX7_isEntry, Cond.code yX7_isEntry cX7_isEntry 4 (some .boolean), Cond.methodLink RX7 33 yX7_in, Cond.static yX7_in, Cond.code yX7_in cX7_in 3 (some .boolean), Cond.methodLink RX7 49 yX7_rowsOf, Cond.instanceMethod yX7_rowsOf, Cond.selects RX7 yX7_rowsOf yX7_rowsOf, Cond.code yX7_rowsOf cX7_rowsOf 2 (some .int), Cond.methodLink RX7 52 yX7_columnsOf, Cond.instanceMethod yX7_columnsOf, Cond.selects RX7 yX7_columnsOf yX7_columnsOf, Cond.code yX7_columnsOf cX7_columnsOf 2 (some .int), Cond.methodLink RX7 38 yX7_changes]
def wsX7_left_r2 : List Cond := [Cond.instanceMethod yX7_changes, Cond.selects RX7 yX7_changes yX7_changes, Cond.code yX7_changes cX7_changes 2 none, Cond.fieldLink RX7 25 "SkewedSquareModel" "pasts" "I", Cond.fieldLink RX7 13 "SkewedSquareModel" "past" "[I", Cond.methodLink RX7 41 yX7_clears, Cond.instanceMethod yX7_clears, Cond.selects RX7 yX7_clears yX7_clears, Cond.code yX7_clears cX7_clears 4 none]
def wsX7_left : List Cond := .code yX7_left cX7_left 4 (some .int) :: ((wsX7_left_r1 ++ wsX7_left_r2) ++ wsX70)
def wsX7_right_r1 : List Cond := [Cond.methodLink RX7 59 yX7_sets, Cond.instanceMethod yX7_sets, Cond.selects RX7 yX7_sets yX7_sets, Cond.initialized RX7, Cond.code yX7_sets cX7_sets 7 (some .int), Cond.constant RX7 37 (-1000001), Cond.fieldLink RX7 7 "SkewedSquareModel" "s" "[I", Cond.constant RX7 58 (-1000002), Cond.methodLink RX7 55 yX7_isEntry, Cond.instanceMethod yX7_isEntry, Cond.selects RX7 yX7_isEntry yX7_isEntry, Cond.code yX7_isEntry cX7_isEntry 4 (some .boolean), Cond.methodLink RX7 33 yX7_in, Cond.static yX7_in, Cond.code yX7_in cX7_in 3 (some .boolean), Cond.methodLink RX7 49 yX7_rowsOf, Cond.instanceMethod yX7_rowsOf, Cond.selects RX7 yX7_rowsOf yX7_rowsOf, Cond.code yX7_rowsOf cX7_rowsOf 2 (some .int), Cond.methodLink RX7 52 yX7_columnsOf, Cond.instanceMethod yX7_columnsOf, Cond.selects RX7 yX7_columnsOf yX7_columnsOf, Cond.code yX7_columnsOf cX7_columnsOf 2 (some .int), Cond.methodLink RX7 38 yX7_changes]
def wsX7_right_r2 : List Cond := [Cond.instanceMethod yX7_changes, Cond.selects RX7 yX7_changes yX7_changes, Cond.code yX7_changes cX7_changes 2 none, Cond.fieldLink RX7 25 "SkewedSquareModel" "pasts" "I", Cond.fieldLink RX7 13 "SkewedSquareModel" "past" "[I", Cond.methodLink RX7 41 yX7_clears, Cond.instanceMethod yX7_clears, Cond.selects RX7 yX7_clears yX7_clears, Cond.code yX7_clears cX7_clears 4 none]
def wsX7_right : List Cond := .code yX7_right cX7_right 4 (some .int) :: ((wsX7_right_r1 ++ wsX7_right_r2) ++ wsX70)
def wsX7_fault : List Cond := .code yX7_fault cX7_fault 5 (some .int) :: ([.fieldLink RX7 7 "SkewedSquareModel" "s" "[I", .constant RX7 37 (-1000001), .constant RX7 58 (-1000002), .methodLink RX7 33 yX7_in, .static yX7_in, .initialized RX7, .code yX7_in cX7_in 3 (some .boolean), .methodLink RX7 38 yX7_changes, .instanceMethod yX7_changes, .selects RX7 yX7_changes yX7_changes, .code yX7_changes cX7_changes 2 none, .fieldLink RX7 25 "SkewedSquareModel" "pasts" "I", .fieldLink RX7 13 "SkewedSquareModel" "past" "[I"] ++ wsX70)
def wsX7_leave : List Cond := .code yX7_leave cX7_leave 3 (some .int) :: ([.fieldLink RX7 7 "SkewedSquareModel" "s" "[I", .constant RX7 37 (-1000001), .constant RX7 58 (-1000002), .methodLink RX7 33 yX7_in, .static yX7_in, .initialized RX7, .code yX7_in cX7_in 3 (some .boolean), .methodLink RX7 38 yX7_changes, .instanceMethod yX7_changes, .selects RX7 yX7_changes yX7_changes, .code yX7_changes cX7_changes 2 none, .fieldLink RX7 25 "SkewedSquareModel" "pasts" "I", .fieldLink RX7 13 "SkewedSquareModel" "past" "[I"] ++ wsX70)
def wsX7_tileRows : List Cond := .code yX7_tileRows cX7_tileRows 2 (some .int) :: ([.fieldLink RX7 7 "SkewedSquareModel" "s" "[I"] ++ wsX70)
def wsX7_tileColumns : List Cond := .code yX7_tileColumns cX7_tileColumns 2 (some .int) :: ([.fieldLink RX7 7 "SkewedSquareModel" "s" "[I"] ++ wsX70)
def wsX7_ticks : List Cond := .code yX7_ticks cX7_ticks 1 (some .int) :: ([.fieldLink RX7 7 "SkewedSquareModel" "s" "[I", .methodLink RX7 63 yX7_tileRows, .instanceMethod yX7_tileRows, .selects RX7 yX7_tileRows yX7_tileRows, .initialized RX7, .code yX7_tileRows cX7_tileRows 2 (some .int), .methodLink RX7 66 yX7_tileColumns, .instanceMethod yX7_tileColumns, .selects RX7 yX7_tileColumns yX7_tileColumns, .code yX7_tileColumns cX7_tileColumns 2 (some .int)] ++ wsX70)
def wsX7_begins : List Cond := .code yX7_begins cX7_begins 3 none :: ([.fieldLink RX7 7 "SkewedSquareModel" "s" "[I", .methodLink RX7 41 yX7_clears, .instanceMethod yX7_clears, .selects RX7 yX7_clears yX7_clears, .initialized RX7, .code yX7_clears cX7_clears 4 none] ++ wsX70)
def wsX7_begin_r1 : List Cond := [Cond.fieldLink RX7 7 "SkewedSquareModel" "s" "[I", Cond.constant RX7 37 (-1000001), Cond.constant RX7 58 (-1000002), Cond.methodLink RX7 29 yX7_along, Cond.instanceMethod yX7_along, Cond.selects RX7 yX7_along yX7_along, Cond.initialized RX7, Cond.code yX7_along cX7_along 2 (some .int), Cond.methodLink RX7 33 yX7_in, Cond.static yX7_in, Cond.code yX7_in cX7_in 3 (some .boolean), Cond.methodLink RX7 38 yX7_changes, Cond.instanceMethod yX7_changes, Cond.selects RX7 yX7_changes yX7_changes, Cond.code yX7_changes cX7_changes 2 none, Cond.fieldLink RX7 25 "SkewedSquareModel" "pasts" "I", Cond.fieldLink RX7 13 "SkewedSquareModel" "past" "[I", Cond.methodLink RX7 69 yX7_begins, Cond.instanceMethod yX7_begins, Cond.selects RX7 yX7_begins yX7_begins, Cond.code yX7_begins cX7_begins 3 none, Cond.methodLink RX7 41 yX7_clears, Cond.instanceMethod yX7_clears, Cond.selects RX7 yX7_clears yX7_clears]
def wsX7_begin_r2 : List Cond := [Cond.code yX7_clears cX7_clears 4 none, Cond.methodLink RX7 72 yX7_ticks, Cond.instanceMethod yX7_ticks, Cond.selects RX7 yX7_ticks yX7_ticks, Cond.code yX7_ticks cX7_ticks 1 (some .int), Cond.methodLink RX7 63 yX7_tileRows, Cond.instanceMethod yX7_tileRows, Cond.selects RX7 yX7_tileRows yX7_tileRows, Cond.code yX7_tileRows cX7_tileRows 2 (some .int), Cond.methodLink RX7 66 yX7_tileColumns, Cond.instanceMethod yX7_tileColumns, Cond.selects RX7 yX7_tileColumns yX7_tileColumns, Cond.code yX7_tileColumns cX7_tileColumns 2 (some .int)]
def wsX7_begin : List Cond := .code yX7_begin cX7_begin 3 (some .int) :: ((wsX7_begin_r1 ++ wsX7_begin_r2) ++ wsX70)
def wsX7_placeOf : List Cond := .code yX7_placeOf cX7_placeOf 2 (some .int) :: ([.fieldLink RX7 7 "SkewedSquareModel" "s" "[I"] ++ wsX70)
def wsX7_faultOf : List Cond := .code yX7_faultOf cX7_faultOf 3 (some .int) :: ([.fieldLink RX7 7 "SkewedSquareModel" "s" "[I", .methodLink RX7 75 yX7_placeOf, .instanceMethod yX7_placeOf, .selects RX7 yX7_placeOf yX7_placeOf, .initialized RX7, .code yX7_placeOf cX7_placeOf 2 (some .int)] ++ wsX70)
def wsX7_cell : List Cond := .code yX7_cell cX7_cell 2 (some .int) :: ([])
def wsX7_gets : List Cond := .code yX7_gets cX7_gets 5 none :: ([.fieldLink RX7 7 "SkewedSquareModel" "s" "[I", .fieldLink RX7 82 "SkewedSquareModel" "hasLeft" "Z", .fieldLink RX7 86 "SkewedSquareModel" "hasAbove" "Z", .fieldLink RX7 89 "SkewedSquareModel" "fromLeft" "I", .fieldLink RX7 92 "SkewedSquareModel" "fromAbove" "I", .methodLink RX7 33 yX7_in, .static yX7_in, .initialized RX7, .code yX7_in cX7_in 3 (some .boolean), .methodLink RX7 78 yX7_cell, .static yX7_cell, .code yX7_cell cX7_cell 2 (some .int)] ++ wsX70)
def wsX7_goes_r1 : List Cond := [Cond.fieldLink RX7 82 "SkewedSquareModel" "hasLeft" "Z", Cond.fieldLink RX7 86 "SkewedSquareModel" "hasAbove" "Z", Cond.fieldLink RX7 7 "SkewedSquareModel" "s" "[I", Cond.fieldLink RX7 89 "SkewedSquareModel" "fromLeft" "I", Cond.fieldLink RX7 92 "SkewedSquareModel" "fromAbove" "I", Cond.methodLink RX7 63 yX7_tileRows, Cond.instanceMethod yX7_tileRows, Cond.selects RX7 yX7_tileRows yX7_tileRows, Cond.initialized RX7, Cond.code yX7_tileRows cX7_tileRows 2 (some .int), Cond.methodLink RX7 66 yX7_tileColumns, Cond.instanceMethod yX7_tileColumns, Cond.selects RX7 yX7_tileColumns yX7_tileColumns, Cond.code yX7_tileColumns cX7_tileColumns 2 (some .int), Cond.methodLink RX7 95 yX7_gets, Cond.instanceMethod yX7_gets, Cond.selects RX7 yX7_gets yX7_gets, Cond.code yX7_gets cX7_gets 5 none, Cond.methodLink RX7 33 yX7_in, Cond.static yX7_in, Cond.code yX7_in cX7_in 3 (some .boolean), Cond.methodLink RX7 78 yX7_cell, Cond.static yX7_cell, Cond.code yX7_cell cX7_cell 2 (some .int)]
def wsX7_goes_r2 : List Cond := [Cond.methodLink RX7 98 yX7_faultOf, Cond.instanceMethod yX7_faultOf, Cond.selects RX7 yX7_faultOf yX7_faultOf, Cond.code yX7_faultOf cX7_faultOf 3 (some .int), Cond.methodLink RX7 75 yX7_placeOf, Cond.instanceMethod yX7_placeOf, Cond.selects RX7 yX7_placeOf yX7_placeOf, Cond.code yX7_placeOf cX7_placeOf 2 (some .int)]
def wsX7_goes : List Cond := .code yX7_goes cX7_goes 5 none :: ((wsX7_goes_r1 ++ wsX7_goes_r2) ++ wsX70)
def wsX7_isDone : List Cond := .code yX7_isDone cX7_isDone 1 (some .boolean) :: ([.fieldLink RX7 7 "SkewedSquareModel" "s" "[I", .methodLink RX7 72 yX7_ticks, .instanceMethod yX7_ticks, .selects RX7 yX7_ticks yX7_ticks, .initialized RX7, .code yX7_ticks cX7_ticks 1 (some .int), .methodLink RX7 63 yX7_tileRows, .instanceMethod yX7_tileRows, .selects RX7 yX7_tileRows yX7_tileRows, .code yX7_tileRows cX7_tileRows 2 (some .int), .methodLink RX7 66 yX7_tileColumns, .instanceMethod yX7_tileColumns, .selects RX7 yX7_tileColumns yX7_tileColumns, .code yX7_tileColumns cX7_tileColumns 2 (some .int)] ++ wsX70)
def wsX7_tick_r1 : List Cond := [Cond.constant RX7 37 (-1000001), Cond.fieldLink RX7 7 "SkewedSquareModel" "s" "[I", Cond.constant RX7 58 (-1000002), Cond.methodLink RX7 33 yX7_in, Cond.static yX7_in, Cond.initialized RX7, Cond.code yX7_in cX7_in 3 (some .boolean), Cond.methodLink RX7 101 yX7_isDone, Cond.instanceMethod yX7_isDone, Cond.selects RX7 yX7_isDone yX7_isDone, Cond.code yX7_isDone cX7_isDone 1 (some .boolean), Cond.methodLink RX7 72 yX7_ticks, Cond.instanceMethod yX7_ticks, Cond.selects RX7 yX7_ticks yX7_ticks, Cond.code yX7_ticks cX7_ticks 1 (some .int), Cond.methodLink RX7 63 yX7_tileRows, Cond.instanceMethod yX7_tileRows, Cond.selects RX7 yX7_tileRows yX7_tileRows, Cond.code yX7_tileRows cX7_tileRows 2 (some .int), Cond.methodLink RX7 66 yX7_tileColumns, Cond.instanceMethod yX7_tileColumns, Cond.selects RX7 yX7_tileColumns yX7_tileColumns, Cond.code yX7_tileColumns cX7_tileColumns 2 (some .int), Cond.methodLink RX7 38 yX7_changes]
def wsX7_tick_r2 : List Cond := [Cond.instanceMethod yX7_changes, Cond.selects RX7 yX7_changes yX7_changes, Cond.code yX7_changes cX7_changes 2 none, Cond.fieldLink RX7 25 "SkewedSquareModel" "pasts" "I", Cond.fieldLink RX7 13 "SkewedSquareModel" "past" "[I", Cond.methodLink RX7 105 yX7_goes, Cond.instanceMethod yX7_goes, Cond.selects RX7 yX7_goes yX7_goes, Cond.code yX7_goes cX7_goes 5 none, Cond.fieldLink RX7 82 "SkewedSquareModel" "hasLeft" "Z", Cond.fieldLink RX7 86 "SkewedSquareModel" "hasAbove" "Z", Cond.fieldLink RX7 89 "SkewedSquareModel" "fromLeft" "I", Cond.fieldLink RX7 92 "SkewedSquareModel" "fromAbove" "I", Cond.methodLink RX7 95 yX7_gets, Cond.instanceMethod yX7_gets, Cond.selects RX7 yX7_gets yX7_gets, Cond.code yX7_gets cX7_gets 5 none, Cond.methodLink RX7 78 yX7_cell, Cond.static yX7_cell, Cond.code yX7_cell cX7_cell 2 (some .int), Cond.methodLink RX7 98 yX7_faultOf, Cond.instanceMethod yX7_faultOf, Cond.selects RX7 yX7_faultOf yX7_faultOf, Cond.code yX7_faultOf cX7_faultOf 3 (some .int)]
def wsX7_tick_r3 : List Cond := [Cond.methodLink RX7 75 yX7_placeOf, Cond.instanceMethod yX7_placeOf, Cond.selects RX7 yX7_placeOf yX7_placeOf, Cond.code yX7_placeOf cX7_placeOf 2 (some .int)]
def wsX7_tick : List Cond := .code yX7_tick cX7_tick 3 (some .int) :: ((wsX7_tick_r1 ++ (wsX7_tick_r2 ++ wsX7_tick_r3)) ++ wsX70)
def wsX7_drains : List Cond := .code yX7_drains cX7_drains 4 none :: ([.fieldLink RX7 7 "SkewedSquareModel" "s" "[I", .methodLink RX7 63 yX7_tileRows, .instanceMethod yX7_tileRows, .selects RX7 yX7_tileRows yX7_tileRows, .initialized RX7, .code yX7_tileRows cX7_tileRows 2 (some .int), .methodLink RX7 66 yX7_tileColumns, .instanceMethod yX7_tileColumns, .selects RX7 yX7_tileColumns yX7_tileColumns, .code yX7_tileColumns cX7_tileColumns 2 (some .int), .methodLink RX7 78 yX7_cell, .static yX7_cell, .code yX7_cell cX7_cell 2 (some .int)] ++ wsX70)
def wsX7_known : List Cond := .code yX7_known cX7_known 3 (some .int) :: ([.fieldLink RX7 7 "SkewedSquareModel" "s" "[I"] ++ wsX70)
def wsX7_drain_r1 : List Cond := [Cond.fieldLink RX7 7 "SkewedSquareModel" "s" "[I", Cond.constant RX7 58 (-1000002), Cond.methodLink RX7 101 yX7_isDone, Cond.instanceMethod yX7_isDone, Cond.selects RX7 yX7_isDone yX7_isDone, Cond.initialized RX7, Cond.code yX7_isDone cX7_isDone 1 (some .boolean), Cond.methodLink RX7 72 yX7_ticks, Cond.instanceMethod yX7_ticks, Cond.selects RX7 yX7_ticks yX7_ticks, Cond.code yX7_ticks cX7_ticks 1 (some .int), Cond.methodLink RX7 63 yX7_tileRows, Cond.instanceMethod yX7_tileRows, Cond.selects RX7 yX7_tileRows yX7_tileRows, Cond.code yX7_tileRows cX7_tileRows 2 (some .int), Cond.methodLink RX7 66 yX7_tileColumns, Cond.instanceMethod yX7_tileColumns, Cond.selects RX7 yX7_tileColumns yX7_tileColumns, Cond.code yX7_tileColumns cX7_tileColumns 2 (some .int), Cond.methodLink RX7 38 yX7_changes, Cond.instanceMethod yX7_changes, Cond.selects RX7 yX7_changes yX7_changes, Cond.code yX7_changes cX7_changes 2 none, Cond.fieldLink RX7 25 "SkewedSquareModel" "pasts" "I"]
def wsX7_drain_r2 : List Cond := [Cond.fieldLink RX7 13 "SkewedSquareModel" "past" "[I", Cond.methodLink RX7 108 yX7_drains, Cond.instanceMethod yX7_drains, Cond.selects RX7 yX7_drains yX7_drains, Cond.code yX7_drains cX7_drains 4 none, Cond.methodLink RX7 78 yX7_cell, Cond.static yX7_cell, Cond.code yX7_cell cX7_cell 2 (some .int), Cond.methodLink RX7 111 yX7_known, Cond.instanceMethod yX7_known, Cond.selects RX7 yX7_known yX7_known, Cond.code yX7_known cX7_known 3 (some .int)]
def wsX7_drain : List Cond := .code yX7_drain cX7_drain 1 (some .int) :: ((wsX7_drain_r1 ++ wsX7_drain_r2) ++ wsX70)
def wsX7_doesAll_r1 : List Cond := [Cond.fieldLink RX7 7 "SkewedSquareModel" "s" "[I", Cond.methodLink RX7 29 yX7_along, Cond.instanceMethod yX7_along, Cond.selects RX7 yX7_along yX7_along, Cond.initialized RX7, Cond.code yX7_along cX7_along 2 (some .int), Cond.methodLink RX7 69 yX7_begins, Cond.instanceMethod yX7_begins, Cond.selects RX7 yX7_begins yX7_begins, Cond.code yX7_begins cX7_begins 3 none, Cond.methodLink RX7 41 yX7_clears, Cond.instanceMethod yX7_clears, Cond.selects RX7 yX7_clears yX7_clears, Cond.code yX7_clears cX7_clears 4 none, Cond.methodLink RX7 101 yX7_isDone, Cond.instanceMethod yX7_isDone, Cond.selects RX7 yX7_isDone yX7_isDone, Cond.code yX7_isDone cX7_isDone 1 (some .boolean), Cond.methodLink RX7 72 yX7_ticks, Cond.instanceMethod yX7_ticks, Cond.selects RX7 yX7_ticks yX7_ticks, Cond.code yX7_ticks cX7_ticks 1 (some .int), Cond.methodLink RX7 63 yX7_tileRows, Cond.instanceMethod yX7_tileRows]
def wsX7_doesAll_r2 : List Cond := [Cond.selects RX7 yX7_tileRows yX7_tileRows, Cond.code yX7_tileRows cX7_tileRows 2 (some .int), Cond.methodLink RX7 66 yX7_tileColumns, Cond.instanceMethod yX7_tileColumns, Cond.selects RX7 yX7_tileColumns yX7_tileColumns, Cond.code yX7_tileColumns cX7_tileColumns 2 (some .int), Cond.methodLink RX7 105 yX7_goes, Cond.instanceMethod yX7_goes, Cond.selects RX7 yX7_goes yX7_goes, Cond.code yX7_goes cX7_goes 5 none, Cond.fieldLink RX7 82 "SkewedSquareModel" "hasLeft" "Z", Cond.fieldLink RX7 86 "SkewedSquareModel" "hasAbove" "Z", Cond.fieldLink RX7 89 "SkewedSquareModel" "fromLeft" "I", Cond.fieldLink RX7 92 "SkewedSquareModel" "fromAbove" "I", Cond.methodLink RX7 95 yX7_gets, Cond.instanceMethod yX7_gets, Cond.selects RX7 yX7_gets yX7_gets, Cond.code yX7_gets cX7_gets 5 none, Cond.methodLink RX7 33 yX7_in, Cond.static yX7_in, Cond.code yX7_in cX7_in 3 (some .boolean), Cond.methodLink RX7 78 yX7_cell, Cond.static yX7_cell, Cond.code yX7_cell cX7_cell 2 (some .int)]
def wsX7_doesAll_r3 : List Cond := [Cond.methodLink RX7 98 yX7_faultOf, Cond.instanceMethod yX7_faultOf, Cond.selects RX7 yX7_faultOf yX7_faultOf, Cond.code yX7_faultOf cX7_faultOf 3 (some .int), Cond.methodLink RX7 75 yX7_placeOf, Cond.instanceMethod yX7_placeOf, Cond.selects RX7 yX7_placeOf yX7_placeOf, Cond.code yX7_placeOf cX7_placeOf 2 (some .int), Cond.methodLink RX7 108 yX7_drains, Cond.instanceMethod yX7_drains, Cond.selects RX7 yX7_drains yX7_drains, Cond.code yX7_drains cX7_drains 4 none]
def wsX7_doesAll : List Cond := .code yX7_doesAll cX7_doesAll 4 (some .int) :: ((wsX7_doesAll_r1 ++ (wsX7_doesAll_r2 ++ wsX7_doesAll_r3)) ++ wsX70)
def wsX7_all_r1 : List Cond := [Cond.fieldLink RX7 7 "SkewedSquareModel" "s" "[I", Cond.constant RX7 58 (-1000002), Cond.methodLink RX7 38 yX7_changes, Cond.instanceMethod yX7_changes, Cond.selects RX7 yX7_changes yX7_changes, Cond.initialized RX7, Cond.code yX7_changes cX7_changes 2 none, Cond.fieldLink RX7 25 "SkewedSquareModel" "pasts" "I", Cond.fieldLink RX7 13 "SkewedSquareModel" "past" "[I", Cond.methodLink RX7 114 yX7_doesAll, Cond.instanceMethod yX7_doesAll, Cond.selects RX7 yX7_doesAll yX7_doesAll, Cond.code yX7_doesAll cX7_doesAll 4 (some .int), Cond.methodLink RX7 29 yX7_along, Cond.instanceMethod yX7_along, Cond.selects RX7 yX7_along yX7_along, Cond.code yX7_along cX7_along 2 (some .int), Cond.methodLink RX7 69 yX7_begins, Cond.instanceMethod yX7_begins, Cond.selects RX7 yX7_begins yX7_begins, Cond.code yX7_begins cX7_begins 3 none, Cond.methodLink RX7 41 yX7_clears, Cond.instanceMethod yX7_clears, Cond.selects RX7 yX7_clears yX7_clears]
def wsX7_all_r2 : List Cond := [Cond.code yX7_clears cX7_clears 4 none, Cond.methodLink RX7 101 yX7_isDone, Cond.instanceMethod yX7_isDone, Cond.selects RX7 yX7_isDone yX7_isDone, Cond.code yX7_isDone cX7_isDone 1 (some .boolean), Cond.methodLink RX7 72 yX7_ticks, Cond.instanceMethod yX7_ticks, Cond.selects RX7 yX7_ticks yX7_ticks, Cond.code yX7_ticks cX7_ticks 1 (some .int), Cond.methodLink RX7 63 yX7_tileRows, Cond.instanceMethod yX7_tileRows, Cond.selects RX7 yX7_tileRows yX7_tileRows, Cond.code yX7_tileRows cX7_tileRows 2 (some .int), Cond.methodLink RX7 66 yX7_tileColumns, Cond.instanceMethod yX7_tileColumns, Cond.selects RX7 yX7_tileColumns yX7_tileColumns, Cond.code yX7_tileColumns cX7_tileColumns 2 (some .int), Cond.methodLink RX7 105 yX7_goes, Cond.instanceMethod yX7_goes, Cond.selects RX7 yX7_goes yX7_goes, Cond.code yX7_goes cX7_goes 5 none, Cond.fieldLink RX7 82 "SkewedSquareModel" "hasLeft" "Z", Cond.fieldLink RX7 86 "SkewedSquareModel" "hasAbove" "Z", Cond.fieldLink RX7 89 "SkewedSquareModel" "fromLeft" "I"]
def wsX7_all_r3 : List Cond := [Cond.fieldLink RX7 92 "SkewedSquareModel" "fromAbove" "I", Cond.methodLink RX7 95 yX7_gets, Cond.instanceMethod yX7_gets, Cond.selects RX7 yX7_gets yX7_gets, Cond.code yX7_gets cX7_gets 5 none, Cond.methodLink RX7 33 yX7_in, Cond.static yX7_in, Cond.code yX7_in cX7_in 3 (some .boolean), Cond.methodLink RX7 78 yX7_cell, Cond.static yX7_cell, Cond.code yX7_cell cX7_cell 2 (some .int), Cond.methodLink RX7 98 yX7_faultOf, Cond.instanceMethod yX7_faultOf, Cond.selects RX7 yX7_faultOf yX7_faultOf, Cond.code yX7_faultOf cX7_faultOf 3 (some .int), Cond.methodLink RX7 75 yX7_placeOf, Cond.instanceMethod yX7_placeOf, Cond.selects RX7 yX7_placeOf yX7_placeOf, Cond.code yX7_placeOf cX7_placeOf 2 (some .int), Cond.methodLink RX7 108 yX7_drains, Cond.instanceMethod yX7_drains, Cond.selects RX7 yX7_drains yX7_drains, Cond.code yX7_drains cX7_drains 4 none]
def wsX7_all : List Cond := .code yX7_all cX7_all 1 (some .int) :: ((wsX7_all_r1 ++ (wsX7_all_r2 ++ wsX7_all_r3)) ++ wsX70)
def wsX7_entry : List Cond := .code yX7_entry cX7_entry 4 (some .int) :: ([.fieldLink RX7 7 "SkewedSquareModel" "s" "[I", .constant RX7 37 (-1000001), .methodLink RX7 55 yX7_isEntry, .instanceMethod yX7_isEntry, .selects RX7 yX7_isEntry yX7_isEntry, .initialized RX7, .code yX7_isEntry cX7_isEntry 4 (some .boolean), .methodLink RX7 33 yX7_in, .static yX7_in, .code yX7_in cX7_in 3 (some .boolean), .methodLink RX7 49 yX7_rowsOf, .instanceMethod yX7_rowsOf, .selects RX7 yX7_rowsOf yX7_rowsOf, .code yX7_rowsOf cX7_rowsOf 2 (some .int), .methodLink RX7 52 yX7_columnsOf, .instanceMethod yX7_columnsOf, .selects RX7 yX7_columnsOf yX7_columnsOf, .code yX7_columnsOf cX7_columnsOf 2 (some .int)] ++ wsX70)
def wsX7_cellOf : List Cond := .code yX7_cellOf cX7_cellOf 5 (some .int) :: ([.fieldLink RX7 7 "SkewedSquareModel" "s" "[I", .constant RX7 37 (-1000001), .constant RX7 58 (-1000002), .constant RX7 117 (-1000004), .methodLink RX7 33 yX7_in, .static yX7_in, .initialized RX7, .code yX7_in cX7_in 3 (some .boolean), .methodLink RX7 75 yX7_placeOf, .instanceMethod yX7_placeOf, .selects RX7 yX7_placeOf yX7_placeOf, .code yX7_placeOf cX7_placeOf 2 (some .int), .methodLink RX7 98 yX7_faultOf, .instanceMethod yX7_faultOf, .selects RX7 yX7_faultOf yX7_faultOf, .code yX7_faultOf cX7_faultOf 3 (some .int), .methodLink RX7 78 yX7_cell, .static yX7_cell, .code yX7_cell cX7_cell 2 (some .int)] ++ wsX70)
def wsX7_due : List Cond := .code yX7_due cX7_due 5 (some .int) :: ([.fieldLink RX7 7 "SkewedSquareModel" "s" "[I"] ++ wsX70)
def wsX7_isKnown : List Cond := .code yX7_isKnown cX7_isKnown 3 (some .boolean) :: ([.fieldLink RX7 7 "SkewedSquareModel" "s" "[I"] ++ wsX70)
def wsX7_result : List Cond := .code yX7_result cX7_result 4 (some .int) :: ([.fieldLink RX7 7 "SkewedSquareModel" "s" "[I", .constant RX7 37 (-1000001), .constant RX7 117 (-1000004), .methodLink RX7 33 yX7_in, .static yX7_in, .initialized RX7, .code yX7_in cX7_in 3 (some .boolean), .methodLink RX7 118 yX7_due, .instanceMethod yX7_due, .selects RX7 yX7_due yX7_due, .code yX7_due cX7_due 5 (some .int), .methodLink RX7 121 yX7_isKnown, .instanceMethod yX7_isKnown, .selects RX7 yX7_isKnown yX7_isKnown, .code yX7_isKnown cX7_isKnown 3 (some .boolean)] ++ wsX70)
def wsX7_wrong : List Cond := .code yX7_wrong cX7_wrong 4 (some .int) :: ([.fieldLink RX7 7 "SkewedSquareModel" "s" "[I", .methodLink RX7 121 yX7_isKnown, .instanceMethod yX7_isKnown, .selects RX7 yX7_isKnown yX7_isKnown, .initialized RX7, .code yX7_isKnown cX7_isKnown 3 (some .boolean), .methodLink RX7 118 yX7_due, .instanceMethod yX7_due, .selects RX7 yX7_due yX7_due, .code yX7_due cX7_due 5 (some .int)] ++ wsX70)
def wsX7_faulty : List Cond := .code yX7_faulty cX7_faulty 3 (some .int) :: ([.fieldLink RX7 7 "SkewedSquareModel" "s" "[I"] ++ wsX70)
def wsX7_count_r1 : List Cond := [Cond.fieldLink RX7 7 "SkewedSquareModel" "s" "[I", Cond.constant RX7 117 (-1000004), Cond.fieldLink RX7 25 "SkewedSquareModel" "pasts" "I", Cond.fieldLink RX7 131 "SkewedSquareModel" "typed" "I", Cond.constant RX7 37 (-1000001), Cond.methodLink RX7 45 yX7_tiles, Cond.instanceMethod yX7_tiles, Cond.selects RX7 yX7_tiles yX7_tiles, Cond.initialized RX7, Cond.code yX7_tiles cX7_tiles 1 (some .int), Cond.methodLink RX7 29 yX7_along, Cond.instanceMethod yX7_along, Cond.selects RX7 yX7_along yX7_along, Cond.code yX7_along cX7_along 2 (some .int), Cond.methodLink RX7 72 yX7_ticks, Cond.instanceMethod yX7_ticks, Cond.selects RX7 yX7_ticks yX7_ticks, Cond.code yX7_ticks cX7_ticks 1 (some .int), Cond.methodLink RX7 63 yX7_tileRows, Cond.instanceMethod yX7_tileRows, Cond.selects RX7 yX7_tileRows yX7_tileRows, Cond.code yX7_tileRows cX7_tileRows 2 (some .int), Cond.methodLink RX7 66 yX7_tileColumns, Cond.instanceMethod yX7_tileColumns]
def wsX7_count_r2 : List Cond := [Cond.selects RX7 yX7_tileColumns yX7_tileColumns, Cond.code yX7_tileColumns cX7_tileColumns 2 (some .int), Cond.methodLink RX7 111 yX7_known, Cond.instanceMethod yX7_known, Cond.selects RX7 yX7_known yX7_known, Cond.code yX7_known cX7_known 3 (some .int), Cond.methodLink RX7 125 yX7_wrong, Cond.instanceMethod yX7_wrong, Cond.selects RX7 yX7_wrong yX7_wrong, Cond.code yX7_wrong cX7_wrong 4 (some .int), Cond.methodLink RX7 121 yX7_isKnown, Cond.instanceMethod yX7_isKnown, Cond.selects RX7 yX7_isKnown yX7_isKnown, Cond.code yX7_isKnown cX7_isKnown 3 (some .boolean), Cond.methodLink RX7 118 yX7_due, Cond.instanceMethod yX7_due, Cond.selects RX7 yX7_due yX7_due, Cond.code yX7_due cX7_due 5 (some .int), Cond.methodLink RX7 128 yX7_faulty, Cond.instanceMethod yX7_faulty, Cond.selects RX7 yX7_faulty yX7_faulty, Cond.code yX7_faulty cX7_faulty 3 (some .int)]
def wsX7_count : List Cond := .code yX7_count cX7_count 2 (some .int) :: ((wsX7_count_r1 ++ wsX7_count_r2) ++ wsX70)
def wsX7_isSuspect : List Cond := .code yX7_isSuspect cX7_isSuspect 8 (some .boolean) :: ([.fieldLink RX7 7 "SkewedSquareModel" "s" "[I", .methodLink RX7 121 yX7_isKnown, .instanceMethod yX7_isKnown, .selects RX7 yX7_isKnown yX7_isKnown, .initialized RX7, .code yX7_isKnown cX7_isKnown 3 (some .boolean), .methodLink RX7 118 yX7_due, .instanceMethod yX7_due, .selects RX7 yX7_due yX7_due, .code yX7_due cX7_due 5 (some .int)] ++ wsX70)
def wsX7_suspects : List Cond := .code yX7_suspects cX7_suspects 4 (some .int) :: ([.constant RX7 37 (-1000001), .fieldLink RX7 7 "SkewedSquareModel" "s" "[I", .methodLink RX7 33 yX7_in, .static yX7_in, .initialized RX7, .code yX7_in cX7_in 3 (some .boolean), .methodLink RX7 134 yX7_isSuspect, .instanceMethod yX7_isSuspect, .selects RX7 yX7_isSuspect yX7_isSuspect, .code yX7_isSuspect cX7_isSuspect 8 (some .boolean), .methodLink RX7 121 yX7_isKnown, .instanceMethod yX7_isKnown, .selects RX7 yX7_isKnown yX7_isKnown, .code yX7_isKnown cX7_isKnown 3 (some .boolean), .methodLink RX7 118 yX7_due, .instanceMethod yX7_due, .selects RX7 yX7_due yX7_due, .code yX7_due cX7_due 5 (some .int)] ++ wsX70)
def wsX7_wrongWithout_r1 : List Cond := [Cond.fieldLink RX7 16 "SkewedSquareModel" "tried" "[I", Cond.fieldLink RX7 7 "SkewedSquareModel" "s" "[I", Cond.methodLink RX7 114 yX7_doesAll, Cond.instanceMethod yX7_doesAll, Cond.selects RX7 yX7_doesAll yX7_doesAll, Cond.initialized RX7, Cond.code yX7_doesAll cX7_doesAll 4 (some .int), Cond.methodLink RX7 29 yX7_along, Cond.instanceMethod yX7_along, Cond.selects RX7 yX7_along yX7_along, Cond.code yX7_along cX7_along 2 (some .int), Cond.methodLink RX7 69 yX7_begins, Cond.instanceMethod yX7_begins, Cond.selects RX7 yX7_begins yX7_begins, Cond.code yX7_begins cX7_begins 3 none, Cond.methodLink RX7 41 yX7_clears, Cond.instanceMethod yX7_clears, Cond.selects RX7 yX7_clears yX7_clears, Cond.code yX7_clears cX7_clears 4 none, Cond.methodLink RX7 101 yX7_isDone, Cond.instanceMethod yX7_isDone, Cond.selects RX7 yX7_isDone yX7_isDone, Cond.code yX7_isDone cX7_isDone 1 (some .boolean), Cond.methodLink RX7 72 yX7_ticks]
def wsX7_wrongWithout_r2 : List Cond := [Cond.instanceMethod yX7_ticks, Cond.selects RX7 yX7_ticks yX7_ticks, Cond.code yX7_ticks cX7_ticks 1 (some .int), Cond.methodLink RX7 63 yX7_tileRows, Cond.instanceMethod yX7_tileRows, Cond.selects RX7 yX7_tileRows yX7_tileRows, Cond.code yX7_tileRows cX7_tileRows 2 (some .int), Cond.methodLink RX7 66 yX7_tileColumns, Cond.instanceMethod yX7_tileColumns, Cond.selects RX7 yX7_tileColumns yX7_tileColumns, Cond.code yX7_tileColumns cX7_tileColumns 2 (some .int), Cond.methodLink RX7 105 yX7_goes, Cond.instanceMethod yX7_goes, Cond.selects RX7 yX7_goes yX7_goes, Cond.code yX7_goes cX7_goes 5 none, Cond.fieldLink RX7 82 "SkewedSquareModel" "hasLeft" "Z", Cond.fieldLink RX7 86 "SkewedSquareModel" "hasAbove" "Z", Cond.fieldLink RX7 89 "SkewedSquareModel" "fromLeft" "I", Cond.fieldLink RX7 92 "SkewedSquareModel" "fromAbove" "I", Cond.methodLink RX7 95 yX7_gets, Cond.instanceMethod yX7_gets, Cond.selects RX7 yX7_gets yX7_gets, Cond.code yX7_gets cX7_gets 5 none, Cond.methodLink RX7 33 yX7_in]
def wsX7_wrongWithout_r3 : List Cond := [Cond.static yX7_in, Cond.code yX7_in cX7_in 3 (some .boolean), Cond.methodLink RX7 78 yX7_cell, Cond.static yX7_cell, Cond.code yX7_cell cX7_cell 2 (some .int), Cond.methodLink RX7 98 yX7_faultOf, Cond.instanceMethod yX7_faultOf, Cond.selects RX7 yX7_faultOf yX7_faultOf, Cond.code yX7_faultOf cX7_faultOf 3 (some .int), Cond.methodLink RX7 75 yX7_placeOf, Cond.instanceMethod yX7_placeOf, Cond.selects RX7 yX7_placeOf yX7_placeOf, Cond.code yX7_placeOf cX7_placeOf 2 (some .int), Cond.methodLink RX7 108 yX7_drains, Cond.instanceMethod yX7_drains, Cond.selects RX7 yX7_drains yX7_drains, Cond.code yX7_drains cX7_drains 4 none, Cond.methodLink RX7 125 yX7_wrong, Cond.instanceMethod yX7_wrong, Cond.selects RX7 yX7_wrong yX7_wrong, Cond.code yX7_wrong cX7_wrong 4 (some .int), Cond.methodLink RX7 121 yX7_isKnown, Cond.instanceMethod yX7_isKnown, Cond.selects RX7 yX7_isKnown yX7_isKnown]
def wsX7_wrongWithout_r4 : List Cond := [Cond.code yX7_isKnown cX7_isKnown 3 (some .boolean), Cond.methodLink RX7 118 yX7_due, Cond.instanceMethod yX7_due, Cond.selects RX7 yX7_due yX7_due, Cond.code yX7_due cX7_due 5 (some .int)]
def wsX7_wrongWithout : List Cond := .code yX7_wrongWithout cX7_wrongWithout 5 (some .int) :: ((wsX7_wrongWithout_r1 ++ (wsX7_wrongWithout_r2 ++ (wsX7_wrongWithout_r3 ++ wsX7_wrongWithout_r4))) ++ wsX70)
def wsX7_wouldBeWrong_r1 : List Cond := [Cond.fieldLink RX7 7 "SkewedSquareModel" "s" "[I", Cond.constant RX7 37 (-1000001), Cond.methodLink RX7 33 yX7_in, Cond.static yX7_in, Cond.initialized RX7, Cond.code yX7_in cX7_in 3 (some .boolean), Cond.methodLink RX7 137 yX7_wrongWithout, Cond.instanceMethod yX7_wrongWithout, Cond.selects RX7 yX7_wrongWithout yX7_wrongWithout, Cond.code yX7_wrongWithout cX7_wrongWithout 5 (some .int), Cond.fieldLink RX7 16 "SkewedSquareModel" "tried" "[I", Cond.methodLink RX7 114 yX7_doesAll, Cond.instanceMethod yX7_doesAll, Cond.selects RX7 yX7_doesAll yX7_doesAll, Cond.code yX7_doesAll cX7_doesAll 4 (some .int), Cond.methodLink RX7 29 yX7_along, Cond.instanceMethod yX7_along, Cond.selects RX7 yX7_along yX7_along, Cond.code yX7_along cX7_along 2 (some .int), Cond.methodLink RX7 69 yX7_begins, Cond.instanceMethod yX7_begins, Cond.selects RX7 yX7_begins yX7_begins, Cond.code yX7_begins cX7_begins 3 none, Cond.methodLink RX7 41 yX7_clears]
def wsX7_wouldBeWrong_r2 : List Cond := [Cond.instanceMethod yX7_clears, Cond.selects RX7 yX7_clears yX7_clears, Cond.code yX7_clears cX7_clears 4 none, Cond.methodLink RX7 101 yX7_isDone, Cond.instanceMethod yX7_isDone, Cond.selects RX7 yX7_isDone yX7_isDone, Cond.code yX7_isDone cX7_isDone 1 (some .boolean), Cond.methodLink RX7 72 yX7_ticks, Cond.instanceMethod yX7_ticks, Cond.selects RX7 yX7_ticks yX7_ticks, Cond.code yX7_ticks cX7_ticks 1 (some .int), Cond.methodLink RX7 63 yX7_tileRows, Cond.instanceMethod yX7_tileRows, Cond.selects RX7 yX7_tileRows yX7_tileRows, Cond.code yX7_tileRows cX7_tileRows 2 (some .int), Cond.methodLink RX7 66 yX7_tileColumns, Cond.instanceMethod yX7_tileColumns, Cond.selects RX7 yX7_tileColumns yX7_tileColumns, Cond.code yX7_tileColumns cX7_tileColumns 2 (some .int), Cond.methodLink RX7 105 yX7_goes, Cond.instanceMethod yX7_goes, Cond.selects RX7 yX7_goes yX7_goes, Cond.code yX7_goes cX7_goes 5 none, Cond.fieldLink RX7 82 "SkewedSquareModel" "hasLeft" "Z"]
def wsX7_wouldBeWrong_r3 : List Cond := [Cond.fieldLink RX7 86 "SkewedSquareModel" "hasAbove" "Z", Cond.fieldLink RX7 89 "SkewedSquareModel" "fromLeft" "I", Cond.fieldLink RX7 92 "SkewedSquareModel" "fromAbove" "I", Cond.methodLink RX7 95 yX7_gets, Cond.instanceMethod yX7_gets, Cond.selects RX7 yX7_gets yX7_gets, Cond.code yX7_gets cX7_gets 5 none, Cond.methodLink RX7 78 yX7_cell, Cond.static yX7_cell, Cond.code yX7_cell cX7_cell 2 (some .int), Cond.methodLink RX7 98 yX7_faultOf, Cond.instanceMethod yX7_faultOf, Cond.selects RX7 yX7_faultOf yX7_faultOf, Cond.code yX7_faultOf cX7_faultOf 3 (some .int), Cond.methodLink RX7 75 yX7_placeOf, Cond.instanceMethod yX7_placeOf, Cond.selects RX7 yX7_placeOf yX7_placeOf, Cond.code yX7_placeOf cX7_placeOf 2 (some .int), Cond.methodLink RX7 108 yX7_drains, Cond.instanceMethod yX7_drains, Cond.selects RX7 yX7_drains yX7_drains, Cond.code yX7_drains cX7_drains 4 none, Cond.methodLink RX7 125 yX7_wrong, Cond.instanceMethod yX7_wrong]
def wsX7_wouldBeWrong_r4 : List Cond := [Cond.selects RX7 yX7_wrong yX7_wrong, Cond.code yX7_wrong cX7_wrong 4 (some .int), Cond.methodLink RX7 121 yX7_isKnown, Cond.instanceMethod yX7_isKnown, Cond.selects RX7 yX7_isKnown yX7_isKnown, Cond.code yX7_isKnown cX7_isKnown 3 (some .boolean), Cond.methodLink RX7 118 yX7_due, Cond.instanceMethod yX7_due, Cond.selects RX7 yX7_due yX7_due, Cond.code yX7_due cX7_due 5 (some .int)]
def wsX7_wouldBeWrong : List Cond := .code yX7_wouldBeWrong cX7_wouldBeWrong 2 (some .int) :: ((wsX7_wouldBeWrong_r1 ++ (wsX7_wouldBeWrong_r2 ++ (wsX7_wouldBeWrong_r3 ++ wsX7_wouldBeWrong_r4))) ++ wsX70)
def wsX7_best_r1 : List Cond := [Cond.fieldLink RX7 7 "SkewedSquareModel" "s" "[I", Cond.methodLink RX7 137 yX7_wrongWithout, Cond.instanceMethod yX7_wrongWithout, Cond.selects RX7 yX7_wrongWithout yX7_wrongWithout, Cond.initialized RX7, Cond.code yX7_wrongWithout cX7_wrongWithout 5 (some .int), Cond.fieldLink RX7 16 "SkewedSquareModel" "tried" "[I", Cond.methodLink RX7 114 yX7_doesAll, Cond.instanceMethod yX7_doesAll, Cond.selects RX7 yX7_doesAll yX7_doesAll, Cond.code yX7_doesAll cX7_doesAll 4 (some .int), Cond.methodLink RX7 29 yX7_along, Cond.instanceMethod yX7_along, Cond.selects RX7 yX7_along yX7_along, Cond.code yX7_along cX7_along 2 (some .int), Cond.methodLink RX7 69 yX7_begins, Cond.instanceMethod yX7_begins, Cond.selects RX7 yX7_begins yX7_begins, Cond.code yX7_begins cX7_begins 3 none, Cond.methodLink RX7 41 yX7_clears, Cond.instanceMethod yX7_clears, Cond.selects RX7 yX7_clears yX7_clears, Cond.code yX7_clears cX7_clears 4 none, Cond.methodLink RX7 101 yX7_isDone]
def wsX7_best_r2 : List Cond := [Cond.instanceMethod yX7_isDone, Cond.selects RX7 yX7_isDone yX7_isDone, Cond.code yX7_isDone cX7_isDone 1 (some .boolean), Cond.methodLink RX7 72 yX7_ticks, Cond.instanceMethod yX7_ticks, Cond.selects RX7 yX7_ticks yX7_ticks, Cond.code yX7_ticks cX7_ticks 1 (some .int), Cond.methodLink RX7 63 yX7_tileRows, Cond.instanceMethod yX7_tileRows, Cond.selects RX7 yX7_tileRows yX7_tileRows, Cond.code yX7_tileRows cX7_tileRows 2 (some .int), Cond.methodLink RX7 66 yX7_tileColumns, Cond.instanceMethod yX7_tileColumns, Cond.selects RX7 yX7_tileColumns yX7_tileColumns, Cond.code yX7_tileColumns cX7_tileColumns 2 (some .int), Cond.methodLink RX7 105 yX7_goes, Cond.instanceMethod yX7_goes, Cond.selects RX7 yX7_goes yX7_goes, Cond.code yX7_goes cX7_goes 5 none, Cond.fieldLink RX7 82 "SkewedSquareModel" "hasLeft" "Z", Cond.fieldLink RX7 86 "SkewedSquareModel" "hasAbove" "Z", Cond.fieldLink RX7 89 "SkewedSquareModel" "fromLeft" "I", Cond.fieldLink RX7 92 "SkewedSquareModel" "fromAbove" "I", Cond.methodLink RX7 95 yX7_gets]
def wsX7_best_r3 : List Cond := [Cond.instanceMethod yX7_gets, Cond.selects RX7 yX7_gets yX7_gets, Cond.code yX7_gets cX7_gets 5 none, Cond.methodLink RX7 33 yX7_in, Cond.static yX7_in, Cond.code yX7_in cX7_in 3 (some .boolean), Cond.methodLink RX7 78 yX7_cell, Cond.static yX7_cell, Cond.code yX7_cell cX7_cell 2 (some .int), Cond.methodLink RX7 98 yX7_faultOf, Cond.instanceMethod yX7_faultOf, Cond.selects RX7 yX7_faultOf yX7_faultOf, Cond.code yX7_faultOf cX7_faultOf 3 (some .int), Cond.methodLink RX7 75 yX7_placeOf, Cond.instanceMethod yX7_placeOf, Cond.selects RX7 yX7_placeOf yX7_placeOf, Cond.code yX7_placeOf cX7_placeOf 2 (some .int), Cond.methodLink RX7 108 yX7_drains, Cond.instanceMethod yX7_drains, Cond.selects RX7 yX7_drains yX7_drains, Cond.code yX7_drains cX7_drains 4 none, Cond.methodLink RX7 125 yX7_wrong, Cond.instanceMethod yX7_wrong, Cond.selects RX7 yX7_wrong yX7_wrong]
def wsX7_best_r4 : List Cond := [Cond.code yX7_wrong cX7_wrong 4 (some .int), Cond.methodLink RX7 121 yX7_isKnown, Cond.instanceMethod yX7_isKnown, Cond.selects RX7 yX7_isKnown yX7_isKnown, Cond.code yX7_isKnown cX7_isKnown 3 (some .boolean), Cond.methodLink RX7 118 yX7_due, Cond.instanceMethod yX7_due, Cond.selects RX7 yX7_due yX7_due, Cond.code yX7_due cX7_due 5 (some .int)]
def wsX7_best : List Cond := .code yX7_best cX7_best 5 (some .int) :: ((wsX7_best_r1 ++ (wsX7_best_r2 ++ (wsX7_best_r3 ++ wsX7_best_r4))) ++ wsX70)
def wsX7_undo : List Cond := .code yX7_undo cX7_undo 2 (some .int) :: ([.fieldLink RX7 25 "SkewedSquareModel" "pasts" "I", .constant RX7 58 (-1000002), .fieldLink RX7 7 "SkewedSquareModel" "s" "[I", .fieldLink RX7 13 "SkewedSquareModel" "past" "[I"] ++ wsX70)
def wsX7_type : List Cond := .code yX7_type cX7_type 2 (some .int) :: ([.constant RX7 37 (-1000001), .fieldLink RX7 131 "SkewedSquareModel" "typed" "I", .constant RX7 140 (-1000003), .fieldLink RX7 19 "SkewedSquareModel" "text" "[I", .methodLink RX7 33 yX7_in, .static yX7_in, .initialized RX7, .code yX7_in cX7_in 3 (some .boolean)] ++ wsX70)
def wsX7_clearText : List Cond := .code yX7_clearText cX7_clearText 2 (some .int) :: ([.fieldLink RX7 131 "SkewedSquareModel" "typed" "I"] ++ wsX70)
def wsX7_isDigit : List Cond := .code yX7_isDigit cX7_isDigit 1 (some .boolean) :: ([.fieldLink RX7 141 "SkewedSquareModel" "spot" "I", .fieldLink RX7 131 "SkewedSquareModel" "typed" "I", .fieldLink RX7 19 "SkewedSquareModel" "text" "[I", .methodLink RX7 33 yX7_in, .static yX7_in, .initialized RX7, .code yX7_in cX7_in 3 (some .boolean)] ++ wsX70)
def wsX7_number : List Cond := .code yX7_number cX7_number 3 (some .boolean) :: ([.fieldLink RX7 141 "SkewedSquareModel" "spot" "I", .fieldLink RX7 131 "SkewedSquareModel" "typed" "I", .fieldLink RX7 19 "SkewedSquareModel" "text" "[I", .fieldLink RX7 22 "SkewedSquareModel" "told" "[I", .fieldLink RX7 147 "SkewedSquareModel" "high" "I", .fieldLink RX7 150 "SkewedSquareModel" "own" "I", .methodLink RX7 144 yX7_isDigit, .instanceMethod yX7_isDigit, .selects RX7 yX7_isDigit yX7_isDigit, .initialized RX7, .code yX7_isDigit cX7_isDigit 1 (some .boolean), .methodLink RX7 33 yX7_in, .static yX7_in, .code yX7_in cX7_in 3 (some .boolean)] ++ wsX70)
def wsX7_fails : List Cond := .code yX7_fails cX7_fails 2 (some .boolean) :: ([.fieldLink RX7 153 "SkewedSquareModel" "reason" "I"] ++ wsX70)
def wsX7_rowEnds : List Cond := .code yX7_rowEnds cX7_rowEnds 2 (some .boolean) :: ([.fieldLink RX7 147 "SkewedSquareModel" "high" "I", .fieldLink RX7 150 "SkewedSquareModel" "own" "I", .fieldLink RX7 156 "SkewedSquareModel" "wide" "I", .methodLink RX7 159 yX7_fails, .instanceMethod yX7_fails, .selects RX7 yX7_fails yX7_fails, .initialized RX7, .code yX7_fails cX7_fails 2 (some .boolean), .fieldLink RX7 153 "SkewedSquareModel" "reason" "I"] ++ wsX70)
def wsX7_isRight_r1 : List Cond := [Cond.fieldLink RX7 141 "SkewedSquareModel" "spot" "I", Cond.fieldLink RX7 147 "SkewedSquareModel" "high" "I", Cond.fieldLink RX7 156 "SkewedSquareModel" "wide" "I", Cond.fieldLink RX7 150 "SkewedSquareModel" "own" "I", Cond.fieldLink RX7 131 "SkewedSquareModel" "typed" "I", Cond.fieldLink RX7 19 "SkewedSquareModel" "text" "[I", Cond.methodLink RX7 163 yX7_number, Cond.instanceMethod yX7_number, Cond.selects RX7 yX7_number yX7_number, Cond.initialized RX7, Cond.code yX7_number cX7_number 3 (some .boolean), Cond.fieldLink RX7 22 "SkewedSquareModel" "told" "[I", Cond.methodLink RX7 144 yX7_isDigit, Cond.instanceMethod yX7_isDigit, Cond.selects RX7 yX7_isDigit yX7_isDigit, Cond.code yX7_isDigit cX7_isDigit 1 (some .boolean), Cond.methodLink RX7 33 yX7_in, Cond.static yX7_in, Cond.code yX7_in cX7_in 3 (some .boolean), Cond.methodLink RX7 166 yX7_rowEnds, Cond.instanceMethod yX7_rowEnds, Cond.selects RX7 yX7_rowEnds yX7_rowEnds, Cond.code yX7_rowEnds cX7_rowEnds 2 (some .boolean), Cond.methodLink RX7 159 yX7_fails]
def wsX7_isRight_r2 : List Cond := [Cond.instanceMethod yX7_fails, Cond.selects RX7 yX7_fails yX7_fails, Cond.code yX7_fails cX7_fails 2 (some .boolean), Cond.fieldLink RX7 153 "SkewedSquareModel" "reason" "I"]
def wsX7_isRight : List Cond := .code yX7_isRight cX7_isRight 2 (some .boolean) :: ((wsX7_isRight_r1 ++ wsX7_isRight_r2) ++ wsX70)
def wsX7_textFault_r1 : List Cond := [Cond.constant RX7 37 (-1000001), Cond.constant RX7 117 (-1000004), Cond.fieldLink RX7 141 "SkewedSquareModel" "spot" "I", Cond.fieldLink RX7 153 "SkewedSquareModel" "reason" "I", Cond.methodLink RX7 33 yX7_in, Cond.static yX7_in, Cond.initialized RX7, Cond.code yX7_in cX7_in 3 (some .boolean), Cond.methodLink RX7 170 yX7_isRight, Cond.instanceMethod yX7_isRight, Cond.selects RX7 yX7_isRight yX7_isRight, Cond.code yX7_isRight cX7_isRight 2 (some .boolean), Cond.fieldLink RX7 147 "SkewedSquareModel" "high" "I", Cond.fieldLink RX7 156 "SkewedSquareModel" "wide" "I", Cond.fieldLink RX7 150 "SkewedSquareModel" "own" "I", Cond.fieldLink RX7 131 "SkewedSquareModel" "typed" "I", Cond.fieldLink RX7 19 "SkewedSquareModel" "text" "[I", Cond.methodLink RX7 163 yX7_number, Cond.instanceMethod yX7_number, Cond.selects RX7 yX7_number yX7_number, Cond.code yX7_number cX7_number 3 (some .boolean), Cond.fieldLink RX7 22 "SkewedSquareModel" "told" "[I", Cond.methodLink RX7 144 yX7_isDigit, Cond.instanceMethod yX7_isDigit]
def wsX7_textFault_r2 : List Cond := [Cond.selects RX7 yX7_isDigit yX7_isDigit, Cond.code yX7_isDigit cX7_isDigit 1 (some .boolean), Cond.methodLink RX7 166 yX7_rowEnds, Cond.instanceMethod yX7_rowEnds, Cond.selects RX7 yX7_rowEnds yX7_rowEnds, Cond.code yX7_rowEnds cX7_rowEnds 2 (some .boolean), Cond.methodLink RX7 159 yX7_fails, Cond.instanceMethod yX7_fails, Cond.selects RX7 yX7_fails yX7_fails, Cond.code yX7_fails cX7_fails 2 (some .boolean)]
def wsX7_textFault : List Cond := .code yX7_textFault cX7_textFault 2 (some .int) :: ((wsX7_textFault_r1 ++ wsX7_textFault_r2) ++ wsX70)
def wsX7_read_r1 : List Cond := [Cond.constant RX7 37 (-1000001), Cond.fieldLink RX7 7 "SkewedSquareModel" "s" "[I", Cond.constant RX7 58 (-1000002), Cond.fieldLink RX7 156 "SkewedSquareModel" "wide" "I", Cond.fieldLink RX7 147 "SkewedSquareModel" "high" "I", Cond.fieldLink RX7 22 "SkewedSquareModel" "told" "[I", Cond.methodLink RX7 33 yX7_in, Cond.static yX7_in, Cond.initialized RX7, Cond.code yX7_in cX7_in 3 (some .boolean), Cond.methodLink RX7 170 yX7_isRight, Cond.instanceMethod yX7_isRight, Cond.selects RX7 yX7_isRight yX7_isRight, Cond.code yX7_isRight cX7_isRight 2 (some .boolean), Cond.fieldLink RX7 141 "SkewedSquareModel" "spot" "I", Cond.fieldLink RX7 150 "SkewedSquareModel" "own" "I", Cond.fieldLink RX7 131 "SkewedSquareModel" "typed" "I", Cond.fieldLink RX7 19 "SkewedSquareModel" "text" "[I", Cond.methodLink RX7 163 yX7_number, Cond.instanceMethod yX7_number, Cond.selects RX7 yX7_number yX7_number, Cond.code yX7_number cX7_number 3 (some .boolean), Cond.methodLink RX7 144 yX7_isDigit, Cond.instanceMethod yX7_isDigit]
def wsX7_read_r2 : List Cond := [Cond.selects RX7 yX7_isDigit yX7_isDigit, Cond.code yX7_isDigit cX7_isDigit 1 (some .boolean), Cond.methodLink RX7 166 yX7_rowEnds, Cond.instanceMethod yX7_rowEnds, Cond.selects RX7 yX7_rowEnds yX7_rowEnds, Cond.code yX7_rowEnds cX7_rowEnds 2 (some .boolean), Cond.methodLink RX7 159 yX7_fails, Cond.instanceMethod yX7_fails, Cond.selects RX7 yX7_fails yX7_fails, Cond.code yX7_fails cX7_fails 2 (some .boolean), Cond.fieldLink RX7 153 "SkewedSquareModel" "reason" "I", Cond.methodLink RX7 38 yX7_changes, Cond.instanceMethod yX7_changes, Cond.selects RX7 yX7_changes yX7_changes, Cond.code yX7_changes cX7_changes 2 none, Cond.fieldLink RX7 25 "SkewedSquareModel" "pasts" "I", Cond.fieldLink RX7 13 "SkewedSquareModel" "past" "[I", Cond.methodLink RX7 41 yX7_clears, Cond.instanceMethod yX7_clears, Cond.selects RX7 yX7_clears yX7_clears, Cond.code yX7_clears cX7_clears 4 none]
def wsX7_read : List Cond := .code yX7_read cX7_read 5 (some .int) :: ((wsX7_read_r1 ++ wsX7_read_r2) ++ wsX70)
def wsJ9_min_7cf53 : List Cond := .code yJ9_min_7cf53 cJ9_min_7cf53 2 (some .int) :: ([])
def wsL_law_r1 : List Cond := [Cond.classLink RL 7 RX6, Cond.instantiable RX6 4, Cond.initialized RX6, Cond.classLink RL 10 RX7, Cond.instantiable RX7 16, Cond.initialized RX7, Cond.methodLink RL 9 yX6_init, Cond.instanceMethod yX6_init, Cond.code yX6_init cX6_init 1 none, Cond.methodLink RX6 1 objectInit, Cond.instanceMethod objectInit, Cond.code objectInit ⟨#[0xb1]⟩ 1 none, Cond.classLink RX6 7 RX3, Cond.instantiable RX3 5, Cond.initialized RX3, Cond.fieldLink RX6 10 "SkewedSquare" "now" "LSkewedSquare$State;", Cond.fieldLink RX6 16 "SkewedSquare" "trial" "LSkewedSquare$State;", Cond.classLink RX6 19 RX0, Cond.instantiable RX0 2, Cond.initialized RX0, Cond.fieldLink RX6 22 "SkewedSquare" "history" "LSkewedSquare$History;", Cond.classLink RX6 26 RX4, Cond.instantiable RX4 11, Cond.initialized RX4]
def wsL_law_r2 : List Cond := [Cond.fieldLink RX6 29 "SkewedSquare" "text" "LSkewedSquare$Text;", Cond.methodLink RX6 9 yX3_init, Cond.instanceMethod yX3_init, Cond.code yX3_init cX3_init 1 none, Cond.methodLink RX3 3 objectInit, Cond.classLink RX3 9 RX2, Cond.instantiable RX2 3, Cond.initialized RX2, Cond.fieldLink RX3 12 "SkewedSquare$State" "square" "LSkewedSquare$Square;", Cond.classLink RX3 18 RX1, Cond.instantiable RX1 3, Cond.initialized RX1, Cond.fieldLink RX3 21 "SkewedSquare$State" "leftMatrix" "LSkewedSquare$Matrix;", Cond.fieldLink RX3 25 "SkewedSquare$State" "rightMatrix" "LSkewedSquare$Matrix;", Cond.fieldLink RX3 28 "SkewedSquare$State" "results" "LSkewedSquare$Matrix;", Cond.classLink RX3 31 RX5, Cond.instantiable RX5 11, Cond.initialized RX5, Cond.fieldLink RX3 34 "SkewedSquare$State" "tile" "LSkewedSquare$Tile;", Cond.instanceMethod yX2_init, Cond.code yX2_init cX2_init 1 none, Cond.methodLink RX2 3 objectInit, Cond.fieldLink RX2 9 "SkewedSquare$Square" "side" "I", Cond.fieldLink RX2 15 "SkewedSquare$Square" "leftOut" "I"]
def wsL_law_r3 : List Cond := [Cond.arrayClass .int, Cond.fieldLink RX2 18 "SkewedSquare$Square" "kinds" "[I", Cond.instanceMethod yX1_init, Cond.code yX1_init cX1_init 1 none, Cond.methodLink RX1 3 objectInit, Cond.fieldLink RX1 9 "SkewedSquare$Matrix" "rows" "I", Cond.fieldLink RX1 15 "SkewedSquare$Matrix" "columns" "I", Cond.fieldLink RX1 18 "SkewedSquare$Matrix" "entries" "[I", Cond.instanceMethod yX5_init, Cond.code yX5_init cX5_init 1 none, Cond.methodLink RX5 3 objectInit, Cond.fieldLink RX5 9 "SkewedSquare$Tile" "sums" "[I", Cond.fieldLink RX5 15 "SkewedSquare$Tile" "meetings" "[I", Cond.fieldLink RX5 18 "SkewedSquare$Tile" "rightward" "[I", Cond.fieldLink RX5 21 "SkewedSquare$Tile" "downward" "[I", Cond.methodLink RX3 38 yX3_forgetResults, Cond.instanceMethod yX3_forgetResults, Cond.selects RX3 yX3_forgetResults yX3_forgetResults, Cond.code yX3_forgetResults cX3_forgetResults 1 none, Cond.fieldLink RX3 51 "SkewedSquare$Matrix" "rows" "I", Cond.fieldLink RX3 55 "SkewedSquare$Matrix" "columns" "I", Cond.constant RX3 58 (-999999999), Cond.methodLink RX3 59 yX1_renew, Cond.instanceMethod yX1_renew]
def wsL_law_r4 : List Cond := [Cond.selects RX1 yX1_renew yX1_renew, Cond.code yX1_renew cX1_renew 4 none, Cond.static yX6_isLength, Cond.code yX6_isLength cX6_isLength 1 (some .boolean), Cond.methodLink RX1 30 yJ7_fill_53178, Cond.static yJ7_fill_53178, Cond.initialized RJ7, Cond.code yJ7_fill_53178 cJ7_fill_53178 4 none, Cond.methodLink RX6 21 yX0_init, Cond.instanceMethod yX0_init, Cond.code yX0_init cX0_init 2 none, Cond.methodLink RX0 3 objectInit, Cond.classLink RX0 9 RX3, Cond.fieldLink RX0 11 "SkewedSquare$History" "states" "[LSkewedSquare$State;", Cond.methodLink RX0 17 yX3_init, Cond.instanceMethod yX4_init, Cond.code yX4_init cX4_init 1 none, Cond.methodLink RX4 3 objectInit, Cond.arrayClass .char, Cond.fieldLink RX4 9 "SkewedSquare$Text" "signs" "[C", Cond.classLink RX4 15 RX1, Cond.fieldLink RX4 18 "SkewedSquare$Text" "matrix" "LSkewedSquare$Matrix;", Cond.methodLink RL 12 yX7_init, Cond.instanceMethod yX7_init]
def wsL_law_r5 : List Cond := [Cond.code yX7_init cX7_init 1 none, Cond.methodLink RX7 1 objectInit, Cond.fieldLink RX7 7 "SkewedSquareModel" "s" "[I", Cond.fieldLink RX7 13 "SkewedSquareModel" "past" "[I", Cond.fieldLink RX7 16 "SkewedSquareModel" "tried" "[I", Cond.fieldLink RX7 19 "SkewedSquareModel" "text" "[I", Cond.fieldLink RX7 22 "SkewedSquareModel" "told" "[I", Cond.methodLink RL 13 yX6_side, Cond.instanceMethod yX6_side, Cond.selects RX6 yX6_side yX6_side, Cond.code yX6_side cX6_side 3 (some .int), Cond.constant RX6 33 (-1000001), Cond.fieldLink RX6 38 "SkewedSquare$State" "square" "LSkewedSquare$Square;", Cond.fieldLink RX6 42 "SkewedSquare$Square" "side" "I", Cond.fieldLink RX6 52 "SkewedSquare$State" "tile" "LSkewedSquare$Tile;", Cond.fieldLink RX6 56 "SkewedSquare$Tile" "begun" "Z", Cond.methodLink RX6 34 yX0_remember, Cond.instanceMethod yX0_remember, Cond.selects RX0 yX0_remember yX0_remember, Cond.code yX0_remember cX0_remember 2 none, Cond.fieldLink RX0 18 "SkewedSquare$History" "size" "I", Cond.methodLink RX0 22 yX0_dropOldest, Cond.instanceMethod yX0_dropOldest, Cond.selects RX0 yX0_dropOldest yX0_dropOldest]
def wsL_law_r6 : List Cond := [Cond.code yX0_dropOldest cX0_dropOldest 3 none, Cond.methodLink RX0 25 yX3_copyFrom, Cond.instanceMethod yX3_copyFrom, Cond.selects RX3 yX3_copyFrom yX3_copyFrom, Cond.code yX3_copyFrom cX3_copyFrom 2 none, Cond.methodLink RX3 41 yX2_copyFrom, Cond.instanceMethod yX2_copyFrom, Cond.selects RX2 yX2_copyFrom yX2_copyFrom, Cond.code yX2_copyFrom cX2_copyFrom 2 none, Cond.methodLink RX2 36 arraycopyName, Cond.native arraycopyName, Cond.static arraycopyName, Cond.initialized "java/lang/System", Cond.methodLink RX3 45 yX1_copyFrom, Cond.instanceMethod yX1_copyFrom, Cond.selects RX1 yX1_copyFrom yX1_copyFrom, Cond.code yX1_copyFrom cX1_copyFrom 2 none, Cond.methodLink RX1 36 arraycopyName, Cond.methodLink RX3 48 yX5_copyFrom, Cond.instanceMethod yX5_copyFrom, Cond.selects RX5 yX5_copyFrom yX5_copyFrom, Cond.code yX5_copyFrom cX5_copyFrom 2 none, Cond.fieldLink RX5 49 "SkewedSquare$Tile" "begun" "Z", Cond.fieldLink RX5 53 "SkewedSquare$Tile" "row" "I"]
def wsL_law_r7 : List Cond := [Cond.fieldLink RX5 56 "SkewedSquare$Tile" "column" "I", Cond.fieldLink RX5 59 "SkewedSquare$Tile" "height" "I", Cond.fieldLink RX5 62 "SkewedSquare$Tile" "width" "I", Cond.fieldLink RX5 31 "SkewedSquare$Tile" "ticks" "I", Cond.fieldLink RX5 35 "SkewedSquare$Tile" "ticksNeeded" "I", Cond.methodLink RX5 65 arraycopyName, Cond.methodLink RX6 48 yX2_renew, Cond.instanceMethod yX2_renew, Cond.selects RX2 yX2_renew yX2_renew, Cond.code yX2_renew cX2_renew 2 none, Cond.methodLink RX2 22 yJ7_fill_53178, Cond.methodLink RX6 62 yX3_forgetResults, Cond.methodLink RL 17 yX7_side, Cond.instanceMethod yX7_side, Cond.selects RX7 yX7_side yX7_side, Cond.code yX7_side cX7_side 3 (some .int), Cond.constant RX7 37 (-1000001), Cond.methodLink RX7 33 yX7_in, Cond.static yX7_in, Cond.code yX7_in cX7_in 3 (some .boolean), Cond.methodLink RX7 38 yX7_changes, Cond.instanceMethod yX7_changes, Cond.selects RX7 yX7_changes yX7_changes, Cond.code yX7_changes cX7_changes 2 none]
def wsL_law_r8 : List Cond := [Cond.fieldLink RX7 25 "SkewedSquareModel" "pasts" "I", Cond.methodLink RX7 41 yX7_clears, Cond.instanceMethod yX7_clears, Cond.selects RX7 yX7_clears yX7_clears, Cond.code yX7_clears cX7_clears 4 none, Cond.methodLink RL 18 yX6_shape, Cond.instanceMethod yX6_shape, Cond.selects RX6 yX6_shape yX6_shape, Cond.code yX6_shape cX6_shape 4 (some .int), Cond.fieldLink RX6 69 "SkewedSquare$State" "leftMatrix" "LSkewedSquare$Matrix;", Cond.fieldLink RX6 78 "SkewedSquare$State" "rightMatrix" "LSkewedSquare$Matrix;", Cond.methodLink RX6 65 yX6_isLength, Cond.methodLink RX6 73 yX1_renew, Cond.methodLink RX6 81 yX3_tiles, Cond.instanceMethod yX3_tiles, Cond.selects RX3 yX3_tiles yX3_tiles, Cond.code yX3_tiles cX3_tiles 1 (some .int), Cond.methodLink RX3 67 yX3_tilesDown, Cond.instanceMethod yX3_tilesDown, Cond.selects RX3 yX3_tilesDown yX3_tilesDown, Cond.code yX3_tilesDown cX3_tilesDown 1 (some .int), Cond.methodLink RX3 63 yX3_tilesAlong, Cond.instanceMethod yX3_tilesAlong, Cond.selects RX3 yX3_tilesAlong yX3_tilesAlong]
def wsL_law_r9 : List Cond := [Cond.code yX3_tilesAlong cX3_tilesAlong 2 (some .int), Cond.fieldLink RX3 74 "SkewedSquare$Square" "side" "I", Cond.methodLink RX3 71 yX3_tilesAcross, Cond.instanceMethod yX3_tilesAcross, Cond.selects RX3 yX3_tilesAcross yX3_tilesAcross, Cond.code yX3_tilesAcross cX3_tilesAcross 1 (some .int), Cond.methodLink RL 22 yX7_shape, Cond.instanceMethod yX7_shape, Cond.selects RX7 yX7_shape yX7_shape, Cond.code yX7_shape cX7_shape 4 (some .int), Cond.methodLink RX7 45 yX7_tiles, Cond.instanceMethod yX7_tiles, Cond.selects RX7 yX7_tiles yX7_tiles, Cond.code yX7_tiles cX7_tiles 1 (some .int), Cond.methodLink RX7 29 yX7_along, Cond.instanceMethod yX7_along, Cond.selects RX7 yX7_along yX7_along, Cond.code yX7_along cX7_along 2 (some .int), Cond.methodLink RL 23 yX6_left, Cond.instanceMethod yX6_left, Cond.selects RX6 yX6_left yX6_left, Cond.code yX6_left cX6_left 4 (some .int), Cond.methodLink RX6 85 yX6_setEntry, Cond.instanceMethod yX6_setEntry]
def wsL_law_r10 : List Cond := [Cond.selects RX6 yX6_setEntry yX6_setEntry, Cond.code yX6_setEntry cX6_setEntry 6 (some .int), Cond.constant RX6 93 (-1000002), Cond.methodLink RX6 129 yX1_has, Cond.instanceMethod yX1_has, Cond.selects RX1 yX1_has yX1_has, Cond.code yX1_has cX1_has 3 (some .boolean), Cond.methodLink RX6 130 yX1_at, Cond.instanceMethod yX1_at, Cond.selects RX1 yX1_at yX1_at, Cond.code yX1_at cX1_at 3 (some .int), Cond.methodLink RX6 217 yX1_put, Cond.instanceMethod yX1_put, Cond.selects RX1 yX1_put yX1_put, Cond.code yX1_put cX1_put 4 none, Cond.methodLink RX1 22 yX1_has, Cond.methodLink RL 26 yX7_left, Cond.instanceMethod yX7_left, Cond.selects RX7 yX7_left yX7_left, Cond.code yX7_left cX7_left 4 (some .int), Cond.methodLink RX7 59 yX7_sets, Cond.instanceMethod yX7_sets, Cond.selects RX7 yX7_sets yX7_sets, Cond.code yX7_sets cX7_sets 7 (some .int)]
def wsL_law_r11 : List Cond := [Cond.constant RX7 58 (-1000002), Cond.methodLink RX7 55 yX7_isEntry, Cond.instanceMethod yX7_isEntry, Cond.selects RX7 yX7_isEntry yX7_isEntry, Cond.code yX7_isEntry cX7_isEntry 4 (some .boolean), Cond.methodLink RX7 49 yX7_rowsOf, Cond.instanceMethod yX7_rowsOf, Cond.selects RX7 yX7_rowsOf yX7_rowsOf, Cond.code yX7_rowsOf cX7_rowsOf 2 (some .int), Cond.methodLink RX7 52 yX7_columnsOf, Cond.instanceMethod yX7_columnsOf, Cond.selects RX7 yX7_columnsOf yX7_columnsOf, Cond.code yX7_columnsOf cX7_columnsOf 2 (some .int), Cond.methodLink RL 27 yX6_right, Cond.instanceMethod yX6_right, Cond.selects RX6 yX6_right yX6_right, Cond.code yX6_right cX6_right 4 (some .int), Cond.methodLink RL 30 yX7_right, Cond.instanceMethod yX7_right, Cond.selects RX7 yX7_right yX7_right, Cond.code yX7_right cX7_right 4 (some .int), Cond.methodLink RL 31 yX6_fault, Cond.instanceMethod yX6_fault, Cond.selects RX6 yX6_fault yX6_fault]
def wsL_law_r12 : List Cond := [Cond.code yX6_fault cX6_fault 5 (some .int), Cond.methodLink RX6 89 yX2_has, Cond.instanceMethod yX2_has, Cond.selects RX2 yX2_has yX2_has, Cond.code yX2_has cX2_has 3 (some .boolean), Cond.methodLink RX6 94 yX2_kindAt, Cond.instanceMethod yX2_kindAt, Cond.selects RX2 yX2_kindAt yX2_kindAt, Cond.code yX2_kindAt cX2_kindAt 3 (some .int), Cond.methodLink RX2 28 yX2_has, Cond.methodLink RX6 98 yX2_setKind, Cond.instanceMethod yX2_setKind, Cond.selects RX2 yX2_setKind yX2_setKind, Cond.code yX2_setKind cX2_setKind 4 none, Cond.methodLink RL 34 yX7_fault, Cond.instanceMethod yX7_fault, Cond.selects RX7 yX7_fault yX7_fault, Cond.code yX7_fault cX7_fault 5 (some .int), Cond.methodLink RL 35 yX6_leave, Cond.instanceMethod yX6_leave, Cond.selects RX6 yX6_leave yX6_leave, Cond.code yX6_leave cX6_leave 3 (some .int), Cond.fieldLink RX6 101 "SkewedSquare$Square" "leftOut" "I", Cond.methodLink RL 38 yX7_leave]
def wsL_law_r13 : List Cond := [Cond.instanceMethod yX7_leave, Cond.selects RX7 yX7_leave yX7_leave, Cond.code yX7_leave cX7_leave 3 (some .int), Cond.methodLink RL 39 yX6_begin, Cond.instanceMethod yX6_begin, Cond.selects RX6 yX6_begin yX6_begin, Cond.code yX6_begin cX6_begin 3 (some .int), Cond.methodLink RX6 104 yX3_tilesDown, Cond.methodLink RX6 107 yX3_tilesAcross, Cond.methodLink RX6 110 yX3_beginTile, Cond.instanceMethod yX3_beginTile, Cond.selects RX3 yX3_beginTile yX3_beginTile, Cond.code yX3_beginTile cX3_beginTile 3 none, Cond.fieldLink RX3 80 "SkewedSquare$Tile" "begun" "Z", Cond.fieldLink RX3 84 "SkewedSquare$Tile" "row" "I", Cond.fieldLink RX3 87 "SkewedSquare$Tile" "column" "I", Cond.methodLink RX3 90 Lib.Math.min.name, Cond.static Lib.Math.min.name, Cond.initialized "java/lang/Math", Cond.code Lib.Math.min.name Lib.Math.min.code 2 (some .int), Cond.fieldLink RX3 96 "SkewedSquare$Tile" "height" "I", Cond.fieldLink RX3 99 "SkewedSquare$Tile" "width" "I", Cond.fieldLink RX3 102 "SkewedSquare$Tile" "ticksNeeded" "I", Cond.methodLink RX3 77 yX5_empty]
def wsL_law_r14 : List Cond := [Cond.instanceMethod yX5_empty, Cond.selects RX5 yX5_empty yX5_empty, Cond.code yX5_empty cX5_empty 1 none, Cond.constant RX5 30 (-999999999), Cond.methodLink RX5 24 yJ7_fill_53178, Cond.methodLink RX6 114 yX5_ticksLeft, Cond.instanceMethod yX5_ticksLeft, Cond.selects RX5 yX5_ticksLeft yX5_ticksLeft, Cond.code yX5_ticksLeft cX5_ticksLeft 1 (some .int), Cond.methodLink RL 43 yX7_begin, Cond.instanceMethod yX7_begin, Cond.selects RX7 yX7_begin yX7_begin, Cond.code yX7_begin cX7_begin 3 (some .int), Cond.methodLink RX7 69 yX7_begins, Cond.instanceMethod yX7_begins, Cond.selects RX7 yX7_begins yX7_begins, Cond.code yX7_begins cX7_begins 3 none, Cond.methodLink RX7 72 yX7_ticks, Cond.instanceMethod yX7_ticks, Cond.selects RX7 yX7_ticks yX7_ticks, Cond.code yX7_ticks cX7_ticks 1 (some .int), Cond.methodLink RX7 63 yX7_tileRows, Cond.instanceMethod yX7_tileRows, Cond.selects RX7 yX7_tileRows yX7_tileRows]
def wsL_law_r15 : List Cond := [Cond.code yX7_tileRows cX7_tileRows 2 (some .int), Cond.methodLink RX7 66 yX7_tileColumns, Cond.instanceMethod yX7_tileColumns, Cond.selects RX7 yX7_tileColumns yX7_tileColumns, Cond.code yX7_tileColumns cX7_tileColumns 2 (some .int), Cond.methodLink RL 44 yX6_tick, Cond.instanceMethod yX6_tick, Cond.selects RX6 yX6_tick yX6_tick, Cond.code yX6_tick cX6_tick 2 (some .int), Cond.methodLink RX6 117 yX3_goOn, Cond.instanceMethod yX3_goOn, Cond.selects RX3 yX3_goOn yX3_goOn, Cond.code yX3_goOn cX3_goOn 4 none, Cond.methodLink RX3 105 yX5_ticksLeft, Cond.methodLink RX3 108 yX3_goOnce, Cond.instanceMethod yX3_goOnce, Cond.selects RX3 yX3_goOnce yX3_goOnce, Cond.code yX3_goOnce cX3_goOnce 4 none, Cond.fieldLink RX3 130 "SkewedSquare$Tile" "ticks" "I", Cond.methodLink RX3 111 yX2_placeOf, Cond.instanceMethod yX2_placeOf, Cond.selects RX2 yX2_placeOf yX2_placeOf, Cond.code yX2_placeOf cX2_placeOf 2 (some .int), Cond.methodLink RX3 114 yX2_kindAt]
def wsL_law_r16 : List Cond := [Cond.methodLink RX3 117 yX5_cell, Cond.static yX5_cell, Cond.code yX5_cell cX5_cell 2 (some .int), Cond.methodLink RX3 120 yX3_fromLeft, Cond.instanceMethod yX3_fromLeft, Cond.selects RX3 yX3_fromLeft yX3_fromLeft, Cond.code yX3_fromLeft cX3_fromLeft 5 (some .int), Cond.methodLink RX3 133 yX5_rightwardOf, Cond.instanceMethod yX5_rightwardOf, Cond.selects RX5 yX5_rightwardOf yX5_rightwardOf, Cond.code yX5_rightwardOf cX5_rightwardOf 2 (some .int), Cond.methodLink RX5 38 yX5_isCell, Cond.static yX5_isCell, Cond.code yX5_isCell cX5_isCell 1 (some .boolean), Cond.methodLink RX3 136 yX1_has, Cond.methodLink RX3 140 yX1_at, Cond.methodLink RX3 123 yX3_fromAbove, Cond.instanceMethod yX3_fromAbove, Cond.selects RX3 yX3_fromAbove yX3_fromAbove, Cond.code yX3_fromAbove cX3_fromAbove 5 (some .int), Cond.methodLink RX3 143 yX5_downwardOf, Cond.instanceMethod yX5_downwardOf, Cond.selects RX5 yX5_downwardOf yX5_downwardOf, Cond.code yX5_downwardOf cX5_downwardOf 2 (some .int)]
def wsL_law_r17 : List Cond := [Cond.methodLink RX3 126 yX5_pass, Cond.instanceMethod yX5_pass, Cond.selects RX5 yX5_pass yX5_pass, Cond.code yX5_pass cX5_pass 5 none, Cond.methodLink RX5 42 yX5_timesAdded, Cond.static yX5_timesAdded, Cond.code yX5_timesAdded cX5_timesAdded 1 (some .int), Cond.methodLink RX5 46 yX5_zeroIfAny, Cond.static yX5_zeroIfAny, Cond.code yX5_zeroIfAny cX5_zeroIfAny 1 (some .int), Cond.methodLink RL 47 yX7_tick, Cond.instanceMethod yX7_tick, Cond.selects RX7 yX7_tick yX7_tick, Cond.code yX7_tick cX7_tick 3 (some .int), Cond.methodLink RX7 101 yX7_isDone, Cond.instanceMethod yX7_isDone, Cond.selects RX7 yX7_isDone yX7_isDone, Cond.code yX7_isDone cX7_isDone 1 (some .boolean), Cond.methodLink RX7 105 yX7_goes, Cond.instanceMethod yX7_goes, Cond.selects RX7 yX7_goes yX7_goes, Cond.code yX7_goes cX7_goes 5 none, Cond.fieldLink RX7 82 "SkewedSquareModel" "hasLeft" "Z", Cond.fieldLink RX7 86 "SkewedSquareModel" "hasAbove" "Z"]
def wsL_law_r18 : List Cond := [Cond.fieldLink RX7 89 "SkewedSquareModel" "fromLeft" "I", Cond.fieldLink RX7 92 "SkewedSquareModel" "fromAbove" "I", Cond.methodLink RX7 95 yX7_gets, Cond.instanceMethod yX7_gets, Cond.selects RX7 yX7_gets yX7_gets, Cond.code yX7_gets cX7_gets 5 none, Cond.methodLink RX7 78 yX7_cell, Cond.static yX7_cell, Cond.code yX7_cell cX7_cell 2 (some .int), Cond.methodLink RX7 98 yX7_faultOf, Cond.instanceMethod yX7_faultOf, Cond.selects RX7 yX7_faultOf yX7_faultOf, Cond.code yX7_faultOf cX7_faultOf 3 (some .int), Cond.methodLink RX7 75 yX7_placeOf, Cond.instanceMethod yX7_placeOf, Cond.selects RX7 yX7_placeOf yX7_placeOf, Cond.code yX7_placeOf cX7_placeOf 2 (some .int), Cond.methodLink RL 48 yX6_drain, Cond.instanceMethod yX6_drain, Cond.selects RX6 yX6_drain yX6_drain, Cond.code yX6_drain cX6_drain 1 (some .int), Cond.methodLink RX6 120 yX3_drainTile, Cond.instanceMethod yX3_drainTile, Cond.selects RX3 yX3_drainTile yX3_drainTile]
def wsL_law_r19 : List Cond := [Cond.code yX3_drainTile cX3_drainTile 5 none, Cond.methodLink RX3 146 yX5_sumOf, Cond.instanceMethod yX5_sumOf, Cond.selects RX5 yX5_sumOf yX5_sumOf, Cond.code yX5_sumOf cX5_sumOf 2 (some .int), Cond.methodLink RX3 149 yX1_put, Cond.methodLink RX6 123 yX3_knownEntries, Cond.instanceMethod yX3_knownEntries, Cond.selects RX3 yX3_knownEntries yX3_knownEntries, Cond.code yX3_knownEntries cX3_knownEntries 4 (some .int), Cond.methodLink RL 52 yX7_drain, Cond.instanceMethod yX7_drain, Cond.selects RX7 yX7_drain yX7_drain, Cond.code yX7_drain cX7_drain 1 (some .int), Cond.methodLink RX7 108 yX7_drains, Cond.instanceMethod yX7_drains, Cond.selects RX7 yX7_drains yX7_drains, Cond.code yX7_drains cX7_drains 4 none, Cond.methodLink RX7 111 yX7_known, Cond.instanceMethod yX7_known, Cond.selects RX7 yX7_known yX7_known, Cond.code yX7_known cX7_known 3 (some .int), Cond.methodLink RL 53 yX6_all, Cond.instanceMethod yX6_all]
def wsL_law_r20 : List Cond := [Cond.selects RX6 yX6_all yX6_all, Cond.code yX6_all cX6_all 1 (some .int), Cond.methodLink RX6 126 yX3_doAllTiles, Cond.instanceMethod yX3_doAllTiles, Cond.selects RX3 yX3_doAllTiles yX3_doAllTiles, Cond.code yX3_doAllTiles cX3_doAllTiles 6 (some .int), Cond.methodLink RX3 152 yX3_beginTile, Cond.methodLink RX3 156 yX3_goOn, Cond.methodLink RX3 160 yX3_drainTile, Cond.methodLink RL 56 yX7_all, Cond.instanceMethod yX7_all, Cond.selects RX7 yX7_all yX7_all, Cond.code yX7_all cX7_all 1 (some .int), Cond.methodLink RX7 114 yX7_doesAll, Cond.instanceMethod yX7_doesAll, Cond.selects RX7 yX7_doesAll yX7_doesAll, Cond.code yX7_doesAll cX7_doesAll 4 (some .int), Cond.methodLink RL 57 yX6_entry, Cond.instanceMethod yX6_entry, Cond.selects RX6 yX6_entry yX6_entry, Cond.code yX6_entry cX6_entry 5 (some .int), Cond.methodLink RL 60 yX7_entry, Cond.instanceMethod yX7_entry, Cond.selects RX7 yX7_entry yX7_entry]
def wsL_law_r21 : List Cond := [Cond.code yX7_entry cX7_entry 4 (some .int), Cond.methodLink RL 61 yX6_cellOf, Cond.instanceMethod yX6_cellOf, Cond.selects RX6 yX6_cellOf yX6_cellOf, Cond.code yX6_cellOf cX6_cellOf 5 (some .int), Cond.methodLink RX6 133 yX2_placeOf, Cond.methodLink RX6 137 yX5_cell, Cond.methodLink RX6 140 yX6_ofCellAtWork, Cond.instanceMethod yX6_ofCellAtWork, Cond.selects RX6 yX6_ofCellAtWork yX6_ofCellAtWork, Cond.code yX6_ofCellAtWork cX6_ofCellAtWork 3 (some .int), Cond.methodLink RX6 220 yX5_sumOf, Cond.methodLink RX6 223 yX5_rightwardOf, Cond.methodLink RX6 149 yX6_orNotFound, Cond.static yX6_orNotFound, Cond.code yX6_orNotFound cX6_orNotFound 1 (some .int), Cond.constant RX6 216 (-999999999), Cond.constant RX6 161 (-1000004), Cond.methodLink RX6 226 yX5_downwardOf, Cond.methodLink RX6 229 yX5_meetingsOf, Cond.instanceMethod yX5_meetingsOf, Cond.selects RX5 yX5_meetingsOf yX5_meetingsOf, Cond.code yX5_meetingsOf cX5_meetingsOf 2 (some .int), Cond.methodLink RL 64 yX7_cellOf]
def wsL_law_r22 : List Cond := [Cond.instanceMethod yX7_cellOf, Cond.selects RX7 yX7_cellOf yX7_cellOf, Cond.code yX7_cellOf cX7_cellOf 5 (some .int), Cond.constant RX7 117 (-1000004), Cond.methodLink RL 65 yX6_result, Cond.instanceMethod yX6_result, Cond.selects RX6 yX6_result yX6_result, Cond.code yX6_result cX6_result 4 (some .int), Cond.fieldLink RX6 143 "SkewedSquare$State" "results" "LSkewedSquare$Matrix;", Cond.methodLink RX6 146 yX3_dueAt, Cond.instanceMethod yX3_dueAt, Cond.selects RX3 yX3_dueAt yX3_dueAt, Cond.code yX3_dueAt cX3_dueAt 5 (some .int), Cond.methodLink RL 68 yX7_result, Cond.instanceMethod yX7_result, Cond.selects RX7 yX7_result yX7_result, Cond.code yX7_result cX7_result 4 (some .int), Cond.methodLink RX7 118 yX7_due, Cond.instanceMethod yX7_due, Cond.selects RX7 yX7_due yX7_due, Cond.code yX7_due cX7_due 5 (some .int), Cond.methodLink RX7 121 yX7_isKnown, Cond.instanceMethod yX7_isKnown, Cond.selects RX7 yX7_isKnown yX7_isKnown]
def wsL_law_r23 : List Cond := [Cond.code yX7_isKnown cX7_isKnown 3 (some .boolean), Cond.methodLink RL 69 yX6_count, Cond.instanceMethod yX6_count, Cond.selects RX6 yX6_count yX6_count, Cond.code yX6_count cX6_count 2 (some .int), Cond.fieldLink RX6 152 "SkewedSquare$Matrix" "rows" "I", Cond.fieldLink RX6 155 "SkewedSquare$Matrix" "columns" "I", Cond.fieldLink RX6 158 "SkewedSquare$Tile" "row" "I", Cond.fieldLink RX6 162 "SkewedSquare$Tile" "column" "I", Cond.fieldLink RX6 165 "SkewedSquare$Tile" "ticks" "I", Cond.fieldLink RX6 174 "SkewedSquare$History" "size" "I", Cond.fieldLink RX6 177 "SkewedSquare$Text" "length" "I", Cond.methodLink RX6 168 yX3_wrongEntries, Cond.instanceMethod yX3_wrongEntries, Cond.selects RX3 yX3_wrongEntries yX3_wrongEntries, Cond.code yX3_wrongEntries cX3_wrongEntries 5 (some .int), Cond.methodLink RX3 163 yX3_dueAt, Cond.methodLink RX6 171 yX2_faultyCells, Cond.instanceMethod yX2_faultyCells, Cond.selects RX2 yX2_faultyCells yX2_faultyCells, Cond.code yX2_faultyCells cX2_faultyCells 4 (some .int), Cond.methodLink RX2 32 yX2_kindAt, Cond.methodLink RL 72 yX7_count, Cond.instanceMethod yX7_count]
def wsL_law_r24 : List Cond := [Cond.selects RX7 yX7_count yX7_count, Cond.code yX7_count cX7_count 2 (some .int), Cond.fieldLink RX7 131 "SkewedSquareModel" "typed" "I", Cond.methodLink RX7 125 yX7_wrong, Cond.instanceMethod yX7_wrong, Cond.selects RX7 yX7_wrong yX7_wrong, Cond.code yX7_wrong cX7_wrong 4 (some .int), Cond.methodLink RX7 128 yX7_faulty, Cond.instanceMethod yX7_faulty, Cond.selects RX7 yX7_faulty yX7_faulty, Cond.code yX7_faulty cX7_faulty 3 (some .int), Cond.methodLink RL 73 yX6_suspects, Cond.instanceMethod yX6_suspects, Cond.selects RX6 yX6_suspects yX6_suspects, Cond.code yX6_suspects cX6_suspects 2 (some .int), Cond.methodLink RX6 180 yX3_suspectRows, Cond.instanceMethod yX3_suspectRows, Cond.selects RX3 yX3_suspectRows yX3_suspectRows, Cond.code yX3_suspectRows cX3_suspectRows 3 (some .int), Cond.methodLink RX3 166 yX1_isWholeInRow, Cond.instanceMethod yX1_isWholeInRow, Cond.selects RX1 yX1_isWholeInRow yX1_isWholeInRow, Cond.code yX1_isWholeInRow cX1_isWholeInRow 3 (some .boolean), Cond.constant RX1 46 (-999999999)]
def wsL_law_r25 : List Cond := [Cond.methodLink RX1 42 yX1_at, Cond.methodLink RX3 170 yX1_sumOfRow, Cond.instanceMethod yX1_sumOfRow, Cond.selects RX1 yX1_sumOfRow yX1_sumOfRow, Cond.code yX1_sumOfRow cX1_sumOfRow 4 (some .int), Cond.methodLink RX3 173 yX3_dueSumOfRow, Cond.instanceMethod yX3_dueSumOfRow, Cond.selects RX3 yX3_dueSumOfRow yX3_dueSumOfRow, Cond.code yX3_dueSumOfRow cX3_dueSumOfRow 4 (some .int), Cond.methodLink RX6 183 yX3_suspectColumns, Cond.instanceMethod yX3_suspectColumns, Cond.selects RX3 yX3_suspectColumns yX3_suspectColumns, Cond.code yX3_suspectColumns cX3_suspectColumns 3 (some .int), Cond.methodLink RX3 176 yX1_isWholeInColumn, Cond.instanceMethod yX1_isWholeInColumn, Cond.selects RX1 yX1_isWholeInColumn yX1_isWholeInColumn, Cond.code yX1_isWholeInColumn cX1_isWholeInColumn 3 (some .boolean), Cond.methodLink RX3 179 yX1_sumOfColumn, Cond.instanceMethod yX1_sumOfColumn, Cond.selects RX1 yX1_sumOfColumn yX1_sumOfColumn, Cond.code yX1_sumOfColumn cX1_sumOfColumn 4 (some .int), Cond.methodLink RX3 182 yX3_dueSumOfColumn, Cond.instanceMethod yX3_dueSumOfColumn, Cond.selects RX3 yX3_dueSumOfColumn yX3_dueSumOfColumn]
def wsL_law_r26 : List Cond := [Cond.code yX3_dueSumOfColumn cX3_dueSumOfColumn 4 (some .int), Cond.methodLink RL 76 yX7_suspects, Cond.instanceMethod yX7_suspects, Cond.selects RX7 yX7_suspects yX7_suspects, Cond.code yX7_suspects cX7_suspects 4 (some .int), Cond.methodLink RX7 134 yX7_isSuspect, Cond.instanceMethod yX7_isSuspect, Cond.selects RX7 yX7_isSuspect yX7_isSuspect, Cond.code yX7_isSuspect cX7_isSuspect 8 (some .boolean), Cond.methodLink RL 77 yX6_wouldBeWrong, Cond.instanceMethod yX6_wouldBeWrong, Cond.selects RX6 yX6_wouldBeWrong yX6_wouldBeWrong, Cond.code yX6_wouldBeWrong cX6_wouldBeWrong 2 (some .int), Cond.methodLink RX6 186 yX6_wrongWithout, Cond.instanceMethod yX6_wrongWithout, Cond.selects RX6 yX6_wrongWithout yX6_wrongWithout, Cond.code yX6_wrongWithout cX6_wrongWithout 2 (some .int), Cond.methodLink RX6 232 yX3_copyFrom, Cond.methodLink RL 80 yX7_wouldBeWrong, Cond.instanceMethod yX7_wouldBeWrong, Cond.selects RX7 yX7_wouldBeWrong yX7_wouldBeWrong, Cond.code yX7_wouldBeWrong cX7_wouldBeWrong 2 (some .int), Cond.methodLink RX7 137 yX7_wrongWithout, Cond.instanceMethod yX7_wrongWithout]
def wsL_law_r27 : List Cond := [Cond.selects RX7 yX7_wrongWithout yX7_wrongWithout, Cond.code yX7_wrongWithout cX7_wrongWithout 5 (some .int), Cond.methodLink RL 81 yX6_best, Cond.instanceMethod yX6_best, Cond.selects RX6 yX6_best yX6_best, Cond.code yX6_best cX6_best 5 (some .int), Cond.methodLink RL 84 yX7_best, Cond.instanceMethod yX7_best, Cond.selects RX7 yX7_best yX7_best, Cond.code yX7_best cX7_best 5 (some .int), Cond.methodLink RL 85 yX6_undo, Cond.instanceMethod yX6_undo, Cond.selects RX6 yX6_undo yX6_undo, Cond.code yX6_undo cX6_undo 1 (some .int), Cond.methodLink RX6 189 yX0_restore, Cond.instanceMethod yX0_restore, Cond.selects RX0 yX0_restore yX0_restore, Cond.code yX0_restore cX0_restore 2 none, Cond.methodLink RL 88 yX7_undo, Cond.instanceMethod yX7_undo, Cond.selects RX7 yX7_undo yX7_undo, Cond.code yX7_undo cX7_undo 2 (some .int), Cond.methodLink RL 89 yX6_type, Cond.instanceMethod yX6_type]
def wsL_law_r28 : List Cond := [Cond.selects RX6 yX6_type yX6_type, Cond.code yX6_type cX6_type 2 (some .int), Cond.constant RX6 192 (-1000003), Cond.methodLink RX6 193 yX4_append, Cond.instanceMethod yX4_append, Cond.selects RX4 yX4_append yX4_append, Cond.code yX4_append cX4_append 2 none, Cond.fieldLink RX4 22 "SkewedSquare$Text" "length" "I", Cond.methodLink RL 92 yX7_type, Cond.instanceMethod yX7_type, Cond.selects RX7 yX7_type yX7_type, Cond.code yX7_type cX7_type 2 (some .int), Cond.constant RX7 140 (-1000003), Cond.methodLink RL 93 yX6_clearText, Cond.instanceMethod yX6_clearText, Cond.selects RX6 yX6_clearText yX6_clearText, Cond.code yX6_clearText cX6_clearText 2 (some .int), Cond.methodLink RL 96 yX7_clearText, Cond.instanceMethod yX7_clearText, Cond.selects RX7 yX7_clearText yX7_clearText, Cond.code yX7_clearText cX7_clearText 2 (some .int), Cond.methodLink RL 97 yX6_textFault, Cond.instanceMethod yX6_textFault, Cond.selects RX6 yX6_textFault yX6_textFault]
def wsL_law_r29 : List Cond := [Cond.code yX6_textFault cX6_textFault 2 (some .int), Cond.fieldLink RX6 200 "SkewedSquare$Text" "reason" "I", Cond.fieldLink RX6 203 "SkewedSquare$Text" "faultPlace" "I", Cond.methodLink RX6 197 yX4_scan, Cond.instanceMethod yX4_scan, Cond.selects RX4 yX4_scan yX4_scan, Cond.code yX4_scan cX4_scan 2 none, Cond.fieldLink RX4 29 "SkewedSquare$Text" "reason" "I", Cond.methodLink RX4 26 yX4_startScan, Cond.instanceMethod yX4_startScan, Cond.selects RX4 yX4_startScan yX4_startScan, Cond.code yX4_startScan cX4_startScan 1 none, Cond.fieldLink RX4 43 "SkewedSquare$Text" "row" "I", Cond.fieldLink RX4 46 "SkewedSquare$Text" "column" "I", Cond.fieldLink RX4 49 "SkewedSquare$Text" "width" "I", Cond.methodLink RX4 39 yX1_renew, Cond.methodLink RX4 52 yX4_startEntry, Cond.instanceMethod yX4_startEntry, Cond.selects RX4 yX4_startEntry yX4_startEntry, Cond.code yX4_startEntry cX4_startEntry 1 none, Cond.fieldLink RX4 55 "SkewedSquare$Text" "negative" "Z", Cond.fieldLink RX4 59 "SkewedSquare$Text" "digits" "I", Cond.fieldLink RX4 62 "SkewedSquare$Text" "value" "I", Cond.methodLink RX4 32 yX4_scanSign]
def wsL_law_r30 : List Cond := [Cond.instanceMethod yX4_scanSign, Cond.selects RX4 yX4_scanSign yX4_scanSign, Cond.code yX4_scanSign cX4_scanSign 3 none, Cond.methodLink RX4 65 yX4_scanComma, Cond.instanceMethod yX4_scanComma, Cond.selects RX4 yX4_scanComma yX4_scanComma, Cond.code yX4_scanComma cX4_scanComma 2 none, Cond.methodLink RX4 72 yX4_setFault, Cond.instanceMethod yX4_setFault, Cond.selects RX4 yX4_setFault yX4_setFault, Cond.code yX4_setFault cX4_setFault 3 none, Cond.fieldLink RX4 95 "SkewedSquare$Text" "faultPlace" "I", Cond.methodLink RX4 76 yX4_endEntry, Cond.instanceMethod yX4_endEntry, Cond.selects RX4 yX4_endEntry yX4_endEntry, Cond.code yX4_endEntry cX4_endEntry 1 none, Cond.methodLink RX4 92 yX1_put, Cond.methodLink RX4 69 yX4_scanSemicolon, Cond.instanceMethod yX4_scanSemicolon, Cond.selects RX4 yX4_scanSemicolon yX4_scanSemicolon, Cond.code yX4_scanSemicolon cX4_scanSemicolon 2 none, Cond.methodLink RX4 79 yX4_rowIsShort, Cond.instanceMethod yX4_rowIsShort, Cond.selects RX4 yX4_rowIsShort yX4_rowIsShort]
def wsL_law_r31 : List Cond := [Cond.code yX4_rowIsShort cX4_rowIsShort 1 (some .boolean), Cond.methodLink RX4 83 yX4_endRow, Cond.instanceMethod yX4_endRow, Cond.selects RX4 yX4_endRow yX4_endRow, Cond.code yX4_endRow cX4_endRow 1 none, Cond.methodLink RX4 36 yX4_finishScan, Cond.instanceMethod yX4_finishScan, Cond.selects RX4 yX4_finishScan yX4_finishScan, Cond.code yX4_finishScan cX4_finishScan 1 none, Cond.fieldLink RX4 86 "SkewedSquare$Matrix" "rows" "I", Cond.fieldLink RX4 89 "SkewedSquare$Matrix" "columns" "I", Cond.methodLink RL 100 yX7_textFault, Cond.instanceMethod yX7_textFault, Cond.selects RX7 yX7_textFault yX7_textFault, Cond.code yX7_textFault cX7_textFault 2 (some .int), Cond.fieldLink RX7 141 "SkewedSquareModel" "spot" "I", Cond.fieldLink RX7 153 "SkewedSquareModel" "reason" "I", Cond.methodLink RX7 170 yX7_isRight, Cond.instanceMethod yX7_isRight, Cond.selects RX7 yX7_isRight yX7_isRight, Cond.code yX7_isRight cX7_isRight 2 (some .boolean), Cond.fieldLink RX7 147 "SkewedSquareModel" "high" "I", Cond.fieldLink RX7 156 "SkewedSquareModel" "wide" "I", Cond.fieldLink RX7 150 "SkewedSquareModel" "own" "I"]
def wsL_law_r32 : List Cond := [Cond.methodLink RX7 163 yX7_number, Cond.instanceMethod yX7_number, Cond.selects RX7 yX7_number yX7_number, Cond.code yX7_number cX7_number 3 (some .boolean), Cond.methodLink RX7 144 yX7_isDigit, Cond.instanceMethod yX7_isDigit, Cond.selects RX7 yX7_isDigit yX7_isDigit, Cond.code yX7_isDigit cX7_isDigit 1 (some .boolean), Cond.methodLink RX7 166 yX7_rowEnds, Cond.instanceMethod yX7_rowEnds, Cond.selects RX7 yX7_rowEnds yX7_rowEnds, Cond.code yX7_rowEnds cX7_rowEnds 2 (some .boolean), Cond.methodLink RX7 159 yX7_fails, Cond.instanceMethod yX7_fails, Cond.selects RX7 yX7_fails yX7_fails, Cond.code yX7_fails cX7_fails 2 (some .boolean), Cond.methodLink RL 101 yX6_read, Cond.instanceMethod yX6_read, Cond.selects RX6 yX6_read yX6_read, Cond.code yX6_read cX6_read 2 (some .int), Cond.fieldLink RX6 206 "SkewedSquare$Text" "matrix" "LSkewedSquare$Matrix;", Cond.methodLink RX6 209 yX3_takeLeft, Cond.instanceMethod yX3_takeLeft, Cond.selects RX3 yX3_takeLeft yX3_takeLeft]
def wsL_law_r33 : List Cond := [Cond.code yX3_takeLeft cX3_takeLeft 2 none, Cond.methodLink RX6 213 yX3_takeRight, Cond.instanceMethod yX3_takeRight, Cond.selects RX3 yX3_takeRight yX3_takeRight, Cond.code yX3_takeRight cX3_takeRight 2 none, Cond.methodLink RL 104 yX7_read, Cond.instanceMethod yX7_read, Cond.selects RX7 yX7_read yX7_read, Cond.code yX7_read cX7_read 5 (some .int)]
def wsL_law : List Cond := (wsL_law_r1 ++ (wsL_law_r2 ++ (wsL_law_r3 ++ (wsL_law_r4 ++ (wsL_law_r5 ++ (wsL_law_r6 ++ (wsL_law_r7 ++ (wsL_law_r8 ++ (wsL_law_r9 ++ (wsL_law_r10 ++ (wsL_law_r11 ++ (wsL_law_r12 ++ (wsL_law_r13 ++ (wsL_law_r14 ++ (wsL_law_r15 ++ (wsL_law_r16 ++ (wsL_law_r17 ++ (wsL_law_r18 ++ (wsL_law_r19 ++ (wsL_law_r20 ++ (wsL_law_r21 ++ (wsL_law_r22 ++ (wsL_law_r23 ++ (wsL_law_r24 ++ (wsL_law_r25 ++ (wsL_law_r26 ++ (wsL_law_r27 ++ (wsL_law_r28 ++ (wsL_law_r29 ++ (wsL_law_r30 ++ (wsL_law_r31 ++ (wsL_law_r32 ++ wsL_law_r33)))))))))))))))))))))))))))))))) ++ wsX60 ++ wsX70 ++ wsX30 ++ wsX00 ++ wsX40 ++ wsX20 ++ wsX10 ++ wsX50 ++ ([] : List Cond)
abbrev vwCl : List vw_C := [(RX0, TX0, 2), (RX1, TX1, 3), (RX2, TX2, 3), (RX3, TX3, 5), (RX4, TX4, 11), (RX5, TX5, 11), (RX6, TX6, 4), (RX7, TX7, 16)]
end
section
theorem dJ9_min_7cf53_0 : decode cJ9_min_7cf53 0 = .ok (.iload_n 0, 1) := by decide +kernel
theorem dJ9_min_7cf53_1 : decode cJ9_min_7cf53 1 = .ok (.iload_n 1, 1) := by decide +kernel
theorem dJ9_min_7cf53_2 : decode cJ9_min_7cf53 2 = .ok (.if_icmp .gt 7, 3) := by decide +kernel
theorem dJ9_min_7cf53_5 : decode cJ9_min_7cf53 5 = .ok (.iload_n 0, 1) := by decide +kernel
theorem dJ9_min_7cf53_6 : decode cJ9_min_7cf53 6 = .ok (.goto 4, 3) := by decide +kernel
theorem dJ9_min_7cf53_9 : decode cJ9_min_7cf53 9 = .ok (.iload_n 1, 1) := by decide +kernel
theorem dJ9_min_7cf53_10 : decode cJ9_min_7cf53 10 = .ok (.ireturn, 1) := by decide +kernel
theorem dJ7_fill_53178_0 : decode cJ7_fill_53178 0 = .ok (.iconst 0, 1) := by decide +kernel
theorem dJ7_fill_53178_1 : decode cJ7_fill_53178 1 = .ok (.istore_n 2, 1) := by decide +kernel
theorem dJ7_fill_53178_2 : decode cJ7_fill_53178 2 = .ok (.aload_n 0, 1) := by decide +kernel
theorem dJ7_fill_53178_3 : decode cJ7_fill_53178 3 = .ok (.arraylength, 1) := by decide +kernel
theorem dJ7_fill_53178_4 : decode cJ7_fill_53178 4 = .ok (.istore_n 3, 1) := by decide +kernel
theorem dJ7_fill_53178_5 : decode cJ7_fill_53178 5 = .ok (.iload_n 2, 1) := by decide +kernel
theorem dJ7_fill_53178_6 : decode cJ7_fill_53178 6 = .ok (.iload_n 3, 1) := by decide +kernel
theorem dJ7_fill_53178_7 : decode cJ7_fill_53178 7 = .ok (.if_icmp .ge 13, 3) := by decide +kernel
theorem dJ7_fill_53178_10 : decode cJ7_fill_53178 10 = .ok (.aload_n 0, 1) := by decide +kernel
theorem dJ7_fill_53178_11 : decode cJ7_fill_53178 11 = .ok (.iload_n 2, 1) := by decide +kernel
theorem dJ7_fill_53178_12 : decode cJ7_fill_53178 12 = .ok (.iload_n 1, 1) := by decide +kernel
theorem dJ7_fill_53178_13 : decode cJ7_fill_53178 13 = .ok (.iastore, 1) := by decide +kernel
theorem dJ7_fill_53178_14 : decode cJ7_fill_53178 14 = .ok (.iinc 2 1, 3) := by decide +kernel
theorem dJ7_fill_53178_17 : decode cJ7_fill_53178 17 = .ok (.goto (-12), 3) := by decide +kernel
theorem dJ7_fill_53178_20 : decode cJ7_fill_53178 20 = .ok (.return_, 1) := by decide +kernel
set_option maxRecDepth 20000 in
theorem ggX0_init_X3_init : GoodIn wsX0_init wsX3_init := goodIn_r _ [10, 11, 2, 3, 12, 13, 14, 15, 16, 17, 18, 19, 20, 21, 22, 23, 24, 25, 26, 27, 28, 29, 30, 31, 32, 33, 34, 35, 36, 37, 38, 39, 40, 41, 42, 43, 44, 45, 46, 47, 48, 7, 49, 50, 51, 52, 53, 54, 55, 56, 57, 58, 59, 60, 61, 62, 63, 71, 72, 73, 66, 67, 68, 69, 70, 74, 75, 76, 77, 78, 79, 80, 81, 82, 83, 84, 85, 86, 87] (by decide +kernel) (by decide +kernel)
set_option maxRecDepth 20000 in
theorem gX0_init_X3_init : GoodIn wsX0_init (wsX3_init) := ggX0_init_X3_init
theorem dX0_init_0 : decode cX0_init 0 = .ok (.aload_n 0, 1) := by decide +kernel
theorem dX0_init_1 : decode cX0_init 1 = .ok (.invokespecial 3, 3) := by decide +kernel
theorem dX0_init_4 : decode cX0_init 4 = .ok (.aload_n 0, 1) := by decide +kernel
theorem dX0_init_5 : decode cX0_init 5 = .ok (.iconst 4, 1) := by decide +kernel
theorem dX0_init_6 : decode cX0_init 6 = .ok (.anewarray 9, 3) := by decide +kernel
theorem dX0_init_9 : decode cX0_init 9 = .ok (.putfield 11, 3) := by decide +kernel
theorem dX0_init_12 : decode cX0_init 12 = .ok (.iconst 0, 1) := by decide +kernel
theorem dX0_init_13 : decode cX0_init 13 = .ok (.istore_n 1, 1) := by decide +kernel
theorem dX0_init_14 : decode cX0_init 14 = .ok (.iload_n 1, 1) := by decide +kernel
theorem dX0_init_15 : decode cX0_init 15 = .ok (.aload_n 0, 1) := by decide +kernel
theorem dX0_init_16 : decode cX0_init 16 = .ok (.getfield 11, 3) := by decide +kernel
theorem dX0_init_19 : decode cX0_init 19 = .ok (.arraylength, 1) := by decide +kernel
theorem dX0_init_20 : decode cX0_init 20 = .ok (.if_icmp .ge 22, 3) := by decide +kernel
theorem dX0_init_23 : decode cX0_init 23 = .ok (.aload_n 0, 1) := by decide +kernel
theorem dX0_init_24 : decode cX0_init 24 = .ok (.getfield 11, 3) := by decide +kernel
theorem dX0_init_27 : decode cX0_init 27 = .ok (.iload_n 1, 1) := by decide +kernel
theorem dX0_init_28 : decode cX0_init 28 = .ok (.new 9, 3) := by decide +kernel
theorem dX0_init_31 : decode cX0_init 31 = .ok (.dup, 1) := by decide +kernel
theorem dX0_init_32 : decode cX0_init 32 = .ok (.invokespecial 17, 3) := by decide +kernel
theorem dX0_init_35 : decode cX0_init 35 = .ok (.aastore, 1) := by decide +kernel
theorem dX0_init_36 : decode cX0_init 36 = .ok (.iinc 1 1, 3) := by decide +kernel
theorem dX0_init_39 : decode cX0_init 39 = .ok (.goto (-25), 3) := by decide +kernel
theorem dX0_init_42 : decode cX0_init 42 = .ok (.return_, 1) := by decide +kernel
set_option maxRecDepth 20000 in
theorem ggX0_remember_X0_dropOldest : GoodIn wsX0_remember wsX0_dropOldest := goodIn_r _ [7, 2, 1, 56, 57] (by decide +kernel) (by decide +kernel)
set_option maxRecDepth 20000 in
theorem gX0_remember_X0_dropOldest : GoodIn wsX0_remember (wsV RX0 22 RX0 yX0_dropOldest wsX0_dropOldest) := goodIn_app (goodIn_of _ (by decide +kernel)) ggX0_remember_X0_dropOldest
set_option maxRecDepth 20000 in
theorem ggX0_remember_X3_copyFrom : GoodIn wsX0_remember wsX3_copyFrom := goodIn_r _ [12, 13, 14, 15, 16, 17, 18, 19, 20, 21, 22, 23, 24, 25, 26, 27, 28, 29, 30, 31, 32, 33, 34, 35, 36, 37, 38, 39, 40, 41, 42, 43, 44, 45, 46, 47, 48, 49, 50, 51, 52, 53, 54, 55, 58, 59, 60, 61, 62, 63, 64, 65, 66, 67, 68, 69, 70, 71, 72, 73, 74, 75, 76, 77, 78, 79] (by decide +kernel) (by decide +kernel)
set_option maxRecDepth 20000 in
theorem gX0_remember_X3_copyFrom : GoodIn wsX0_remember (wsV RX0 25 RX3 yX3_copyFrom wsX3_copyFrom) := goodIn_app (goodIn_of _ (by decide +kernel)) ggX0_remember_X3_copyFrom
theorem dX0_remember_0 : decode cX0_remember 0 = .ok (.aload_n 0, 1) := by decide +kernel
theorem dX0_remember_1 : decode cX0_remember 1 = .ok (.getfield 18, 3) := by decide +kernel
theorem dX0_remember_4 : decode cX0_remember 4 = .ok (.iconst 4, 1) := by decide +kernel
theorem dX0_remember_5 : decode cX0_remember 5 = .ok (.if_icmp .lt 7, 3) := by decide +kernel
theorem dX0_remember_8 : decode cX0_remember 8 = .ok (.aload_n 0, 1) := by decide +kernel
theorem dX0_remember_9 : decode cX0_remember 9 = .ok (.invokevirtual 22, 3) := by decide +kernel
theorem dX0_remember_12 : decode cX0_remember 12 = .ok (.aload_n 0, 1) := by decide +kernel
theorem dX0_remember_13 : decode cX0_remember 13 = .ok (.getfield 18, 3) := by decide +kernel
theorem dX0_remember_16 : decode cX0_remember 16 = .ok (.ifCond .lt 38, 3) := by decide +kernel
theorem dX0_remember_19 : decode cX0_remember 19 = .ok (.aload_n 0, 1) := by decide +kernel
theorem dX0_remember_20 : decode cX0_remember 20 = .ok (.getfield 18, 3) := by decide +kernel
theorem dX0_remember_23 : decode cX0_remember 23 = .ok (.aload_n 0, 1) := by decide +kernel
theorem dX0_remember_24 : decode cX0_remember 24 = .ok (.getfield 11, 3) := by decide +kernel
theorem dX0_remember_27 : decode cX0_remember 27 = .ok (.arraylength, 1) := by decide +kernel
theorem dX0_remember_28 : decode cX0_remember 28 = .ok (.if_icmp .ge 26, 3) := by decide +kernel
theorem dX0_remember_31 : decode cX0_remember 31 = .ok (.aload_n 0, 1) := by decide +kernel
theorem dX0_remember_32 : decode cX0_remember 32 = .ok (.getfield 11, 3) := by decide +kernel
theorem dX0_remember_35 : decode cX0_remember 35 = .ok (.aload_n 0, 1) := by decide +kernel
theorem dX0_remember_36 : decode cX0_remember 36 = .ok (.getfield 18, 3) := by decide +kernel
theorem dX0_remember_39 : decode cX0_remember 39 = .ok (.aaload, 1) := by decide +kernel
theorem dX0_remember_40 : decode cX0_remember 40 = .ok (.aload_n 1, 1) := by decide +kernel
theorem dX0_remember_41 : decode cX0_remember 41 = .ok (.invokevirtual 25, 3) := by decide +kernel
theorem dX0_remember_44 : decode cX0_remember 44 = .ok (.aload_n 0, 1) := by decide +kernel
theorem dX0_remember_45 : decode cX0_remember 45 = .ok (.dup, 1) := by decide +kernel
theorem dX0_remember_46 : decode cX0_remember 46 = .ok (.getfield 18, 3) := by decide +kernel
theorem dX0_remember_49 : decode cX0_remember 49 = .ok (.iconst 1, 1) := by decide +kernel
theorem dX0_remember_50 : decode cX0_remember 50 = .ok (.iadd, 1) := by decide +kernel
theorem dX0_remember_51 : decode cX0_remember 51 = .ok (.putfield 18, 3) := by decide +kernel
theorem dX0_remember_54 : decode cX0_remember 54 = .ok (.return_, 1) := by decide +kernel
theorem dX0_dropOldest_0 : decode cX0_dropOldest 0 = .ok (.aload_n 0, 1) := by decide +kernel
theorem dX0_dropOldest_1 : decode cX0_dropOldest 1 = .ok (.getfield 11, 3) := by decide +kernel
theorem dX0_dropOldest_4 : decode cX0_dropOldest 4 = .ok (.iconst 0, 1) := by decide +kernel
theorem dX0_dropOldest_5 : decode cX0_dropOldest 5 = .ok (.aaload, 1) := by decide +kernel
theorem dX0_dropOldest_6 : decode cX0_dropOldest 6 = .ok (.astore_n 1, 1) := by decide +kernel
theorem dX0_dropOldest_7 : decode cX0_dropOldest 7 = .ok (.iconst 1, 1) := by decide +kernel
theorem dX0_dropOldest_8 : decode cX0_dropOldest 8 = .ok (.istore_n 2, 1) := by decide +kernel
theorem dX0_dropOldest_9 : decode cX0_dropOldest 9 = .ok (.iload_n 2, 1) := by decide +kernel
theorem dX0_dropOldest_10 : decode cX0_dropOldest 10 = .ok (.aload_n 0, 1) := by decide +kernel
theorem dX0_dropOldest_11 : decode cX0_dropOldest 11 = .ok (.getfield 11, 3) := by decide +kernel
theorem dX0_dropOldest_14 : decode cX0_dropOldest 14 = .ok (.arraylength, 1) := by decide +kernel
theorem dX0_dropOldest_15 : decode cX0_dropOldest 15 = .ok (.if_icmp .ge 23, 3) := by decide +kernel
theorem dX0_dropOldest_18 : decode cX0_dropOldest 18 = .ok (.aload_n 0, 1) := by decide +kernel
theorem dX0_dropOldest_19 : decode cX0_dropOldest 19 = .ok (.getfield 11, 3) := by decide +kernel
theorem dX0_dropOldest_22 : decode cX0_dropOldest 22 = .ok (.iload_n 2, 1) := by decide +kernel
theorem dX0_dropOldest_23 : decode cX0_dropOldest 23 = .ok (.iconst 1, 1) := by decide +kernel
theorem dX0_dropOldest_24 : decode cX0_dropOldest 24 = .ok (.isub, 1) := by decide +kernel
theorem dX0_dropOldest_25 : decode cX0_dropOldest 25 = .ok (.aload_n 0, 1) := by decide +kernel
theorem dX0_dropOldest_26 : decode cX0_dropOldest 26 = .ok (.getfield 11, 3) := by decide +kernel
theorem dX0_dropOldest_29 : decode cX0_dropOldest 29 = .ok (.iload_n 2, 1) := by decide +kernel
theorem dX0_dropOldest_30 : decode cX0_dropOldest 30 = .ok (.aaload, 1) := by decide +kernel
theorem dX0_dropOldest_31 : decode cX0_dropOldest 31 = .ok (.aastore, 1) := by decide +kernel
theorem dX0_dropOldest_32 : decode cX0_dropOldest 32 = .ok (.iinc 2 1, 3) := by decide +kernel
theorem dX0_dropOldest_35 : decode cX0_dropOldest 35 = .ok (.goto (-26), 3) := by decide +kernel
theorem dX0_dropOldest_38 : decode cX0_dropOldest 38 = .ok (.aload_n 0, 1) := by decide +kernel
theorem dX0_dropOldest_39 : decode cX0_dropOldest 39 = .ok (.getfield 11, 3) := by decide +kernel
theorem dX0_dropOldest_42 : decode cX0_dropOldest 42 = .ok (.aload_n 0, 1) := by decide +kernel
theorem dX0_dropOldest_43 : decode cX0_dropOldest 43 = .ok (.getfield 11, 3) := by decide +kernel
theorem dX0_dropOldest_46 : decode cX0_dropOldest 46 = .ok (.arraylength, 1) := by decide +kernel
theorem dX0_dropOldest_47 : decode cX0_dropOldest 47 = .ok (.iconst 1, 1) := by decide +kernel
theorem dX0_dropOldest_48 : decode cX0_dropOldest 48 = .ok (.isub, 1) := by decide +kernel
theorem dX0_dropOldest_49 : decode cX0_dropOldest 49 = .ok (.aload_n 1, 1) := by decide +kernel
theorem dX0_dropOldest_50 : decode cX0_dropOldest 50 = .ok (.aastore, 1) := by decide +kernel
theorem dX0_dropOldest_51 : decode cX0_dropOldest 51 = .ok (.aload_n 0, 1) := by decide +kernel
theorem dX0_dropOldest_52 : decode cX0_dropOldest 52 = .ok (.dup, 1) := by decide +kernel
theorem dX0_dropOldest_53 : decode cX0_dropOldest 53 = .ok (.getfield 18, 3) := by decide +kernel
theorem dX0_dropOldest_56 : decode cX0_dropOldest 56 = .ok (.iconst 1, 1) := by decide +kernel
theorem dX0_dropOldest_57 : decode cX0_dropOldest 57 = .ok (.isub, 1) := by decide +kernel
theorem dX0_dropOldest_58 : decode cX0_dropOldest 58 = .ok (.putfield 18, 3) := by decide +kernel
theorem dX0_dropOldest_61 : decode cX0_dropOldest 61 = .ok (.return_, 1) := by decide +kernel
set_option maxRecDepth 20000 in
theorem ggX0_restore_X3_copyFrom : GoodIn wsX0_restore wsX3_copyFrom := goodIn_r _ [7, 8, 9, 10, 11, 12, 13, 14, 15, 16, 17, 18, 19, 20, 21, 22, 23, 24, 25, 26, 27, 28, 29, 30, 31, 32, 33, 34, 35, 36, 37, 38, 39, 40, 41, 42, 43, 44, 45, 46, 47, 48, 49, 50, 53, 54, 55, 56, 57, 58, 59, 60, 61, 62, 63, 64, 65, 66, 67, 68, 69, 70, 71, 72, 73, 74] (by decide +kernel) (by decide +kernel)
set_option maxRecDepth 20000 in
theorem gX0_restore_X3_copyFrom : GoodIn wsX0_restore (wsV RX0 25 RX3 yX3_copyFrom wsX3_copyFrom) := goodIn_app (goodIn_of _ (by decide +kernel)) ggX0_restore_X3_copyFrom
theorem dX0_restore_0 : decode cX0_restore 0 = .ok (.aload_n 0, 1) := by decide +kernel
theorem dX0_restore_1 : decode cX0_restore 1 = .ok (.getfield 18, 3) := by decide +kernel
theorem dX0_restore_4 : decode cX0_restore 4 = .ok (.ifCond .le 38, 3) := by decide +kernel
theorem dX0_restore_7 : decode cX0_restore 7 = .ok (.aload_n 0, 1) := by decide +kernel
theorem dX0_restore_8 : decode cX0_restore 8 = .ok (.getfield 18, 3) := by decide +kernel
theorem dX0_restore_11 : decode cX0_restore 11 = .ok (.aload_n 0, 1) := by decide +kernel
theorem dX0_restore_12 : decode cX0_restore 12 = .ok (.getfield 11, 3) := by decide +kernel
theorem dX0_restore_15 : decode cX0_restore 15 = .ok (.arraylength, 1) := by decide +kernel
theorem dX0_restore_16 : decode cX0_restore 16 = .ok (.if_icmp .gt 26, 3) := by decide +kernel
theorem dX0_restore_19 : decode cX0_restore 19 = .ok (.aload_n 0, 1) := by decide +kernel
theorem dX0_restore_20 : decode cX0_restore 20 = .ok (.dup, 1) := by decide +kernel
theorem dX0_restore_21 : decode cX0_restore 21 = .ok (.getfield 18, 3) := by decide +kernel
theorem dX0_restore_24 : decode cX0_restore 24 = .ok (.iconst 1, 1) := by decide +kernel
theorem dX0_restore_25 : decode cX0_restore 25 = .ok (.isub, 1) := by decide +kernel
theorem dX0_restore_26 : decode cX0_restore 26 = .ok (.putfield 18, 3) := by decide +kernel
theorem dX0_restore_29 : decode cX0_restore 29 = .ok (.aload_n 1, 1) := by decide +kernel
theorem dX0_restore_30 : decode cX0_restore 30 = .ok (.aload_n 0, 1) := by decide +kernel
theorem dX0_restore_31 : decode cX0_restore 31 = .ok (.getfield 11, 3) := by decide +kernel
theorem dX0_restore_34 : decode cX0_restore 34 = .ok (.aload_n 0, 1) := by decide +kernel
theorem dX0_restore_35 : decode cX0_restore 35 = .ok (.getfield 18, 3) := by decide +kernel
theorem dX0_restore_38 : decode cX0_restore 38 = .ok (.aaload, 1) := by decide +kernel
theorem dX0_restore_39 : decode cX0_restore 39 = .ok (.invokevirtual 25, 3) := by decide +kernel
theorem dX0_restore_42 : decode cX0_restore 42 = .ok (.return_, 1) := by decide +kernel
theorem dX1_init_0 : decode cX1_init 0 = .ok (.aload_n 0, 1) := by decide +kernel
theorem dX1_init_1 : decode cX1_init 1 = .ok (.invokespecial 3, 3) := by decide +kernel
theorem dX1_init_4 : decode cX1_init 4 = .ok (.aload_n 0, 1) := by decide +kernel
theorem dX1_init_5 : decode cX1_init 5 = .ok (.iconst 2, 1) := by decide +kernel
theorem dX1_init_6 : decode cX1_init 6 = .ok (.putfield 9, 3) := by decide +kernel
theorem dX1_init_9 : decode cX1_init 9 = .ok (.aload_n 0, 1) := by decide +kernel
theorem dX1_init_10 : decode cX1_init 10 = .ok (.iconst 2, 1) := by decide +kernel
theorem dX1_init_11 : decode cX1_init 11 = .ok (.putfield 15, 3) := by decide +kernel
theorem dX1_init_14 : decode cX1_init 14 = .ok (.aload_n 0, 1) := by decide +kernel
theorem dX1_init_15 : decode cX1_init 15 = .ok (.bipush 36, 2) := by decide +kernel
theorem dX1_init_17 : decode cX1_init 17 = .ok (.newarray .int, 2) := by decide +kernel
theorem dX1_init_19 : decode cX1_init 19 = .ok (.putfield 18, 3) := by decide +kernel
theorem dX1_init_22 : decode cX1_init 22 = .ok (.return_, 1) := by decide +kernel
theorem dX1_has_0 : decode cX1_has 0 = .ok (.iload_n 1, 1) := by decide +kernel
theorem dX1_has_1 : decode cX1_has 1 = .ok (.ifCond .lt 27, 3) := by decide +kernel
theorem dX1_has_4 : decode cX1_has 4 = .ok (.iload_n 1, 1) := by decide +kernel
theorem dX1_has_5 : decode cX1_has 5 = .ok (.aload_n 0, 1) := by decide +kernel
theorem dX1_has_6 : decode cX1_has 6 = .ok (.getfield 9, 3) := by decide +kernel
theorem dX1_has_9 : decode cX1_has 9 = .ok (.if_icmp .ge 19, 3) := by decide +kernel
theorem dX1_has_12 : decode cX1_has 12 = .ok (.iload_n 2, 1) := by decide +kernel
theorem dX1_has_13 : decode cX1_has 13 = .ok (.ifCond .lt 15, 3) := by decide +kernel
theorem dX1_has_16 : decode cX1_has 16 = .ok (.iload_n 2, 1) := by decide +kernel
theorem dX1_has_17 : decode cX1_has 17 = .ok (.aload_n 0, 1) := by decide +kernel
theorem dX1_has_18 : decode cX1_has 18 = .ok (.getfield 15, 3) := by decide +kernel
theorem dX1_has_21 : decode cX1_has 21 = .ok (.if_icmp .ge 7, 3) := by decide +kernel
theorem dX1_has_24 : decode cX1_has 24 = .ok (.iconst 1, 1) := by decide +kernel
theorem dX1_has_25 : decode cX1_has 25 = .ok (.goto 4, 3) := by decide +kernel
theorem dX1_has_28 : decode cX1_has 28 = .ok (.iconst 0, 1) := by decide +kernel
theorem dX1_has_29 : decode cX1_has 29 = .ok (.ireturn, 1) := by decide +kernel
theorem dX1_at_0 : decode cX1_at 0 = .ok (.iload_n 1, 1) := by decide +kernel
theorem dX1_at_1 : decode cX1_at 1 = .ok (.ifCond .lt 23, 3) := by decide +kernel
theorem dX1_at_4 : decode cX1_at 4 = .ok (.iload_n 1, 1) := by decide +kernel
theorem dX1_at_5 : decode cX1_at 5 = .ok (.aload_n 0, 1) := by decide +kernel
theorem dX1_at_6 : decode cX1_at 6 = .ok (.getfield 9, 3) := by decide +kernel
theorem dX1_at_9 : decode cX1_at 9 = .ok (.if_icmp .ge 15, 3) := by decide +kernel
theorem dX1_at_12 : decode cX1_at 12 = .ok (.iload_n 2, 1) := by decide +kernel
theorem dX1_at_13 : decode cX1_at 13 = .ok (.ifCond .lt 11, 3) := by decide +kernel
theorem dX1_at_16 : decode cX1_at 16 = .ok (.iload_n 2, 1) := by decide +kernel
theorem dX1_at_17 : decode cX1_at 17 = .ok (.aload_n 0, 1) := by decide +kernel
theorem dX1_at_18 : decode cX1_at 18 = .ok (.getfield 15, 3) := by decide +kernel
theorem dX1_at_21 : decode cX1_at 21 = .ok (.if_icmp .lt 5, 3) := by decide +kernel
theorem dX1_at_24 : decode cX1_at 24 = .ok (.iconst 0, 1) := by decide +kernel
theorem dX1_at_25 : decode cX1_at 25 = .ok (.ireturn, 1) := by decide +kernel
theorem dX1_at_26 : decode cX1_at 26 = .ok (.aload_n 0, 1) := by decide +kernel
theorem dX1_at_27 : decode cX1_at 27 = .ok (.getfield 18, 3) := by decide +kernel
theorem dX1_at_30 : decode cX1_at 30 = .ok (.iload_n 1, 1) := by decide +kernel
theorem dX1_at_31 : decode cX1_at 31 = .ok (.bipush 6, 2) := by decide +kernel
theorem dX1_at_33 : decode cX1_at 33 = .ok (.imul, 1) := by decide +kernel
theorem dX1_at_34 : decode cX1_at 34 = .ok (.iload_n 2, 1) := by decide +kernel
theorem dX1_at_35 : decode cX1_at 35 = .ok (.iadd, 1) := by decide +kernel
theorem dX1_at_36 : decode cX1_at 36 = .ok (.iaload, 1) := by decide +kernel
theorem dX1_at_37 : decode cX1_at 37 = .ok (.ireturn, 1) := by decide +kernel
set_option maxRecDepth 20000 in
theorem ggX1_put_X1_has : GoodIn wsX1_put wsX1_has := goodIn_r _ [6, 7, 8, 9, 10, 11] (by decide +kernel) (by decide +kernel)
set_option maxRecDepth 20000 in
theorem gX1_put_X1_has : GoodIn wsX1_put (wsV RX1 22 RX1 yX1_has wsX1_has) := goodIn_app (goodIn_of _ (by decide +kernel)) ggX1_put_X1_has
theorem dX1_put_0 : decode cX1_put 0 = .ok (.aload_n 0, 1) := by decide +kernel
theorem dX1_put_1 : decode cX1_put 1 = .ok (.iload_n 1, 1) := by decide +kernel
theorem dX1_put_2 : decode cX1_put 2 = .ok (.iload_n 2, 1) := by decide +kernel
theorem dX1_put_3 : decode cX1_put 3 = .ok (.invokevirtual 22, 3) := by decide +kernel
theorem dX1_put_6 : decode cX1_put 6 = .ok (.ifCond .eq 15, 3) := by decide +kernel
theorem dX1_put_9 : decode cX1_put 9 = .ok (.aload_n 0, 1) := by decide +kernel
theorem dX1_put_10 : decode cX1_put 10 = .ok (.getfield 18, 3) := by decide +kernel
theorem dX1_put_13 : decode cX1_put 13 = .ok (.iload_n 1, 1) := by decide +kernel
theorem dX1_put_14 : decode cX1_put 14 = .ok (.bipush 6, 2) := by decide +kernel
theorem dX1_put_16 : decode cX1_put 16 = .ok (.imul, 1) := by decide +kernel
theorem dX1_put_17 : decode cX1_put 17 = .ok (.iload_n 2, 1) := by decide +kernel
theorem dX1_put_18 : decode cX1_put 18 = .ok (.iadd, 1) := by decide +kernel
theorem dX1_put_19 : decode cX1_put 19 = .ok (.iload_n 3, 1) := by decide +kernel
theorem dX1_put_20 : decode cX1_put 20 = .ok (.iastore, 1) := by decide +kernel
theorem dX1_put_21 : decode cX1_put 21 = .ok (.return_, 1) := by decide +kernel
set_option maxRecDepth 20000 in
theorem ggX1_renew_X6_isLength : GoodIn wsX1_renew wsX6_isLength := goodIn_r _ [6] (by decide +kernel) (by decide +kernel)
set_option maxRecDepth 20000 in
theorem gX1_renew_X6_isLength_n26 : GoodIn wsX1_renew (wsX6_isLength) := ggX1_renew_X6_isLength
set_option maxRecDepth 20000 in
theorem ggX1_renew_J7_fill_53178 : GoodIn wsX1_renew wsJ7_fill_53178 := goodIn_r _ [10] (by decide +kernel) (by decide +kernel)
set_option maxRecDepth 20000 in
theorem gX1_renew_J7_fill_53178 : GoodIn wsX1_renew (va_wsS RX1 30 yJ7_fill_53178 wsJ7_fill_53178) := goodIn_app (goodIn_of _ (by decide +kernel)) ggX1_renew_J7_fill_53178
theorem dX1_renew_0 : decode cX1_renew 0 = .ok (.iload_n 1, 1) := by decide +kernel
theorem dX1_renew_1 : decode cX1_renew 1 = .ok (.invokestatic 26, 3) := by decide +kernel
theorem dX1_renew_4 : decode cX1_renew 4 = .ok (.ifCond .eq 28, 3) := by decide +kernel
theorem dX1_renew_7 : decode cX1_renew 7 = .ok (.iload_n 2, 1) := by decide +kernel
theorem dX1_renew_8 : decode cX1_renew 8 = .ok (.invokestatic 26, 3) := by decide +kernel
theorem dX1_renew_11 : decode cX1_renew 11 = .ok (.ifCond .eq 21, 3) := by decide +kernel
theorem dX1_renew_14 : decode cX1_renew 14 = .ok (.aload_n 0, 1) := by decide +kernel
theorem dX1_renew_15 : decode cX1_renew 15 = .ok (.iload_n 1, 1) := by decide +kernel
theorem dX1_renew_16 : decode cX1_renew 16 = .ok (.putfield 9, 3) := by decide +kernel
theorem dX1_renew_19 : decode cX1_renew 19 = .ok (.aload_n 0, 1) := by decide +kernel
theorem dX1_renew_20 : decode cX1_renew 20 = .ok (.iload_n 2, 1) := by decide +kernel
theorem dX1_renew_21 : decode cX1_renew 21 = .ok (.putfield 15, 3) := by decide +kernel
theorem dX1_renew_24 : decode cX1_renew 24 = .ok (.aload_n 0, 1) := by decide +kernel
theorem dX1_renew_25 : decode cX1_renew 25 = .ok (.getfield 18, 3) := by decide +kernel
theorem dX1_renew_28 : decode cX1_renew 28 = .ok (.iload_n 3, 1) := by decide +kernel
theorem dX1_renew_29 : decode cX1_renew 29 = .ok (.invokestatic 30, 3) := by decide +kernel
theorem dX1_renew_32 : decode cX1_renew 32 = .ok (.return_, 1) := by decide +kernel
theorem dX1_copyFrom_0 : decode cX1_copyFrom 0 = .ok (.aload_n 0, 1) := by decide +kernel
theorem dX1_copyFrom_1 : decode cX1_copyFrom 1 = .ok (.aload_n 1, 1) := by decide +kernel
theorem dX1_copyFrom_2 : decode cX1_copyFrom 2 = .ok (.getfield 9, 3) := by decide +kernel
theorem dX1_copyFrom_5 : decode cX1_copyFrom 5 = .ok (.putfield 9, 3) := by decide +kernel
theorem dX1_copyFrom_8 : decode cX1_copyFrom 8 = .ok (.aload_n 0, 1) := by decide +kernel
theorem dX1_copyFrom_9 : decode cX1_copyFrom 9 = .ok (.aload_n 1, 1) := by decide +kernel
theorem dX1_copyFrom_10 : decode cX1_copyFrom 10 = .ok (.getfield 15, 3) := by decide +kernel
theorem dX1_copyFrom_13 : decode cX1_copyFrom 13 = .ok (.putfield 15, 3) := by decide +kernel
theorem dX1_copyFrom_16 : decode cX1_copyFrom 16 = .ok (.aload_n 1, 1) := by decide +kernel
theorem dX1_copyFrom_17 : decode cX1_copyFrom 17 = .ok (.getfield 18, 3) := by decide +kernel
theorem dX1_copyFrom_20 : decode cX1_copyFrom 20 = .ok (.iconst 0, 1) := by decide +kernel
theorem dX1_copyFrom_21 : decode cX1_copyFrom 21 = .ok (.aload_n 0, 1) := by decide +kernel
theorem dX1_copyFrom_22 : decode cX1_copyFrom 22 = .ok (.getfield 18, 3) := by decide +kernel
theorem dX1_copyFrom_25 : decode cX1_copyFrom 25 = .ok (.iconst 0, 1) := by decide +kernel
theorem dX1_copyFrom_26 : decode cX1_copyFrom 26 = .ok (.aload_n 0, 1) := by decide +kernel
theorem dX1_copyFrom_27 : decode cX1_copyFrom 27 = .ok (.getfield 18, 3) := by decide +kernel
theorem dX1_copyFrom_30 : decode cX1_copyFrom 30 = .ok (.arraylength, 1) := by decide +kernel
theorem dX1_copyFrom_31 : decode cX1_copyFrom 31 = .ok (.invokestatic 36, 3) := by decide +kernel
theorem dX1_copyFrom_34 : decode cX1_copyFrom 34 = .ok (.return_, 1) := by decide +kernel
set_option maxRecDepth 20000 in
theorem ggX1_sumOfRow_X1_at : GoodIn wsX1_sumOfRow wsX1_at := goodIn_r _ [6, 7, 1, 8, 9, 10, 11] (by decide +kernel) (by decide +kernel)
set_option maxRecDepth 20000 in
theorem gX1_sumOfRow_X1_at : GoodIn wsX1_sumOfRow (wsV RX1 42 RX1 yX1_at wsX1_at) := goodIn_app (goodIn_of _ (by decide +kernel)) ggX1_sumOfRow_X1_at
theorem dX1_sumOfRow_0 : decode cX1_sumOfRow 0 = .ok (.iconst 0, 1) := by decide +kernel
theorem dX1_sumOfRow_1 : decode cX1_sumOfRow 1 = .ok (.istore_n 2, 1) := by decide +kernel
theorem dX1_sumOfRow_2 : decode cX1_sumOfRow 2 = .ok (.iconst 0, 1) := by decide +kernel
theorem dX1_sumOfRow_3 : decode cX1_sumOfRow 3 = .ok (.istore_n 3, 1) := by decide +kernel
theorem dX1_sumOfRow_4 : decode cX1_sumOfRow 4 = .ok (.iload_n 3, 1) := by decide +kernel
theorem dX1_sumOfRow_5 : decode cX1_sumOfRow 5 = .ok (.aload_n 0, 1) := by decide +kernel
theorem dX1_sumOfRow_6 : decode cX1_sumOfRow 6 = .ok (.getfield 15, 3) := by decide +kernel
theorem dX1_sumOfRow_9 : decode cX1_sumOfRow 9 = .ok (.if_icmp .ge 18, 3) := by decide +kernel
theorem dX1_sumOfRow_12 : decode cX1_sumOfRow 12 = .ok (.iload_n 2, 1) := by decide +kernel
theorem dX1_sumOfRow_13 : decode cX1_sumOfRow 13 = .ok (.aload_n 0, 1) := by decide +kernel
theorem dX1_sumOfRow_14 : decode cX1_sumOfRow 14 = .ok (.iload_n 1, 1) := by decide +kernel
theorem dX1_sumOfRow_15 : decode cX1_sumOfRow 15 = .ok (.iload_n 3, 1) := by decide +kernel
theorem dX1_sumOfRow_16 : decode cX1_sumOfRow 16 = .ok (.invokevirtual 42, 3) := by decide +kernel
theorem dX1_sumOfRow_19 : decode cX1_sumOfRow 19 = .ok (.iadd, 1) := by decide +kernel
theorem dX1_sumOfRow_20 : decode cX1_sumOfRow 20 = .ok (.istore_n 2, 1) := by decide +kernel
theorem dX1_sumOfRow_21 : decode cX1_sumOfRow 21 = .ok (.iinc 3 1, 3) := by decide +kernel
theorem dX1_sumOfRow_24 : decode cX1_sumOfRow 24 = .ok (.goto (-20), 3) := by decide +kernel
theorem dX1_sumOfRow_27 : decode cX1_sumOfRow 27 = .ok (.iload_n 2, 1) := by decide +kernel
theorem dX1_sumOfRow_28 : decode cX1_sumOfRow 28 = .ok (.ireturn, 1) := by decide +kernel
set_option maxRecDepth 20000 in
theorem ggX1_sumOfColumn_X1_at : GoodIn wsX1_sumOfColumn wsX1_at := goodIn_r _ [6, 1, 7, 8, 9, 10, 11] (by decide +kernel) (by decide +kernel)
set_option maxRecDepth 20000 in
theorem gX1_sumOfColumn_X1_at : GoodIn wsX1_sumOfColumn (wsV RX1 42 RX1 yX1_at wsX1_at) := goodIn_app (goodIn_of _ (by decide +kernel)) ggX1_sumOfColumn_X1_at
theorem dX1_sumOfColumn_0 : decode cX1_sumOfColumn 0 = .ok (.iconst 0, 1) := by decide +kernel
theorem dX1_sumOfColumn_1 : decode cX1_sumOfColumn 1 = .ok (.istore_n 2, 1) := by decide +kernel
theorem dX1_sumOfColumn_2 : decode cX1_sumOfColumn 2 = .ok (.iconst 0, 1) := by decide +kernel
theorem dX1_sumOfColumn_3 : decode cX1_sumOfColumn 3 = .ok (.istore_n 3, 1) := by decide +kernel
theorem dX1_sumOfColumn_4 : decode cX1_sumOfColumn 4 = .ok (.iload_n 3, 1) := by decide +kernel
theorem dX1_sumOfColumn_5 : decode cX1_sumOfColumn 5 = .ok (.aload_n 0, 1) := by decide +kernel
theorem dX1_sumOfColumn_6 : decode cX1_sumOfColumn 6 = .ok (.getfield 9, 3) := by decide +kernel
theorem dX1_sumOfColumn_9 : decode cX1_sumOfColumn 9 = .ok (.if_icmp .ge 18, 3) := by decide +kernel
theorem dX1_sumOfColumn_12 : decode cX1_sumOfColumn 12 = .ok (.iload_n 2, 1) := by decide +kernel
theorem dX1_sumOfColumn_13 : decode cX1_sumOfColumn 13 = .ok (.aload_n 0, 1) := by decide +kernel
theorem dX1_sumOfColumn_14 : decode cX1_sumOfColumn 14 = .ok (.iload_n 3, 1) := by decide +kernel
theorem dX1_sumOfColumn_15 : decode cX1_sumOfColumn 15 = .ok (.iload_n 1, 1) := by decide +kernel
theorem dX1_sumOfColumn_16 : decode cX1_sumOfColumn 16 = .ok (.invokevirtual 42, 3) := by decide +kernel
theorem dX1_sumOfColumn_19 : decode cX1_sumOfColumn 19 = .ok (.iadd, 1) := by decide +kernel
theorem dX1_sumOfColumn_20 : decode cX1_sumOfColumn 20 = .ok (.istore_n 2, 1) := by decide +kernel
theorem dX1_sumOfColumn_21 : decode cX1_sumOfColumn 21 = .ok (.iinc 3 1, 3) := by decide +kernel
theorem dX1_sumOfColumn_24 : decode cX1_sumOfColumn 24 = .ok (.goto (-20), 3) := by decide +kernel
theorem dX1_sumOfColumn_27 : decode cX1_sumOfColumn 27 = .ok (.iload_n 2, 1) := by decide +kernel
theorem dX1_sumOfColumn_28 : decode cX1_sumOfColumn 28 = .ok (.ireturn, 1) := by decide +kernel
set_option maxRecDepth 20000 in
theorem ggX1_isWholeInRow_X1_at : GoodIn wsX1_isWholeInRow wsX1_at := goodIn_r _ [7, 8, 1, 9, 10, 11, 12] (by decide +kernel) (by decide +kernel)
set_option maxRecDepth 20000 in
theorem gX1_isWholeInRow_X1_at : GoodIn wsX1_isWholeInRow (wsV RX1 42 RX1 yX1_at wsX1_at) := goodIn_app (goodIn_of _ (by decide +kernel)) ggX1_isWholeInRow_X1_at
theorem dX1_isWholeInRow_0 : decode cX1_isWholeInRow 0 = .ok (.iconst 0, 1) := by decide +kernel
theorem dX1_isWholeInRow_1 : decode cX1_isWholeInRow 1 = .ok (.istore_n 2, 1) := by decide +kernel
theorem dX1_isWholeInRow_2 : decode cX1_isWholeInRow 2 = .ok (.iload_n 2, 1) := by decide +kernel
theorem dX1_isWholeInRow_3 : decode cX1_isWholeInRow 3 = .ok (.aload_n 0, 1) := by decide +kernel
theorem dX1_isWholeInRow_4 : decode cX1_isWholeInRow 4 = .ok (.getfield 15, 3) := by decide +kernel
theorem dX1_isWholeInRow_7 : decode cX1_isWholeInRow 7 = .ok (.if_icmp .ge 22, 3) := by decide +kernel
theorem dX1_isWholeInRow_10 : decode cX1_isWholeInRow 10 = .ok (.aload_n 0, 1) := by decide +kernel
theorem dX1_isWholeInRow_11 : decode cX1_isWholeInRow 11 = .ok (.iload_n 1, 1) := by decide +kernel
theorem dX1_isWholeInRow_12 : decode cX1_isWholeInRow 12 = .ok (.iload_n 2, 1) := by decide +kernel
theorem dX1_isWholeInRow_13 : decode cX1_isWholeInRow 13 = .ok (.invokevirtual 42, 3) := by decide +kernel
theorem dX1_isWholeInRow_16 : decode cX1_isWholeInRow 16 = .ok (.ldc 46, 2) := by decide +kernel
theorem dX1_isWholeInRow_18 : decode cX1_isWholeInRow 18 = .ok (.if_icmp .ne 5, 3) := by decide +kernel
theorem dX1_isWholeInRow_21 : decode cX1_isWholeInRow 21 = .ok (.iconst 0, 1) := by decide +kernel
theorem dX1_isWholeInRow_22 : decode cX1_isWholeInRow 22 = .ok (.ireturn, 1) := by decide +kernel
theorem dX1_isWholeInRow_23 : decode cX1_isWholeInRow 23 = .ok (.iinc 2 1, 3) := by decide +kernel
theorem dX1_isWholeInRow_26 : decode cX1_isWholeInRow 26 = .ok (.goto (-24), 3) := by decide +kernel
theorem dX1_isWholeInRow_29 : decode cX1_isWholeInRow 29 = .ok (.iconst 1, 1) := by decide +kernel
theorem dX1_isWholeInRow_30 : decode cX1_isWholeInRow 30 = .ok (.ireturn, 1) := by decide +kernel
set_option maxRecDepth 20000 in
theorem ggX1_isWholeInColumn_X1_at : GoodIn wsX1_isWholeInColumn wsX1_at := goodIn_r _ [7, 1, 8, 9, 10, 11, 12] (by decide +kernel) (by decide +kernel)
set_option maxRecDepth 20000 in
theorem gX1_isWholeInColumn_X1_at : GoodIn wsX1_isWholeInColumn (wsV RX1 42 RX1 yX1_at wsX1_at) := goodIn_app (goodIn_of _ (by decide +kernel)) ggX1_isWholeInColumn_X1_at
theorem dX1_isWholeInColumn_0 : decode cX1_isWholeInColumn 0 = .ok (.iconst 0, 1) := by decide +kernel
theorem dX1_isWholeInColumn_1 : decode cX1_isWholeInColumn 1 = .ok (.istore_n 2, 1) := by decide +kernel
theorem dX1_isWholeInColumn_2 : decode cX1_isWholeInColumn 2 = .ok (.iload_n 2, 1) := by decide +kernel
theorem dX1_isWholeInColumn_3 : decode cX1_isWholeInColumn 3 = .ok (.aload_n 0, 1) := by decide +kernel
theorem dX1_isWholeInColumn_4 : decode cX1_isWholeInColumn 4 = .ok (.getfield 9, 3) := by decide +kernel
theorem dX1_isWholeInColumn_7 : decode cX1_isWholeInColumn 7 = .ok (.if_icmp .ge 22, 3) := by decide +kernel
theorem dX1_isWholeInColumn_10 : decode cX1_isWholeInColumn 10 = .ok (.aload_n 0, 1) := by decide +kernel
theorem dX1_isWholeInColumn_11 : decode cX1_isWholeInColumn 11 = .ok (.iload_n 2, 1) := by decide +kernel
theorem dX1_isWholeInColumn_12 : decode cX1_isWholeInColumn 12 = .ok (.iload_n 1, 1) := by decide +kernel
theorem dX1_isWholeInColumn_13 : decode cX1_isWholeInColumn 13 = .ok (.invokevirtual 42, 3) := by decide +kernel
theorem dX1_isWholeInColumn_16 : decode cX1_isWholeInColumn 16 = .ok (.ldc 46, 2) := by decide +kernel
theorem dX1_isWholeInColumn_18 : decode cX1_isWholeInColumn 18 = .ok (.if_icmp .ne 5, 3) := by decide +kernel
theorem dX1_isWholeInColumn_21 : decode cX1_isWholeInColumn 21 = .ok (.iconst 0, 1) := by decide +kernel
theorem dX1_isWholeInColumn_22 : decode cX1_isWholeInColumn 22 = .ok (.ireturn, 1) := by decide +kernel
theorem dX1_isWholeInColumn_23 : decode cX1_isWholeInColumn 23 = .ok (.iinc 2 1, 3) := by decide +kernel
theorem dX1_isWholeInColumn_26 : decode cX1_isWholeInColumn 26 = .ok (.goto (-24), 3) := by decide +kernel
theorem dX1_isWholeInColumn_29 : decode cX1_isWholeInColumn 29 = .ok (.iconst 1, 1) := by decide +kernel
theorem dX1_isWholeInColumn_30 : decode cX1_isWholeInColumn 30 = .ok (.ireturn, 1) := by decide +kernel
theorem dX2_init_0 : decode cX2_init 0 = .ok (.aload_n 0, 1) := by decide +kernel
theorem dX2_init_1 : decode cX2_init 1 = .ok (.invokespecial 3, 3) := by decide +kernel
theorem dX2_init_4 : decode cX2_init 4 = .ok (.aload_n 0, 1) := by decide +kernel
theorem dX2_init_5 : decode cX2_init 5 = .ok (.iconst 2, 1) := by decide +kernel
theorem dX2_init_6 : decode cX2_init 6 = .ok (.putfield 9, 3) := by decide +kernel
theorem dX2_init_9 : decode cX2_init 9 = .ok (.aload_n 0, 1) := by decide +kernel
theorem dX2_init_10 : decode cX2_init 10 = .ok (.iconst 2, 1) := by decide +kernel
theorem dX2_init_11 : decode cX2_init 11 = .ok (.putfield 15, 3) := by decide +kernel
theorem dX2_init_14 : decode cX2_init 14 = .ok (.aload_n 0, 1) := by decide +kernel
theorem dX2_init_15 : decode cX2_init 15 = .ok (.bipush 20, 2) := by decide +kernel
theorem dX2_init_17 : decode cX2_init 17 = .ok (.newarray .int, 2) := by decide +kernel
theorem dX2_init_19 : decode cX2_init 19 = .ok (.putfield 18, 3) := by decide +kernel
theorem dX2_init_22 : decode cX2_init 22 = .ok (.return_, 1) := by decide +kernel
set_option maxRecDepth 20000 in
theorem ggX2_renew_J7_fill_53178 : GoodIn wsX2_renew wsJ7_fill_53178 := goodIn_r _ [7] (by decide +kernel) (by decide +kernel)
set_option maxRecDepth 20000 in
theorem gX2_renew_J7_fill_53178 : GoodIn wsX2_renew (va_wsS RX2 22 yJ7_fill_53178 wsJ7_fill_53178) := goodIn_app (goodIn_of _ (by decide +kernel)) ggX2_renew_J7_fill_53178
theorem dX2_renew_0 : decode cX2_renew 0 = .ok (.iload_n 1, 1) := by decide +kernel
theorem dX2_renew_1 : decode cX2_renew 1 = .ok (.iconst 1, 1) := by decide +kernel
theorem dX2_renew_2 : decode cX2_renew 2 = .ok (.if_icmp .lt 26, 3) := by decide +kernel
theorem dX2_renew_5 : decode cX2_renew 5 = .ok (.iload_n 1, 1) := by decide +kernel
theorem dX2_renew_6 : decode cX2_renew 6 = .ok (.iconst 4, 1) := by decide +kernel
theorem dX2_renew_7 : decode cX2_renew 7 = .ok (.if_icmp .gt 21, 3) := by decide +kernel
theorem dX2_renew_10 : decode cX2_renew 10 = .ok (.aload_n 0, 1) := by decide +kernel
theorem dX2_renew_11 : decode cX2_renew 11 = .ok (.iload_n 1, 1) := by decide +kernel
theorem dX2_renew_12 : decode cX2_renew 12 = .ok (.putfield 9, 3) := by decide +kernel
theorem dX2_renew_15 : decode cX2_renew 15 = .ok (.aload_n 0, 1) := by decide +kernel
theorem dX2_renew_16 : decode cX2_renew 16 = .ok (.iload_n 1, 1) := by decide +kernel
theorem dX2_renew_17 : decode cX2_renew 17 = .ok (.putfield 15, 3) := by decide +kernel
theorem dX2_renew_20 : decode cX2_renew 20 = .ok (.aload_n 0, 1) := by decide +kernel
theorem dX2_renew_21 : decode cX2_renew 21 = .ok (.getfield 18, 3) := by decide +kernel
theorem dX2_renew_24 : decode cX2_renew 24 = .ok (.iconst 0, 1) := by decide +kernel
theorem dX2_renew_25 : decode cX2_renew 25 = .ok (.invokestatic 22, 3) := by decide +kernel
theorem dX2_renew_28 : decode cX2_renew 28 = .ok (.return_, 1) := by decide +kernel
theorem dX2_has_0 : decode cX2_has 0 = .ok (.iload_n 1, 1) := by decide +kernel
theorem dX2_has_1 : decode cX2_has 1 = .ok (.ifCond .lt 27, 3) := by decide +kernel
theorem dX2_has_4 : decode cX2_has 4 = .ok (.iload_n 1, 1) := by decide +kernel
theorem dX2_has_5 : decode cX2_has 5 = .ok (.aload_n 0, 1) := by decide +kernel
theorem dX2_has_6 : decode cX2_has 6 = .ok (.getfield 9, 3) := by decide +kernel
theorem dX2_has_9 : decode cX2_has 9 = .ok (.if_icmp .ge 19, 3) := by decide +kernel
theorem dX2_has_12 : decode cX2_has 12 = .ok (.iload_n 2, 1) := by decide +kernel
theorem dX2_has_13 : decode cX2_has 13 = .ok (.ifCond .lt 15, 3) := by decide +kernel
theorem dX2_has_16 : decode cX2_has 16 = .ok (.iload_n 2, 1) := by decide +kernel
theorem dX2_has_17 : decode cX2_has 17 = .ok (.aload_n 0, 1) := by decide +kernel
theorem dX2_has_18 : decode cX2_has 18 = .ok (.getfield 9, 3) := by decide +kernel
theorem dX2_has_21 : decode cX2_has 21 = .ok (.if_icmp .gt 7, 3) := by decide +kernel
theorem dX2_has_24 : decode cX2_has 24 = .ok (.iconst 1, 1) := by decide +kernel
theorem dX2_has_25 : decode cX2_has 25 = .ok (.goto 4, 3) := by decide +kernel
theorem dX2_has_28 : decode cX2_has 28 = .ok (.iconst 0, 1) := by decide +kernel
theorem dX2_has_29 : decode cX2_has 29 = .ok (.ireturn, 1) := by decide +kernel
set_option maxRecDepth 20000 in
theorem ggX2_kindAt_X2_has : GoodIn wsX2_kindAt wsX2_has := goodIn_r _ [6, 7, 8, 9, 10] (by decide +kernel) (by decide +kernel)
set_option maxRecDepth 20000 in
theorem gX2_kindAt_X2_has : GoodIn wsX2_kindAt (wsV RX2 28 RX2 yX2_has wsX2_has) := goodIn_app (goodIn_of _ (by decide +kernel)) ggX2_kindAt_X2_has
theorem dX2_kindAt_0 : decode cX2_kindAt 0 = .ok (.aload_n 0, 1) := by decide +kernel
theorem dX2_kindAt_1 : decode cX2_kindAt 1 = .ok (.iload_n 1, 1) := by decide +kernel
theorem dX2_kindAt_2 : decode cX2_kindAt 2 = .ok (.iload_n 2, 1) := by decide +kernel
theorem dX2_kindAt_3 : decode cX2_kindAt 3 = .ok (.invokevirtual 28, 3) := by decide +kernel
theorem dX2_kindAt_6 : decode cX2_kindAt 6 = .ok (.ifCond .eq 16, 3) := by decide +kernel
theorem dX2_kindAt_9 : decode cX2_kindAt 9 = .ok (.aload_n 0, 1) := by decide +kernel
theorem dX2_kindAt_10 : decode cX2_kindAt 10 = .ok (.getfield 18, 3) := by decide +kernel
theorem dX2_kindAt_13 : decode cX2_kindAt 13 = .ok (.iload_n 1, 1) := by decide +kernel
theorem dX2_kindAt_14 : decode cX2_kindAt 14 = .ok (.iconst 5, 1) := by decide +kernel
theorem dX2_kindAt_15 : decode cX2_kindAt 15 = .ok (.imul, 1) := by decide +kernel
theorem dX2_kindAt_16 : decode cX2_kindAt 16 = .ok (.iload_n 2, 1) := by decide +kernel
theorem dX2_kindAt_17 : decode cX2_kindAt 17 = .ok (.iadd, 1) := by decide +kernel
theorem dX2_kindAt_18 : decode cX2_kindAt 18 = .ok (.iaload, 1) := by decide +kernel
theorem dX2_kindAt_19 : decode cX2_kindAt 19 = .ok (.goto 4, 3) := by decide +kernel
theorem dX2_kindAt_22 : decode cX2_kindAt 22 = .ok (.iconst 0, 1) := by decide +kernel
theorem dX2_kindAt_23 : decode cX2_kindAt 23 = .ok (.ireturn, 1) := by decide +kernel
set_option maxRecDepth 20000 in
theorem ggX2_setKind_X2_has : GoodIn wsX2_setKind wsX2_has := goodIn_r _ [6, 7, 8, 9, 10] (by decide +kernel) (by decide +kernel)
set_option maxRecDepth 20000 in
theorem gX2_setKind_X2_has : GoodIn wsX2_setKind (wsV RX2 28 RX2 yX2_has wsX2_has) := goodIn_app (goodIn_of _ (by decide +kernel)) ggX2_setKind_X2_has
theorem dX2_setKind_0 : decode cX2_setKind 0 = .ok (.aload_n 0, 1) := by decide +kernel
theorem dX2_setKind_1 : decode cX2_setKind 1 = .ok (.iload_n 1, 1) := by decide +kernel
theorem dX2_setKind_2 : decode cX2_setKind 2 = .ok (.iload_n 2, 1) := by decide +kernel
theorem dX2_setKind_3 : decode cX2_setKind 3 = .ok (.invokevirtual 28, 3) := by decide +kernel
theorem dX2_setKind_6 : decode cX2_setKind 6 = .ok (.ifCond .eq 14, 3) := by decide +kernel
theorem dX2_setKind_9 : decode cX2_setKind 9 = .ok (.aload_n 0, 1) := by decide +kernel
theorem dX2_setKind_10 : decode cX2_setKind 10 = .ok (.getfield 18, 3) := by decide +kernel
theorem dX2_setKind_13 : decode cX2_setKind 13 = .ok (.iload_n 1, 1) := by decide +kernel
theorem dX2_setKind_14 : decode cX2_setKind 14 = .ok (.iconst 5, 1) := by decide +kernel
theorem dX2_setKind_15 : decode cX2_setKind 15 = .ok (.imul, 1) := by decide +kernel
theorem dX2_setKind_16 : decode cX2_setKind 16 = .ok (.iload_n 2, 1) := by decide +kernel
theorem dX2_setKind_17 : decode cX2_setKind 17 = .ok (.iadd, 1) := by decide +kernel
theorem dX2_setKind_18 : decode cX2_setKind 18 = .ok (.iload_n 3, 1) := by decide +kernel
theorem dX2_setKind_19 : decode cX2_setKind 19 = .ok (.iastore, 1) := by decide +kernel
theorem dX2_setKind_20 : decode cX2_setKind 20 = .ok (.return_, 1) := by decide +kernel
theorem dX2_placeOf_0 : decode cX2_placeOf 0 = .ok (.iload_n 1, 1) := by decide +kernel
theorem dX2_placeOf_1 : decode cX2_placeOf 1 = .ok (.aload_n 0, 1) := by decide +kernel
theorem dX2_placeOf_2 : decode cX2_placeOf 2 = .ok (.getfield 15, 3) := by decide +kernel
theorem dX2_placeOf_5 : decode cX2_placeOf 5 = .ok (.if_icmp .ge 7, 3) := by decide +kernel
theorem dX2_placeOf_8 : decode cX2_placeOf 8 = .ok (.iload_n 1, 1) := by decide +kernel
theorem dX2_placeOf_9 : decode cX2_placeOf 9 = .ok (.goto 6, 3) := by decide +kernel
theorem dX2_placeOf_12 : decode cX2_placeOf 12 = .ok (.iload_n 1, 1) := by decide +kernel
theorem dX2_placeOf_13 : decode cX2_placeOf 13 = .ok (.iconst 1, 1) := by decide +kernel
theorem dX2_placeOf_14 : decode cX2_placeOf 14 = .ok (.iadd, 1) := by decide +kernel
theorem dX2_placeOf_15 : decode cX2_placeOf 15 = .ok (.ireturn, 1) := by decide +kernel
set_option maxRecDepth 20000 in
theorem ggX2_faultyCells_X2_kindAt : GoodIn wsX2_faultyCells wsX2_kindAt := goodIn_r _ [6, 7, 8, 9, 10, 5, 11, 1, 12, 13, 14] (by decide +kernel) (by decide +kernel)
set_option maxRecDepth 20000 in
theorem gX2_faultyCells_X2_kindAt : GoodIn wsX2_faultyCells (wsV RX2 32 RX2 yX2_kindAt wsX2_kindAt) := goodIn_app (goodIn_of _ (by decide +kernel)) ggX2_faultyCells_X2_kindAt
theorem dX2_faultyCells_0 : decode cX2_faultyCells 0 = .ok (.iconst 0, 1) := by decide +kernel
theorem dX2_faultyCells_1 : decode cX2_faultyCells 1 = .ok (.istore_n 1, 1) := by decide +kernel
theorem dX2_faultyCells_2 : decode cX2_faultyCells 2 = .ok (.iconst 0, 1) := by decide +kernel
theorem dX2_faultyCells_3 : decode cX2_faultyCells 3 = .ok (.istore_n 2, 1) := by decide +kernel
theorem dX2_faultyCells_4 : decode cX2_faultyCells 4 = .ok (.iload_n 2, 1) := by decide +kernel
theorem dX2_faultyCells_5 : decode cX2_faultyCells 5 = .ok (.aload_n 0, 1) := by decide +kernel
theorem dX2_faultyCells_6 : decode cX2_faultyCells 6 = .ok (.getfield 9, 3) := by decide +kernel
theorem dX2_faultyCells_9 : decode cX2_faultyCells 9 = .ok (.if_icmp .ge 37, 3) := by decide +kernel
theorem dX2_faultyCells_12 : decode cX2_faultyCells 12 = .ok (.iconst 0, 1) := by decide +kernel
theorem dX2_faultyCells_13 : decode cX2_faultyCells 13 = .ok (.istore_n 3, 1) := by decide +kernel
theorem dX2_faultyCells_14 : decode cX2_faultyCells 14 = .ok (.iload_n 3, 1) := by decide +kernel
theorem dX2_faultyCells_15 : decode cX2_faultyCells 15 = .ok (.aload_n 0, 1) := by decide +kernel
theorem dX2_faultyCells_16 : decode cX2_faultyCells 16 = .ok (.getfield 9, 3) := by decide +kernel
theorem dX2_faultyCells_19 : decode cX2_faultyCells 19 = .ok (.if_icmp .gt 21, 3) := by decide +kernel
theorem dX2_faultyCells_22 : decode cX2_faultyCells 22 = .ok (.aload_n 0, 1) := by decide +kernel
theorem dX2_faultyCells_23 : decode cX2_faultyCells 23 = .ok (.iload_n 2, 1) := by decide +kernel
theorem dX2_faultyCells_24 : decode cX2_faultyCells 24 = .ok (.iload_n 3, 1) := by decide +kernel
theorem dX2_faultyCells_25 : decode cX2_faultyCells 25 = .ok (.invokevirtual 32, 3) := by decide +kernel
theorem dX2_faultyCells_28 : decode cX2_faultyCells 28 = .ok (.ifCond .eq 6, 3) := by decide +kernel
theorem dX2_faultyCells_31 : decode cX2_faultyCells 31 = .ok (.iinc 1 1, 3) := by decide +kernel
theorem dX2_faultyCells_34 : decode cX2_faultyCells 34 = .ok (.iinc 3 1, 3) := by decide +kernel
theorem dX2_faultyCells_37 : decode cX2_faultyCells 37 = .ok (.goto (-23), 3) := by decide +kernel
theorem dX2_faultyCells_40 : decode cX2_faultyCells 40 = .ok (.iinc 2 1, 3) := by decide +kernel
theorem dX2_faultyCells_43 : decode cX2_faultyCells 43 = .ok (.goto (-39), 3) := by decide +kernel
theorem dX2_faultyCells_46 : decode cX2_faultyCells 46 = .ok (.iload_n 1, 1) := by decide +kernel
theorem dX2_faultyCells_47 : decode cX2_faultyCells 47 = .ok (.ireturn, 1) := by decide +kernel
theorem dX2_copyFrom_0 : decode cX2_copyFrom 0 = .ok (.aload_n 0, 1) := by decide +kernel
theorem dX2_copyFrom_1 : decode cX2_copyFrom 1 = .ok (.aload_n 1, 1) := by decide +kernel
theorem dX2_copyFrom_2 : decode cX2_copyFrom 2 = .ok (.getfield 9, 3) := by decide +kernel
theorem dX2_copyFrom_5 : decode cX2_copyFrom 5 = .ok (.putfield 9, 3) := by decide +kernel
theorem dX2_copyFrom_8 : decode cX2_copyFrom 8 = .ok (.aload_n 0, 1) := by decide +kernel
theorem dX2_copyFrom_9 : decode cX2_copyFrom 9 = .ok (.aload_n 1, 1) := by decide +kernel
theorem dX2_copyFrom_10 : decode cX2_copyFrom 10 = .ok (.getfield 15, 3) := by decide +kernel
theorem dX2_copyFrom_13 : decode cX2_copyFrom 13 = .ok (.putfield 15, 3) := by decide +kernel
theorem dX2_copyFrom_16 : decode cX2_copyFrom 16 = .ok (.aload_n 1, 1) := by decide +kernel
theorem dX2_copyFrom_17 : decode cX2_copyFrom 17 = .ok (.getfield 18, 3) := by decide +kernel
theorem dX2_copyFrom_20 : decode cX2_copyFrom 20 = .ok (.iconst 0, 1) := by decide +kernel
theorem dX2_copyFrom_21 : decode cX2_copyFrom 21 = .ok (.aload_n 0, 1) := by decide +kernel
theorem dX2_copyFrom_22 : decode cX2_copyFrom 22 = .ok (.getfield 18, 3) := by decide +kernel
theorem dX2_copyFrom_25 : decode cX2_copyFrom 25 = .ok (.iconst 0, 1) := by decide +kernel
theorem dX2_copyFrom_26 : decode cX2_copyFrom 26 = .ok (.aload_n 0, 1) := by decide +kernel
theorem dX2_copyFrom_27 : decode cX2_copyFrom 27 = .ok (.getfield 18, 3) := by decide +kernel
theorem dX2_copyFrom_30 : decode cX2_copyFrom 30 = .ok (.arraylength, 1) := by decide +kernel
theorem dX2_copyFrom_31 : decode cX2_copyFrom 31 = .ok (.invokestatic 36, 3) := by decide +kernel
theorem dX2_copyFrom_34 : decode cX2_copyFrom 34 = .ok (.return_, 1) := by decide +kernel
set_option maxRecDepth 20000 in
theorem ggX3_init_X2_init : GoodIn wsX3_init wsX2_init := goodIn_r _ [19, 20, 2, 3, 21, 22, 23, 24, 57, 58, 59] (by decide +kernel) (by decide +kernel)
set_option maxRecDepth 20000 in
theorem gX3_init_X2_init_n11 : GoodIn wsX3_init (wsX2_init) := ggX3_init_X2_init
set_option maxRecDepth 20000 in
theorem ggX3_init_X1_init : GoodIn wsX3_init wsX1_init := goodIn_r _ [26, 27, 2, 3, 28, 29, 23, 30, 65, 66, 67] (by decide +kernel) (by decide +kernel)
set_option maxRecDepth 20000 in
theorem gX3_init_X1_init_n20 : GoodIn wsX3_init (wsX1_init) := ggX3_init_X1_init
set_option maxRecDepth 20000 in
theorem ggX3_init_X5_init : GoodIn wsX3_init wsX5_init := goodIn_r _ [32, 33, 2, 3, 23, 34, 35, 36, 37, 68, 69, 70, 71, 72, 73, 74, 75, 76, 77, 78] (by decide +kernel) (by decide +kernel)
set_option maxRecDepth 20000 in
theorem gX3_init_X5_init_n33 : GoodIn wsX3_init (wsX5_init) := ggX3_init_X5_init
set_option maxRecDepth 20000 in
theorem ggX3_init_X3_forgetResults : GoodIn wsX3_init wsX3_forgetResults := goodIn_r _ [42, 13, 11, 43, 12, 44, 45, 46, 47, 48, 10, 49, 28, 29, 30, 50, 51, 52, 53, 54, 55, 56, 60, 61, 62, 63, 64, 65, 66, 67] (by decide +kernel) (by decide +kernel)
set_option maxRecDepth 20000 in
theorem gX3_init_X3_forgetResults : GoodIn wsX3_init (wsV RX3 38 RX3 yX3_forgetResults wsX3_forgetResults) := goodIn_app (goodIn_of _ (by decide +kernel)) ggX3_init_X3_forgetResults
theorem dX3_init_0 : decode cX3_init 0 = .ok (.aload_n 0, 1) := by decide +kernel
theorem dX3_init_1 : decode cX3_init 1 = .ok (.invokespecial 3, 3) := by decide +kernel
theorem dX3_init_4 : decode cX3_init 4 = .ok (.aload_n 0, 1) := by decide +kernel
theorem dX3_init_5 : decode cX3_init 5 = .ok (.new 9, 3) := by decide +kernel
theorem dX3_init_8 : decode cX3_init 8 = .ok (.dup, 1) := by decide +kernel
theorem dX3_init_9 : decode cX3_init 9 = .ok (.invokespecial 11, 3) := by decide +kernel
theorem dX3_init_12 : decode cX3_init 12 = .ok (.putfield 12, 3) := by decide +kernel
theorem dX3_init_15 : decode cX3_init 15 = .ok (.aload_n 0, 1) := by decide +kernel
theorem dX3_init_16 : decode cX3_init 16 = .ok (.new 18, 3) := by decide +kernel
theorem dX3_init_19 : decode cX3_init 19 = .ok (.dup, 1) := by decide +kernel
theorem dX3_init_20 : decode cX3_init 20 = .ok (.invokespecial 20, 3) := by decide +kernel
theorem dX3_init_23 : decode cX3_init 23 = .ok (.putfield 21, 3) := by decide +kernel
theorem dX3_init_26 : decode cX3_init 26 = .ok (.aload_n 0, 1) := by decide +kernel
theorem dX3_init_27 : decode cX3_init 27 = .ok (.new 18, 3) := by decide +kernel
theorem dX3_init_30 : decode cX3_init 30 = .ok (.dup, 1) := by decide +kernel
theorem dX3_init_31 : decode cX3_init 31 = .ok (.invokespecial 20, 3) := by decide +kernel
theorem dX3_init_34 : decode cX3_init 34 = .ok (.putfield 25, 3) := by decide +kernel
theorem dX3_init_37 : decode cX3_init 37 = .ok (.aload_n 0, 1) := by decide +kernel
theorem dX3_init_38 : decode cX3_init 38 = .ok (.new 18, 3) := by decide +kernel
theorem dX3_init_41 : decode cX3_init 41 = .ok (.dup, 1) := by decide +kernel
theorem dX3_init_42 : decode cX3_init 42 = .ok (.invokespecial 20, 3) := by decide +kernel
theorem dX3_init_45 : decode cX3_init 45 = .ok (.putfield 28, 3) := by decide +kernel
theorem dX3_init_48 : decode cX3_init 48 = .ok (.aload_n 0, 1) := by decide +kernel
theorem dX3_init_49 : decode cX3_init 49 = .ok (.new 31, 3) := by decide +kernel
theorem dX3_init_52 : decode cX3_init 52 = .ok (.dup, 1) := by decide +kernel
theorem dX3_init_53 : decode cX3_init 53 = .ok (.invokespecial 33, 3) := by decide +kernel
theorem dX3_init_56 : decode cX3_init 56 = .ok (.putfield 34, 3) := by decide +kernel
theorem dX3_init_59 : decode cX3_init 59 = .ok (.aload_n 0, 1) := by decide +kernel
theorem dX3_init_60 : decode cX3_init 60 = .ok (.invokevirtual 38, 3) := by decide +kernel
theorem dX3_init_63 : decode cX3_init 63 = .ok (.return_, 1) := by decide +kernel
set_option maxRecDepth 20000 in
theorem ggX3_copyFrom_X2_copyFrom : GoodIn wsX3_copyFrom wsX2_copyFrom := goodIn_r _ [10, 11, 12, 13, 14, 15, 16, 17, 49, 50, 51] (by decide +kernel) (by decide +kernel)
set_option maxRecDepth 20000 in
theorem gX3_copyFrom_X2_copyFrom : GoodIn wsX3_copyFrom (wsV RX3 41 RX2 yX2_copyFrom wsX2_copyFrom) := goodIn_app (goodIn_of _ (by decide +kernel)) ggX3_copyFrom_X2_copyFrom
set_option maxRecDepth 20000 in
theorem ggX3_copyFrom_X1_copyFrom : GoodIn wsX3_copyFrom wsX1_copyFrom := goodIn_r _ [22, 23, 24, 25, 26, 15, 16, 17, 52, 53, 54] (by decide +kernel) (by decide +kernel)
set_option maxRecDepth 20000 in
theorem gX3_copyFrom_X1_copyFrom : GoodIn wsX3_copyFrom (wsV RX3 45 RX1 yX1_copyFrom wsX1_copyFrom) := goodIn_app (goodIn_of _ (by decide +kernel)) ggX3_copyFrom_X1_copyFrom
set_option maxRecDepth 20000 in
theorem ggX3_copyFrom_X5_copyFrom : GoodIn wsX3_copyFrom wsX5_copyFrom := goodIn_r _ [31, 32, 33, 34, 35, 36, 37, 38, 39, 40, 15, 16, 17, 41, 42, 43, 55, 56, 57, 58, 59, 60, 61, 62, 63, 64, 65] (by decide +kernel) (by decide +kernel)
set_option maxRecDepth 20000 in
theorem gX3_copyFrom_X5_copyFrom : GoodIn wsX3_copyFrom (wsV RX3 48 RX5 yX5_copyFrom wsX5_copyFrom) := goodIn_app (goodIn_of _ (by decide +kernel)) ggX3_copyFrom_X5_copyFrom
theorem dX3_copyFrom_0 : decode cX3_copyFrom 0 = .ok (.aload_n 0, 1) := by decide +kernel
theorem dX3_copyFrom_1 : decode cX3_copyFrom 1 = .ok (.getfield 12, 3) := by decide +kernel
theorem dX3_copyFrom_4 : decode cX3_copyFrom 4 = .ok (.aload_n 1, 1) := by decide +kernel
theorem dX3_copyFrom_5 : decode cX3_copyFrom 5 = .ok (.getfield 12, 3) := by decide +kernel
theorem dX3_copyFrom_8 : decode cX3_copyFrom 8 = .ok (.invokevirtual 41, 3) := by decide +kernel
theorem dX3_copyFrom_11 : decode cX3_copyFrom 11 = .ok (.aload_n 0, 1) := by decide +kernel
theorem dX3_copyFrom_12 : decode cX3_copyFrom 12 = .ok (.getfield 21, 3) := by decide +kernel
theorem dX3_copyFrom_15 : decode cX3_copyFrom 15 = .ok (.aload_n 1, 1) := by decide +kernel
theorem dX3_copyFrom_16 : decode cX3_copyFrom 16 = .ok (.getfield 21, 3) := by decide +kernel
theorem dX3_copyFrom_19 : decode cX3_copyFrom 19 = .ok (.invokevirtual 45, 3) := by decide +kernel
theorem dX3_copyFrom_22 : decode cX3_copyFrom 22 = .ok (.aload_n 0, 1) := by decide +kernel
theorem dX3_copyFrom_23 : decode cX3_copyFrom 23 = .ok (.getfield 25, 3) := by decide +kernel
theorem dX3_copyFrom_26 : decode cX3_copyFrom 26 = .ok (.aload_n 1, 1) := by decide +kernel
theorem dX3_copyFrom_27 : decode cX3_copyFrom 27 = .ok (.getfield 25, 3) := by decide +kernel
theorem dX3_copyFrom_30 : decode cX3_copyFrom 30 = .ok (.invokevirtual 45, 3) := by decide +kernel
theorem dX3_copyFrom_33 : decode cX3_copyFrom 33 = .ok (.aload_n 0, 1) := by decide +kernel
theorem dX3_copyFrom_34 : decode cX3_copyFrom 34 = .ok (.getfield 28, 3) := by decide +kernel
theorem dX3_copyFrom_37 : decode cX3_copyFrom 37 = .ok (.aload_n 1, 1) := by decide +kernel
theorem dX3_copyFrom_38 : decode cX3_copyFrom 38 = .ok (.getfield 28, 3) := by decide +kernel
theorem dX3_copyFrom_41 : decode cX3_copyFrom 41 = .ok (.invokevirtual 45, 3) := by decide +kernel
theorem dX3_copyFrom_44 : decode cX3_copyFrom 44 = .ok (.aload_n 0, 1) := by decide +kernel
theorem dX3_copyFrom_45 : decode cX3_copyFrom 45 = .ok (.getfield 34, 3) := by decide +kernel
theorem dX3_copyFrom_48 : decode cX3_copyFrom 48 = .ok (.aload_n 1, 1) := by decide +kernel
theorem dX3_copyFrom_49 : decode cX3_copyFrom 49 = .ok (.getfield 34, 3) := by decide +kernel
theorem dX3_copyFrom_52 : decode cX3_copyFrom 52 = .ok (.invokevirtual 48, 3) := by decide +kernel
theorem dX3_copyFrom_55 : decode cX3_copyFrom 55 = .ok (.return_, 1) := by decide +kernel
set_option maxRecDepth 20000 in
theorem ggX3_forgetResults_X1_renew : GoodIn wsX3_forgetResults wsX1_renew := goodIn_r _ [11, 12, 13, 14, 15, 16, 17, 18, 19, 20, 21, 27, 28, 29] (by decide +kernel) (by decide +kernel)
set_option maxRecDepth 20000 in
theorem gX3_forgetResults_X1_renew : GoodIn wsX3_forgetResults (wsV RX3 59 RX1 yX1_renew wsX1_renew) := goodIn_app (goodIn_of _ (by decide +kernel)) ggX3_forgetResults_X1_renew
theorem dX3_forgetResults_0 : decode cX3_forgetResults 0 = .ok (.aload_n 0, 1) := by decide +kernel
theorem dX3_forgetResults_1 : decode cX3_forgetResults 1 = .ok (.getfield 28, 3) := by decide +kernel
theorem dX3_forgetResults_4 : decode cX3_forgetResults 4 = .ok (.aload_n 0, 1) := by decide +kernel
theorem dX3_forgetResults_5 : decode cX3_forgetResults 5 = .ok (.getfield 21, 3) := by decide +kernel
theorem dX3_forgetResults_8 : decode cX3_forgetResults 8 = .ok (.getfield 51, 3) := by decide +kernel
theorem dX3_forgetResults_11 : decode cX3_forgetResults 11 = .ok (.aload_n 0, 1) := by decide +kernel
theorem dX3_forgetResults_12 : decode cX3_forgetResults 12 = .ok (.getfield 25, 3) := by decide +kernel
theorem dX3_forgetResults_15 : decode cX3_forgetResults 15 = .ok (.getfield 55, 3) := by decide +kernel
theorem dX3_forgetResults_18 : decode cX3_forgetResults 18 = .ok (.ldc 58, 2) := by decide +kernel
theorem dX3_forgetResults_20 : decode cX3_forgetResults 20 = .ok (.invokevirtual 59, 3) := by decide +kernel
theorem dX3_forgetResults_23 : decode cX3_forgetResults 23 = .ok (.return_, 1) := by decide +kernel
set_option maxRecDepth 20000 in
theorem ggX3_takeLeft_X1_copyFrom : GoodIn wsX3_takeLeft wsX1_copyFrom := goodIn_r _ [9, 10, 11, 12, 13, 14, 15, 16, 40, 41, 42] (by decide +kernel) (by decide +kernel)
set_option maxRecDepth 20000 in
theorem gX3_takeLeft_X1_copyFrom : GoodIn wsX3_takeLeft (wsV RX3 45 RX1 yX1_copyFrom wsX1_copyFrom) := goodIn_app (goodIn_of _ (by decide +kernel)) ggX3_takeLeft_X1_copyFrom
set_option maxRecDepth 20000 in
theorem ggX3_takeLeft_X1_renew : GoodIn wsX3_takeLeft wsX1_renew := goodIn_r _ [20, 10, 11, 12, 21, 22, 23, 24, 25, 26, 27, 40, 41, 42] (by decide +kernel) (by decide +kernel)
set_option maxRecDepth 20000 in
theorem gX3_takeLeft_X1_renew : GoodIn wsX3_takeLeft (wsV RX3 59 RX1 yX1_renew wsX1_renew) := goodIn_app (goodIn_of _ (by decide +kernel)) ggX3_takeLeft_X1_renew
set_option maxRecDepth 20000 in
theorem ggX3_takeLeft_X3_forgetResults : GoodIn wsX3_takeLeft wsX3_forgetResults := goodIn_r _ [32, 33, 1, 3, 2, 4, 34, 17, 18, 19, 8, 20, 10, 11, 12, 21, 22, 23, 24, 25, 26, 27, 35, 36, 37, 38, 39, 40, 41, 42] (by decide +kernel) (by decide +kernel)
set_option maxRecDepth 20000 in
theorem gX3_takeLeft_X3_forgetResults : GoodIn wsX3_takeLeft (wsV RX3 38 RX3 yX3_forgetResults wsX3_forgetResults) := goodIn_app (goodIn_of _ (by decide +kernel)) ggX3_takeLeft_X3_forgetResults
theorem dX3_takeLeft_0 : decode cX3_takeLeft 0 = .ok (.aload_n 0, 1) := by decide +kernel
theorem dX3_takeLeft_1 : decode cX3_takeLeft 1 = .ok (.getfield 21, 3) := by decide +kernel
theorem dX3_takeLeft_4 : decode cX3_takeLeft 4 = .ok (.aload_n 1, 1) := by decide +kernel
theorem dX3_takeLeft_5 : decode cX3_takeLeft 5 = .ok (.invokevirtual 45, 3) := by decide +kernel
theorem dX3_takeLeft_8 : decode cX3_takeLeft 8 = .ok (.aload_n 0, 1) := by decide +kernel
theorem dX3_takeLeft_9 : decode cX3_takeLeft 9 = .ok (.getfield 25, 3) := by decide +kernel
theorem dX3_takeLeft_12 : decode cX3_takeLeft 12 = .ok (.getfield 51, 3) := by decide +kernel
theorem dX3_takeLeft_15 : decode cX3_takeLeft 15 = .ok (.aload_n 1, 1) := by decide +kernel
theorem dX3_takeLeft_16 : decode cX3_takeLeft 16 = .ok (.getfield 55, 3) := by decide +kernel
theorem dX3_takeLeft_19 : decode cX3_takeLeft 19 = .ok (.if_icmp .eq 22, 3) := by decide +kernel
theorem dX3_takeLeft_22 : decode cX3_takeLeft 22 = .ok (.aload_n 0, 1) := by decide +kernel
theorem dX3_takeLeft_23 : decode cX3_takeLeft 23 = .ok (.getfield 25, 3) := by decide +kernel
theorem dX3_takeLeft_26 : decode cX3_takeLeft 26 = .ok (.aload_n 1, 1) := by decide +kernel
theorem dX3_takeLeft_27 : decode cX3_takeLeft 27 = .ok (.getfield 55, 3) := by decide +kernel
theorem dX3_takeLeft_30 : decode cX3_takeLeft 30 = .ok (.aload_n 0, 1) := by decide +kernel
theorem dX3_takeLeft_31 : decode cX3_takeLeft 31 = .ok (.getfield 25, 3) := by decide +kernel
theorem dX3_takeLeft_34 : decode cX3_takeLeft 34 = .ok (.getfield 55, 3) := by decide +kernel
theorem dX3_takeLeft_37 : decode cX3_takeLeft 37 = .ok (.iconst 0, 1) := by decide +kernel
theorem dX3_takeLeft_38 : decode cX3_takeLeft 38 = .ok (.invokevirtual 59, 3) := by decide +kernel
theorem dX3_takeLeft_41 : decode cX3_takeLeft 41 = .ok (.aload_n 0, 1) := by decide +kernel
theorem dX3_takeLeft_42 : decode cX3_takeLeft 42 = .ok (.invokevirtual 38, 3) := by decide +kernel
theorem dX3_takeLeft_45 : decode cX3_takeLeft 45 = .ok (.return_, 1) := by decide +kernel
set_option maxRecDepth 20000 in
theorem ggX3_takeRight_X1_copyFrom : GoodIn wsX3_takeRight wsX1_copyFrom := goodIn_r _ [9, 10, 11, 12, 13, 14, 15, 16, 40, 41, 42] (by decide +kernel) (by decide +kernel)
set_option maxRecDepth 20000 in
theorem gX3_takeRight_X1_copyFrom : GoodIn wsX3_takeRight (wsV RX3 45 RX1 yX1_copyFrom wsX1_copyFrom) := goodIn_app (goodIn_of _ (by decide +kernel)) ggX3_takeRight_X1_copyFrom
set_option maxRecDepth 20000 in
theorem ggX3_takeRight_X1_renew : GoodIn wsX3_takeRight wsX1_renew := goodIn_r _ [20, 10, 11, 12, 21, 22, 23, 24, 25, 26, 27, 40, 41, 42] (by decide +kernel) (by decide +kernel)
set_option maxRecDepth 20000 in
theorem gX3_takeRight_X1_renew : GoodIn wsX3_takeRight (wsV RX3 59 RX1 yX1_renew wsX1_renew) := goodIn_app (goodIn_of _ (by decide +kernel)) ggX3_takeRight_X1_renew
set_option maxRecDepth 20000 in
theorem ggX3_takeRight_X3_forgetResults : GoodIn wsX3_takeRight wsX3_forgetResults := goodIn_r _ [32, 33, 2, 4, 1, 3, 34, 17, 18, 19, 8, 20, 10, 11, 12, 21, 22, 23, 24, 25, 26, 27, 35, 36, 37, 38, 39, 40, 41, 42] (by decide +kernel) (by decide +kernel)
set_option maxRecDepth 20000 in
theorem gX3_takeRight_X3_forgetResults : GoodIn wsX3_takeRight (wsV RX3 38 RX3 yX3_forgetResults wsX3_forgetResults) := goodIn_app (goodIn_of _ (by decide +kernel)) ggX3_takeRight_X3_forgetResults
theorem dX3_takeRight_0 : decode cX3_takeRight 0 = .ok (.aload_n 0, 1) := by decide +kernel
theorem dX3_takeRight_1 : decode cX3_takeRight 1 = .ok (.getfield 25, 3) := by decide +kernel
theorem dX3_takeRight_4 : decode cX3_takeRight 4 = .ok (.aload_n 1, 1) := by decide +kernel
theorem dX3_takeRight_5 : decode cX3_takeRight 5 = .ok (.invokevirtual 45, 3) := by decide +kernel
theorem dX3_takeRight_8 : decode cX3_takeRight 8 = .ok (.aload_n 0, 1) := by decide +kernel
theorem dX3_takeRight_9 : decode cX3_takeRight 9 = .ok (.getfield 21, 3) := by decide +kernel
theorem dX3_takeRight_12 : decode cX3_takeRight 12 = .ok (.getfield 55, 3) := by decide +kernel
theorem dX3_takeRight_15 : decode cX3_takeRight 15 = .ok (.aload_n 1, 1) := by decide +kernel
theorem dX3_takeRight_16 : decode cX3_takeRight 16 = .ok (.getfield 51, 3) := by decide +kernel
theorem dX3_takeRight_19 : decode cX3_takeRight 19 = .ok (.if_icmp .eq 22, 3) := by decide +kernel
theorem dX3_takeRight_22 : decode cX3_takeRight 22 = .ok (.aload_n 0, 1) := by decide +kernel
theorem dX3_takeRight_23 : decode cX3_takeRight 23 = .ok (.getfield 21, 3) := by decide +kernel
theorem dX3_takeRight_26 : decode cX3_takeRight 26 = .ok (.aload_n 0, 1) := by decide +kernel
theorem dX3_takeRight_27 : decode cX3_takeRight 27 = .ok (.getfield 21, 3) := by decide +kernel
theorem dX3_takeRight_30 : decode cX3_takeRight 30 = .ok (.getfield 51, 3) := by decide +kernel
theorem dX3_takeRight_33 : decode cX3_takeRight 33 = .ok (.aload_n 1, 1) := by decide +kernel
theorem dX3_takeRight_34 : decode cX3_takeRight 34 = .ok (.getfield 51, 3) := by decide +kernel
theorem dX3_takeRight_37 : decode cX3_takeRight 37 = .ok (.iconst 0, 1) := by decide +kernel
theorem dX3_takeRight_38 : decode cX3_takeRight 38 = .ok (.invokevirtual 59, 3) := by decide +kernel
theorem dX3_takeRight_41 : decode cX3_takeRight 41 = .ok (.aload_n 0, 1) := by decide +kernel
theorem dX3_takeRight_42 : decode cX3_takeRight 42 = .ok (.invokevirtual 38, 3) := by decide +kernel
theorem dX3_takeRight_45 : decode cX3_takeRight 45 = .ok (.return_, 1) := by decide +kernel
set_option maxRecDepth 20000 in
theorem ggX3_tilesDown_X3_tilesAlong : GoodIn wsX3_tilesDown wsX3_tilesAlong := goodIn_r _ [7, 8, 9, 10, 11, 12, 13, 14, 18, 19, 20] (by decide +kernel) (by decide +kernel)
set_option maxRecDepth 20000 in
theorem gX3_tilesDown_X3_tilesAlong : GoodIn wsX3_tilesDown (wsV RX3 63 RX3 yX3_tilesAlong wsX3_tilesAlong) := goodIn_app (goodIn_of _ (by decide +kernel)) ggX3_tilesDown_X3_tilesAlong
theorem dX3_tilesDown_0 : decode cX3_tilesDown 0 = .ok (.aload_n 0, 1) := by decide +kernel
theorem dX3_tilesDown_1 : decode cX3_tilesDown 1 = .ok (.aload_n 0, 1) := by decide +kernel
theorem dX3_tilesDown_2 : decode cX3_tilesDown 2 = .ok (.getfield 21, 3) := by decide +kernel
theorem dX3_tilesDown_5 : decode cX3_tilesDown 5 = .ok (.getfield 51, 3) := by decide +kernel
theorem dX3_tilesDown_8 : decode cX3_tilesDown 8 = .ok (.invokevirtual 63, 3) := by decide +kernel
theorem dX3_tilesDown_11 : decode cX3_tilesDown 11 = .ok (.ireturn, 1) := by decide +kernel
set_option maxRecDepth 20000 in
theorem ggX3_tilesAcross_X3_tilesAlong : GoodIn wsX3_tilesAcross wsX3_tilesAlong := goodIn_r _ [7, 8, 9, 10, 11, 12, 13, 14, 18, 19, 20] (by decide +kernel) (by decide +kernel)
set_option maxRecDepth 20000 in
theorem gX3_tilesAcross_X3_tilesAlong : GoodIn wsX3_tilesAcross (wsV RX3 63 RX3 yX3_tilesAlong wsX3_tilesAlong) := goodIn_app (goodIn_of _ (by decide +kernel)) ggX3_tilesAcross_X3_tilesAlong
theorem dX3_tilesAcross_0 : decode cX3_tilesAcross 0 = .ok (.aload_n 0, 1) := by decide +kernel
theorem dX3_tilesAcross_1 : decode cX3_tilesAcross 1 = .ok (.aload_n 0, 1) := by decide +kernel
theorem dX3_tilesAcross_2 : decode cX3_tilesAcross 2 = .ok (.getfield 25, 3) := by decide +kernel
theorem dX3_tilesAcross_5 : decode cX3_tilesAcross 5 = .ok (.getfield 55, 3) := by decide +kernel
theorem dX3_tilesAcross_8 : decode cX3_tilesAcross 8 = .ok (.invokevirtual 63, 3) := by decide +kernel
theorem dX3_tilesAcross_11 : decode cX3_tilesAcross 11 = .ok (.ireturn, 1) := by decide +kernel
set_option maxRecDepth 20000 in
theorem ggX3_tiles_X3_tilesDown : GoodIn wsX3_tiles wsX3_tilesDown := goodIn_r _ [5, 6, 7, 8, 9, 10, 4, 11, 12, 13, 20, 21, 22, 23, 24, 25, 26, 27, 28, 29, 30] (by decide +kernel) (by decide +kernel)
set_option maxRecDepth 20000 in
theorem gX3_tiles_X3_tilesDown : GoodIn wsX3_tiles (wsV RX3 67 RX3 yX3_tilesDown wsX3_tilesDown) := goodIn_app (goodIn_of _ (by decide +kernel)) ggX3_tiles_X3_tilesDown
set_option maxRecDepth 20000 in
theorem ggX3_tiles_X3_tilesAcross : GoodIn wsX3_tiles wsX3_tilesAcross := goodIn_r _ [17, 18, 19, 8, 9, 10, 4, 11, 12, 13, 20, 21, 22, 23, 24, 25, 26, 27, 28, 29, 30] (by decide +kernel) (by decide +kernel)
set_option maxRecDepth 20000 in
theorem gX3_tiles_X3_tilesAcross : GoodIn wsX3_tiles (wsV RX3 71 RX3 yX3_tilesAcross wsX3_tilesAcross) := goodIn_app (goodIn_of _ (by decide +kernel)) ggX3_tiles_X3_tilesAcross
theorem dX3_tiles_0 : decode cX3_tiles 0 = .ok (.aload_n 0, 1) := by decide +kernel
theorem dX3_tiles_1 : decode cX3_tiles 1 = .ok (.invokevirtual 67, 3) := by decide +kernel
theorem dX3_tiles_4 : decode cX3_tiles 4 = .ok (.aload_n 0, 1) := by decide +kernel
theorem dX3_tiles_5 : decode cX3_tiles 5 = .ok (.invokevirtual 71, 3) := by decide +kernel
theorem dX3_tiles_8 : decode cX3_tiles 8 = .ok (.imul, 1) := by decide +kernel
theorem dX3_tiles_9 : decode cX3_tiles 9 = .ok (.ireturn, 1) := by decide +kernel
theorem dX3_tilesAlong_0 : decode cX3_tilesAlong 0 = .ok (.aload_n 0, 1) := by decide +kernel
theorem dX3_tilesAlong_1 : decode cX3_tilesAlong 1 = .ok (.getfield 12, 3) := by decide +kernel
theorem dX3_tilesAlong_4 : decode cX3_tilesAlong 4 = .ok (.getfield 74, 3) := by decide +kernel
theorem dX3_tilesAlong_7 : decode cX3_tilesAlong 7 = .ok (.ifCond .le 25, 3) := by decide +kernel
theorem dX3_tilesAlong_10 : decode cX3_tilesAlong 10 = .ok (.iload_n 1, 1) := by decide +kernel
theorem dX3_tilesAlong_11 : decode cX3_tilesAlong 11 = .ok (.aload_n 0, 1) := by decide +kernel
theorem dX3_tilesAlong_12 : decode cX3_tilesAlong 12 = .ok (.getfield 12, 3) := by decide +kernel
theorem dX3_tilesAlong_15 : decode cX3_tilesAlong 15 = .ok (.getfield 74, 3) := by decide +kernel
theorem dX3_tilesAlong_18 : decode cX3_tilesAlong 18 = .ok (.iadd, 1) := by decide +kernel
theorem dX3_tilesAlong_19 : decode cX3_tilesAlong 19 = .ok (.iconst 1, 1) := by decide +kernel
theorem dX3_tilesAlong_20 : decode cX3_tilesAlong 20 = .ok (.isub, 1) := by decide +kernel
theorem dX3_tilesAlong_21 : decode cX3_tilesAlong 21 = .ok (.aload_n 0, 1) := by decide +kernel
theorem dX3_tilesAlong_22 : decode cX3_tilesAlong 22 = .ok (.getfield 12, 3) := by decide +kernel
theorem dX3_tilesAlong_25 : decode cX3_tilesAlong 25 = .ok (.getfield 74, 3) := by decide +kernel
theorem dX3_tilesAlong_28 : decode cX3_tilesAlong 28 = .ok (.idiv, 1) := by decide +kernel
theorem dX3_tilesAlong_29 : decode cX3_tilesAlong 29 = .ok (.goto 4, 3) := by decide +kernel
theorem dX3_tilesAlong_32 : decode cX3_tilesAlong 32 = .ok (.iconst 0, 1) := by decide +kernel
theorem dX3_tilesAlong_33 : decode cX3_tilesAlong 33 = .ok (.ireturn, 1) := by decide +kernel
set_option maxRecDepth 20000 in
theorem ggX3_beginTile_X5_empty : GoodIn wsX3_beginTile wsX5_empty := goodIn_r _ [22, 23, 24, 25, 26, 27, 28, 29, 30, 31, 32, 38, 39, 40, 41, 42, 43, 44, 45, 46, 47, 48] (by decide +kernel) (by decide +kernel)
set_option maxRecDepth 20000 in
theorem gX3_beginTile_X5_empty : GoodIn wsX3_beginTile (wsV RX3 77 RX5 yX5_empty wsX5_empty) := goodIn_app (goodIn_of _ (by decide +kernel)) ggX3_beginTile_X5_empty
theorem dX3_beginTile_0 : decode cX3_beginTile 0 = .ok (.aload_n 0, 1) := by decide +kernel
theorem dX3_beginTile_1 : decode cX3_beginTile 1 = .ok (.getfield 34, 3) := by decide +kernel
theorem dX3_beginTile_4 : decode cX3_beginTile 4 = .ok (.invokevirtual 77, 3) := by decide +kernel
theorem dX3_beginTile_7 : decode cX3_beginTile 7 = .ok (.aload_n 0, 1) := by decide +kernel
theorem dX3_beginTile_8 : decode cX3_beginTile 8 = .ok (.getfield 34, 3) := by decide +kernel
theorem dX3_beginTile_11 : decode cX3_beginTile 11 = .ok (.iconst 1, 1) := by decide +kernel
theorem dX3_beginTile_12 : decode cX3_beginTile 12 = .ok (.putfield 80, 3) := by decide +kernel
theorem dX3_beginTile_15 : decode cX3_beginTile 15 = .ok (.aload_n 0, 1) := by decide +kernel
theorem dX3_beginTile_16 : decode cX3_beginTile 16 = .ok (.getfield 34, 3) := by decide +kernel
theorem dX3_beginTile_19 : decode cX3_beginTile 19 = .ok (.iload_n 1, 1) := by decide +kernel
theorem dX3_beginTile_20 : decode cX3_beginTile 20 = .ok (.putfield 84, 3) := by decide +kernel
theorem dX3_beginTile_23 : decode cX3_beginTile 23 = .ok (.aload_n 0, 1) := by decide +kernel
theorem dX3_beginTile_24 : decode cX3_beginTile 24 = .ok (.getfield 34, 3) := by decide +kernel
theorem dX3_beginTile_27 : decode cX3_beginTile 27 = .ok (.iload_n 2, 1) := by decide +kernel
theorem dX3_beginTile_28 : decode cX3_beginTile 28 = .ok (.putfield 87, 3) := by decide +kernel
theorem dX3_beginTile_31 : decode cX3_beginTile 31 = .ok (.aload_n 0, 1) := by decide +kernel
theorem dX3_beginTile_32 : decode cX3_beginTile 32 = .ok (.getfield 34, 3) := by decide +kernel
theorem dX3_beginTile_35 : decode cX3_beginTile 35 = .ok (.aload_n 0, 1) := by decide +kernel
theorem dX3_beginTile_36 : decode cX3_beginTile 36 = .ok (.getfield 12, 3) := by decide +kernel
theorem dX3_beginTile_39 : decode cX3_beginTile 39 = .ok (.getfield 74, 3) := by decide +kernel
theorem dX3_beginTile_42 : decode cX3_beginTile 42 = .ok (.aload_n 0, 1) := by decide +kernel
theorem dX3_beginTile_43 : decode cX3_beginTile 43 = .ok (.getfield 21, 3) := by decide +kernel
theorem dX3_beginTile_46 : decode cX3_beginTile 46 = .ok (.getfield 51, 3) := by decide +kernel
theorem dX3_beginTile_49 : decode cX3_beginTile 49 = .ok (.iload_n 1, 1) := by decide +kernel
theorem dX3_beginTile_50 : decode cX3_beginTile 50 = .ok (.aload_n 0, 1) := by decide +kernel
theorem dX3_beginTile_51 : decode cX3_beginTile 51 = .ok (.getfield 12, 3) := by decide +kernel
theorem dX3_beginTile_54 : decode cX3_beginTile 54 = .ok (.getfield 74, 3) := by decide +kernel
theorem dX3_beginTile_57 : decode cX3_beginTile 57 = .ok (.imul, 1) := by decide +kernel
theorem dX3_beginTile_58 : decode cX3_beginTile 58 = .ok (.isub, 1) := by decide +kernel
theorem dX3_beginTile_59 : decode cX3_beginTile 59 = .ok (.invokestatic 90, 3) := by decide +kernel
theorem dX3_beginTile_62 : decode cX3_beginTile 62 = .ok (.putfield 96, 3) := by decide +kernel
theorem dX3_beginTile_65 : decode cX3_beginTile 65 = .ok (.aload_n 0, 1) := by decide +kernel
theorem dX3_beginTile_66 : decode cX3_beginTile 66 = .ok (.getfield 34, 3) := by decide +kernel
theorem dX3_beginTile_69 : decode cX3_beginTile 69 = .ok (.aload_n 0, 1) := by decide +kernel
theorem dX3_beginTile_70 : decode cX3_beginTile 70 = .ok (.getfield 12, 3) := by decide +kernel
theorem dX3_beginTile_73 : decode cX3_beginTile 73 = .ok (.getfield 74, 3) := by decide +kernel
theorem dX3_beginTile_76 : decode cX3_beginTile 76 = .ok (.aload_n 0, 1) := by decide +kernel
theorem dX3_beginTile_77 : decode cX3_beginTile 77 = .ok (.getfield 25, 3) := by decide +kernel
theorem dX3_beginTile_80 : decode cX3_beginTile 80 = .ok (.getfield 55, 3) := by decide +kernel
theorem dX3_beginTile_83 : decode cX3_beginTile 83 = .ok (.iload_n 2, 1) := by decide +kernel
theorem dX3_beginTile_84 : decode cX3_beginTile 84 = .ok (.aload_n 0, 1) := by decide +kernel
theorem dX3_beginTile_85 : decode cX3_beginTile 85 = .ok (.getfield 12, 3) := by decide +kernel
theorem dX3_beginTile_88 : decode cX3_beginTile 88 = .ok (.getfield 74, 3) := by decide +kernel
theorem dX3_beginTile_91 : decode cX3_beginTile 91 = .ok (.imul, 1) := by decide +kernel
theorem dX3_beginTile_92 : decode cX3_beginTile 92 = .ok (.isub, 1) := by decide +kernel
theorem dX3_beginTile_93 : decode cX3_beginTile 93 = .ok (.invokestatic 90, 3) := by decide +kernel
theorem dX3_beginTile_96 : decode cX3_beginTile 96 = .ok (.putfield 99, 3) := by decide +kernel
theorem dX3_beginTile_99 : decode cX3_beginTile 99 = .ok (.aload_n 0, 1) := by decide +kernel
theorem dX3_beginTile_100 : decode cX3_beginTile 100 = .ok (.getfield 34, 3) := by decide +kernel
theorem dX3_beginTile_103 : decode cX3_beginTile 103 = .ok (.aload_n 0, 1) := by decide +kernel
theorem dX3_beginTile_104 : decode cX3_beginTile 104 = .ok (.getfield 34, 3) := by decide +kernel
theorem dX3_beginTile_107 : decode cX3_beginTile 107 = .ok (.getfield 96, 3) := by decide +kernel
theorem dX3_beginTile_110 : decode cX3_beginTile 110 = .ok (.aload_n 0, 1) := by decide +kernel
theorem dX3_beginTile_111 : decode cX3_beginTile 111 = .ok (.getfield 34, 3) := by decide +kernel
theorem dX3_beginTile_114 : decode cX3_beginTile 114 = .ok (.getfield 99, 3) := by decide +kernel
theorem dX3_beginTile_117 : decode cX3_beginTile 117 = .ok (.iadd, 1) := by decide +kernel
theorem dX3_beginTile_118 : decode cX3_beginTile 118 = .ok (.aload_n 0, 1) := by decide +kernel
theorem dX3_beginTile_119 : decode cX3_beginTile 119 = .ok (.getfield 21, 3) := by decide +kernel
theorem dX3_beginTile_122 : decode cX3_beginTile 122 = .ok (.getfield 55, 3) := by decide +kernel
theorem dX3_beginTile_125 : decode cX3_beginTile 125 = .ok (.iadd, 1) := by decide +kernel
theorem dX3_beginTile_126 : decode cX3_beginTile 126 = .ok (.iconst 2, 1) := by decide +kernel
theorem dX3_beginTile_127 : decode cX3_beginTile 127 = .ok (.isub, 1) := by decide +kernel
theorem dX3_beginTile_128 : decode cX3_beginTile 128 = .ok (.putfield 102, 3) := by decide +kernel
theorem dX3_beginTile_131 : decode cX3_beginTile 131 = .ok (.return_, 1) := by decide +kernel
set_option maxRecDepth 20000 in
theorem ggX3_goOn_X5_ticksLeft : GoodIn wsX3_goOn wsX5_ticksLeft := goodIn_r _ [10, 11, 12, 98, 99, 100, 101, 102, 103, 104, 105, 106, 107, 108] (by decide +kernel) (by decide +kernel)
set_option maxRecDepth 20000 in
theorem gX3_goOn_X5_ticksLeft : GoodIn wsX3_goOn (wsV RX3 105 RX5 yX5_ticksLeft wsX5_ticksLeft) := goodIn_app (goodIn_of _ (by decide +kernel)) ggX3_goOn_X5_ticksLeft
set_option maxRecDepth 20000 in
theorem ggX3_goOn_X3_goOnce : GoodIn wsX3_goOn wsX3_goOnce := goodIn_r _ [17, 1, 18, 19, 20, 21, 22, 23, 24, 25, 26, 27, 28, 29, 30, 31, 32, 33, 34, 35, 36, 37, 38, 39, 9, 40, 41, 42, 43, 16, 44, 45, 46, 47, 48, 49, 50, 51, 52, 53, 54, 55, 56, 57, 58, 59, 60, 61, 62, 63, 64, 65, 66, 67, 68, 69, 70, 71, 72, 73, 74, 75, 76, 77, 78, 79, 80, 81, 82, 83, 84, 85, 86, 87, 88, 89, 90, 91, 92, 93, 94, 95, 96, 97, 98, 99, 100, 101, 102, 103, 104, 105, 106, 107, 108, 109, 110, 111, 112, 113, 114] (by decide +kernel) (by decide +kernel)
set_option maxRecDepth 20000 in
theorem gX3_goOn_X3_goOnce : GoodIn wsX3_goOn (wsV RX3 108 RX3 yX3_goOnce wsX3_goOnce) := goodIn_app (goodIn_of _ (by decide +kernel)) ggX3_goOn_X3_goOnce
theorem dX3_goOn_0 : decode cX3_goOn 0 = .ok (.iload_n 1, 1) := by decide +kernel
theorem dX3_goOn_1 : decode cX3_goOn 1 = .ok (.aload_n 0, 1) := by decide +kernel
theorem dX3_goOn_2 : decode cX3_goOn 2 = .ok (.getfield 34, 3) := by decide +kernel
theorem dX3_goOn_5 : decode cX3_goOn 5 = .ok (.invokevirtual 105, 3) := by decide +kernel
theorem dX3_goOn_8 : decode cX3_goOn 8 = .ok (.invokestatic 90, 3) := by decide +kernel
theorem dX3_goOn_11 : decode cX3_goOn 11 = .ok (.istore_n 2, 1) := by decide +kernel
theorem dX3_goOn_12 : decode cX3_goOn 12 = .ok (.iconst 0, 1) := by decide +kernel
theorem dX3_goOn_13 : decode cX3_goOn 13 = .ok (.istore_n 3, 1) := by decide +kernel
theorem dX3_goOn_14 : decode cX3_goOn 14 = .ok (.iload_n 3, 1) := by decide +kernel
theorem dX3_goOn_15 : decode cX3_goOn 15 = .ok (.iload_n 2, 1) := by decide +kernel
theorem dX3_goOn_16 : decode cX3_goOn 16 = .ok (.if_icmp .ge 13, 3) := by decide +kernel
theorem dX3_goOn_19 : decode cX3_goOn 19 = .ok (.aload_n 0, 1) := by decide +kernel
theorem dX3_goOn_20 : decode cX3_goOn 20 = .ok (.invokevirtual 108, 3) := by decide +kernel
theorem dX3_goOn_23 : decode cX3_goOn 23 = .ok (.iinc 3 1, 3) := by decide +kernel
theorem dX3_goOn_26 : decode cX3_goOn 26 = .ok (.goto (-12), 3) := by decide +kernel
theorem dX3_goOn_29 : decode cX3_goOn 29 = .ok (.return_, 1) := by decide +kernel
set_option maxRecDepth 20000 in
theorem ggX3_goOnce_X2_placeOf : GoodIn wsX3_goOnce wsX2_placeOf := goodIn_r _ [10, 11, 95, 96, 97] (by decide +kernel) (by decide +kernel)
set_option maxRecDepth 20000 in
theorem gX3_goOnce_X2_placeOf : GoodIn wsX3_goOnce (wsV RX3 111 RX2 yX2_placeOf wsX2_placeOf) := goodIn_app (goodIn_of _ (by decide +kernel)) ggX3_goOnce_X2_placeOf
set_option maxRecDepth 20000 in
theorem ggX3_goOnce_X2_kindAt : GoodIn wsX3_goOnce wsX2_kindAt := goodIn_r _ [15, 16, 17, 18, 19, 9, 20, 21, 95, 96, 97] (by decide +kernel) (by decide +kernel)
set_option maxRecDepth 20000 in
theorem gX3_goOnce_X2_kindAt : GoodIn wsX3_goOnce (wsV RX3 114 RX2 yX2_kindAt wsX2_kindAt) := goodIn_app (goodIn_of _ (by decide +kernel)) ggX3_goOnce_X2_kindAt
set_option maxRecDepth 20000 in
theorem ggX3_goOnce_X5_cell : GoodIn wsX3_goOnce wsX5_cell := goodIn_r _ [25] (by decide +kernel) (by decide +kernel)
set_option maxRecDepth 20000 in
theorem gX3_goOnce_X5_cell : GoodIn wsX3_goOnce (va_wsS RX3 117 yX5_cell wsX5_cell) := goodIn_app (goodIn_of _ (by decide +kernel)) ggX3_goOnce_X5_cell
set_option maxRecDepth 20000 in
theorem ggX3_goOnce_X3_fromLeft : GoodIn wsX3_goOnce wsX3_fromLeft := goodIn_r _ [30, 1, 31, 4, 32, 5, 33, 34, 22, 23, 24, 25, 35, 36, 37, 38, 39, 40, 41, 42, 43, 44, 45, 46, 47, 48, 49, 50, 51, 52, 53, 54, 55, 79, 80, 81, 82, 83, 84, 85, 86, 87, 88, 89, 90, 91, 92, 93, 94, 95, 96, 97, 98, 99, 100] (by decide +kernel) (by decide +kernel)
set_option maxRecDepth 20000 in
theorem gX3_goOnce_X3_fromLeft : GoodIn wsX3_goOnce (wsV RX3 120 RX3 yX3_fromLeft wsX3_fromLeft) := goodIn_app (goodIn_of _ (by decide +kernel)) ggX3_goOnce_X3_fromLeft
set_option maxRecDepth 20000 in
theorem ggX3_goOnce_X3_fromAbove : GoodIn wsX3_goOnce wsX3_fromAbove := goodIn_r _ [59, 1, 60, 4, 32, 5, 61, 34, 22, 23, 24, 25, 62, 63, 64, 65, 66, 40, 41, 42, 43, 44, 45, 46, 47, 48, 49, 50, 51, 52, 53, 54, 55, 79, 80, 81, 82, 83, 84, 85, 86, 87, 88, 89, 90, 91, 92, 93, 94, 95, 96, 97, 98, 99, 100] (by decide +kernel) (by decide +kernel)
set_option maxRecDepth 20000 in
theorem gX3_goOnce_X3_fromAbove : GoodIn wsX3_goOnce (wsV RX3 123 RX3 yX3_fromAbove wsX3_fromAbove) := goodIn_app (goodIn_of _ (by decide +kernel)) ggX3_goOnce_X3_fromAbove
set_option maxRecDepth 20000 in
theorem ggX3_goOnce_X5_pass : GoodIn wsX3_goOnce wsX5_pass := goodIn_r _ [70, 40, 71, 72, 39, 66, 41, 42, 24, 43, 73, 74, 75, 76, 77, 78, 84, 85, 86, 87, 88, 89, 90, 91, 92, 93, 94] (by decide +kernel) (by decide +kernel)
set_option maxRecDepth 20000 in
theorem gX3_goOnce_X5_pass : GoodIn wsX3_goOnce (wsV RX3 126 RX5 yX5_pass wsX5_pass) := goodIn_app (goodIn_of _ (by decide +kernel)) ggX3_goOnce_X5_pass
theorem dX3_goOnce_0 : decode cX3_goOnce 0 = .ok (.aload_n 0, 1) := by decide +kernel
theorem dX3_goOnce_1 : decode cX3_goOnce 1 = .ok (.getfield 34, 3) := by decide +kernel
theorem dX3_goOnce_4 : decode cX3_goOnce 4 = .ok (.getfield 96, 3) := by decide +kernel
theorem dX3_goOnce_7 : decode cX3_goOnce 7 = .ok (.iconst 1, 1) := by decide +kernel
theorem dX3_goOnce_8 : decode cX3_goOnce 8 = .ok (.isub, 1) := by decide +kernel
theorem dX3_goOnce_9 : decode cX3_goOnce 9 = .ok (.istore_n 1, 1) := by decide +kernel
theorem dX3_goOnce_10 : decode cX3_goOnce 10 = .ok (.iload_n 1, 1) := by decide +kernel
theorem dX3_goOnce_11 : decode cX3_goOnce 11 = .ok (.ifCond .lt 71, 3) := by decide +kernel
theorem dX3_goOnce_14 : decode cX3_goOnce 14 = .ok (.aload_n 0, 1) := by decide +kernel
theorem dX3_goOnce_15 : decode cX3_goOnce 15 = .ok (.getfield 34, 3) := by decide +kernel
theorem dX3_goOnce_18 : decode cX3_goOnce 18 = .ok (.getfield 99, 3) := by decide +kernel
theorem dX3_goOnce_21 : decode cX3_goOnce 21 = .ok (.iconst 1, 1) := by decide +kernel
theorem dX3_goOnce_22 : decode cX3_goOnce 22 = .ok (.isub, 1) := by decide +kernel
theorem dX3_goOnce_23 : decode cX3_goOnce 23 = .ok (.istore_n 2, 1) := by decide +kernel
theorem dX3_goOnce_24 : decode cX3_goOnce 24 = .ok (.iload_n 2, 1) := by decide +kernel
theorem dX3_goOnce_25 : decode cX3_goOnce 25 = .ok (.ifCond .lt 51, 3) := by decide +kernel
theorem dX3_goOnce_28 : decode cX3_goOnce 28 = .ok (.aload_n 0, 1) := by decide +kernel
theorem dX3_goOnce_29 : decode cX3_goOnce 29 = .ok (.getfield 12, 3) := by decide +kernel
theorem dX3_goOnce_32 : decode cX3_goOnce 32 = .ok (.iload_n 1, 1) := by decide +kernel
theorem dX3_goOnce_33 : decode cX3_goOnce 33 = .ok (.aload_n 0, 1) := by decide +kernel
theorem dX3_goOnce_34 : decode cX3_goOnce 34 = .ok (.getfield 12, 3) := by decide +kernel
theorem dX3_goOnce_37 : decode cX3_goOnce 37 = .ok (.iload_n 2, 1) := by decide +kernel
theorem dX3_goOnce_38 : decode cX3_goOnce 38 = .ok (.invokevirtual 111, 3) := by decide +kernel
theorem dX3_goOnce_41 : decode cX3_goOnce 41 = .ok (.invokevirtual 114, 3) := by decide +kernel
theorem dX3_goOnce_44 : decode cX3_goOnce 44 = .ok (.istore_n 3, 1) := by decide +kernel
theorem dX3_goOnce_45 : decode cX3_goOnce 45 = .ok (.aload_n 0, 1) := by decide +kernel
theorem dX3_goOnce_46 : decode cX3_goOnce 46 = .ok (.getfield 34, 3) := by decide +kernel
theorem dX3_goOnce_49 : decode cX3_goOnce 49 = .ok (.iload_n 1, 1) := by decide +kernel
theorem dX3_goOnce_50 : decode cX3_goOnce 50 = .ok (.iload_n 2, 1) := by decide +kernel
theorem dX3_goOnce_51 : decode cX3_goOnce 51 = .ok (.invokestatic 117, 3) := by decide +kernel
theorem dX3_goOnce_54 : decode cX3_goOnce 54 = .ok (.aload_n 0, 1) := by decide +kernel
theorem dX3_goOnce_55 : decode cX3_goOnce 55 = .ok (.iload_n 1, 1) := by decide +kernel
theorem dX3_goOnce_56 : decode cX3_goOnce 56 = .ok (.iload_n 2, 1) := by decide +kernel
theorem dX3_goOnce_57 : decode cX3_goOnce 57 = .ok (.invokevirtual 120, 3) := by decide +kernel
theorem dX3_goOnce_60 : decode cX3_goOnce 60 = .ok (.aload_n 0, 1) := by decide +kernel
theorem dX3_goOnce_61 : decode cX3_goOnce 61 = .ok (.iload_n 1, 1) := by decide +kernel
theorem dX3_goOnce_62 : decode cX3_goOnce 62 = .ok (.iload_n 2, 1) := by decide +kernel
theorem dX3_goOnce_63 : decode cX3_goOnce 63 = .ok (.invokevirtual 123, 3) := by decide +kernel
theorem dX3_goOnce_66 : decode cX3_goOnce 66 = .ok (.iload_n 3, 1) := by decide +kernel
theorem dX3_goOnce_67 : decode cX3_goOnce 67 = .ok (.invokevirtual 126, 3) := by decide +kernel
theorem dX3_goOnce_70 : decode cX3_goOnce 70 = .ok (.iinc 2 (-1), 3) := by decide +kernel
theorem dX3_goOnce_73 : decode cX3_goOnce 73 = .ok (.goto (-49), 3) := by decide +kernel
theorem dX3_goOnce_76 : decode cX3_goOnce 76 = .ok (.iinc 1 (-1), 3) := by decide +kernel
theorem dX3_goOnce_79 : decode cX3_goOnce 79 = .ok (.goto (-69), 3) := by decide +kernel
theorem dX3_goOnce_82 : decode cX3_goOnce 82 = .ok (.aload_n 0, 1) := by decide +kernel
theorem dX3_goOnce_83 : decode cX3_goOnce 83 = .ok (.getfield 34, 3) := by decide +kernel
theorem dX3_goOnce_86 : decode cX3_goOnce 86 = .ok (.dup, 1) := by decide +kernel
theorem dX3_goOnce_87 : decode cX3_goOnce 87 = .ok (.getfield 130, 3) := by decide +kernel
theorem dX3_goOnce_90 : decode cX3_goOnce 90 = .ok (.iconst 1, 1) := by decide +kernel
theorem dX3_goOnce_91 : decode cX3_goOnce 91 = .ok (.iadd, 1) := by decide +kernel
theorem dX3_goOnce_92 : decode cX3_goOnce 92 = .ok (.putfield 130, 3) := by decide +kernel
theorem dX3_goOnce_95 : decode cX3_goOnce 95 = .ok (.return_, 1) := by decide +kernel
set_option maxRecDepth 20000 in
theorem ggX3_fromLeft_X5_cell : GoodIn wsX3_fromLeft wsX5_cell := goodIn_r _ [11] (by decide +kernel) (by decide +kernel)
set_option maxRecDepth 20000 in
theorem gX3_fromLeft_X5_cell : GoodIn wsX3_fromLeft (va_wsS RX3 117 yX5_cell wsX5_cell) := goodIn_app (goodIn_of _ (by decide +kernel)) ggX3_fromLeft_X5_cell
set_option maxRecDepth 20000 in
theorem ggX3_fromLeft_X5_rightwardOf : GoodIn wsX3_fromLeft wsX5_rightwardOf := goodIn_r _ [15, 16, 17, 18, 19, 10, 20, 38, 39, 40, 41, 42, 43, 44, 45, 46, 47, 48] (by decide +kernel) (by decide +kernel)
set_option maxRecDepth 20000 in
theorem gX3_fromLeft_X5_rightwardOf : GoodIn wsX3_fromLeft (wsV RX3 133 RX5 yX5_rightwardOf wsX5_rightwardOf) := goodIn_app (goodIn_of _ (by decide +kernel)) ggX3_fromLeft_X5_rightwardOf
set_option maxRecDepth 20000 in
theorem ggX3_fromLeft_X1_has : GoodIn wsX3_fromLeft wsX1_has := goodIn_r _ [25, 26, 27, 52, 53, 54] (by decide +kernel) (by decide +kernel)
set_option maxRecDepth 20000 in
theorem gX3_fromLeft_X1_has : GoodIn wsX3_fromLeft (wsV RX3 136 RX1 yX1_has wsX1_has) := goodIn_app (goodIn_of _ (by decide +kernel)) ggX3_fromLeft_X1_has
set_option maxRecDepth 20000 in
theorem ggX3_fromLeft_X1_at : GoodIn wsX3_fromLeft wsX1_at := goodIn_r _ [31, 26, 27, 32, 52, 53, 54] (by decide +kernel) (by decide +kernel)
set_option maxRecDepth 20000 in
theorem gX3_fromLeft_X1_at : GoodIn wsX3_fromLeft (wsV RX3 140 RX1 yX1_at wsX1_at) := goodIn_app (goodIn_of _ (by decide +kernel)) ggX3_fromLeft_X1_at
theorem dX3_fromLeft_0 : decode cX3_fromLeft 0 = .ok (.iload_n 2, 1) := by decide +kernel
theorem dX3_fromLeft_1 : decode cX3_fromLeft 1 = .ok (.ifCond .le 18, 3) := by decide +kernel
theorem dX3_fromLeft_4 : decode cX3_fromLeft 4 = .ok (.aload_n 0, 1) := by decide +kernel
theorem dX3_fromLeft_5 : decode cX3_fromLeft 5 = .ok (.getfield 34, 3) := by decide +kernel
theorem dX3_fromLeft_8 : decode cX3_fromLeft 8 = .ok (.iload_n 1, 1) := by decide +kernel
theorem dX3_fromLeft_9 : decode cX3_fromLeft 9 = .ok (.iload_n 2, 1) := by decide +kernel
theorem dX3_fromLeft_10 : decode cX3_fromLeft 10 = .ok (.iconst 1, 1) := by decide +kernel
theorem dX3_fromLeft_11 : decode cX3_fromLeft 11 = .ok (.isub, 1) := by decide +kernel
theorem dX3_fromLeft_12 : decode cX3_fromLeft 12 = .ok (.invokestatic 117, 3) := by decide +kernel
theorem dX3_fromLeft_15 : decode cX3_fromLeft 15 = .ok (.invokevirtual 133, 3) := by decide +kernel
theorem dX3_fromLeft_18 : decode cX3_fromLeft 18 = .ok (.ireturn, 1) := by decide +kernel
theorem dX3_fromLeft_19 : decode cX3_fromLeft 19 = .ok (.aload_n 0, 1) := by decide +kernel
theorem dX3_fromLeft_20 : decode cX3_fromLeft 20 = .ok (.getfield 34, 3) := by decide +kernel
theorem dX3_fromLeft_23 : decode cX3_fromLeft 23 = .ok (.getfield 84, 3) := by decide +kernel
theorem dX3_fromLeft_26 : decode cX3_fromLeft 26 = .ok (.aload_n 0, 1) := by decide +kernel
theorem dX3_fromLeft_27 : decode cX3_fromLeft 27 = .ok (.getfield 12, 3) := by decide +kernel
theorem dX3_fromLeft_30 : decode cX3_fromLeft 30 = .ok (.getfield 74, 3) := by decide +kernel
theorem dX3_fromLeft_33 : decode cX3_fromLeft 33 = .ok (.imul, 1) := by decide +kernel
theorem dX3_fromLeft_34 : decode cX3_fromLeft 34 = .ok (.iload_n 1, 1) := by decide +kernel
theorem dX3_fromLeft_35 : decode cX3_fromLeft 35 = .ok (.iadd, 1) := by decide +kernel
theorem dX3_fromLeft_36 : decode cX3_fromLeft 36 = .ok (.istore_n 3, 1) := by decide +kernel
theorem dX3_fromLeft_37 : decode cX3_fromLeft 37 = .ok (.aload_n 0, 1) := by decide +kernel
theorem dX3_fromLeft_38 : decode cX3_fromLeft 38 = .ok (.getfield 34, 3) := by decide +kernel
theorem dX3_fromLeft_41 : decode cX3_fromLeft 41 = .ok (.getfield 130, 3) := by decide +kernel
theorem dX3_fromLeft_44 : decode cX3_fromLeft 44 = .ok (.iload_n 1, 1) := by decide +kernel
theorem dX3_fromLeft_45 : decode cX3_fromLeft 45 = .ok (.isub, 1) := by decide +kernel
theorem dX3_fromLeft_46 : decode cX3_fromLeft 46 = .ok (.istore 4, 2) := by decide +kernel
theorem dX3_fromLeft_48 : decode cX3_fromLeft 48 = .ok (.aload_n 0, 1) := by decide +kernel
theorem dX3_fromLeft_49 : decode cX3_fromLeft 49 = .ok (.getfield 21, 3) := by decide +kernel
theorem dX3_fromLeft_52 : decode cX3_fromLeft 52 = .ok (.iload_n 3, 1) := by decide +kernel
theorem dX3_fromLeft_53 : decode cX3_fromLeft 53 = .ok (.iload 4, 2) := by decide +kernel
theorem dX3_fromLeft_55 : decode cX3_fromLeft 55 = .ok (.invokevirtual 136, 3) := by decide +kernel
theorem dX3_fromLeft_58 : decode cX3_fromLeft 58 = .ok (.ifCond .eq 16, 3) := by decide +kernel
theorem dX3_fromLeft_61 : decode cX3_fromLeft 61 = .ok (.aload_n 0, 1) := by decide +kernel
theorem dX3_fromLeft_62 : decode cX3_fromLeft 62 = .ok (.getfield 21, 3) := by decide +kernel
theorem dX3_fromLeft_65 : decode cX3_fromLeft 65 = .ok (.iload_n 3, 1) := by decide +kernel
theorem dX3_fromLeft_66 : decode cX3_fromLeft 66 = .ok (.iload 4, 2) := by decide +kernel
theorem dX3_fromLeft_68 : decode cX3_fromLeft 68 = .ok (.invokevirtual 140, 3) := by decide +kernel
theorem dX3_fromLeft_71 : decode cX3_fromLeft 71 = .ok (.goto 5, 3) := by decide +kernel
theorem dX3_fromLeft_74 : decode cX3_fromLeft 74 = .ok (.ldc 58, 2) := by decide +kernel
theorem dX3_fromLeft_76 : decode cX3_fromLeft 76 = .ok (.ireturn, 1) := by decide +kernel
set_option maxRecDepth 20000 in
theorem ggX3_fromAbove_X5_cell : GoodIn wsX3_fromAbove wsX5_cell := goodIn_r _ [11] (by decide +kernel) (by decide +kernel)
set_option maxRecDepth 20000 in
theorem gX3_fromAbove_X5_cell : GoodIn wsX3_fromAbove (va_wsS RX3 117 yX5_cell wsX5_cell) := goodIn_app (goodIn_of _ (by decide +kernel)) ggX3_fromAbove_X5_cell
set_option maxRecDepth 20000 in
theorem ggX3_fromAbove_X5_downwardOf : GoodIn wsX3_fromAbove wsX5_downwardOf := goodIn_r _ [15, 16, 17, 18, 19, 10, 20, 38, 39, 40, 41, 42, 43, 44, 45, 46, 47, 48] (by decide +kernel) (by decide +kernel)
set_option maxRecDepth 20000 in
theorem gX3_fromAbove_X5_downwardOf : GoodIn wsX3_fromAbove (wsV RX3 143 RX5 yX5_downwardOf wsX5_downwardOf) := goodIn_app (goodIn_of _ (by decide +kernel)) ggX3_fromAbove_X5_downwardOf
set_option maxRecDepth 20000 in
theorem ggX3_fromAbove_X1_has : GoodIn wsX3_fromAbove wsX1_has := goodIn_r _ [25, 26, 27, 52, 53, 54] (by decide +kernel) (by decide +kernel)
set_option maxRecDepth 20000 in
theorem gX3_fromAbove_X1_has : GoodIn wsX3_fromAbove (wsV RX3 136 RX1 yX1_has wsX1_has) := goodIn_app (goodIn_of _ (by decide +kernel)) ggX3_fromAbove_X1_has
set_option maxRecDepth 20000 in
theorem ggX3_fromAbove_X1_at : GoodIn wsX3_fromAbove wsX1_at := goodIn_r _ [31, 26, 27, 32, 52, 53, 54] (by decide +kernel) (by decide +kernel)
set_option maxRecDepth 20000 in
theorem gX3_fromAbove_X1_at : GoodIn wsX3_fromAbove (wsV RX3 140 RX1 yX1_at wsX1_at) := goodIn_app (goodIn_of _ (by decide +kernel)) ggX3_fromAbove_X1_at
theorem dX3_fromAbove_0 : decode cX3_fromAbove 0 = .ok (.iload_n 1, 1) := by decide +kernel
theorem dX3_fromAbove_1 : decode cX3_fromAbove 1 = .ok (.ifCond .le 18, 3) := by decide +kernel
theorem dX3_fromAbove_4 : decode cX3_fromAbove 4 = .ok (.aload_n 0, 1) := by decide +kernel
theorem dX3_fromAbove_5 : decode cX3_fromAbove 5 = .ok (.getfield 34, 3) := by decide +kernel
theorem dX3_fromAbove_8 : decode cX3_fromAbove 8 = .ok (.iload_n 1, 1) := by decide +kernel
theorem dX3_fromAbove_9 : decode cX3_fromAbove 9 = .ok (.iconst 1, 1) := by decide +kernel
theorem dX3_fromAbove_10 : decode cX3_fromAbove 10 = .ok (.isub, 1) := by decide +kernel
theorem dX3_fromAbove_11 : decode cX3_fromAbove 11 = .ok (.iload_n 2, 1) := by decide +kernel
theorem dX3_fromAbove_12 : decode cX3_fromAbove 12 = .ok (.invokestatic 117, 3) := by decide +kernel
theorem dX3_fromAbove_15 : decode cX3_fromAbove 15 = .ok (.invokevirtual 143, 3) := by decide +kernel
theorem dX3_fromAbove_18 : decode cX3_fromAbove 18 = .ok (.ireturn, 1) := by decide +kernel
theorem dX3_fromAbove_19 : decode cX3_fromAbove 19 = .ok (.aload_n 0, 1) := by decide +kernel
theorem dX3_fromAbove_20 : decode cX3_fromAbove 20 = .ok (.getfield 34, 3) := by decide +kernel
theorem dX3_fromAbove_23 : decode cX3_fromAbove 23 = .ok (.getfield 87, 3) := by decide +kernel
theorem dX3_fromAbove_26 : decode cX3_fromAbove 26 = .ok (.aload_n 0, 1) := by decide +kernel
theorem dX3_fromAbove_27 : decode cX3_fromAbove 27 = .ok (.getfield 12, 3) := by decide +kernel
theorem dX3_fromAbove_30 : decode cX3_fromAbove 30 = .ok (.getfield 74, 3) := by decide +kernel
theorem dX3_fromAbove_33 : decode cX3_fromAbove 33 = .ok (.imul, 1) := by decide +kernel
theorem dX3_fromAbove_34 : decode cX3_fromAbove 34 = .ok (.iload_n 2, 1) := by decide +kernel
theorem dX3_fromAbove_35 : decode cX3_fromAbove 35 = .ok (.iadd, 1) := by decide +kernel
theorem dX3_fromAbove_36 : decode cX3_fromAbove 36 = .ok (.istore_n 3, 1) := by decide +kernel
theorem dX3_fromAbove_37 : decode cX3_fromAbove 37 = .ok (.aload_n 0, 1) := by decide +kernel
theorem dX3_fromAbove_38 : decode cX3_fromAbove 38 = .ok (.getfield 34, 3) := by decide +kernel
theorem dX3_fromAbove_41 : decode cX3_fromAbove 41 = .ok (.getfield 130, 3) := by decide +kernel
theorem dX3_fromAbove_44 : decode cX3_fromAbove 44 = .ok (.iload_n 2, 1) := by decide +kernel
theorem dX3_fromAbove_45 : decode cX3_fromAbove 45 = .ok (.isub, 1) := by decide +kernel
theorem dX3_fromAbove_46 : decode cX3_fromAbove 46 = .ok (.istore 4, 2) := by decide +kernel
theorem dX3_fromAbove_48 : decode cX3_fromAbove 48 = .ok (.aload_n 0, 1) := by decide +kernel
theorem dX3_fromAbove_49 : decode cX3_fromAbove 49 = .ok (.getfield 25, 3) := by decide +kernel
theorem dX3_fromAbove_52 : decode cX3_fromAbove 52 = .ok (.iload 4, 2) := by decide +kernel
theorem dX3_fromAbove_54 : decode cX3_fromAbove 54 = .ok (.iload_n 3, 1) := by decide +kernel
theorem dX3_fromAbove_55 : decode cX3_fromAbove 55 = .ok (.invokevirtual 136, 3) := by decide +kernel
theorem dX3_fromAbove_58 : decode cX3_fromAbove 58 = .ok (.ifCond .eq 16, 3) := by decide +kernel
theorem dX3_fromAbove_61 : decode cX3_fromAbove 61 = .ok (.aload_n 0, 1) := by decide +kernel
theorem dX3_fromAbove_62 : decode cX3_fromAbove 62 = .ok (.getfield 25, 3) := by decide +kernel
theorem dX3_fromAbove_65 : decode cX3_fromAbove 65 = .ok (.iload 4, 2) := by decide +kernel
theorem dX3_fromAbove_67 : decode cX3_fromAbove 67 = .ok (.iload_n 3, 1) := by decide +kernel
theorem dX3_fromAbove_68 : decode cX3_fromAbove 68 = .ok (.invokevirtual 140, 3) := by decide +kernel
theorem dX3_fromAbove_71 : decode cX3_fromAbove 71 = .ok (.goto 5, 3) := by decide +kernel
theorem dX3_fromAbove_74 : decode cX3_fromAbove 74 = .ok (.ldc 58, 2) := by decide +kernel
theorem dX3_fromAbove_76 : decode cX3_fromAbove 76 = .ok (.ireturn, 1) := by decide +kernel
set_option maxRecDepth 20000 in
theorem ggX3_drainTile_X5_cell : GoodIn wsX3_drainTile wsX5_cell := goodIn_r _ [13] (by decide +kernel) (by decide +kernel)
set_option maxRecDepth 20000 in
theorem gX3_drainTile_X5_cell : GoodIn wsX3_drainTile (va_wsS RX3 117 yX5_cell wsX5_cell) := goodIn_app (goodIn_of _ (by decide +kernel)) ggX3_drainTile_X5_cell
set_option maxRecDepth 20000 in
theorem ggX3_drainTile_X5_sumOf : GoodIn wsX3_drainTile wsX5_sumOf := goodIn_r _ [17, 18, 19, 20, 12, 21, 39, 40, 41, 42, 43, 44, 45, 46, 47, 48, 49] (by decide +kernel) (by decide +kernel)
set_option maxRecDepth 20000 in
theorem gX3_drainTile_X5_sumOf : GoodIn wsX3_drainTile (wsV RX3 146 RX5 yX5_sumOf wsX5_sumOf) := goodIn_app (goodIn_of _ (by decide +kernel)) ggX3_drainTile_X5_sumOf
set_option maxRecDepth 20000 in
theorem ggX3_drainTile_X1_put : GoodIn wsX3_drainTile wsX1_put := goodIn_r _ [26, 27, 28, 29, 30, 25, 31, 32, 33, 53, 54, 55] (by decide +kernel) (by decide +kernel)
set_option maxRecDepth 20000 in
theorem gX3_drainTile_X1_put : GoodIn wsX3_drainTile (wsV RX3 149 RX1 yX1_put wsX1_put) := goodIn_app (goodIn_of _ (by decide +kernel)) ggX3_drainTile_X1_put
theorem dX3_drainTile_0 : decode cX3_drainTile 0 = .ok (.aload_n 0, 1) := by decide +kernel
theorem dX3_drainTile_1 : decode cX3_drainTile 1 = .ok (.getfield 34, 3) := by decide +kernel
theorem dX3_drainTile_4 : decode cX3_drainTile 4 = .ok (.getfield 84, 3) := by decide +kernel
theorem dX3_drainTile_7 : decode cX3_drainTile 7 = .ok (.aload_n 0, 1) := by decide +kernel
theorem dX3_drainTile_8 : decode cX3_drainTile 8 = .ok (.getfield 12, 3) := by decide +kernel
theorem dX3_drainTile_11 : decode cX3_drainTile 11 = .ok (.getfield 74, 3) := by decide +kernel
theorem dX3_drainTile_14 : decode cX3_drainTile 14 = .ok (.imul, 1) := by decide +kernel
theorem dX3_drainTile_15 : decode cX3_drainTile 15 = .ok (.istore_n 1, 1) := by decide +kernel
theorem dX3_drainTile_16 : decode cX3_drainTile 16 = .ok (.aload_n 0, 1) := by decide +kernel
theorem dX3_drainTile_17 : decode cX3_drainTile 17 = .ok (.getfield 34, 3) := by decide +kernel
theorem dX3_drainTile_20 : decode cX3_drainTile 20 = .ok (.getfield 87, 3) := by decide +kernel
theorem dX3_drainTile_23 : decode cX3_drainTile 23 = .ok (.aload_n 0, 1) := by decide +kernel
theorem dX3_drainTile_24 : decode cX3_drainTile 24 = .ok (.getfield 12, 3) := by decide +kernel
theorem dX3_drainTile_27 : decode cX3_drainTile 27 = .ok (.getfield 74, 3) := by decide +kernel
theorem dX3_drainTile_30 : decode cX3_drainTile 30 = .ok (.imul, 1) := by decide +kernel
theorem dX3_drainTile_31 : decode cX3_drainTile 31 = .ok (.istore_n 2, 1) := by decide +kernel
theorem dX3_drainTile_32 : decode cX3_drainTile 32 = .ok (.iconst 0, 1) := by decide +kernel
theorem dX3_drainTile_33 : decode cX3_drainTile 33 = .ok (.istore_n 3, 1) := by decide +kernel
theorem dX3_drainTile_34 : decode cX3_drainTile 34 = .ok (.iload_n 3, 1) := by decide +kernel
theorem dX3_drainTile_35 : decode cX3_drainTile 35 = .ok (.aload_n 0, 1) := by decide +kernel
theorem dX3_drainTile_36 : decode cX3_drainTile 36 = .ok (.getfield 34, 3) := by decide +kernel
theorem dX3_drainTile_39 : decode cX3_drainTile 39 = .ok (.getfield 96, 3) := by decide +kernel
theorem dX3_drainTile_42 : decode cX3_drainTile 42 = .ok (.if_icmp .ge 57, 3) := by decide +kernel
theorem dX3_drainTile_45 : decode cX3_drainTile 45 = .ok (.iconst 0, 1) := by decide +kernel
theorem dX3_drainTile_46 : decode cX3_drainTile 46 = .ok (.istore 4, 2) := by decide +kernel
theorem dX3_drainTile_48 : decode cX3_drainTile 48 = .ok (.iload 4, 2) := by decide +kernel
theorem dX3_drainTile_50 : decode cX3_drainTile 50 = .ok (.aload_n 0, 1) := by decide +kernel
theorem dX3_drainTile_51 : decode cX3_drainTile 51 = .ok (.getfield 34, 3) := by decide +kernel
theorem dX3_drainTile_54 : decode cX3_drainTile 54 = .ok (.getfield 99, 3) := by decide +kernel
theorem dX3_drainTile_57 : decode cX3_drainTile 57 = .ok (.if_icmp .ge 36, 3) := by decide +kernel
theorem dX3_drainTile_60 : decode cX3_drainTile 60 = .ok (.aload_n 0, 1) := by decide +kernel
theorem dX3_drainTile_61 : decode cX3_drainTile 61 = .ok (.getfield 28, 3) := by decide +kernel
theorem dX3_drainTile_64 : decode cX3_drainTile 64 = .ok (.iload_n 1, 1) := by decide +kernel
theorem dX3_drainTile_65 : decode cX3_drainTile 65 = .ok (.iload_n 3, 1) := by decide +kernel
theorem dX3_drainTile_66 : decode cX3_drainTile 66 = .ok (.iadd, 1) := by decide +kernel
theorem dX3_drainTile_67 : decode cX3_drainTile 67 = .ok (.iload_n 2, 1) := by decide +kernel
theorem dX3_drainTile_68 : decode cX3_drainTile 68 = .ok (.iload 4, 2) := by decide +kernel
theorem dX3_drainTile_70 : decode cX3_drainTile 70 = .ok (.iadd, 1) := by decide +kernel
theorem dX3_drainTile_71 : decode cX3_drainTile 71 = .ok (.aload_n 0, 1) := by decide +kernel
theorem dX3_drainTile_72 : decode cX3_drainTile 72 = .ok (.getfield 34, 3) := by decide +kernel
theorem dX3_drainTile_75 : decode cX3_drainTile 75 = .ok (.iload_n 3, 1) := by decide +kernel
theorem dX3_drainTile_76 : decode cX3_drainTile 76 = .ok (.iload 4, 2) := by decide +kernel
theorem dX3_drainTile_78 : decode cX3_drainTile 78 = .ok (.invokestatic 117, 3) := by decide +kernel
theorem dX3_drainTile_81 : decode cX3_drainTile 81 = .ok (.invokevirtual 146, 3) := by decide +kernel
theorem dX3_drainTile_84 : decode cX3_drainTile 84 = .ok (.invokevirtual 149, 3) := by decide +kernel
theorem dX3_drainTile_87 : decode cX3_drainTile 87 = .ok (.iinc 4 1, 3) := by decide +kernel
theorem dX3_drainTile_90 : decode cX3_drainTile 90 = .ok (.goto (-42), 3) := by decide +kernel
theorem dX3_drainTile_93 : decode cX3_drainTile 93 = .ok (.iinc 3 1, 3) := by decide +kernel
theorem dX3_drainTile_96 : decode cX3_drainTile 96 = .ok (.goto (-62), 3) := by decide +kernel
theorem dX3_drainTile_99 : decode cX3_drainTile 99 = .ok (.aload_n 0, 1) := by decide +kernel
theorem dX3_drainTile_100 : decode cX3_drainTile 100 = .ok (.getfield 34, 3) := by decide +kernel
theorem dX3_drainTile_103 : decode cX3_drainTile 103 = .ok (.iconst 0, 1) := by decide +kernel
theorem dX3_drainTile_104 : decode cX3_drainTile 104 = .ok (.putfield 80, 3) := by decide +kernel
theorem dX3_drainTile_107 : decode cX3_drainTile 107 = .ok (.return_, 1) := by decide +kernel
set_option maxRecDepth 20000 in
theorem ggX3_doAllTiles_X3_tilesDown : GoodIn wsX3_doAllTiles wsX3_tilesDown := goodIn_r _ [6, 7, 8, 9, 10, 11, 5, 12, 13, 14, 139, 140, 141, 142, 143, 144, 145, 146, 147, 148, 149] (by decide +kernel) (by decide +kernel)
set_option maxRecDepth 20000 in
theorem gX3_doAllTiles_X3_tilesDown : GoodIn wsX3_doAllTiles (wsV RX3 67 RX3 yX3_tilesDown wsX3_tilesDown) := goodIn_app (goodIn_of _ (by decide +kernel)) ggX3_doAllTiles_X3_tilesDown
set_option maxRecDepth 20000 in
theorem ggX3_doAllTiles_X3_tilesAcross : GoodIn wsX3_doAllTiles wsX3_tilesAcross := goodIn_r _ [18, 19, 20, 9, 10, 11, 5, 12, 13, 14, 139, 140, 141, 142, 143, 144, 145, 146, 147, 148, 149] (by decide +kernel) (by decide +kernel)
set_option maxRecDepth 20000 in
theorem gX3_doAllTiles_X3_tilesAcross : GoodIn wsX3_doAllTiles (wsV RX3 71 RX3 yX3_tilesAcross wsX3_tilesAcross) := goodIn_app (goodIn_of _ (by decide +kernel)) ggX3_doAllTiles_X3_tilesAcross
set_option maxRecDepth 20000 in
theorem ggX3_doAllTiles_X3_beginTile : GoodIn wsX3_doAllTiles wsX3_beginTile := goodIn_r _ [24, 1, 25, 26, 27, 13, 14, 7, 8, 28, 29, 30, 31, 32, 19, 20, 33, 34, 35, 36, 37, 38, 39, 40, 41, 42, 43, 44, 45, 46, 47, 48, 49, 139, 140, 141, 142, 143, 150, 151, 152, 153, 154, 155, 156, 157, 158, 159, 160, 147, 148, 149, 144, 145, 146] (by decide +kernel) (by decide +kernel)
set_option maxRecDepth 20000 in
theorem gX3_doAllTiles_X3_beginTile : GoodIn wsX3_doAllTiles (wsV RX3 152 RX3 yX3_beginTile wsX3_beginTile) := goodIn_app (goodIn_of _ (by decide +kernel)) ggX3_doAllTiles_X3_beginTile
set_option maxRecDepth 20000 in
theorem ggX3_doAllTiles_X5_ticksLeft : GoodIn wsX3_doAllTiles wsX5_ticksLeft := goodIn_r _ [53, 54, 45, 150, 151, 152, 153, 154, 155, 156, 157, 158, 159, 160] (by decide +kernel) (by decide +kernel)
set_option maxRecDepth 20000 in
theorem gX3_doAllTiles_X5_ticksLeft : GoodIn wsX3_doAllTiles (wsV RX3 105 RX5 yX5_ticksLeft wsX5_ticksLeft) := goodIn_app (goodIn_of _ (by decide +kernel)) ggX3_doAllTiles_X5_ticksLeft
set_option maxRecDepth 20000 in
theorem ggX3_doAllTiles_X3_goOn : GoodIn wsX3_doAllTiles wsX3_goOn := goodIn_r _ [58, 1, 28, 29, 30, 31, 50, 51, 52, 38, 53, 54, 45, 59, 60, 61, 5, 62, 32, 33, 13, 63, 64, 65, 66, 67, 68, 69, 70, 71, 72, 73, 74, 75, 76, 77, 78, 79, 80, 81, 82, 83, 84, 85, 86, 26, 14, 7, 87, 88, 89, 90, 91, 42, 43, 92, 93, 94, 95, 96, 97, 98, 99, 100, 101, 102, 103, 104, 105, 106, 107, 108, 109, 110, 27, 19, 111, 112, 113, 114, 44, 115, 116, 117, 118, 41, 40, 119, 120, 121, 122, 123, 124, 139, 140, 141, 142, 143, 150, 151, 152, 153, 154, 155, 156, 157, 158, 159, 160, 147, 148, 149, 144, 145, 146] (by decide +kernel) (by decide +kernel)
set_option maxRecDepth 20000 in
theorem gX3_doAllTiles_X3_goOn : GoodIn wsX3_doAllTiles (wsV RX3 156 RX3 yX3_goOn wsX3_goOn) := goodIn_app (goodIn_of _ (by decide +kernel)) ggX3_doAllTiles_X3_goOn
set_option maxRecDepth 20000 in
theorem ggX3_doAllTiles_X3_drainTile : GoodIn wsX3_doAllTiles wsX3_drainTile := goodIn_r _ [128, 1, 26, 13, 14, 27, 32, 33, 129, 25, 80, 81, 38, 82, 130, 131, 132, 133, 40, 92, 93, 94, 134, 135, 136, 98, 137, 106, 138, 96, 97, 99, 100, 101, 139, 140, 141, 142, 143, 150, 151, 152, 153, 154, 155, 156, 157, 158, 159, 160, 147, 148, 149, 144, 145, 146] (by decide +kernel) (by decide +kernel)
set_option maxRecDepth 20000 in
theorem gX3_doAllTiles_X3_drainTile : GoodIn wsX3_doAllTiles (wsV RX3 160 RX3 yX3_drainTile wsX3_drainTile) := goodIn_app (goodIn_of _ (by decide +kernel)) ggX3_doAllTiles_X3_drainTile
theorem dX3_doAllTiles_0 : decode cX3_doAllTiles 0 = .ok (.iconst 0, 1) := by decide +kernel
theorem dX3_doAllTiles_1 : decode cX3_doAllTiles 1 = .ok (.istore_n 1, 1) := by decide +kernel
theorem dX3_doAllTiles_2 : decode cX3_doAllTiles 2 = .ok (.aload_n 0, 1) := by decide +kernel
theorem dX3_doAllTiles_3 : decode cX3_doAllTiles 3 = .ok (.invokevirtual 67, 3) := by decide +kernel
theorem dX3_doAllTiles_6 : decode cX3_doAllTiles 6 = .ok (.istore_n 2, 1) := by decide +kernel
theorem dX3_doAllTiles_7 : decode cX3_doAllTiles 7 = .ok (.aload_n 0, 1) := by decide +kernel
theorem dX3_doAllTiles_8 : decode cX3_doAllTiles 8 = .ok (.invokevirtual 71, 3) := by decide +kernel
theorem dX3_doAllTiles_11 : decode cX3_doAllTiles 11 = .ok (.istore_n 3, 1) := by decide +kernel
theorem dX3_doAllTiles_12 : decode cX3_doAllTiles 12 = .ok (.iconst 0, 1) := by decide +kernel
theorem dX3_doAllTiles_13 : decode cX3_doAllTiles 13 = .ok (.istore 4, 2) := by decide +kernel
theorem dX3_doAllTiles_15 : decode cX3_doAllTiles 15 = .ok (.iload 4, 2) := by decide +kernel
theorem dX3_doAllTiles_17 : decode cX3_doAllTiles 17 = .ok (.iload_n 2, 1) := by decide +kernel
theorem dX3_doAllTiles_18 : decode cX3_doAllTiles 18 = .ok (.if_icmp .ge 57, 3) := by decide +kernel
theorem dX3_doAllTiles_21 : decode cX3_doAllTiles 21 = .ok (.iconst 0, 1) := by decide +kernel
theorem dX3_doAllTiles_22 : decode cX3_doAllTiles 22 = .ok (.istore 5, 2) := by decide +kernel
theorem dX3_doAllTiles_24 : decode cX3_doAllTiles 24 = .ok (.iload 5, 2) := by decide +kernel
theorem dX3_doAllTiles_26 : decode cX3_doAllTiles 26 = .ok (.iload_n 3, 1) := by decide +kernel
theorem dX3_doAllTiles_27 : decode cX3_doAllTiles 27 = .ok (.if_icmp .ge 42, 3) := by decide +kernel
theorem dX3_doAllTiles_30 : decode cX3_doAllTiles 30 = .ok (.aload_n 0, 1) := by decide +kernel
theorem dX3_doAllTiles_31 : decode cX3_doAllTiles 31 = .ok (.iload 4, 2) := by decide +kernel
theorem dX3_doAllTiles_33 : decode cX3_doAllTiles 33 = .ok (.iload 5, 2) := by decide +kernel
theorem dX3_doAllTiles_35 : decode cX3_doAllTiles 35 = .ok (.invokevirtual 152, 3) := by decide +kernel
theorem dX3_doAllTiles_38 : decode cX3_doAllTiles 38 = .ok (.iload_n 1, 1) := by decide +kernel
theorem dX3_doAllTiles_39 : decode cX3_doAllTiles 39 = .ok (.aload_n 0, 1) := by decide +kernel
theorem dX3_doAllTiles_40 : decode cX3_doAllTiles 40 = .ok (.getfield 34, 3) := by decide +kernel
theorem dX3_doAllTiles_43 : decode cX3_doAllTiles 43 = .ok (.invokevirtual 105, 3) := by decide +kernel
theorem dX3_doAllTiles_46 : decode cX3_doAllTiles 46 = .ok (.iadd, 1) := by decide +kernel
theorem dX3_doAllTiles_47 : decode cX3_doAllTiles 47 = .ok (.istore_n 1, 1) := by decide +kernel
theorem dX3_doAllTiles_48 : decode cX3_doAllTiles 48 = .ok (.aload_n 0, 1) := by decide +kernel
theorem dX3_doAllTiles_49 : decode cX3_doAllTiles 49 = .ok (.aload_n 0, 1) := by decide +kernel
theorem dX3_doAllTiles_50 : decode cX3_doAllTiles 50 = .ok (.getfield 34, 3) := by decide +kernel
theorem dX3_doAllTiles_53 : decode cX3_doAllTiles 53 = .ok (.invokevirtual 105, 3) := by decide +kernel
theorem dX3_doAllTiles_56 : decode cX3_doAllTiles 56 = .ok (.invokevirtual 156, 3) := by decide +kernel
theorem dX3_doAllTiles_59 : decode cX3_doAllTiles 59 = .ok (.aload_n 0, 1) := by decide +kernel
theorem dX3_doAllTiles_60 : decode cX3_doAllTiles 60 = .ok (.invokevirtual 160, 3) := by decide +kernel
theorem dX3_doAllTiles_63 : decode cX3_doAllTiles 63 = .ok (.iinc 5 1, 3) := by decide +kernel
theorem dX3_doAllTiles_66 : decode cX3_doAllTiles 66 = .ok (.goto (-42), 3) := by decide +kernel
theorem dX3_doAllTiles_69 : decode cX3_doAllTiles 69 = .ok (.iinc 4 1, 3) := by decide +kernel
theorem dX3_doAllTiles_72 : decode cX3_doAllTiles 72 = .ok (.goto (-57), 3) := by decide +kernel
theorem dX3_doAllTiles_75 : decode cX3_doAllTiles 75 = .ok (.iload_n 1, 1) := by decide +kernel
theorem dX3_doAllTiles_76 : decode cX3_doAllTiles 76 = .ok (.ireturn, 1) := by decide +kernel
set_option maxRecDepth 20000 in
theorem ggX3_dueAt_X1_at : GoodIn wsX3_dueAt wsX1_at := goodIn_r _ [8, 9, 10, 11, 17, 18, 19] (by decide +kernel) (by decide +kernel)
set_option maxRecDepth 20000 in
theorem gX3_dueAt_X1_at : GoodIn wsX3_dueAt (wsV RX3 140 RX1 yX1_at wsX1_at) := goodIn_app (goodIn_of _ (by decide +kernel)) ggX3_dueAt_X1_at
theorem dX3_dueAt_0 : decode cX3_dueAt 0 = .ok (.iconst 0, 1) := by decide +kernel
theorem dX3_dueAt_1 : decode cX3_dueAt 1 = .ok (.istore_n 3, 1) := by decide +kernel
theorem dX3_dueAt_2 : decode cX3_dueAt 2 = .ok (.iconst 0, 1) := by decide +kernel
theorem dX3_dueAt_3 : decode cX3_dueAt 3 = .ok (.istore 4, 2) := by decide +kernel
theorem dX3_dueAt_5 : decode cX3_dueAt 5 = .ok (.iload 4, 2) := by decide +kernel
theorem dX3_dueAt_7 : decode cX3_dueAt 7 = .ok (.aload_n 0, 1) := by decide +kernel
theorem dX3_dueAt_8 : decode cX3_dueAt 8 = .ok (.getfield 21, 3) := by decide +kernel
theorem dX3_dueAt_11 : decode cX3_dueAt 11 = .ok (.getfield 55, 3) := by decide +kernel
theorem dX3_dueAt_14 : decode cX3_dueAt 14 = .ok (.if_icmp .ge 33, 3) := by decide +kernel
theorem dX3_dueAt_17 : decode cX3_dueAt 17 = .ok (.iload_n 3, 1) := by decide +kernel
theorem dX3_dueAt_18 : decode cX3_dueAt 18 = .ok (.aload_n 0, 1) := by decide +kernel
theorem dX3_dueAt_19 : decode cX3_dueAt 19 = .ok (.getfield 21, 3) := by decide +kernel
theorem dX3_dueAt_22 : decode cX3_dueAt 22 = .ok (.iload_n 1, 1) := by decide +kernel
theorem dX3_dueAt_23 : decode cX3_dueAt 23 = .ok (.iload 4, 2) := by decide +kernel
theorem dX3_dueAt_25 : decode cX3_dueAt 25 = .ok (.invokevirtual 140, 3) := by decide +kernel
theorem dX3_dueAt_28 : decode cX3_dueAt 28 = .ok (.aload_n 0, 1) := by decide +kernel
theorem dX3_dueAt_29 : decode cX3_dueAt 29 = .ok (.getfield 25, 3) := by decide +kernel
theorem dX3_dueAt_32 : decode cX3_dueAt 32 = .ok (.iload 4, 2) := by decide +kernel
theorem dX3_dueAt_34 : decode cX3_dueAt 34 = .ok (.iload_n 2, 1) := by decide +kernel
theorem dX3_dueAt_35 : decode cX3_dueAt 35 = .ok (.invokevirtual 140, 3) := by decide +kernel
theorem dX3_dueAt_38 : decode cX3_dueAt 38 = .ok (.imul, 1) := by decide +kernel
theorem dX3_dueAt_39 : decode cX3_dueAt 39 = .ok (.iadd, 1) := by decide +kernel
theorem dX3_dueAt_40 : decode cX3_dueAt 40 = .ok (.istore_n 3, 1) := by decide +kernel
theorem dX3_dueAt_41 : decode cX3_dueAt 41 = .ok (.iinc 4 1, 3) := by decide +kernel
theorem dX3_dueAt_44 : decode cX3_dueAt 44 = .ok (.goto (-39), 3) := by decide +kernel
theorem dX3_dueAt_47 : decode cX3_dueAt 47 = .ok (.iload_n 3, 1) := by decide +kernel
theorem dX3_dueAt_48 : decode cX3_dueAt 48 = .ok (.ireturn, 1) := by decide +kernel
set_option maxRecDepth 20000 in
theorem ggX3_knownEntries_X1_at : GoodIn wsX3_knownEntries wsX1_at := goodIn_r _ [9, 10, 11, 12, 18, 19, 20] (by decide +kernel) (by decide +kernel)
set_option maxRecDepth 20000 in
theorem gX3_knownEntries_X1_at : GoodIn wsX3_knownEntries (wsV RX3 140 RX1 yX1_at wsX1_at) := goodIn_app (goodIn_of _ (by decide +kernel)) ggX3_knownEntries_X1_at
theorem dX3_knownEntries_0 : decode cX3_knownEntries 0 = .ok (.iconst 0, 1) := by decide +kernel
theorem dX3_knownEntries_1 : decode cX3_knownEntries 1 = .ok (.istore_n 1, 1) := by decide +kernel
theorem dX3_knownEntries_2 : decode cX3_knownEntries 2 = .ok (.iconst 0, 1) := by decide +kernel
theorem dX3_knownEntries_3 : decode cX3_knownEntries 3 = .ok (.istore_n 2, 1) := by decide +kernel
theorem dX3_knownEntries_4 : decode cX3_knownEntries 4 = .ok (.iload_n 2, 1) := by decide +kernel
theorem dX3_knownEntries_5 : decode cX3_knownEntries 5 = .ok (.aload_n 0, 1) := by decide +kernel
theorem dX3_knownEntries_6 : decode cX3_knownEntries 6 = .ok (.getfield 28, 3) := by decide +kernel
theorem dX3_knownEntries_9 : decode cX3_knownEntries 9 = .ok (.getfield 51, 3) := by decide +kernel
theorem dX3_knownEntries_12 : decode cX3_knownEntries 12 = .ok (.if_icmp .ge 45, 3) := by decide +kernel
theorem dX3_knownEntries_15 : decode cX3_knownEntries 15 = .ok (.iconst 0, 1) := by decide +kernel
theorem dX3_knownEntries_16 : decode cX3_knownEntries 16 = .ok (.istore_n 3, 1) := by decide +kernel
theorem dX3_knownEntries_17 : decode cX3_knownEntries 17 = .ok (.iload_n 3, 1) := by decide +kernel
theorem dX3_knownEntries_18 : decode cX3_knownEntries 18 = .ok (.aload_n 0, 1) := by decide +kernel
theorem dX3_knownEntries_19 : decode cX3_knownEntries 19 = .ok (.getfield 28, 3) := by decide +kernel
theorem dX3_knownEntries_22 : decode cX3_knownEntries 22 = .ok (.getfield 55, 3) := by decide +kernel
theorem dX3_knownEntries_25 : decode cX3_knownEntries 25 = .ok (.if_icmp .ge 26, 3) := by decide +kernel
theorem dX3_knownEntries_28 : decode cX3_knownEntries 28 = .ok (.aload_n 0, 1) := by decide +kernel
theorem dX3_knownEntries_29 : decode cX3_knownEntries 29 = .ok (.getfield 28, 3) := by decide +kernel
theorem dX3_knownEntries_32 : decode cX3_knownEntries 32 = .ok (.iload_n 2, 1) := by decide +kernel
theorem dX3_knownEntries_33 : decode cX3_knownEntries 33 = .ok (.iload_n 3, 1) := by decide +kernel
theorem dX3_knownEntries_34 : decode cX3_knownEntries 34 = .ok (.invokevirtual 140, 3) := by decide +kernel
theorem dX3_knownEntries_37 : decode cX3_knownEntries 37 = .ok (.ldc 58, 2) := by decide +kernel
theorem dX3_knownEntries_39 : decode cX3_knownEntries 39 = .ok (.if_icmp .eq 6, 3) := by decide +kernel
theorem dX3_knownEntries_42 : decode cX3_knownEntries 42 = .ok (.iinc 1 1, 3) := by decide +kernel
theorem dX3_knownEntries_45 : decode cX3_knownEntries 45 = .ok (.iinc 3 1, 3) := by decide +kernel
theorem dX3_knownEntries_48 : decode cX3_knownEntries 48 = .ok (.goto (-31), 3) := by decide +kernel
theorem dX3_knownEntries_51 : decode cX3_knownEntries 51 = .ok (.iinc 2 1, 3) := by decide +kernel
theorem dX3_knownEntries_54 : decode cX3_knownEntries 54 = .ok (.goto (-50), 3) := by decide +kernel
theorem dX3_knownEntries_57 : decode cX3_knownEntries 57 = .ok (.iload_n 1, 1) := by decide +kernel
theorem dX3_knownEntries_58 : decode cX3_knownEntries 58 = .ok (.ireturn, 1) := by decide +kernel
set_option maxRecDepth 20000 in
theorem ggX3_wrongEntries_X1_at : GoodIn wsX3_wrongEntries wsX1_at := goodIn_r _ [9, 10, 11, 12, 25, 26, 27] (by decide +kernel) (by decide +kernel)
set_option maxRecDepth 20000 in
theorem gX3_wrongEntries_X1_at : GoodIn wsX3_wrongEntries (wsV RX3 140 RX1 yX1_at wsX1_at) := goodIn_app (goodIn_of _ (by decide +kernel)) ggX3_wrongEntries_X1_at
set_option maxRecDepth 20000 in
theorem ggX3_wrongEntries_X3_dueAt : GoodIn wsX3_wrongEntries wsX3_dueAt := goodIn_r _ [17, 18, 3, 19, 5, 6, 7, 8, 9, 10, 11, 12, 20, 21, 22, 23, 24, 25, 26, 27] (by decide +kernel) (by decide +kernel)
set_option maxRecDepth 20000 in
theorem gX3_wrongEntries_X3_dueAt : GoodIn wsX3_wrongEntries (wsV RX3 163 RX3 yX3_dueAt wsX3_dueAt) := goodIn_app (goodIn_of _ (by decide +kernel)) ggX3_wrongEntries_X3_dueAt
theorem dX3_wrongEntries_0 : decode cX3_wrongEntries 0 = .ok (.iconst 0, 1) := by decide +kernel
theorem dX3_wrongEntries_1 : decode cX3_wrongEntries 1 = .ok (.istore_n 1, 1) := by decide +kernel
theorem dX3_wrongEntries_2 : decode cX3_wrongEntries 2 = .ok (.iconst 0, 1) := by decide +kernel
theorem dX3_wrongEntries_3 : decode cX3_wrongEntries 3 = .ok (.istore_n 2, 1) := by decide +kernel
theorem dX3_wrongEntries_4 : decode cX3_wrongEntries 4 = .ok (.iload_n 2, 1) := by decide +kernel
theorem dX3_wrongEntries_5 : decode cX3_wrongEntries 5 = .ok (.aload_n 0, 1) := by decide +kernel
theorem dX3_wrongEntries_6 : decode cX3_wrongEntries 6 = .ok (.getfield 28, 3) := by decide +kernel
theorem dX3_wrongEntries_9 : decode cX3_wrongEntries 9 = .ok (.getfield 51, 3) := by decide +kernel
theorem dX3_wrongEntries_12 : decode cX3_wrongEntries 12 = .ok (.if_icmp .ge 60, 3) := by decide +kernel
theorem dX3_wrongEntries_15 : decode cX3_wrongEntries 15 = .ok (.iconst 0, 1) := by decide +kernel
theorem dX3_wrongEntries_16 : decode cX3_wrongEntries 16 = .ok (.istore_n 3, 1) := by decide +kernel
theorem dX3_wrongEntries_17 : decode cX3_wrongEntries 17 = .ok (.iload_n 3, 1) := by decide +kernel
theorem dX3_wrongEntries_18 : decode cX3_wrongEntries 18 = .ok (.aload_n 0, 1) := by decide +kernel
theorem dX3_wrongEntries_19 : decode cX3_wrongEntries 19 = .ok (.getfield 28, 3) := by decide +kernel
theorem dX3_wrongEntries_22 : decode cX3_wrongEntries 22 = .ok (.getfield 55, 3) := by decide +kernel
theorem dX3_wrongEntries_25 : decode cX3_wrongEntries 25 = .ok (.if_icmp .ge 41, 3) := by decide +kernel
theorem dX3_wrongEntries_28 : decode cX3_wrongEntries 28 = .ok (.aload_n 0, 1) := by decide +kernel
theorem dX3_wrongEntries_29 : decode cX3_wrongEntries 29 = .ok (.getfield 28, 3) := by decide +kernel
theorem dX3_wrongEntries_32 : decode cX3_wrongEntries 32 = .ok (.iload_n 2, 1) := by decide +kernel
theorem dX3_wrongEntries_33 : decode cX3_wrongEntries 33 = .ok (.iload_n 3, 1) := by decide +kernel
theorem dX3_wrongEntries_34 : decode cX3_wrongEntries 34 = .ok (.invokevirtual 140, 3) := by decide +kernel
theorem dX3_wrongEntries_37 : decode cX3_wrongEntries 37 = .ok (.istore 4, 2) := by decide +kernel
theorem dX3_wrongEntries_39 : decode cX3_wrongEntries 39 = .ok (.iload 4, 2) := by decide +kernel
theorem dX3_wrongEntries_41 : decode cX3_wrongEntries 41 = .ok (.ldc 58, 2) := by decide +kernel
theorem dX3_wrongEntries_43 : decode cX3_wrongEntries 43 = .ok (.if_icmp .eq 17, 3) := by decide +kernel
theorem dX3_wrongEntries_46 : decode cX3_wrongEntries 46 = .ok (.iload 4, 2) := by decide +kernel
theorem dX3_wrongEntries_48 : decode cX3_wrongEntries 48 = .ok (.aload_n 0, 1) := by decide +kernel
theorem dX3_wrongEntries_49 : decode cX3_wrongEntries 49 = .ok (.iload_n 2, 1) := by decide +kernel
theorem dX3_wrongEntries_50 : decode cX3_wrongEntries 50 = .ok (.iload_n 3, 1) := by decide +kernel
theorem dX3_wrongEntries_51 : decode cX3_wrongEntries 51 = .ok (.invokevirtual 163, 3) := by decide +kernel
theorem dX3_wrongEntries_54 : decode cX3_wrongEntries 54 = .ok (.if_icmp .eq 6, 3) := by decide +kernel
theorem dX3_wrongEntries_57 : decode cX3_wrongEntries 57 = .ok (.iinc 1 1, 3) := by decide +kernel
theorem dX3_wrongEntries_60 : decode cX3_wrongEntries 60 = .ok (.iinc 3 1, 3) := by decide +kernel
theorem dX3_wrongEntries_63 : decode cX3_wrongEntries 63 = .ok (.goto (-46), 3) := by decide +kernel
theorem dX3_wrongEntries_66 : decode cX3_wrongEntries 66 = .ok (.iinc 2 1, 3) := by decide +kernel
theorem dX3_wrongEntries_69 : decode cX3_wrongEntries 69 = .ok (.goto (-65), 3) := by decide +kernel
theorem dX3_wrongEntries_72 : decode cX3_wrongEntries 72 = .ok (.iload_n 1, 1) := by decide +kernel
theorem dX3_wrongEntries_73 : decode cX3_wrongEntries 73 = .ok (.ireturn, 1) := by decide +kernel
set_option maxRecDepth 20000 in
theorem ggX3_suspectRows_X1_isWholeInRow : GoodIn wsX3_suspectRows wsX1_isWholeInRow := goodIn_r _ [7, 8, 9, 10, 11, 12, 6, 13, 14, 15, 34, 35, 36] (by decide +kernel) (by decide +kernel)
set_option maxRecDepth 20000 in
theorem gX3_suspectRows_X1_isWholeInRow : GoodIn wsX3_suspectRows (wsV RX3 166 RX1 yX1_isWholeInRow wsX1_isWholeInRow) := goodIn_app (goodIn_of _ (by decide +kernel)) ggX3_suspectRows_X1_isWholeInRow
set_option maxRecDepth 20000 in
theorem ggX3_suspectRows_X1_sumOfRow : GoodIn wsX3_suspectRows wsX1_sumOfRow := goodIn_r _ [19, 8, 10, 11, 12, 6, 13, 14, 15, 34, 35, 36] (by decide +kernel) (by decide +kernel)
set_option maxRecDepth 20000 in
theorem gX3_suspectRows_X1_sumOfRow : GoodIn wsX3_suspectRows (wsV RX3 170 RX1 yX1_sumOfRow wsX1_sumOfRow) := goodIn_app (goodIn_of _ (by decide +kernel)) ggX3_suspectRows_X1_sumOfRow
set_option maxRecDepth 20000 in
theorem ggX3_suspectRows_X3_dueSumOfRow : GoodIn wsX3_suspectRows wsX3_dueSumOfRow := goodIn_r _ [24, 25, 26, 27, 28, 11, 12, 6, 13, 14, 8, 15, 16, 17, 18, 19, 10, 29, 30, 31, 32, 33, 34, 35, 36] (by decide +kernel) (by decide +kernel)
set_option maxRecDepth 20000 in
theorem gX3_suspectRows_X3_dueSumOfRow : GoodIn wsX3_suspectRows (wsV RX3 173 RX3 yX3_dueSumOfRow wsX3_dueSumOfRow) := goodIn_app (goodIn_of _ (by decide +kernel)) ggX3_suspectRows_X3_dueSumOfRow
theorem dX3_suspectRows_0 : decode cX3_suspectRows 0 = .ok (.iconst 0, 1) := by decide +kernel
theorem dX3_suspectRows_1 : decode cX3_suspectRows 1 = .ok (.istore_n 1, 1) := by decide +kernel
theorem dX3_suspectRows_2 : decode cX3_suspectRows 2 = .ok (.iconst 0, 1) := by decide +kernel
theorem dX3_suspectRows_3 : decode cX3_suspectRows 3 = .ok (.istore_n 2, 1) := by decide +kernel
theorem dX3_suspectRows_4 : decode cX3_suspectRows 4 = .ok (.iload_n 2, 1) := by decide +kernel
theorem dX3_suspectRows_5 : decode cX3_suspectRows 5 = .ok (.aload_n 0, 1) := by decide +kernel
theorem dX3_suspectRows_6 : decode cX3_suspectRows 6 = .ok (.getfield 28, 3) := by decide +kernel
theorem dX3_suspectRows_9 : decode cX3_suspectRows 9 = .ok (.getfield 51, 3) := by decide +kernel
theorem dX3_suspectRows_12 : decode cX3_suspectRows 12 = .ok (.if_icmp .ge 42, 3) := by decide +kernel
theorem dX3_suspectRows_15 : decode cX3_suspectRows 15 = .ok (.aload_n 0, 1) := by decide +kernel
theorem dX3_suspectRows_16 : decode cX3_suspectRows 16 = .ok (.getfield 28, 3) := by decide +kernel
theorem dX3_suspectRows_19 : decode cX3_suspectRows 19 = .ok (.iload_n 2, 1) := by decide +kernel
theorem dX3_suspectRows_20 : decode cX3_suspectRows 20 = .ok (.invokevirtual 166, 3) := by decide +kernel
theorem dX3_suspectRows_23 : decode cX3_suspectRows 23 = .ok (.ifCond .eq 25, 3) := by decide +kernel
theorem dX3_suspectRows_26 : decode cX3_suspectRows 26 = .ok (.aload_n 0, 1) := by decide +kernel
theorem dX3_suspectRows_27 : decode cX3_suspectRows 27 = .ok (.getfield 28, 3) := by decide +kernel
theorem dX3_suspectRows_30 : decode cX3_suspectRows 30 = .ok (.iload_n 2, 1) := by decide +kernel
theorem dX3_suspectRows_31 : decode cX3_suspectRows 31 = .ok (.invokevirtual 170, 3) := by decide +kernel
theorem dX3_suspectRows_34 : decode cX3_suspectRows 34 = .ok (.aload_n 0, 1) := by decide +kernel
theorem dX3_suspectRows_35 : decode cX3_suspectRows 35 = .ok (.iload_n 2, 1) := by decide +kernel
theorem dX3_suspectRows_36 : decode cX3_suspectRows 36 = .ok (.invokevirtual 173, 3) := by decide +kernel
theorem dX3_suspectRows_39 : decode cX3_suspectRows 39 = .ok (.if_icmp .eq 9, 3) := by decide +kernel
theorem dX3_suspectRows_42 : decode cX3_suspectRows 42 = .ok (.iload_n 1, 1) := by decide +kernel
theorem dX3_suspectRows_43 : decode cX3_suspectRows 43 = .ok (.iconst 1, 1) := by decide +kernel
theorem dX3_suspectRows_44 : decode cX3_suspectRows 44 = .ok (.iload_n 2, 1) := by decide +kernel
theorem dX3_suspectRows_45 : decode cX3_suspectRows 45 = .ok (.ishl, 1) := by decide +kernel
theorem dX3_suspectRows_46 : decode cX3_suspectRows 46 = .ok (.ior, 1) := by decide +kernel
theorem dX3_suspectRows_47 : decode cX3_suspectRows 47 = .ok (.istore_n 1, 1) := by decide +kernel
theorem dX3_suspectRows_48 : decode cX3_suspectRows 48 = .ok (.iinc 2 1, 3) := by decide +kernel
theorem dX3_suspectRows_51 : decode cX3_suspectRows 51 = .ok (.goto (-47), 3) := by decide +kernel
theorem dX3_suspectRows_54 : decode cX3_suspectRows 54 = .ok (.iload_n 1, 1) := by decide +kernel
theorem dX3_suspectRows_55 : decode cX3_suspectRows 55 = .ok (.ireturn, 1) := by decide +kernel
set_option maxRecDepth 20000 in
theorem ggX3_suspectColumns_X1_isWholeInColumn : GoodIn wsX3_suspectColumns wsX1_isWholeInColumn := goodIn_r _ [7, 8, 9, 10, 11, 12, 6, 13, 14, 15, 33, 34, 35] (by decide +kernel) (by decide +kernel)
set_option maxRecDepth 20000 in
theorem gX3_suspectColumns_X1_isWholeInColumn : GoodIn wsX3_suspectColumns (wsV RX3 176 RX1 yX1_isWholeInColumn wsX1_isWholeInColumn) := goodIn_app (goodIn_of _ (by decide +kernel)) ggX3_suspectColumns_X1_isWholeInColumn
set_option maxRecDepth 20000 in
theorem ggX3_suspectColumns_X1_sumOfColumn : GoodIn wsX3_suspectColumns wsX1_sumOfColumn := goodIn_r _ [19, 8, 10, 11, 12, 6, 13, 14, 15, 33, 34, 35] (by decide +kernel) (by decide +kernel)
set_option maxRecDepth 20000 in
theorem gX3_suspectColumns_X1_sumOfColumn : GoodIn wsX3_suspectColumns (wsV RX3 179 RX1 yX1_sumOfColumn wsX1_sumOfColumn) := goodIn_app (goodIn_of _ (by decide +kernel)) ggX3_suspectColumns_X1_sumOfColumn
set_option maxRecDepth 20000 in
theorem ggX3_suspectColumns_X3_dueSumOfColumn : GoodIn wsX3_suspectColumns wsX3_dueSumOfColumn := goodIn_r _ [24, 25, 2, 26, 16, 17, 18, 6, 19, 8, 10, 11, 12, 13, 14, 15, 27, 28, 29, 30, 31, 32, 33, 34, 35] (by decide +kernel) (by decide +kernel)
set_option maxRecDepth 20000 in
theorem gX3_suspectColumns_X3_dueSumOfColumn : GoodIn wsX3_suspectColumns (wsV RX3 182 RX3 yX3_dueSumOfColumn wsX3_dueSumOfColumn) := goodIn_app (goodIn_of _ (by decide +kernel)) ggX3_suspectColumns_X3_dueSumOfColumn
theorem dX3_suspectColumns_0 : decode cX3_suspectColumns 0 = .ok (.iconst 0, 1) := by decide +kernel
theorem dX3_suspectColumns_1 : decode cX3_suspectColumns 1 = .ok (.istore_n 1, 1) := by decide +kernel
theorem dX3_suspectColumns_2 : decode cX3_suspectColumns 2 = .ok (.iconst 0, 1) := by decide +kernel
theorem dX3_suspectColumns_3 : decode cX3_suspectColumns 3 = .ok (.istore_n 2, 1) := by decide +kernel
theorem dX3_suspectColumns_4 : decode cX3_suspectColumns 4 = .ok (.iload_n 2, 1) := by decide +kernel
theorem dX3_suspectColumns_5 : decode cX3_suspectColumns 5 = .ok (.aload_n 0, 1) := by decide +kernel
theorem dX3_suspectColumns_6 : decode cX3_suspectColumns 6 = .ok (.getfield 28, 3) := by decide +kernel
theorem dX3_suspectColumns_9 : decode cX3_suspectColumns 9 = .ok (.getfield 55, 3) := by decide +kernel
theorem dX3_suspectColumns_12 : decode cX3_suspectColumns 12 = .ok (.if_icmp .ge 42, 3) := by decide +kernel
theorem dX3_suspectColumns_15 : decode cX3_suspectColumns 15 = .ok (.aload_n 0, 1) := by decide +kernel
theorem dX3_suspectColumns_16 : decode cX3_suspectColumns 16 = .ok (.getfield 28, 3) := by decide +kernel
theorem dX3_suspectColumns_19 : decode cX3_suspectColumns 19 = .ok (.iload_n 2, 1) := by decide +kernel
theorem dX3_suspectColumns_20 : decode cX3_suspectColumns 20 = .ok (.invokevirtual 176, 3) := by decide +kernel
theorem dX3_suspectColumns_23 : decode cX3_suspectColumns 23 = .ok (.ifCond .eq 25, 3) := by decide +kernel
theorem dX3_suspectColumns_26 : decode cX3_suspectColumns 26 = .ok (.aload_n 0, 1) := by decide +kernel
theorem dX3_suspectColumns_27 : decode cX3_suspectColumns 27 = .ok (.getfield 28, 3) := by decide +kernel
theorem dX3_suspectColumns_30 : decode cX3_suspectColumns 30 = .ok (.iload_n 2, 1) := by decide +kernel
theorem dX3_suspectColumns_31 : decode cX3_suspectColumns 31 = .ok (.invokevirtual 179, 3) := by decide +kernel
theorem dX3_suspectColumns_34 : decode cX3_suspectColumns 34 = .ok (.aload_n 0, 1) := by decide +kernel
theorem dX3_suspectColumns_35 : decode cX3_suspectColumns 35 = .ok (.iload_n 2, 1) := by decide +kernel
theorem dX3_suspectColumns_36 : decode cX3_suspectColumns 36 = .ok (.invokevirtual 182, 3) := by decide +kernel
theorem dX3_suspectColumns_39 : decode cX3_suspectColumns 39 = .ok (.if_icmp .eq 9, 3) := by decide +kernel
theorem dX3_suspectColumns_42 : decode cX3_suspectColumns 42 = .ok (.iload_n 1, 1) := by decide +kernel
theorem dX3_suspectColumns_43 : decode cX3_suspectColumns 43 = .ok (.iconst 1, 1) := by decide +kernel
theorem dX3_suspectColumns_44 : decode cX3_suspectColumns 44 = .ok (.iload_n 2, 1) := by decide +kernel
theorem dX3_suspectColumns_45 : decode cX3_suspectColumns 45 = .ok (.ishl, 1) := by decide +kernel
theorem dX3_suspectColumns_46 : decode cX3_suspectColumns 46 = .ok (.ior, 1) := by decide +kernel
theorem dX3_suspectColumns_47 : decode cX3_suspectColumns 47 = .ok (.istore_n 1, 1) := by decide +kernel
theorem dX3_suspectColumns_48 : decode cX3_suspectColumns 48 = .ok (.iinc 2 1, 3) := by decide +kernel
theorem dX3_suspectColumns_51 : decode cX3_suspectColumns 51 = .ok (.goto (-47), 3) := by decide +kernel
theorem dX3_suspectColumns_54 : decode cX3_suspectColumns 54 = .ok (.iload_n 1, 1) := by decide +kernel
theorem dX3_suspectColumns_55 : decode cX3_suspectColumns 55 = .ok (.ireturn, 1) := by decide +kernel
set_option maxRecDepth 20000 in
theorem ggX3_dueSumOfRow_X1_at : GoodIn wsX3_dueSumOfRow wsX1_at := goodIn_r _ [8, 9, 10, 11, 22, 23, 24] (by decide +kernel) (by decide +kernel)
set_option maxRecDepth 20000 in
theorem gX3_dueSumOfRow_X1_at : GoodIn wsX3_dueSumOfRow (wsV RX3 140 RX1 yX1_at wsX1_at) := goodIn_app (goodIn_of _ (by decide +kernel)) ggX3_dueSumOfRow_X1_at
set_option maxRecDepth 20000 in
theorem ggX3_dueSumOfRow_X1_sumOfRow : GoodIn wsX3_dueSumOfRow wsX1_sumOfRow := goodIn_r _ [15, 10, 16, 5, 6, 7, 8, 9, 11, 22, 23, 24] (by decide +kernel) (by decide +kernel)
set_option maxRecDepth 20000 in
theorem gX3_dueSumOfRow_X1_sumOfRow : GoodIn wsX3_dueSumOfRow (wsV RX3 170 RX1 yX1_sumOfRow wsX1_sumOfRow) := goodIn_app (goodIn_of _ (by decide +kernel)) ggX3_dueSumOfRow_X1_sumOfRow
theorem dX3_dueSumOfRow_0 : decode cX3_dueSumOfRow 0 = .ok (.iconst 0, 1) := by decide +kernel
theorem dX3_dueSumOfRow_1 : decode cX3_dueSumOfRow 1 = .ok (.istore_n 2, 1) := by decide +kernel
theorem dX3_dueSumOfRow_2 : decode cX3_dueSumOfRow 2 = .ok (.iconst 0, 1) := by decide +kernel
theorem dX3_dueSumOfRow_3 : decode cX3_dueSumOfRow 3 = .ok (.istore_n 3, 1) := by decide +kernel
theorem dX3_dueSumOfRow_4 : decode cX3_dueSumOfRow 4 = .ok (.iload_n 3, 1) := by decide +kernel
theorem dX3_dueSumOfRow_5 : decode cX3_dueSumOfRow 5 = .ok (.aload_n 0, 1) := by decide +kernel
theorem dX3_dueSumOfRow_6 : decode cX3_dueSumOfRow 6 = .ok (.getfield 21, 3) := by decide +kernel
theorem dX3_dueSumOfRow_9 : decode cX3_dueSumOfRow 9 = .ok (.getfield 55, 3) := by decide +kernel
theorem dX3_dueSumOfRow_12 : decode cX3_dueSumOfRow 12 = .ok (.if_icmp .ge 30, 3) := by decide +kernel
theorem dX3_dueSumOfRow_15 : decode cX3_dueSumOfRow 15 = .ok (.iload_n 2, 1) := by decide +kernel
theorem dX3_dueSumOfRow_16 : decode cX3_dueSumOfRow 16 = .ok (.aload_n 0, 1) := by decide +kernel
theorem dX3_dueSumOfRow_17 : decode cX3_dueSumOfRow 17 = .ok (.getfield 21, 3) := by decide +kernel
theorem dX3_dueSumOfRow_20 : decode cX3_dueSumOfRow 20 = .ok (.iload_n 1, 1) := by decide +kernel
theorem dX3_dueSumOfRow_21 : decode cX3_dueSumOfRow 21 = .ok (.iload_n 3, 1) := by decide +kernel
theorem dX3_dueSumOfRow_22 : decode cX3_dueSumOfRow 22 = .ok (.invokevirtual 140, 3) := by decide +kernel
theorem dX3_dueSumOfRow_25 : decode cX3_dueSumOfRow 25 = .ok (.aload_n 0, 1) := by decide +kernel
theorem dX3_dueSumOfRow_26 : decode cX3_dueSumOfRow 26 = .ok (.getfield 25, 3) := by decide +kernel
theorem dX3_dueSumOfRow_29 : decode cX3_dueSumOfRow 29 = .ok (.iload_n 3, 1) := by decide +kernel
theorem dX3_dueSumOfRow_30 : decode cX3_dueSumOfRow 30 = .ok (.invokevirtual 170, 3) := by decide +kernel
theorem dX3_dueSumOfRow_33 : decode cX3_dueSumOfRow 33 = .ok (.imul, 1) := by decide +kernel
theorem dX3_dueSumOfRow_34 : decode cX3_dueSumOfRow 34 = .ok (.iadd, 1) := by decide +kernel
theorem dX3_dueSumOfRow_35 : decode cX3_dueSumOfRow 35 = .ok (.istore_n 2, 1) := by decide +kernel
theorem dX3_dueSumOfRow_36 : decode cX3_dueSumOfRow 36 = .ok (.iinc 3 1, 3) := by decide +kernel
theorem dX3_dueSumOfRow_39 : decode cX3_dueSumOfRow 39 = .ok (.goto (-35), 3) := by decide +kernel
theorem dX3_dueSumOfRow_42 : decode cX3_dueSumOfRow 42 = .ok (.iload_n 2, 1) := by decide +kernel
theorem dX3_dueSumOfRow_43 : decode cX3_dueSumOfRow 43 = .ok (.ireturn, 1) := by decide +kernel
set_option maxRecDepth 20000 in
theorem ggX3_dueSumOfColumn_X1_sumOfColumn : GoodIn wsX3_dueSumOfColumn wsX1_sumOfColumn := goodIn_r _ [8, 9, 10, 11, 12, 7, 13, 14, 15, 22, 23, 24] (by decide +kernel) (by decide +kernel)
set_option maxRecDepth 20000 in
theorem gX3_dueSumOfColumn_X1_sumOfColumn : GoodIn wsX3_dueSumOfColumn (wsV RX3 179 RX1 yX1_sumOfColumn wsX1_sumOfColumn) := goodIn_app (goodIn_of _ (by decide +kernel)) ggX3_dueSumOfColumn_X1_sumOfColumn
set_option maxRecDepth 20000 in
theorem ggX3_dueSumOfColumn_X1_at : GoodIn wsX3_dueSumOfColumn wsX1_at := goodIn_r _ [13, 9, 14, 15, 22, 23, 24] (by decide +kernel) (by decide +kernel)
set_option maxRecDepth 20000 in
theorem gX3_dueSumOfColumn_X1_at : GoodIn wsX3_dueSumOfColumn (wsV RX3 140 RX1 yX1_at wsX1_at) := goodIn_app (goodIn_of _ (by decide +kernel)) ggX3_dueSumOfColumn_X1_at
theorem dX3_dueSumOfColumn_0 : decode cX3_dueSumOfColumn 0 = .ok (.iconst 0, 1) := by decide +kernel
theorem dX3_dueSumOfColumn_1 : decode cX3_dueSumOfColumn 1 = .ok (.istore_n 2, 1) := by decide +kernel
theorem dX3_dueSumOfColumn_2 : decode cX3_dueSumOfColumn 2 = .ok (.iconst 0, 1) := by decide +kernel
theorem dX3_dueSumOfColumn_3 : decode cX3_dueSumOfColumn 3 = .ok (.istore_n 3, 1) := by decide +kernel
theorem dX3_dueSumOfColumn_4 : decode cX3_dueSumOfColumn 4 = .ok (.iload_n 3, 1) := by decide +kernel
theorem dX3_dueSumOfColumn_5 : decode cX3_dueSumOfColumn 5 = .ok (.aload_n 0, 1) := by decide +kernel
theorem dX3_dueSumOfColumn_6 : decode cX3_dueSumOfColumn 6 = .ok (.getfield 21, 3) := by decide +kernel
theorem dX3_dueSumOfColumn_9 : decode cX3_dueSumOfColumn 9 = .ok (.getfield 55, 3) := by decide +kernel
theorem dX3_dueSumOfColumn_12 : decode cX3_dueSumOfColumn 12 = .ok (.if_icmp .ge 30, 3) := by decide +kernel
theorem dX3_dueSumOfColumn_15 : decode cX3_dueSumOfColumn 15 = .ok (.iload_n 2, 1) := by decide +kernel
theorem dX3_dueSumOfColumn_16 : decode cX3_dueSumOfColumn 16 = .ok (.aload_n 0, 1) := by decide +kernel
theorem dX3_dueSumOfColumn_17 : decode cX3_dueSumOfColumn 17 = .ok (.getfield 21, 3) := by decide +kernel
theorem dX3_dueSumOfColumn_20 : decode cX3_dueSumOfColumn 20 = .ok (.iload_n 3, 1) := by decide +kernel
theorem dX3_dueSumOfColumn_21 : decode cX3_dueSumOfColumn 21 = .ok (.invokevirtual 179, 3) := by decide +kernel
theorem dX3_dueSumOfColumn_24 : decode cX3_dueSumOfColumn 24 = .ok (.aload_n 0, 1) := by decide +kernel
theorem dX3_dueSumOfColumn_25 : decode cX3_dueSumOfColumn 25 = .ok (.getfield 25, 3) := by decide +kernel
theorem dX3_dueSumOfColumn_28 : decode cX3_dueSumOfColumn 28 = .ok (.iload_n 3, 1) := by decide +kernel
theorem dX3_dueSumOfColumn_29 : decode cX3_dueSumOfColumn 29 = .ok (.iload_n 1, 1) := by decide +kernel
theorem dX3_dueSumOfColumn_30 : decode cX3_dueSumOfColumn 30 = .ok (.invokevirtual 140, 3) := by decide +kernel
theorem dX3_dueSumOfColumn_33 : decode cX3_dueSumOfColumn 33 = .ok (.imul, 1) := by decide +kernel
theorem dX3_dueSumOfColumn_34 : decode cX3_dueSumOfColumn 34 = .ok (.iadd, 1) := by decide +kernel
theorem dX3_dueSumOfColumn_35 : decode cX3_dueSumOfColumn 35 = .ok (.istore_n 2, 1) := by decide +kernel
theorem dX3_dueSumOfColumn_36 : decode cX3_dueSumOfColumn 36 = .ok (.iinc 3 1, 3) := by decide +kernel
theorem dX3_dueSumOfColumn_39 : decode cX3_dueSumOfColumn 39 = .ok (.goto (-35), 3) := by decide +kernel
theorem dX3_dueSumOfColumn_42 : decode cX3_dueSumOfColumn 42 = .ok (.iload_n 2, 1) := by decide +kernel
theorem dX3_dueSumOfColumn_43 : decode cX3_dueSumOfColumn 43 = .ok (.ireturn, 1) := by decide +kernel
set_option maxRecDepth 20000 in
theorem ggX4_init_X1_init : GoodIn wsX4_init wsX1_init := goodIn_r _ [11, 12, 2, 3, 13, 14, 15, 16, 28, 29, 30] (by decide +kernel) (by decide +kernel)
set_option maxRecDepth 20000 in
theorem gX4_init_X1_init_n17 : GoodIn wsX4_init (wsX1_init) := ggX4_init_X1_init
theorem dX4_init_0 : decode cX4_init 0 = .ok (.aload_n 0, 1) := by decide +kernel
theorem dX4_init_1 : decode cX4_init 1 = .ok (.invokespecial 3, 3) := by decide +kernel
theorem dX4_init_4 : decode cX4_init 4 = .ok (.aload_n 0, 1) := by decide +kernel
theorem dX4_init_5 : decode cX4_init 5 = .ok (.bipush 80, 2) := by decide +kernel
theorem dX4_init_7 : decode cX4_init 7 = .ok (.newarray .char, 2) := by decide +kernel
theorem dX4_init_9 : decode cX4_init 9 = .ok (.putfield 9, 3) := by decide +kernel
theorem dX4_init_12 : decode cX4_init 12 = .ok (.aload_n 0, 1) := by decide +kernel
theorem dX4_init_13 : decode cX4_init 13 = .ok (.new 15, 3) := by decide +kernel
theorem dX4_init_16 : decode cX4_init 16 = .ok (.dup, 1) := by decide +kernel
theorem dX4_init_17 : decode cX4_init 17 = .ok (.invokespecial 17, 3) := by decide +kernel
theorem dX4_init_20 : decode cX4_init 20 = .ok (.putfield 18, 3) := by decide +kernel
theorem dX4_init_23 : decode cX4_init 23 = .ok (.return_, 1) := by decide +kernel
theorem dX4_append_0 : decode cX4_append 0 = .ok (.aload_n 0, 1) := by decide +kernel
theorem dX4_append_1 : decode cX4_append 1 = .ok (.getfield 22, 3) := by decide +kernel
theorem dX4_append_4 : decode cX4_append 4 = .ok (.ifCond .lt 35, 3) := by decide +kernel
theorem dX4_append_7 : decode cX4_append 7 = .ok (.aload_n 0, 1) := by decide +kernel
theorem dX4_append_8 : decode cX4_append 8 = .ok (.getfield 22, 3) := by decide +kernel
theorem dX4_append_11 : decode cX4_append 11 = .ok (.aload_n 0, 1) := by decide +kernel
theorem dX4_append_12 : decode cX4_append 12 = .ok (.getfield 9, 3) := by decide +kernel
theorem dX4_append_15 : decode cX4_append 15 = .ok (.arraylength, 1) := by decide +kernel
theorem dX4_append_16 : decode cX4_append 16 = .ok (.if_icmp .ge 23, 3) := by decide +kernel
theorem dX4_append_19 : decode cX4_append 19 = .ok (.aload_n 0, 1) := by decide +kernel
theorem dX4_append_20 : decode cX4_append 20 = .ok (.getfield 9, 3) := by decide +kernel
theorem dX4_append_23 : decode cX4_append 23 = .ok (.aload_n 0, 1) := by decide +kernel
theorem dX4_append_24 : decode cX4_append 24 = .ok (.getfield 22, 3) := by decide +kernel
theorem dX4_append_27 : decode cX4_append 27 = .ok (.iload_n 1, 1) := by decide +kernel
theorem dX4_append_28 : decode cX4_append 28 = .ok (.castore, 1) := by decide +kernel
theorem dX4_append_29 : decode cX4_append 29 = .ok (.aload_n 0, 1) := by decide +kernel
theorem dX4_append_30 : decode cX4_append 30 = .ok (.dup, 1) := by decide +kernel
theorem dX4_append_31 : decode cX4_append 31 = .ok (.getfield 22, 3) := by decide +kernel
theorem dX4_append_34 : decode cX4_append 34 = .ok (.iconst 1, 1) := by decide +kernel
theorem dX4_append_35 : decode cX4_append 35 = .ok (.iadd, 1) := by decide +kernel
theorem dX4_append_36 : decode cX4_append 36 = .ok (.putfield 22, 3) := by decide +kernel
theorem dX4_append_39 : decode cX4_append 39 = .ok (.return_, 1) := by decide +kernel
set_option maxRecDepth 20000 in
theorem ggX4_scan_X4_startScan : GoodIn wsX4_scan wsX4_startScan := goodIn_r _ [8, 9, 3, 10, 11, 12, 13, 14, 15, 16, 17, 18, 19, 20, 21, 22, 23, 24, 25, 26, 27, 28, 29, 30, 7, 31, 32, 33, 34, 78, 79, 80, 81, 82, 83, 84, 85, 86, 87, 88, 89, 90, 91] (by decide +kernel) (by decide +kernel)
set_option maxRecDepth 20000 in
theorem gX4_scan_X4_startScan : GoodIn wsX4_scan (wsV RX4 26 RX4 yX4_startScan wsX4_startScan) := goodIn_app (goodIn_of _ (by decide +kernel)) ggX4_scan_X4_startScan
set_option maxRecDepth 20000 in
theorem ggX4_scan_X4_scanSign : GoodIn wsX4_scan wsX4_scanSign := goodIn_r _ [38, 33, 34, 32, 39, 40, 41, 7, 42, 11, 12, 43, 44, 45, 46, 47, 3, 48, 49, 50, 51, 9, 10, 52, 53, 54, 16, 55, 20, 56, 57, 58, 59, 18, 19, 28, 29, 30, 31, 60, 61, 62, 63, 64, 65, 66, 67, 68, 69, 70, 71, 78, 79, 80, 81, 82, 83, 84, 85, 86, 87, 88, 89, 90, 91] (by decide +kernel) (by decide +kernel)
set_option maxRecDepth 20000 in
theorem gX4_scan_X4_scanSign : GoodIn wsX4_scan (wsV RX4 32 RX4 yX4_scanSign wsX4_scanSign) := goodIn_app (goodIn_of _ (by decide +kernel)) ggX4_scan_X4_scanSign
set_option maxRecDepth 20000 in
theorem ggX4_scan_X4_finishScan : GoodIn wsX4_scan wsX4_finishScan := goodIn_r _ [75, 33, 1, 9, 10, 76, 12, 77, 43, 44, 45, 7, 46, 47, 3, 64, 65, 66, 67, 11, 48, 49, 50, 51, 32, 34, 52, 53, 54, 16, 55, 20, 56, 57, 58, 59, 18, 19, 28, 29, 30, 31, 68, 69, 70, 71, 78, 79, 80, 81, 82, 83, 84, 85, 86, 87, 88, 89, 90, 91] (by decide +kernel) (by decide +kernel)
set_option maxRecDepth 20000 in
theorem gX4_scan_X4_finishScan : GoodIn wsX4_scan (wsV RX4 36 RX4 yX4_finishScan wsX4_finishScan) := goodIn_app (goodIn_of _ (by decide +kernel)) ggX4_scan_X4_finishScan
theorem dX4_scan_0 : decode cX4_scan 0 = .ok (.aload_n 0, 1) := by decide +kernel
theorem dX4_scan_1 : decode cX4_scan 1 = .ok (.invokevirtual 26, 3) := by decide +kernel
theorem dX4_scan_4 : decode cX4_scan 4 = .ok (.iconst 0, 1) := by decide +kernel
theorem dX4_scan_5 : decode cX4_scan 5 = .ok (.istore_n 1, 1) := by decide +kernel
theorem dX4_scan_6 : decode cX4_scan 6 = .ok (.iload_n 1, 1) := by decide +kernel
theorem dX4_scan_7 : decode cX4_scan 7 = .ok (.aload_n 0, 1) := by decide +kernel
theorem dX4_scan_8 : decode cX4_scan 8 = .ok (.getfield 22, 3) := by decide +kernel
theorem dX4_scan_11 : decode cX4_scan 11 = .ok (.if_icmp .ge 36, 3) := by decide +kernel
theorem dX4_scan_14 : decode cX4_scan 14 = .ok (.iload_n 1, 1) := by decide +kernel
theorem dX4_scan_15 : decode cX4_scan 15 = .ok (.aload_n 0, 1) := by decide +kernel
theorem dX4_scan_16 : decode cX4_scan 16 = .ok (.getfield 9, 3) := by decide +kernel
theorem dX4_scan_19 : decode cX4_scan 19 = .ok (.arraylength, 1) := by decide +kernel
theorem dX4_scan_20 : decode cX4_scan 20 = .ok (.if_icmp .ge 27, 3) := by decide +kernel
theorem dX4_scan_23 : decode cX4_scan 23 = .ok (.aload_n 0, 1) := by decide +kernel
theorem dX4_scan_24 : decode cX4_scan 24 = .ok (.getfield 29, 3) := by decide +kernel
theorem dX4_scan_27 : decode cX4_scan 27 = .ok (.ifCond .ne 20, 3) := by decide +kernel
theorem dX4_scan_30 : decode cX4_scan 30 = .ok (.aload_n 0, 1) := by decide +kernel
theorem dX4_scan_31 : decode cX4_scan 31 = .ok (.iload_n 1, 1) := by decide +kernel
theorem dX4_scan_32 : decode cX4_scan 32 = .ok (.aload_n 0, 1) := by decide +kernel
theorem dX4_scan_33 : decode cX4_scan 33 = .ok (.getfield 9, 3) := by decide +kernel
theorem dX4_scan_36 : decode cX4_scan 36 = .ok (.iload_n 1, 1) := by decide +kernel
theorem dX4_scan_37 : decode cX4_scan 37 = .ok (.caload, 1) := by decide +kernel
theorem dX4_scan_38 : decode cX4_scan 38 = .ok (.invokevirtual 32, 3) := by decide +kernel
theorem dX4_scan_41 : decode cX4_scan 41 = .ok (.iinc 1 1, 3) := by decide +kernel
theorem dX4_scan_44 : decode cX4_scan 44 = .ok (.goto (-38), 3) := by decide +kernel
theorem dX4_scan_47 : decode cX4_scan 47 = .ok (.aload_n 0, 1) := by decide +kernel
theorem dX4_scan_48 : decode cX4_scan 48 = .ok (.getfield 29, 3) := by decide +kernel
theorem dX4_scan_51 : decode cX4_scan 51 = .ok (.ifCond .ne 7, 3) := by decide +kernel
theorem dX4_scan_54 : decode cX4_scan 54 = .ok (.aload_n 0, 1) := by decide +kernel
theorem dX4_scan_55 : decode cX4_scan 55 = .ok (.invokevirtual 36, 3) := by decide +kernel
theorem dX4_scan_58 : decode cX4_scan 58 = .ok (.return_, 1) := by decide +kernel
set_option maxRecDepth 20000 in
theorem ggX4_startScan_X1_renew : GoodIn wsX4_startScan wsX1_renew := goodIn_r _ [10, 11, 12, 13, 14, 15, 16, 17, 18, 19, 20, 40, 41, 42] (by decide +kernel) (by decide +kernel)
set_option maxRecDepth 20000 in
theorem gX4_startScan_X1_renew : GoodIn wsX4_startScan (wsV RX4 39 RX1 yX1_renew wsX1_renew) := goodIn_app (goodIn_of _ (by decide +kernel)) ggX4_startScan_X1_renew
set_option maxRecDepth 20000 in
theorem ggX4_startScan_X4_startEntry : GoodIn wsX4_startScan wsX4_startEntry := goodIn_r _ [25, 26, 27, 28, 29, 30, 31, 32, 33, 34, 35, 36, 37, 38, 39] (by decide +kernel) (by decide +kernel)
set_option maxRecDepth 20000 in
theorem gX4_startScan_X4_startEntry : GoodIn wsX4_startScan (wsV RX4 52 RX4 yX4_startEntry wsX4_startEntry) := goodIn_app (goodIn_of _ (by decide +kernel)) ggX4_startScan_X4_startEntry
theorem dX4_startScan_0 : decode cX4_startScan 0 = .ok (.aload_n 0, 1) := by decide +kernel
theorem dX4_startScan_1 : decode cX4_startScan 1 = .ok (.getfield 18, 3) := by decide +kernel
theorem dX4_startScan_4 : decode cX4_startScan 4 = .ok (.bipush 6, 2) := by decide +kernel
theorem dX4_startScan_6 : decode cX4_startScan 6 = .ok (.bipush 6, 2) := by decide +kernel
theorem dX4_startScan_8 : decode cX4_startScan 8 = .ok (.iconst 0, 1) := by decide +kernel
theorem dX4_startScan_9 : decode cX4_startScan 9 = .ok (.invokevirtual 39, 3) := by decide +kernel
theorem dX4_startScan_12 : decode cX4_startScan 12 = .ok (.aload_n 0, 1) := by decide +kernel
theorem dX4_startScan_13 : decode cX4_startScan 13 = .ok (.iconst 0, 1) := by decide +kernel
theorem dX4_startScan_14 : decode cX4_startScan 14 = .ok (.putfield 29, 3) := by decide +kernel
theorem dX4_startScan_17 : decode cX4_startScan 17 = .ok (.aload_n 0, 1) := by decide +kernel
theorem dX4_startScan_18 : decode cX4_startScan 18 = .ok (.iconst 0, 1) := by decide +kernel
theorem dX4_startScan_19 : decode cX4_startScan 19 = .ok (.putfield 43, 3) := by decide +kernel
theorem dX4_startScan_22 : decode cX4_startScan 22 = .ok (.aload_n 0, 1) := by decide +kernel
theorem dX4_startScan_23 : decode cX4_startScan 23 = .ok (.iconst 0, 1) := by decide +kernel
theorem dX4_startScan_24 : decode cX4_startScan 24 = .ok (.putfield 46, 3) := by decide +kernel
theorem dX4_startScan_27 : decode cX4_startScan 27 = .ok (.aload_n 0, 1) := by decide +kernel
theorem dX4_startScan_28 : decode cX4_startScan 28 = .ok (.bipush 6, 2) := by decide +kernel
theorem dX4_startScan_30 : decode cX4_startScan 30 = .ok (.putfield 49, 3) := by decide +kernel
theorem dX4_startScan_33 : decode cX4_startScan 33 = .ok (.aload_n 0, 1) := by decide +kernel
theorem dX4_startScan_34 : decode cX4_startScan 34 = .ok (.invokevirtual 52, 3) := by decide +kernel
theorem dX4_startScan_37 : decode cX4_startScan 37 = .ok (.return_, 1) := by decide +kernel
theorem dX4_startEntry_0 : decode cX4_startEntry 0 = .ok (.aload_n 0, 1) := by decide +kernel
theorem dX4_startEntry_1 : decode cX4_startEntry 1 = .ok (.iconst 0, 1) := by decide +kernel
theorem dX4_startEntry_2 : decode cX4_startEntry 2 = .ok (.putfield 55, 3) := by decide +kernel
theorem dX4_startEntry_5 : decode cX4_startEntry 5 = .ok (.aload_n 0, 1) := by decide +kernel
theorem dX4_startEntry_6 : decode cX4_startEntry 6 = .ok (.iconst 0, 1) := by decide +kernel
theorem dX4_startEntry_7 : decode cX4_startEntry 7 = .ok (.putfield 59, 3) := by decide +kernel
theorem dX4_startEntry_10 : decode cX4_startEntry 10 = .ok (.aload_n 0, 1) := by decide +kernel
theorem dX4_startEntry_11 : decode cX4_startEntry 11 = .ok (.iconst 0, 1) := by decide +kernel
theorem dX4_startEntry_12 : decode cX4_startEntry 12 = .ok (.putfield 62, 3) := by decide +kernel
theorem dX4_startEntry_15 : decode cX4_startEntry 15 = .ok (.return_, 1) := by decide +kernel
set_option maxRecDepth 20000 in
theorem ggX4_scanSign_X4_scanComma : GoodIn wsX4_scanSign wsX4_scanComma := goodIn_r _ [8, 9, 10, 11, 12, 13, 7, 14, 15, 16, 17, 18, 19, 20, 21, 22, 3, 2, 23, 24, 25, 26, 27, 28, 29, 30, 31, 32, 33, 34, 35, 36, 37, 38, 1, 51, 52, 53, 54, 55, 56, 57, 58, 59, 60, 61, 62, 63, 64] (by decide +kernel) (by decide +kernel)
set_option maxRecDepth 20000 in
theorem gX4_scanSign_X4_scanComma : GoodIn wsX4_scanSign (wsV RX4 65 RX4 yX4_scanComma wsX4_scanComma) := goodIn_app (goodIn_of _ (by decide +kernel)) ggX4_scanSign_X4_scanComma
set_option maxRecDepth 20000 in
theorem ggX4_scanSign_X4_scanSemicolon : GoodIn wsX4_scanSign wsX4_scanSemicolon := goodIn_r _ [42, 22, 9, 43, 44, 45, 7, 46, 10, 11, 12, 13, 14, 15, 16, 17, 18, 19, 20, 21, 3, 2, 23, 24, 25, 26, 27, 28, 29, 30, 31, 32, 33, 34, 35, 36, 37, 38, 1, 47, 48, 49, 50, 51, 52, 53, 54, 55, 56, 57, 58, 59, 60, 61, 62, 63, 64] (by decide +kernel) (by decide +kernel)
set_option maxRecDepth 20000 in
theorem gX4_scanSign_X4_scanSemicolon : GoodIn wsX4_scanSign (wsV RX4 69 RX4 yX4_scanSemicolon wsX4_scanSemicolon) := goodIn_app (goodIn_of _ (by decide +kernel)) ggX4_scanSign_X4_scanSemicolon
set_option maxRecDepth 20000 in
theorem ggX4_scanSign_X4_setFault : GoodIn wsX4_scanSign wsX4_setFault := goodIn_r _ [14, 15, 16, 51, 52, 53, 54, 55, 56, 57, 58, 59, 60, 61] (by decide +kernel) (by decide +kernel)
set_option maxRecDepth 20000 in
theorem gX4_scanSign_X4_setFault : GoodIn wsX4_scanSign (wsV RX4 72 RX4 yX4_setFault wsX4_setFault) := goodIn_app (goodIn_of _ (by decide +kernel)) ggX4_scanSign_X4_setFault
theorem dX4_scanSign_0 : decode cX4_scanSign 0 = .ok (.iload_n 2, 1) := by decide +kernel
theorem dX4_scanSign_1 : decode cX4_scanSign 1 = .ok (.bipush 48, 2) := by decide +kernel
theorem dX4_scanSign_3 : decode cX4_scanSign 3 = .ok (.if_icmp .lt 46, 3) := by decide +kernel
theorem dX4_scanSign_6 : decode cX4_scanSign 6 = .ok (.iload_n 2, 1) := by decide +kernel
theorem dX4_scanSign_7 : decode cX4_scanSign 7 = .ok (.bipush 57, 2) := by decide +kernel
theorem dX4_scanSign_9 : decode cX4_scanSign 9 = .ok (.if_icmp .gt 40, 3) := by decide +kernel
theorem dX4_scanSign_12 : decode cX4_scanSign 12 = .ok (.aload_n 0, 1) := by decide +kernel
theorem dX4_scanSign_13 : decode cX4_scanSign 13 = .ok (.getfield 59, 3) := by decide +kernel
theorem dX4_scanSign_16 : decode cX4_scanSign 16 = .ok (.iconst 2, 1) := by decide +kernel
theorem dX4_scanSign_17 : decode cX4_scanSign 17 = .ok (.if_icmp .ge 32, 3) := by decide +kernel
theorem dX4_scanSign_20 : decode cX4_scanSign 20 = .ok (.aload_n 0, 1) := by decide +kernel
theorem dX4_scanSign_21 : decode cX4_scanSign 21 = .ok (.aload_n 0, 1) := by decide +kernel
theorem dX4_scanSign_22 : decode cX4_scanSign 22 = .ok (.getfield 62, 3) := by decide +kernel
theorem dX4_scanSign_25 : decode cX4_scanSign 25 = .ok (.bipush 10, 2) := by decide +kernel
theorem dX4_scanSign_27 : decode cX4_scanSign 27 = .ok (.imul, 1) := by decide +kernel
theorem dX4_scanSign_28 : decode cX4_scanSign 28 = .ok (.iload_n 2, 1) := by decide +kernel
theorem dX4_scanSign_29 : decode cX4_scanSign 29 = .ok (.bipush 48, 2) := by decide +kernel
theorem dX4_scanSign_31 : decode cX4_scanSign 31 = .ok (.isub, 1) := by decide +kernel
theorem dX4_scanSign_32 : decode cX4_scanSign 32 = .ok (.iadd, 1) := by decide +kernel
theorem dX4_scanSign_33 : decode cX4_scanSign 33 = .ok (.putfield 62, 3) := by decide +kernel
theorem dX4_scanSign_36 : decode cX4_scanSign 36 = .ok (.aload_n 0, 1) := by decide +kernel
theorem dX4_scanSign_37 : decode cX4_scanSign 37 = .ok (.dup, 1) := by decide +kernel
theorem dX4_scanSign_38 : decode cX4_scanSign 38 = .ok (.getfield 59, 3) := by decide +kernel
theorem dX4_scanSign_41 : decode cX4_scanSign 41 = .ok (.iconst 1, 1) := by decide +kernel
theorem dX4_scanSign_42 : decode cX4_scanSign 42 = .ok (.iadd, 1) := by decide +kernel
theorem dX4_scanSign_43 : decode cX4_scanSign 43 = .ok (.putfield 59, 3) := by decide +kernel
theorem dX4_scanSign_46 : decode cX4_scanSign 46 = .ok (.goto 79, 3) := by decide +kernel
theorem dX4_scanSign_49 : decode cX4_scanSign 49 = .ok (.iload_n 2, 1) := by decide +kernel
theorem dX4_scanSign_50 : decode cX4_scanSign 50 = .ok (.bipush 45, 2) := by decide +kernel
theorem dX4_scanSign_52 : decode cX4_scanSign 52 = .ok (.if_icmp .ne 25, 3) := by decide +kernel
theorem dX4_scanSign_55 : decode cX4_scanSign 55 = .ok (.aload_n 0, 1) := by decide +kernel
theorem dX4_scanSign_56 : decode cX4_scanSign 56 = .ok (.getfield 59, 3) := by decide +kernel
theorem dX4_scanSign_59 : decode cX4_scanSign 59 = .ok (.ifCond .ne 18, 3) := by decide +kernel
theorem dX4_scanSign_62 : decode cX4_scanSign 62 = .ok (.aload_n 0, 1) := by decide +kernel
theorem dX4_scanSign_63 : decode cX4_scanSign 63 = .ok (.getfield 55, 3) := by decide +kernel
theorem dX4_scanSign_66 : decode cX4_scanSign 66 = .ok (.ifCond .ne 11, 3) := by decide +kernel
theorem dX4_scanSign_69 : decode cX4_scanSign 69 = .ok (.aload_n 0, 1) := by decide +kernel
theorem dX4_scanSign_70 : decode cX4_scanSign 70 = .ok (.iconst 1, 1) := by decide +kernel
theorem dX4_scanSign_71 : decode cX4_scanSign 71 = .ok (.putfield 55, 3) := by decide +kernel
theorem dX4_scanSign_74 : decode cX4_scanSign 74 = .ok (.goto 51, 3) := by decide +kernel
theorem dX4_scanSign_77 : decode cX4_scanSign 77 = .ok (.iload_n 2, 1) := by decide +kernel
theorem dX4_scanSign_78 : decode cX4_scanSign 78 = .ok (.bipush 44, 2) := by decide +kernel
theorem dX4_scanSign_80 : decode cX4_scanSign 80 = .ok (.if_icmp .ne 18, 3) := by decide +kernel
theorem dX4_scanSign_83 : decode cX4_scanSign 83 = .ok (.aload_n 0, 1) := by decide +kernel
theorem dX4_scanSign_84 : decode cX4_scanSign 84 = .ok (.getfield 59, 3) := by decide +kernel
theorem dX4_scanSign_87 : decode cX4_scanSign 87 = .ok (.ifCond .le 11, 3) := by decide +kernel
theorem dX4_scanSign_90 : decode cX4_scanSign 90 = .ok (.aload_n 0, 1) := by decide +kernel
theorem dX4_scanSign_91 : decode cX4_scanSign 91 = .ok (.iload_n 1, 1) := by decide +kernel
theorem dX4_scanSign_92 : decode cX4_scanSign 92 = .ok (.invokevirtual 65, 3) := by decide +kernel
end
section
theorem dX4_scanSign_95 : decode cX4_scanSign 95 = .ok (.goto 30, 3) := by decide +kernel
theorem dX4_scanSign_98 : decode cX4_scanSign 98 = .ok (.iload_n 2, 1) := by decide +kernel
theorem dX4_scanSign_99 : decode cX4_scanSign 99 = .ok (.bipush 59, 2) := by decide +kernel
theorem dX4_scanSign_101 : decode cX4_scanSign 101 = .ok (.if_icmp .ne 18, 3) := by decide +kernel
theorem dX4_scanSign_104 : decode cX4_scanSign 104 = .ok (.aload_n 0, 1) := by decide +kernel
theorem dX4_scanSign_105 : decode cX4_scanSign 105 = .ok (.getfield 59, 3) := by decide +kernel
theorem dX4_scanSign_108 : decode cX4_scanSign 108 = .ok (.ifCond .le 11, 3) := by decide +kernel
theorem dX4_scanSign_111 : decode cX4_scanSign 111 = .ok (.aload_n 0, 1) := by decide +kernel
theorem dX4_scanSign_112 : decode cX4_scanSign 112 = .ok (.iload_n 1, 1) := by decide +kernel
theorem dX4_scanSign_113 : decode cX4_scanSign 113 = .ok (.invokevirtual 69, 3) := by decide +kernel
theorem dX4_scanSign_116 : decode cX4_scanSign 116 = .ok (.goto 9, 3) := by decide +kernel
theorem dX4_scanSign_119 : decode cX4_scanSign 119 = .ok (.aload_n 0, 1) := by decide +kernel
theorem dX4_scanSign_120 : decode cX4_scanSign 120 = .ok (.iload_n 1, 1) := by decide +kernel
theorem dX4_scanSign_121 : decode cX4_scanSign 121 = .ok (.iconst 1, 1) := by decide +kernel
theorem dX4_scanSign_122 : decode cX4_scanSign 122 = .ok (.invokevirtual 72, 3) := by decide +kernel
theorem dX4_scanSign_125 : decode cX4_scanSign 125 = .ok (.return_, 1) := by decide +kernel
set_option maxRecDepth 20000 in
theorem ggX4_scanComma_X4_setFault : GoodIn wsX4_scanComma wsX4_setFault := goodIn_r _ [7, 8, 9, 35, 36, 37, 38, 39, 40, 41, 42, 43, 44, 45] (by decide +kernel) (by decide +kernel)
set_option maxRecDepth 20000 in
theorem gX4_scanComma_X4_setFault : GoodIn wsX4_scanComma (wsV RX4 72 RX4 yX4_setFault wsX4_setFault) := goodIn_app (goodIn_of _ (by decide +kernel)) ggX4_scanComma_X4_setFault
set_option maxRecDepth 20000 in
theorem ggX4_scanComma_X4_endEntry : GoodIn wsX4_scanComma wsX4_endEntry := goodIn_r _ [13, 14, 15, 1, 16, 17, 18, 19, 20, 21, 22, 23, 24, 25, 26, 27, 28, 29, 30, 31, 32, 6, 33, 34, 35, 36, 37, 38, 39, 40, 41, 42, 43, 44, 45, 46, 47, 48] (by decide +kernel) (by decide +kernel)
set_option maxRecDepth 20000 in
theorem gX4_scanComma_X4_endEntry : GoodIn wsX4_scanComma (wsV RX4 76 RX4 yX4_endEntry wsX4_endEntry) := goodIn_app (goodIn_of _ (by decide +kernel)) ggX4_scanComma_X4_endEntry
theorem dX4_scanComma_0 : decode cX4_scanComma 0 = .ok (.aload_n 0, 1) := by decide +kernel
theorem dX4_scanComma_1 : decode cX4_scanComma 1 = .ok (.getfield 46, 3) := by decide +kernel
theorem dX4_scanComma_4 : decode cX4_scanComma 4 = .ok (.iconst 1, 1) := by decide +kernel
theorem dX4_scanComma_5 : decode cX4_scanComma 5 = .ok (.iadd, 1) := by decide +kernel
theorem dX4_scanComma_6 : decode cX4_scanComma 6 = .ok (.aload_n 0, 1) := by decide +kernel
theorem dX4_scanComma_7 : decode cX4_scanComma 7 = .ok (.getfield 49, 3) := by decide +kernel
theorem dX4_scanComma_10 : decode cX4_scanComma 10 = .ok (.if_icmp .lt 10, 3) := by decide +kernel
theorem dX4_scanComma_13 : decode cX4_scanComma 13 = .ok (.aload_n 0, 1) := by decide +kernel
theorem dX4_scanComma_14 : decode cX4_scanComma 14 = .ok (.iload_n 1, 1) := by decide +kernel
theorem dX4_scanComma_15 : decode cX4_scanComma 15 = .ok (.iconst 2, 1) := by decide +kernel
theorem dX4_scanComma_16 : decode cX4_scanComma 16 = .ok (.invokevirtual 72, 3) := by decide +kernel
theorem dX4_scanComma_19 : decode cX4_scanComma 19 = .ok (.return_, 1) := by decide +kernel
theorem dX4_scanComma_20 : decode cX4_scanComma 20 = .ok (.aload_n 0, 1) := by decide +kernel
theorem dX4_scanComma_21 : decode cX4_scanComma 21 = .ok (.invokevirtual 76, 3) := by decide +kernel
theorem dX4_scanComma_24 : decode cX4_scanComma 24 = .ok (.aload_n 0, 1) := by decide +kernel
theorem dX4_scanComma_25 : decode cX4_scanComma 25 = .ok (.dup, 1) := by decide +kernel
theorem dX4_scanComma_26 : decode cX4_scanComma 26 = .ok (.getfield 46, 3) := by decide +kernel
theorem dX4_scanComma_29 : decode cX4_scanComma 29 = .ok (.iconst 1, 1) := by decide +kernel
theorem dX4_scanComma_30 : decode cX4_scanComma 30 = .ok (.iadd, 1) := by decide +kernel
theorem dX4_scanComma_31 : decode cX4_scanComma 31 = .ok (.putfield 46, 3) := by decide +kernel
theorem dX4_scanComma_34 : decode cX4_scanComma 34 = .ok (.return_, 1) := by decide +kernel
set_option maxRecDepth 20000 in
theorem ggX4_scanSemicolon_X4_rowIsShort : GoodIn wsX4_scanSemicolon wsX4_rowIsShort := goodIn_r _ [7, 1, 2, 8, 43, 44, 45, 46, 47, 48, 49, 50, 51, 52, 53] (by decide +kernel) (by decide +kernel)
set_option maxRecDepth 20000 in
theorem gX4_scanSemicolon_X4_rowIsShort : GoodIn wsX4_scanSemicolon (wsV RX4 79 RX4 yX4_rowIsShort wsX4_rowIsShort) := goodIn_app (goodIn_of _ (by decide +kernel)) ggX4_scanSemicolon_X4_rowIsShort
set_option maxRecDepth 20000 in
theorem ggX4_scanSemicolon_X4_setFault : GoodIn wsX4_scanSemicolon wsX4_setFault := goodIn_r _ [12, 13, 14, 43, 44, 45, 46, 47, 48, 49, 50, 51, 52, 53] (by decide +kernel) (by decide +kernel)
set_option maxRecDepth 20000 in
theorem gX4_scanSemicolon_X4_setFault : GoodIn wsX4_scanSemicolon (wsV RX4 72 RX4 yX4_setFault wsX4_setFault) := goodIn_app (goodIn_of _ (by decide +kernel)) ggX4_scanSemicolon_X4_setFault
set_option maxRecDepth 20000 in
theorem ggX4_scanSemicolon_X4_endEntry : GoodIn wsX4_scanSemicolon wsX4_endEntry := goodIn_r _ [18, 19, 1, 2, 20, 21, 22, 23, 24, 25, 26, 27, 28, 29, 30, 31, 32, 33, 34, 35, 36, 6, 37, 38, 43, 44, 45, 46, 47, 48, 49, 50, 51, 52, 53, 54, 55, 56] (by decide +kernel) (by decide +kernel)
set_option maxRecDepth 20000 in
theorem gX4_scanSemicolon_X4_endEntry : GoodIn wsX4_scanSemicolon (wsV RX4 76 RX4 yX4_endEntry wsX4_endEntry) := goodIn_app (goodIn_of _ (by decide +kernel)) ggX4_scanSemicolon_X4_endEntry
set_option maxRecDepth 20000 in
theorem ggX4_scanSemicolon_X4_endRow : GoodIn wsX4_scanSemicolon wsX4_endRow := goodIn_r _ [42, 1, 2, 8, 43, 44, 45, 46, 47, 48, 49, 50, 51, 52, 53] (by decide +kernel) (by decide +kernel)
set_option maxRecDepth 20000 in
theorem gX4_scanSemicolon_X4_endRow : GoodIn wsX4_scanSemicolon (wsV RX4 83 RX4 yX4_endRow wsX4_endRow) := goodIn_app (goodIn_of _ (by decide +kernel)) ggX4_scanSemicolon_X4_endRow
theorem dX4_scanSemicolon_0 : decode cX4_scanSemicolon 0 = .ok (.aload_n 0, 1) := by decide +kernel
theorem dX4_scanSemicolon_1 : decode cX4_scanSemicolon 1 = .ok (.getfield 43, 3) := by decide +kernel
theorem dX4_scanSemicolon_4 : decode cX4_scanSemicolon 4 = .ok (.iconst 1, 1) := by decide +kernel
theorem dX4_scanSemicolon_5 : decode cX4_scanSemicolon 5 = .ok (.iadd, 1) := by decide +kernel
theorem dX4_scanSemicolon_6 : decode cX4_scanSemicolon 6 = .ok (.bipush 6, 2) := by decide +kernel
theorem dX4_scanSemicolon_8 : decode cX4_scanSemicolon 8 = .ok (.if_icmp .ge 10, 3) := by decide +kernel
theorem dX4_scanSemicolon_11 : decode cX4_scanSemicolon 11 = .ok (.aload_n 0, 1) := by decide +kernel
theorem dX4_scanSemicolon_12 : decode cX4_scanSemicolon 12 = .ok (.invokevirtual 79, 3) := by decide +kernel
theorem dX4_scanSemicolon_15 : decode cX4_scanSemicolon 15 = .ok (.ifCond .eq 10, 3) := by decide +kernel
theorem dX4_scanSemicolon_18 : decode cX4_scanSemicolon 18 = .ok (.aload_n 0, 1) := by decide +kernel
theorem dX4_scanSemicolon_19 : decode cX4_scanSemicolon 19 = .ok (.iload_n 1, 1) := by decide +kernel
theorem dX4_scanSemicolon_20 : decode cX4_scanSemicolon 20 = .ok (.iconst 2, 1) := by decide +kernel
theorem dX4_scanSemicolon_21 : decode cX4_scanSemicolon 21 = .ok (.invokevirtual 72, 3) := by decide +kernel
theorem dX4_scanSemicolon_24 : decode cX4_scanSemicolon 24 = .ok (.return_, 1) := by decide +kernel
theorem dX4_scanSemicolon_25 : decode cX4_scanSemicolon 25 = .ok (.aload_n 0, 1) := by decide +kernel
theorem dX4_scanSemicolon_26 : decode cX4_scanSemicolon 26 = .ok (.invokevirtual 76, 3) := by decide +kernel
theorem dX4_scanSemicolon_29 : decode cX4_scanSemicolon 29 = .ok (.aload_n 0, 1) := by decide +kernel
theorem dX4_scanSemicolon_30 : decode cX4_scanSemicolon 30 = .ok (.invokevirtual 83, 3) := by decide +kernel
theorem dX4_scanSemicolon_33 : decode cX4_scanSemicolon 33 = .ok (.aload_n 0, 1) := by decide +kernel
theorem dX4_scanSemicolon_34 : decode cX4_scanSemicolon 34 = .ok (.dup, 1) := by decide +kernel
theorem dX4_scanSemicolon_35 : decode cX4_scanSemicolon 35 = .ok (.getfield 43, 3) := by decide +kernel
theorem dX4_scanSemicolon_38 : decode cX4_scanSemicolon 38 = .ok (.iconst 1, 1) := by decide +kernel
theorem dX4_scanSemicolon_39 : decode cX4_scanSemicolon 39 = .ok (.iadd, 1) := by decide +kernel
theorem dX4_scanSemicolon_40 : decode cX4_scanSemicolon 40 = .ok (.putfield 43, 3) := by decide +kernel
theorem dX4_scanSemicolon_43 : decode cX4_scanSemicolon 43 = .ok (.aload_n 0, 1) := by decide +kernel
theorem dX4_scanSemicolon_44 : decode cX4_scanSemicolon 44 = .ok (.iconst 0, 1) := by decide +kernel
theorem dX4_scanSemicolon_45 : decode cX4_scanSemicolon 45 = .ok (.putfield 46, 3) := by decide +kernel
theorem dX4_scanSemicolon_48 : decode cX4_scanSemicolon 48 = .ok (.return_, 1) := by decide +kernel
set_option maxRecDepth 20000 in
theorem ggX4_finishScan_X4_setFault : GoodIn wsX4_finishScan wsX4_setFault := goodIn_r _ [12, 13, 14, 46, 47, 48, 49, 50, 51, 52, 53, 54, 55, 56] (by decide +kernel) (by decide +kernel)
set_option maxRecDepth 20000 in
theorem gX4_finishScan_X4_setFault : GoodIn wsX4_finishScan (wsV RX4 72 RX4 yX4_setFault wsX4_setFault) := goodIn_app (goodIn_of _ (by decide +kernel)) ggX4_finishScan_X4_setFault
set_option maxRecDepth 20000 in
theorem ggX4_finishScan_X4_rowIsShort : GoodIn wsX4_finishScan wsX4_rowIsShort := goodIn_r _ [18, 4, 19, 6, 46, 47, 48, 49, 50, 51, 52, 53, 54, 55, 56] (by decide +kernel) (by decide +kernel)
set_option maxRecDepth 20000 in
theorem gX4_finishScan_X4_rowIsShort : GoodIn wsX4_finishScan (wsV RX4 79 RX4 yX4_rowIsShort wsX4_rowIsShort) := goodIn_app (goodIn_of _ (by decide +kernel)) ggX4_finishScan_X4_rowIsShort
set_option maxRecDepth 20000 in
theorem ggX4_finishScan_X4_endEntry : GoodIn wsX4_finishScan wsX4_endEntry := goodIn_r _ [23, 3, 4, 19, 24, 25, 26, 27, 28, 29, 30, 31, 32, 33, 34, 35, 36, 37, 38, 39, 40, 11, 41, 1, 46, 47, 48, 49, 50, 51, 52, 53, 54, 55, 56, 57, 58, 59] (by decide +kernel) (by decide +kernel)
set_option maxRecDepth 20000 in
theorem gX4_finishScan_X4_endEntry : GoodIn wsX4_finishScan (wsV RX4 76 RX4 yX4_endEntry wsX4_endEntry) := goodIn_app (goodIn_of _ (by decide +kernel)) ggX4_finishScan_X4_endEntry
set_option maxRecDepth 20000 in
theorem ggX4_finishScan_X4_endRow : GoodIn wsX4_finishScan wsX4_endRow := goodIn_r _ [45, 4, 19, 6, 46, 47, 48, 49, 50, 51, 52, 53, 54, 55, 56] (by decide +kernel) (by decide +kernel)
set_option maxRecDepth 20000 in
theorem gX4_finishScan_X4_endRow : GoodIn wsX4_finishScan (wsV RX4 83 RX4 yX4_endRow wsX4_endRow) := goodIn_app (goodIn_of _ (by decide +kernel)) ggX4_finishScan_X4_endRow
theorem dX4_finishScan_0 : decode cX4_finishScan 0 = .ok (.aload_n 0, 1) := by decide +kernel
theorem dX4_finishScan_1 : decode cX4_finishScan 1 = .ok (.getfield 59, 3) := by decide +kernel
theorem dX4_finishScan_4 : decode cX4_finishScan 4 = .ok (.ifCond .ne 15, 3) := by decide +kernel
theorem dX4_finishScan_7 : decode cX4_finishScan 7 = .ok (.aload_n 0, 1) := by decide +kernel
theorem dX4_finishScan_8 : decode cX4_finishScan 8 = .ok (.aload_n 0, 1) := by decide +kernel
theorem dX4_finishScan_9 : decode cX4_finishScan 9 = .ok (.getfield 22, 3) := by decide +kernel
theorem dX4_finishScan_12 : decode cX4_finishScan 12 = .ok (.iconst 1, 1) := by decide +kernel
theorem dX4_finishScan_13 : decode cX4_finishScan 13 = .ok (.invokevirtual 72, 3) := by decide +kernel
theorem dX4_finishScan_16 : decode cX4_finishScan 16 = .ok (.goto 54, 3) := by decide +kernel
theorem dX4_finishScan_19 : decode cX4_finishScan 19 = .ok (.aload_n 0, 1) := by decide +kernel
theorem dX4_finishScan_20 : decode cX4_finishScan 20 = .ok (.invokevirtual 79, 3) := by decide +kernel
theorem dX4_finishScan_23 : decode cX4_finishScan 23 = .ok (.ifCond .eq 15, 3) := by decide +kernel
theorem dX4_finishScan_26 : decode cX4_finishScan 26 = .ok (.aload_n 0, 1) := by decide +kernel
theorem dX4_finishScan_27 : decode cX4_finishScan 27 = .ok (.aload_n 0, 1) := by decide +kernel
theorem dX4_finishScan_28 : decode cX4_finishScan 28 = .ok (.getfield 22, 3) := by decide +kernel
theorem dX4_finishScan_31 : decode cX4_finishScan 31 = .ok (.iconst 2, 1) := by decide +kernel
theorem dX4_finishScan_32 : decode cX4_finishScan 32 = .ok (.invokevirtual 72, 3) := by decide +kernel
theorem dX4_finishScan_35 : decode cX4_finishScan 35 = .ok (.goto 35, 3) := by decide +kernel
theorem dX4_finishScan_38 : decode cX4_finishScan 38 = .ok (.aload_n 0, 1) := by decide +kernel
theorem dX4_finishScan_39 : decode cX4_finishScan 39 = .ok (.invokevirtual 76, 3) := by decide +kernel
theorem dX4_finishScan_42 : decode cX4_finishScan 42 = .ok (.aload_n 0, 1) := by decide +kernel
theorem dX4_finishScan_43 : decode cX4_finishScan 43 = .ok (.invokevirtual 83, 3) := by decide +kernel
theorem dX4_finishScan_46 : decode cX4_finishScan 46 = .ok (.aload_n 0, 1) := by decide +kernel
theorem dX4_finishScan_47 : decode cX4_finishScan 47 = .ok (.getfield 18, 3) := by decide +kernel
theorem dX4_finishScan_50 : decode cX4_finishScan 50 = .ok (.aload_n 0, 1) := by decide +kernel
theorem dX4_finishScan_51 : decode cX4_finishScan 51 = .ok (.getfield 43, 3) := by decide +kernel
theorem dX4_finishScan_54 : decode cX4_finishScan 54 = .ok (.iconst 1, 1) := by decide +kernel
theorem dX4_finishScan_55 : decode cX4_finishScan 55 = .ok (.iadd, 1) := by decide +kernel
theorem dX4_finishScan_56 : decode cX4_finishScan 56 = .ok (.putfield 86, 3) := by decide +kernel
theorem dX4_finishScan_59 : decode cX4_finishScan 59 = .ok (.aload_n 0, 1) := by decide +kernel
theorem dX4_finishScan_60 : decode cX4_finishScan 60 = .ok (.getfield 18, 3) := by decide +kernel
theorem dX4_finishScan_63 : decode cX4_finishScan 63 = .ok (.aload_n 0, 1) := by decide +kernel
theorem dX4_finishScan_64 : decode cX4_finishScan 64 = .ok (.getfield 49, 3) := by decide +kernel
theorem dX4_finishScan_67 : decode cX4_finishScan 67 = .ok (.putfield 89, 3) := by decide +kernel
theorem dX4_finishScan_70 : decode cX4_finishScan 70 = .ok (.return_, 1) := by decide +kernel
theorem dX4_rowIsShort_0 : decode cX4_rowIsShort 0 = .ok (.aload_n 0, 1) := by decide +kernel
theorem dX4_rowIsShort_1 : decode cX4_rowIsShort 1 = .ok (.getfield 43, 3) := by decide +kernel
theorem dX4_rowIsShort_4 : decode cX4_rowIsShort 4 = .ok (.ifCond .le 20, 3) := by decide +kernel
theorem dX4_rowIsShort_7 : decode cX4_rowIsShort 7 = .ok (.aload_n 0, 1) := by decide +kernel
theorem dX4_rowIsShort_8 : decode cX4_rowIsShort 8 = .ok (.getfield 46, 3) := by decide +kernel
theorem dX4_rowIsShort_11 : decode cX4_rowIsShort 11 = .ok (.iconst 1, 1) := by decide +kernel
theorem dX4_rowIsShort_12 : decode cX4_rowIsShort 12 = .ok (.iadd, 1) := by decide +kernel
theorem dX4_rowIsShort_13 : decode cX4_rowIsShort 13 = .ok (.aload_n 0, 1) := by decide +kernel
theorem dX4_rowIsShort_14 : decode cX4_rowIsShort 14 = .ok (.getfield 49, 3) := by decide +kernel
theorem dX4_rowIsShort_17 : decode cX4_rowIsShort 17 = .ok (.if_icmp .ge 7, 3) := by decide +kernel
theorem dX4_rowIsShort_20 : decode cX4_rowIsShort 20 = .ok (.iconst 1, 1) := by decide +kernel
theorem dX4_rowIsShort_21 : decode cX4_rowIsShort 21 = .ok (.goto 4, 3) := by decide +kernel
theorem dX4_rowIsShort_24 : decode cX4_rowIsShort 24 = .ok (.iconst 0, 1) := by decide +kernel
theorem dX4_rowIsShort_25 : decode cX4_rowIsShort 25 = .ok (.ireturn, 1) := by decide +kernel
set_option maxRecDepth 20000 in
theorem ggX4_endEntry_X1_put : GoodIn wsX4_endEntry wsX1_put := goodIn_r _ [10, 11, 12, 13, 14, 9, 15, 16, 17, 35, 36, 37] (by decide +kernel) (by decide +kernel)
set_option maxRecDepth 20000 in
theorem gX4_endEntry_X1_put : GoodIn wsX4_endEntry (wsV RX4 92 RX1 yX1_put wsX1_put) := goodIn_app (goodIn_of _ (by decide +kernel)) ggX4_endEntry_X1_put
set_option maxRecDepth 20000 in
theorem ggX4_endEntry_X4_startEntry : GoodIn wsX4_endEntry wsX4_startEntry := goodIn_r _ [22, 4, 23, 5, 24, 25, 26, 27, 28, 29, 30, 31, 32, 33, 34] (by decide +kernel) (by decide +kernel)
set_option maxRecDepth 20000 in
theorem gX4_endEntry_X4_startEntry : GoodIn wsX4_endEntry (wsV RX4 52 RX4 yX4_startEntry wsX4_startEntry) := goodIn_app (goodIn_of _ (by decide +kernel)) ggX4_endEntry_X4_startEntry
theorem dX4_endEntry_0 : decode cX4_endEntry 0 = .ok (.aload_n 0, 1) := by decide +kernel
theorem dX4_endEntry_1 : decode cX4_endEntry 1 = .ok (.getfield 18, 3) := by decide +kernel
theorem dX4_endEntry_4 : decode cX4_endEntry 4 = .ok (.aload_n 0, 1) := by decide +kernel
theorem dX4_endEntry_5 : decode cX4_endEntry 5 = .ok (.getfield 43, 3) := by decide +kernel
theorem dX4_endEntry_8 : decode cX4_endEntry 8 = .ok (.aload_n 0, 1) := by decide +kernel
theorem dX4_endEntry_9 : decode cX4_endEntry 9 = .ok (.getfield 46, 3) := by decide +kernel
theorem dX4_endEntry_12 : decode cX4_endEntry 12 = .ok (.aload_n 0, 1) := by decide +kernel
theorem dX4_endEntry_13 : decode cX4_endEntry 13 = .ok (.getfield 55, 3) := by decide +kernel
theorem dX4_endEntry_16 : decode cX4_endEntry 16 = .ok (.ifCond .eq 11, 3) := by decide +kernel
theorem dX4_endEntry_19 : decode cX4_endEntry 19 = .ok (.aload_n 0, 1) := by decide +kernel
theorem dX4_endEntry_20 : decode cX4_endEntry 20 = .ok (.getfield 62, 3) := by decide +kernel
theorem dX4_endEntry_23 : decode cX4_endEntry 23 = .ok (.ineg, 1) := by decide +kernel
theorem dX4_endEntry_24 : decode cX4_endEntry 24 = .ok (.goto 7, 3) := by decide +kernel
theorem dX4_endEntry_27 : decode cX4_endEntry 27 = .ok (.aload_n 0, 1) := by decide +kernel
theorem dX4_endEntry_28 : decode cX4_endEntry 28 = .ok (.getfield 62, 3) := by decide +kernel
theorem dX4_endEntry_31 : decode cX4_endEntry 31 = .ok (.invokevirtual 92, 3) := by decide +kernel
theorem dX4_endEntry_34 : decode cX4_endEntry 34 = .ok (.aload_n 0, 1) := by decide +kernel
theorem dX4_endEntry_35 : decode cX4_endEntry 35 = .ok (.invokevirtual 52, 3) := by decide +kernel
theorem dX4_endEntry_38 : decode cX4_endEntry 38 = .ok (.return_, 1) := by decide +kernel
theorem dX4_endRow_0 : decode cX4_endRow 0 = .ok (.aload_n 0, 1) := by decide +kernel
theorem dX4_endRow_1 : decode cX4_endRow 1 = .ok (.getfield 43, 3) := by decide +kernel
theorem dX4_endRow_4 : decode cX4_endRow 4 = .ok (.ifCond .ne 13, 3) := by decide +kernel
theorem dX4_endRow_7 : decode cX4_endRow 7 = .ok (.aload_n 0, 1) := by decide +kernel
theorem dX4_endRow_8 : decode cX4_endRow 8 = .ok (.aload_n 0, 1) := by decide +kernel
theorem dX4_endRow_9 : decode cX4_endRow 9 = .ok (.getfield 46, 3) := by decide +kernel
theorem dX4_endRow_12 : decode cX4_endRow 12 = .ok (.iconst 1, 1) := by decide +kernel
theorem dX4_endRow_13 : decode cX4_endRow 13 = .ok (.iadd, 1) := by decide +kernel
theorem dX4_endRow_14 : decode cX4_endRow 14 = .ok (.putfield 49, 3) := by decide +kernel
theorem dX4_endRow_17 : decode cX4_endRow 17 = .ok (.return_, 1) := by decide +kernel
theorem dX4_setFault_0 : decode cX4_setFault 0 = .ok (.aload_n 0, 1) := by decide +kernel
theorem dX4_setFault_1 : decode cX4_setFault 1 = .ok (.iload_n 1, 1) := by decide +kernel
theorem dX4_setFault_2 : decode cX4_setFault 2 = .ok (.putfield 95, 3) := by decide +kernel
theorem dX4_setFault_5 : decode cX4_setFault 5 = .ok (.aload_n 0, 1) := by decide +kernel
theorem dX4_setFault_6 : decode cX4_setFault 6 = .ok (.iload_n 2, 1) := by decide +kernel
theorem dX4_setFault_7 : decode cX4_setFault 7 = .ok (.putfield 29, 3) := by decide +kernel
theorem dX4_setFault_10 : decode cX4_setFault 10 = .ok (.return_, 1) := by decide +kernel
theorem dX5_init_0 : decode cX5_init 0 = .ok (.aload_n 0, 1) := by decide +kernel
theorem dX5_init_1 : decode cX5_init 1 = .ok (.invokespecial 3, 3) := by decide +kernel
theorem dX5_init_4 : decode cX5_init 4 = .ok (.aload_n 0, 1) := by decide +kernel
theorem dX5_init_5 : decode cX5_init 5 = .ok (.bipush 16, 2) := by decide +kernel
theorem dX5_init_7 : decode cX5_init 7 = .ok (.newarray .int, 2) := by decide +kernel
theorem dX5_init_9 : decode cX5_init 9 = .ok (.putfield 9, 3) := by decide +kernel
theorem dX5_init_12 : decode cX5_init 12 = .ok (.aload_n 0, 1) := by decide +kernel
theorem dX5_init_13 : decode cX5_init 13 = .ok (.bipush 16, 2) := by decide +kernel
theorem dX5_init_15 : decode cX5_init 15 = .ok (.newarray .int, 2) := by decide +kernel
theorem dX5_init_17 : decode cX5_init 17 = .ok (.putfield 15, 3) := by decide +kernel
theorem dX5_init_20 : decode cX5_init 20 = .ok (.aload_n 0, 1) := by decide +kernel
theorem dX5_init_21 : decode cX5_init 21 = .ok (.bipush 16, 2) := by decide +kernel
theorem dX5_init_23 : decode cX5_init 23 = .ok (.newarray .int, 2) := by decide +kernel
theorem dX5_init_25 : decode cX5_init 25 = .ok (.putfield 18, 3) := by decide +kernel
theorem dX5_init_28 : decode cX5_init 28 = .ok (.aload_n 0, 1) := by decide +kernel
theorem dX5_init_29 : decode cX5_init 29 = .ok (.bipush 16, 2) := by decide +kernel
theorem dX5_init_31 : decode cX5_init 31 = .ok (.newarray .int, 2) := by decide +kernel
theorem dX5_init_33 : decode cX5_init 33 = .ok (.putfield 21, 3) := by decide +kernel
theorem dX5_init_36 : decode cX5_init 36 = .ok (.return_, 1) := by decide +kernel
theorem dX5_cell_0 : decode cX5_cell 0 = .ok (.iload_n 0, 1) := by decide +kernel
theorem dX5_cell_1 : decode cX5_cell 1 = .ok (.iconst 4, 1) := by decide +kernel
theorem dX5_cell_2 : decode cX5_cell 2 = .ok (.imul, 1) := by decide +kernel
theorem dX5_cell_3 : decode cX5_cell 3 = .ok (.iload_n 1, 1) := by decide +kernel
theorem dX5_cell_4 : decode cX5_cell 4 = .ok (.iadd, 1) := by decide +kernel
theorem dX5_cell_5 : decode cX5_cell 5 = .ok (.ireturn, 1) := by decide +kernel
theorem dX5_isCell_0 : decode cX5_isCell 0 = .ok (.iload_n 0, 1) := by decide +kernel
theorem dX5_isCell_1 : decode cX5_isCell 1 = .ok (.ifCond .lt 13, 3) := by decide +kernel
theorem dX5_isCell_4 : decode cX5_isCell 4 = .ok (.iload_n 0, 1) := by decide +kernel
theorem dX5_isCell_5 : decode cX5_isCell 5 = .ok (.bipush 16, 2) := by decide +kernel
theorem dX5_isCell_7 : decode cX5_isCell 7 = .ok (.if_icmp .ge 7, 3) := by decide +kernel
theorem dX5_isCell_10 : decode cX5_isCell 10 = .ok (.iconst 1, 1) := by decide +kernel
theorem dX5_isCell_11 : decode cX5_isCell 11 = .ok (.goto 4, 3) := by decide +kernel
theorem dX5_isCell_14 : decode cX5_isCell 14 = .ok (.iconst 0, 1) := by decide +kernel
theorem dX5_isCell_15 : decode cX5_isCell 15 = .ok (.ireturn, 1) := by decide +kernel
set_option maxRecDepth 20000 in
theorem ggX5_empty_J7_fill_53178 : GoodIn wsX5_empty wsJ7_fill_53178 := goodIn_r _ [10] (by decide +kernel) (by decide +kernel)
set_option maxRecDepth 20000 in
theorem gX5_empty_J7_fill_53178 : GoodIn wsX5_empty (va_wsS RX5 24 yJ7_fill_53178 wsJ7_fill_53178) := goodIn_app (goodIn_of _ (by decide +kernel)) ggX5_empty_J7_fill_53178
theorem dX5_empty_0 : decode cX5_empty 0 = .ok (.aload_n 0, 1) := by decide +kernel
theorem dX5_empty_1 : decode cX5_empty 1 = .ok (.getfield 9, 3) := by decide +kernel
theorem dX5_empty_4 : decode cX5_empty 4 = .ok (.iconst 0, 1) := by decide +kernel
theorem dX5_empty_5 : decode cX5_empty 5 = .ok (.invokestatic 24, 3) := by decide +kernel
theorem dX5_empty_8 : decode cX5_empty 8 = .ok (.aload_n 0, 1) := by decide +kernel
theorem dX5_empty_9 : decode cX5_empty 9 = .ok (.getfield 15, 3) := by decide +kernel
theorem dX5_empty_12 : decode cX5_empty 12 = .ok (.iconst 0, 1) := by decide +kernel
theorem dX5_empty_13 : decode cX5_empty 13 = .ok (.invokestatic 24, 3) := by decide +kernel
theorem dX5_empty_16 : decode cX5_empty 16 = .ok (.aload_n 0, 1) := by decide +kernel
theorem dX5_empty_17 : decode cX5_empty 17 = .ok (.getfield 18, 3) := by decide +kernel
theorem dX5_empty_20 : decode cX5_empty 20 = .ok (.ldc 30, 2) := by decide +kernel
theorem dX5_empty_22 : decode cX5_empty 22 = .ok (.invokestatic 24, 3) := by decide +kernel
theorem dX5_empty_25 : decode cX5_empty 25 = .ok (.aload_n 0, 1) := by decide +kernel
theorem dX5_empty_26 : decode cX5_empty 26 = .ok (.getfield 21, 3) := by decide +kernel
theorem dX5_empty_29 : decode cX5_empty 29 = .ok (.ldc 30, 2) := by decide +kernel
theorem dX5_empty_31 : decode cX5_empty 31 = .ok (.invokestatic 24, 3) := by decide +kernel
theorem dX5_empty_34 : decode cX5_empty 34 = .ok (.aload_n 0, 1) := by decide +kernel
theorem dX5_empty_35 : decode cX5_empty 35 = .ok (.iconst 0, 1) := by decide +kernel
theorem dX5_empty_36 : decode cX5_empty 36 = .ok (.putfield 31, 3) := by decide +kernel
theorem dX5_empty_39 : decode cX5_empty 39 = .ok (.return_, 1) := by decide +kernel
theorem dX5_ticksLeft_0 : decode cX5_ticksLeft 0 = .ok (.aload_n 0, 1) := by decide +kernel
theorem dX5_ticksLeft_1 : decode cX5_ticksLeft 1 = .ok (.getfield 35, 3) := by decide +kernel
theorem dX5_ticksLeft_4 : decode cX5_ticksLeft 4 = .ok (.aload_n 0, 1) := by decide +kernel
theorem dX5_ticksLeft_5 : decode cX5_ticksLeft 5 = .ok (.getfield 31, 3) := by decide +kernel
theorem dX5_ticksLeft_8 : decode cX5_ticksLeft 8 = .ok (.isub, 1) := by decide +kernel
theorem dX5_ticksLeft_9 : decode cX5_ticksLeft 9 = .ok (.ireturn, 1) := by decide +kernel
set_option maxRecDepth 20000 in
theorem ggX5_sumOf_X5_isCell : GoodIn wsX5_sumOf wsX5_isCell := goodIn_r _ [5] (by decide +kernel) (by decide +kernel)
set_option maxRecDepth 20000 in
theorem gX5_sumOf_X5_isCell : GoodIn wsX5_sumOf (va_wsS RX5 38 yX5_isCell wsX5_isCell) := goodIn_app (goodIn_of _ (by decide +kernel)) ggX5_sumOf_X5_isCell
theorem dX5_sumOf_0 : decode cX5_sumOf 0 = .ok (.iload_n 1, 1) := by decide +kernel
theorem dX5_sumOf_1 : decode cX5_sumOf 1 = .ok (.invokestatic 38, 3) := by decide +kernel
theorem dX5_sumOf_4 : decode cX5_sumOf 4 = .ok (.ifCond .eq 12, 3) := by decide +kernel
theorem dX5_sumOf_7 : decode cX5_sumOf 7 = .ok (.aload_n 0, 1) := by decide +kernel
theorem dX5_sumOf_8 : decode cX5_sumOf 8 = .ok (.getfield 9, 3) := by decide +kernel
theorem dX5_sumOf_11 : decode cX5_sumOf 11 = .ok (.iload_n 1, 1) := by decide +kernel
theorem dX5_sumOf_12 : decode cX5_sumOf 12 = .ok (.iaload, 1) := by decide +kernel
theorem dX5_sumOf_13 : decode cX5_sumOf 13 = .ok (.goto 4, 3) := by decide +kernel
theorem dX5_sumOf_16 : decode cX5_sumOf 16 = .ok (.iconst 0, 1) := by decide +kernel
theorem dX5_sumOf_17 : decode cX5_sumOf 17 = .ok (.ireturn, 1) := by decide +kernel
set_option maxRecDepth 20000 in
theorem ggX5_meetingsOf_X5_isCell : GoodIn wsX5_meetingsOf wsX5_isCell := goodIn_r _ [5] (by decide +kernel) (by decide +kernel)
set_option maxRecDepth 20000 in
theorem gX5_meetingsOf_X5_isCell : GoodIn wsX5_meetingsOf (va_wsS RX5 38 yX5_isCell wsX5_isCell) := goodIn_app (goodIn_of _ (by decide +kernel)) ggX5_meetingsOf_X5_isCell
theorem dX5_meetingsOf_0 : decode cX5_meetingsOf 0 = .ok (.iload_n 1, 1) := by decide +kernel
theorem dX5_meetingsOf_1 : decode cX5_meetingsOf 1 = .ok (.invokestatic 38, 3) := by decide +kernel
theorem dX5_meetingsOf_4 : decode cX5_meetingsOf 4 = .ok (.ifCond .eq 12, 3) := by decide +kernel
theorem dX5_meetingsOf_7 : decode cX5_meetingsOf 7 = .ok (.aload_n 0, 1) := by decide +kernel
theorem dX5_meetingsOf_8 : decode cX5_meetingsOf 8 = .ok (.getfield 15, 3) := by decide +kernel
theorem dX5_meetingsOf_11 : decode cX5_meetingsOf 11 = .ok (.iload_n 1, 1) := by decide +kernel
theorem dX5_meetingsOf_12 : decode cX5_meetingsOf 12 = .ok (.iaload, 1) := by decide +kernel
theorem dX5_meetingsOf_13 : decode cX5_meetingsOf 13 = .ok (.goto 4, 3) := by decide +kernel
theorem dX5_meetingsOf_16 : decode cX5_meetingsOf 16 = .ok (.iconst 0, 1) := by decide +kernel
theorem dX5_meetingsOf_17 : decode cX5_meetingsOf 17 = .ok (.ireturn, 1) := by decide +kernel
set_option maxRecDepth 20000 in
theorem ggX5_rightwardOf_X5_isCell : GoodIn wsX5_rightwardOf wsX5_isCell := goodIn_r _ [6] (by decide +kernel) (by decide +kernel)
set_option maxRecDepth 20000 in
theorem gX5_rightwardOf_X5_isCell : GoodIn wsX5_rightwardOf (va_wsS RX5 38 yX5_isCell wsX5_isCell) := goodIn_app (goodIn_of _ (by decide +kernel)) ggX5_rightwardOf_X5_isCell
theorem dX5_rightwardOf_0 : decode cX5_rightwardOf 0 = .ok (.iload_n 1, 1) := by decide +kernel
theorem dX5_rightwardOf_1 : decode cX5_rightwardOf 1 = .ok (.invokestatic 38, 3) := by decide +kernel
theorem dX5_rightwardOf_4 : decode cX5_rightwardOf 4 = .ok (.ifCond .eq 12, 3) := by decide +kernel
theorem dX5_rightwardOf_7 : decode cX5_rightwardOf 7 = .ok (.aload_n 0, 1) := by decide +kernel
theorem dX5_rightwardOf_8 : decode cX5_rightwardOf 8 = .ok (.getfield 18, 3) := by decide +kernel
theorem dX5_rightwardOf_11 : decode cX5_rightwardOf 11 = .ok (.iload_n 1, 1) := by decide +kernel
theorem dX5_rightwardOf_12 : decode cX5_rightwardOf 12 = .ok (.iaload, 1) := by decide +kernel
theorem dX5_rightwardOf_13 : decode cX5_rightwardOf 13 = .ok (.goto 5, 3) := by decide +kernel
theorem dX5_rightwardOf_16 : decode cX5_rightwardOf 16 = .ok (.ldc 30, 2) := by decide +kernel
theorem dX5_rightwardOf_18 : decode cX5_rightwardOf 18 = .ok (.ireturn, 1) := by decide +kernel
set_option maxRecDepth 20000 in
theorem ggX5_downwardOf_X5_isCell : GoodIn wsX5_downwardOf wsX5_isCell := goodIn_r _ [6] (by decide +kernel) (by decide +kernel)
set_option maxRecDepth 20000 in
theorem gX5_downwardOf_X5_isCell : GoodIn wsX5_downwardOf (va_wsS RX5 38 yX5_isCell wsX5_isCell) := goodIn_app (goodIn_of _ (by decide +kernel)) ggX5_downwardOf_X5_isCell
theorem dX5_downwardOf_0 : decode cX5_downwardOf 0 = .ok (.iload_n 1, 1) := by decide +kernel
theorem dX5_downwardOf_1 : decode cX5_downwardOf 1 = .ok (.invokestatic 38, 3) := by decide +kernel
theorem dX5_downwardOf_4 : decode cX5_downwardOf 4 = .ok (.ifCond .eq 12, 3) := by decide +kernel
theorem dX5_downwardOf_7 : decode cX5_downwardOf 7 = .ok (.aload_n 0, 1) := by decide +kernel
theorem dX5_downwardOf_8 : decode cX5_downwardOf 8 = .ok (.getfield 21, 3) := by decide +kernel
theorem dX5_downwardOf_11 : decode cX5_downwardOf 11 = .ok (.iload_n 1, 1) := by decide +kernel
theorem dX5_downwardOf_12 : decode cX5_downwardOf 12 = .ok (.iaload, 1) := by decide +kernel
theorem dX5_downwardOf_13 : decode cX5_downwardOf 13 = .ok (.goto 5, 3) := by decide +kernel
theorem dX5_downwardOf_16 : decode cX5_downwardOf 16 = .ok (.ldc 30, 2) := by decide +kernel
theorem dX5_downwardOf_18 : decode cX5_downwardOf 18 = .ok (.ireturn, 1) := by decide +kernel
set_option maxRecDepth 20000 in
theorem ggX5_pass_X5_isCell : GoodIn wsX5_pass wsX5_isCell := goodIn_r _ [9] (by decide +kernel) (by decide +kernel)
set_option maxRecDepth 20000 in
theorem gX5_pass_X5_isCell : GoodIn wsX5_pass (va_wsS RX5 38 yX5_isCell wsX5_isCell) := goodIn_app (goodIn_of _ (by decide +kernel)) ggX5_pass_X5_isCell
set_option maxRecDepth 20000 in
theorem ggX5_pass_X5_timesAdded : GoodIn wsX5_pass wsX5_timesAdded := goodIn_r _ [12] (by decide +kernel) (by decide +kernel)
set_option maxRecDepth 20000 in
theorem gX5_pass_X5_timesAdded : GoodIn wsX5_pass (va_wsS RX5 42 yX5_timesAdded wsX5_timesAdded) := goodIn_app (goodIn_of _ (by decide +kernel)) ggX5_pass_X5_timesAdded
set_option maxRecDepth 20000 in
theorem ggX5_pass_X5_zeroIfAny : GoodIn wsX5_pass wsX5_zeroIfAny := goodIn_r _ [15, 1] (by decide +kernel) (by decide +kernel)
set_option maxRecDepth 20000 in
theorem gX5_pass_X5_zeroIfAny : GoodIn wsX5_pass (va_wsS RX5 46 yX5_zeroIfAny wsX5_zeroIfAny) := goodIn_app (goodIn_of _ (by decide +kernel)) ggX5_pass_X5_zeroIfAny
theorem dX5_pass_0 : decode cX5_pass 0 = .ok (.iload_n 1, 1) := by decide +kernel
theorem dX5_pass_1 : decode cX5_pass 1 = .ok (.invokestatic 38, 3) := by decide +kernel
theorem dX5_pass_4 : decode cX5_pass 4 = .ok (.ifCond .ne 4, 3) := by decide +kernel
theorem dX5_pass_7 : decode cX5_pass 7 = .ok (.return_, 1) := by decide +kernel
theorem dX5_pass_8 : decode cX5_pass 8 = .ok (.iload_n 2, 1) := by decide +kernel
theorem dX5_pass_9 : decode cX5_pass 9 = .ok (.ldc 30, 2) := by decide +kernel
theorem dX5_pass_11 : decode cX5_pass 11 = .ok (.if_icmp .eq 37, 3) := by decide +kernel
theorem dX5_pass_14 : decode cX5_pass 14 = .ok (.iload_n 3, 1) := by decide +kernel
theorem dX5_pass_15 : decode cX5_pass 15 = .ok (.ldc 30, 2) := by decide +kernel
theorem dX5_pass_17 : decode cX5_pass 17 = .ok (.if_icmp .eq 31, 3) := by decide +kernel
theorem dX5_pass_20 : decode cX5_pass 20 = .ok (.aload_n 0, 1) := by decide +kernel
theorem dX5_pass_21 : decode cX5_pass 21 = .ok (.getfield 15, 3) := by decide +kernel
theorem dX5_pass_24 : decode cX5_pass 24 = .ok (.iload_n 1, 1) := by decide +kernel
theorem dX5_pass_25 : decode cX5_pass 25 = .ok (.dup2, 1) := by decide +kernel
theorem dX5_pass_26 : decode cX5_pass 26 = .ok (.iaload, 1) := by decide +kernel
theorem dX5_pass_27 : decode cX5_pass 27 = .ok (.iconst 1, 1) := by decide +kernel
theorem dX5_pass_28 : decode cX5_pass 28 = .ok (.iadd, 1) := by decide +kernel
theorem dX5_pass_29 : decode cX5_pass 29 = .ok (.iastore, 1) := by decide +kernel
theorem dX5_pass_30 : decode cX5_pass 30 = .ok (.aload_n 0, 1) := by decide +kernel
theorem dX5_pass_31 : decode cX5_pass 31 = .ok (.getfield 9, 3) := by decide +kernel
theorem dX5_pass_34 : decode cX5_pass 34 = .ok (.iload_n 1, 1) := by decide +kernel
theorem dX5_pass_35 : decode cX5_pass 35 = .ok (.dup2, 1) := by decide +kernel
theorem dX5_pass_36 : decode cX5_pass 36 = .ok (.iaload, 1) := by decide +kernel
theorem dX5_pass_37 : decode cX5_pass 37 = .ok (.iload 4, 2) := by decide +kernel
theorem dX5_pass_39 : decode cX5_pass 39 = .ok (.invokestatic 42, 3) := by decide +kernel
theorem dX5_pass_42 : decode cX5_pass 42 = .ok (.iload_n 2, 1) := by decide +kernel
theorem dX5_pass_43 : decode cX5_pass 43 = .ok (.imul, 1) := by decide +kernel
theorem dX5_pass_44 : decode cX5_pass 44 = .ok (.iload_n 3, 1) := by decide +kernel
theorem dX5_pass_45 : decode cX5_pass 45 = .ok (.imul, 1) := by decide +kernel
theorem dX5_pass_46 : decode cX5_pass 46 = .ok (.iadd, 1) := by decide +kernel
theorem dX5_pass_47 : decode cX5_pass 47 = .ok (.iastore, 1) := by decide +kernel
theorem dX5_pass_48 : decode cX5_pass 48 = .ok (.aload_n 0, 1) := by decide +kernel
theorem dX5_pass_49 : decode cX5_pass 49 = .ok (.getfield 18, 3) := by decide +kernel
theorem dX5_pass_52 : decode cX5_pass 52 = .ok (.iload_n 1, 1) := by decide +kernel
theorem dX5_pass_53 : decode cX5_pass 53 = .ok (.iload 4, 2) := by decide +kernel
theorem dX5_pass_55 : decode cX5_pass 55 = .ok (.iconst 3, 1) := by decide +kernel
theorem dX5_pass_56 : decode cX5_pass 56 = .ok (.if_icmp .ne 10, 3) := by decide +kernel
theorem dX5_pass_59 : decode cX5_pass 59 = .ok (.iload_n 2, 1) := by decide +kernel
theorem dX5_pass_60 : decode cX5_pass 60 = .ok (.invokestatic 46, 3) := by decide +kernel
theorem dX5_pass_63 : decode cX5_pass 63 = .ok (.goto 4, 3) := by decide +kernel
theorem dX5_pass_66 : decode cX5_pass 66 = .ok (.iload_n 2, 1) := by decide +kernel
theorem dX5_pass_67 : decode cX5_pass 67 = .ok (.iastore, 1) := by decide +kernel
theorem dX5_pass_68 : decode cX5_pass 68 = .ok (.aload_n 0, 1) := by decide +kernel
theorem dX5_pass_69 : decode cX5_pass 69 = .ok (.getfield 21, 3) := by decide +kernel
theorem dX5_pass_72 : decode cX5_pass 72 = .ok (.iload_n 1, 1) := by decide +kernel
theorem dX5_pass_73 : decode cX5_pass 73 = .ok (.iload 4, 2) := by decide +kernel
theorem dX5_pass_75 : decode cX5_pass 75 = .ok (.iconst 4, 1) := by decide +kernel
theorem dX5_pass_76 : decode cX5_pass 76 = .ok (.if_icmp .ne 10, 3) := by decide +kernel
theorem dX5_pass_79 : decode cX5_pass 79 = .ok (.iload_n 3, 1) := by decide +kernel
theorem dX5_pass_80 : decode cX5_pass 80 = .ok (.invokestatic 46, 3) := by decide +kernel
theorem dX5_pass_83 : decode cX5_pass 83 = .ok (.goto 4, 3) := by decide +kernel
theorem dX5_pass_86 : decode cX5_pass 86 = .ok (.iload_n 3, 1) := by decide +kernel
theorem dX5_pass_87 : decode cX5_pass 87 = .ok (.iastore, 1) := by decide +kernel
theorem dX5_pass_88 : decode cX5_pass 88 = .ok (.return_, 1) := by decide +kernel
theorem dX5_timesAdded_0 : decode cX5_timesAdded 0 = .ok (.iload_n 0, 1) := by decide +kernel
theorem dX5_timesAdded_1 : decode cX5_timesAdded 1 = .ok (.iconst 1, 1) := by decide +kernel
theorem dX5_timesAdded_2 : decode cX5_timesAdded 2 = .ok (.if_icmp .ne 5, 3) := by decide +kernel
theorem dX5_timesAdded_5 : decode cX5_timesAdded 5 = .ok (.iconst 0, 1) := by decide +kernel
theorem dX5_timesAdded_6 : decode cX5_timesAdded 6 = .ok (.ireturn, 1) := by decide +kernel
theorem dX5_timesAdded_7 : decode cX5_timesAdded 7 = .ok (.iload_n 0, 1) := by decide +kernel
theorem dX5_timesAdded_8 : decode cX5_timesAdded 8 = .ok (.iconst 2, 1) := by decide +kernel
theorem dX5_timesAdded_9 : decode cX5_timesAdded 9 = .ok (.if_icmp .ne 7, 3) := by decide +kernel
theorem dX5_timesAdded_12 : decode cX5_timesAdded 12 = .ok (.iconst 2, 1) := by decide +kernel
theorem dX5_timesAdded_13 : decode cX5_timesAdded 13 = .ok (.goto 4, 3) := by decide +kernel
theorem dX5_timesAdded_16 : decode cX5_timesAdded 16 = .ok (.iconst 1, 1) := by decide +kernel
theorem dX5_timesAdded_17 : decode cX5_timesAdded 17 = .ok (.ireturn, 1) := by decide +kernel
theorem dX5_zeroIfAny_0 : decode cX5_zeroIfAny 0 = .ok (.iload_n 0, 1) := by decide +kernel
theorem dX5_zeroIfAny_1 : decode cX5_zeroIfAny 1 = .ok (.ldc 30, 2) := by decide +kernel
theorem dX5_zeroIfAny_3 : decode cX5_zeroIfAny 3 = .ok (.if_icmp .ne 8, 3) := by decide +kernel
theorem dX5_zeroIfAny_6 : decode cX5_zeroIfAny 6 = .ok (.ldc 30, 2) := by decide +kernel
theorem dX5_zeroIfAny_8 : decode cX5_zeroIfAny 8 = .ok (.goto 4, 3) := by decide +kernel
theorem dX5_zeroIfAny_11 : decode cX5_zeroIfAny 11 = .ok (.iconst 0, 1) := by decide +kernel
theorem dX5_zeroIfAny_12 : decode cX5_zeroIfAny 12 = .ok (.ireturn, 1) := by decide +kernel
theorem dX5_copyFrom_0 : decode cX5_copyFrom 0 = .ok (.aload_n 0, 1) := by decide +kernel
theorem dX5_copyFrom_1 : decode cX5_copyFrom 1 = .ok (.aload_n 1, 1) := by decide +kernel
theorem dX5_copyFrom_2 : decode cX5_copyFrom 2 = .ok (.getfield 49, 3) := by decide +kernel
theorem dX5_copyFrom_5 : decode cX5_copyFrom 5 = .ok (.putfield 49, 3) := by decide +kernel
theorem dX5_copyFrom_8 : decode cX5_copyFrom 8 = .ok (.aload_n 0, 1) := by decide +kernel
theorem dX5_copyFrom_9 : decode cX5_copyFrom 9 = .ok (.aload_n 1, 1) := by decide +kernel
theorem dX5_copyFrom_10 : decode cX5_copyFrom 10 = .ok (.getfield 53, 3) := by decide +kernel
theorem dX5_copyFrom_13 : decode cX5_copyFrom 13 = .ok (.putfield 53, 3) := by decide +kernel
theorem dX5_copyFrom_16 : decode cX5_copyFrom 16 = .ok (.aload_n 0, 1) := by decide +kernel
theorem dX5_copyFrom_17 : decode cX5_copyFrom 17 = .ok (.aload_n 1, 1) := by decide +kernel
theorem dX5_copyFrom_18 : decode cX5_copyFrom 18 = .ok (.getfield 56, 3) := by decide +kernel
theorem dX5_copyFrom_21 : decode cX5_copyFrom 21 = .ok (.putfield 56, 3) := by decide +kernel
theorem dX5_copyFrom_24 : decode cX5_copyFrom 24 = .ok (.aload_n 0, 1) := by decide +kernel
theorem dX5_copyFrom_25 : decode cX5_copyFrom 25 = .ok (.aload_n 1, 1) := by decide +kernel
theorem dX5_copyFrom_26 : decode cX5_copyFrom 26 = .ok (.getfield 59, 3) := by decide +kernel
theorem dX5_copyFrom_29 : decode cX5_copyFrom 29 = .ok (.putfield 59, 3) := by decide +kernel
theorem dX5_copyFrom_32 : decode cX5_copyFrom 32 = .ok (.aload_n 0, 1) := by decide +kernel
theorem dX5_copyFrom_33 : decode cX5_copyFrom 33 = .ok (.aload_n 1, 1) := by decide +kernel
theorem dX5_copyFrom_34 : decode cX5_copyFrom 34 = .ok (.getfield 62, 3) := by decide +kernel
theorem dX5_copyFrom_37 : decode cX5_copyFrom 37 = .ok (.putfield 62, 3) := by decide +kernel
theorem dX5_copyFrom_40 : decode cX5_copyFrom 40 = .ok (.aload_n 0, 1) := by decide +kernel
theorem dX5_copyFrom_41 : decode cX5_copyFrom 41 = .ok (.aload_n 1, 1) := by decide +kernel
theorem dX5_copyFrom_42 : decode cX5_copyFrom 42 = .ok (.getfield 31, 3) := by decide +kernel
theorem dX5_copyFrom_45 : decode cX5_copyFrom 45 = .ok (.putfield 31, 3) := by decide +kernel
theorem dX5_copyFrom_48 : decode cX5_copyFrom 48 = .ok (.aload_n 0, 1) := by decide +kernel
theorem dX5_copyFrom_49 : decode cX5_copyFrom 49 = .ok (.aload_n 1, 1) := by decide +kernel
theorem dX5_copyFrom_50 : decode cX5_copyFrom 50 = .ok (.getfield 35, 3) := by decide +kernel
theorem dX5_copyFrom_53 : decode cX5_copyFrom 53 = .ok (.putfield 35, 3) := by decide +kernel
theorem dX5_copyFrom_56 : decode cX5_copyFrom 56 = .ok (.aload_n 1, 1) := by decide +kernel
theorem dX5_copyFrom_57 : decode cX5_copyFrom 57 = .ok (.getfield 9, 3) := by decide +kernel
theorem dX5_copyFrom_60 : decode cX5_copyFrom 60 = .ok (.iconst 0, 1) := by decide +kernel
theorem dX5_copyFrom_61 : decode cX5_copyFrom 61 = .ok (.aload_n 0, 1) := by decide +kernel
theorem dX5_copyFrom_62 : decode cX5_copyFrom 62 = .ok (.getfield 9, 3) := by decide +kernel
theorem dX5_copyFrom_65 : decode cX5_copyFrom 65 = .ok (.iconst 0, 1) := by decide +kernel
theorem dX5_copyFrom_66 : decode cX5_copyFrom 66 = .ok (.aload_n 0, 1) := by decide +kernel
theorem dX5_copyFrom_67 : decode cX5_copyFrom 67 = .ok (.getfield 9, 3) := by decide +kernel
theorem dX5_copyFrom_70 : decode cX5_copyFrom 70 = .ok (.arraylength, 1) := by decide +kernel
theorem dX5_copyFrom_71 : decode cX5_copyFrom 71 = .ok (.invokestatic 65, 3) := by decide +kernel
theorem dX5_copyFrom_74 : decode cX5_copyFrom 74 = .ok (.aload_n 1, 1) := by decide +kernel
theorem dX5_copyFrom_75 : decode cX5_copyFrom 75 = .ok (.getfield 15, 3) := by decide +kernel
theorem dX5_copyFrom_78 : decode cX5_copyFrom 78 = .ok (.iconst 0, 1) := by decide +kernel
theorem dX5_copyFrom_79 : decode cX5_copyFrom 79 = .ok (.aload_n 0, 1) := by decide +kernel
theorem dX5_copyFrom_80 : decode cX5_copyFrom 80 = .ok (.getfield 15, 3) := by decide +kernel
theorem dX5_copyFrom_83 : decode cX5_copyFrom 83 = .ok (.iconst 0, 1) := by decide +kernel
theorem dX5_copyFrom_84 : decode cX5_copyFrom 84 = .ok (.aload_n 0, 1) := by decide +kernel
theorem dX5_copyFrom_85 : decode cX5_copyFrom 85 = .ok (.getfield 15, 3) := by decide +kernel
theorem dX5_copyFrom_88 : decode cX5_copyFrom 88 = .ok (.arraylength, 1) := by decide +kernel
theorem dX5_copyFrom_89 : decode cX5_copyFrom 89 = .ok (.invokestatic 65, 3) := by decide +kernel
theorem dX5_copyFrom_92 : decode cX5_copyFrom 92 = .ok (.aload_n 1, 1) := by decide +kernel
theorem dX5_copyFrom_93 : decode cX5_copyFrom 93 = .ok (.getfield 18, 3) := by decide +kernel
theorem dX5_copyFrom_96 : decode cX5_copyFrom 96 = .ok (.iconst 0, 1) := by decide +kernel
theorem dX5_copyFrom_97 : decode cX5_copyFrom 97 = .ok (.aload_n 0, 1) := by decide +kernel
theorem dX5_copyFrom_98 : decode cX5_copyFrom 98 = .ok (.getfield 18, 3) := by decide +kernel
theorem dX5_copyFrom_101 : decode cX5_copyFrom 101 = .ok (.iconst 0, 1) := by decide +kernel
theorem dX5_copyFrom_102 : decode cX5_copyFrom 102 = .ok (.aload_n 0, 1) := by decide +kernel
theorem dX5_copyFrom_103 : decode cX5_copyFrom 103 = .ok (.getfield 18, 3) := by decide +kernel
theorem dX5_copyFrom_106 : decode cX5_copyFrom 106 = .ok (.arraylength, 1) := by decide +kernel
theorem dX5_copyFrom_107 : decode cX5_copyFrom 107 = .ok (.invokestatic 65, 3) := by decide +kernel
theorem dX5_copyFrom_110 : decode cX5_copyFrom 110 = .ok (.aload_n 1, 1) := by decide +kernel
theorem dX5_copyFrom_111 : decode cX5_copyFrom 111 = .ok (.getfield 21, 3) := by decide +kernel
theorem dX5_copyFrom_114 : decode cX5_copyFrom 114 = .ok (.iconst 0, 1) := by decide +kernel
theorem dX5_copyFrom_115 : decode cX5_copyFrom 115 = .ok (.aload_n 0, 1) := by decide +kernel
theorem dX5_copyFrom_116 : decode cX5_copyFrom 116 = .ok (.getfield 21, 3) := by decide +kernel
theorem dX5_copyFrom_119 : decode cX5_copyFrom 119 = .ok (.iconst 0, 1) := by decide +kernel
theorem dX5_copyFrom_120 : decode cX5_copyFrom 120 = .ok (.aload_n 0, 1) := by decide +kernel
theorem dX5_copyFrom_121 : decode cX5_copyFrom 121 = .ok (.getfield 21, 3) := by decide +kernel
theorem dX5_copyFrom_124 : decode cX5_copyFrom 124 = .ok (.arraylength, 1) := by decide +kernel
theorem dX5_copyFrom_125 : decode cX5_copyFrom 125 = .ok (.invokestatic 65, 3) := by decide +kernel
theorem dX5_copyFrom_128 : decode cX5_copyFrom 128 = .ok (.return_, 1) := by decide +kernel
set_option maxRecDepth 20000 in
theorem ggX6_init_X3_init : GoodIn wsX6_init wsX3_init := goodIn_r _ [19, 20, 2, 3, 21, 22, 23, 24, 25, 26, 27, 28, 29, 30, 31, 32, 33, 34, 35, 36, 37, 38, 39, 40, 41, 42, 43, 44, 45, 46, 47, 48, 49, 50, 51, 52, 53, 54, 55, 56, 57, 6, 58, 59, 60, 61, 62, 63, 64, 65, 66, 67, 68, 69, 70, 71, 72, 109, 110, 111, 87, 88, 89, 90, 91, 112, 113, 114, 115, 116, 117, 118, 119, 120, 121, 122, 123, 124, 125] (by decide +kernel) (by decide +kernel)
set_option maxRecDepth 20000 in
theorem gX6_init_X3_init : GoodIn wsX6_init (wsX3_init) := ggX6_init_X3_init
set_option maxRecDepth 20000 in
theorem ggX6_init_X0_init : GoodIn wsX6_init wsX0_init := goodIn_r _ [75, 76, 2, 3, 77, 78, 5, 6, 79, 18, 19, 20, 21, 22, 23, 24, 25, 26, 27, 28, 29, 30, 31, 32, 33, 34, 35, 36, 37, 38, 39, 40, 41, 42, 43, 44, 45, 46, 47, 48, 49, 50, 51, 52, 53, 54, 55, 56, 57, 58, 59, 60, 61, 62, 63, 64, 65, 66, 67, 68, 69, 70, 71, 72, 96, 97, 87, 88, 89, 90, 91, 109, 110, 111, 112, 113, 114, 115, 116, 117, 118, 119, 120, 121, 122, 123, 124, 125] (by decide +kernel) (by decide +kernel)
set_option maxRecDepth 20000 in
theorem gX6_init_X0_init : GoodIn wsX6_init (wsX0_init) := ggX6_init_X0_init
set_option maxRecDepth 20000 in
theorem ggX6_init_X4_init : GoodIn wsX6_init wsX4_init := goodIn_r _ [81, 82, 2, 3, 83, 84, 85, 26, 27, 86, 42, 43, 44, 45, 46, 40, 47, 98, 99, 100, 101, 102, 103, 104, 105, 106, 107, 108, 112, 113, 114] (by decide +kernel) (by decide +kernel)
set_option maxRecDepth 20000 in
theorem gX6_init_X4_init_n28 : GoodIn wsX6_init (wsX4_init) := ggX6_init_X4_init
theorem dX6_init_0 : decode cX6_init 0 = .ok (.aload_n 0, 1) := by decide +kernel
theorem dX6_init_1 : decode cX6_init 1 = .ok (.invokespecial 1, 3) := by decide +kernel
theorem dX6_init_4 : decode cX6_init 4 = .ok (.aload_n 0, 1) := by decide +kernel
theorem dX6_init_5 : decode cX6_init 5 = .ok (.new 7, 3) := by decide +kernel
theorem dX6_init_8 : decode cX6_init 8 = .ok (.dup, 1) := by decide +kernel
theorem dX6_init_9 : decode cX6_init 9 = .ok (.invokespecial 9, 3) := by decide +kernel
theorem dX6_init_12 : decode cX6_init 12 = .ok (.putfield 10, 3) := by decide +kernel
theorem dX6_init_15 : decode cX6_init 15 = .ok (.aload_n 0, 1) := by decide +kernel
theorem dX6_init_16 : decode cX6_init 16 = .ok (.new 7, 3) := by decide +kernel
theorem dX6_init_19 : decode cX6_init 19 = .ok (.dup, 1) := by decide +kernel
theorem dX6_init_20 : decode cX6_init 20 = .ok (.invokespecial 9, 3) := by decide +kernel
theorem dX6_init_23 : decode cX6_init 23 = .ok (.putfield 16, 3) := by decide +kernel
theorem dX6_init_26 : decode cX6_init 26 = .ok (.aload_n 0, 1) := by decide +kernel
theorem dX6_init_27 : decode cX6_init 27 = .ok (.new 19, 3) := by decide +kernel
theorem dX6_init_30 : decode cX6_init 30 = .ok (.dup, 1) := by decide +kernel
theorem dX6_init_31 : decode cX6_init 31 = .ok (.invokespecial 21, 3) := by decide +kernel
theorem dX6_init_34 : decode cX6_init 34 = .ok (.putfield 22, 3) := by decide +kernel
theorem dX6_init_37 : decode cX6_init 37 = .ok (.aload_n 0, 1) := by decide +kernel
theorem dX6_init_38 : decode cX6_init 38 = .ok (.new 26, 3) := by decide +kernel
theorem dX6_init_41 : decode cX6_init 41 = .ok (.dup, 1) := by decide +kernel
theorem dX6_init_42 : decode cX6_init 42 = .ok (.invokespecial 28, 3) := by decide +kernel
theorem dX6_init_45 : decode cX6_init 45 = .ok (.putfield 29, 3) := by decide +kernel
theorem dX6_init_48 : decode cX6_init 48 = .ok (.return_, 1) := by decide +kernel
set_option maxRecDepth 20000 in
theorem ggX6_side_X0_remember : GoodIn wsX6_side wsX0_remember := goodIn_r _ [12, 13, 14, 15, 16, 17, 11, 18, 19, 20, 21, 22, 23, 24, 25, 26, 27, 28, 29, 30, 31, 32, 33, 34, 35, 36, 37, 38, 39, 40, 41, 42, 43, 44, 45, 46, 47, 48, 49, 50, 51, 52, 53, 54, 55, 56, 57, 58, 59, 60, 61, 62, 63, 64, 65, 66, 113, 114, 94, 95, 96, 97, 98, 99, 100, 101, 115, 116, 117, 102, 103, 104, 105, 106, 107, 108, 109, 110, 111, 112] (by decide +kernel) (by decide +kernel)
set_option maxRecDepth 20000 in
theorem gX6_side_X0_remember : GoodIn wsX6_side (wsV RX6 34 RX0 yX0_remember wsX0_remember) := goodIn_app (goodIn_of _ (by decide +kernel)) ggX6_side_X0_remember
set_option maxRecDepth 20000 in
theorem ggX6_side_X2_renew : GoodIn wsX6_side wsX2_renew := goodIn_r _ [70, 34, 35, 36, 71, 72, 73, 74, 99, 100, 101] (by decide +kernel) (by decide +kernel)
set_option maxRecDepth 20000 in
theorem gX6_side_X2_renew : GoodIn wsX6_side (wsV RX6 48 RX2 yX2_renew wsX2_renew) := goodIn_app (goodIn_of _ (by decide +kernel)) ggX6_side_X2_renew
set_option maxRecDepth 20000 in
theorem ggX6_side_X3_forgetResults : GoodIn wsX6_side wsX3_forgetResults := goodIn_r _ [78, 27, 25, 79, 26, 80, 81, 82, 83, 84, 44, 85, 46, 47, 48, 86, 87, 88, 89, 72, 73, 74, 94, 95, 96, 97, 98, 115, 116, 117] (by decide +kernel) (by decide +kernel)
set_option maxRecDepth 20000 in
theorem gX6_side_X3_forgetResults : GoodIn wsX6_side (wsV RX6 62 RX3 yX3_forgetResults wsX3_forgetResults) := goodIn_app (goodIn_of _ (by decide +kernel)) ggX6_side_X3_forgetResults
theorem dX6_side_0 : decode cX6_side 0 = .ok (.iload_n 1, 1) := by decide +kernel
theorem dX6_side_1 : decode cX6_side 1 = .ok (.iconst 1, 1) := by decide +kernel
theorem dX6_side_2 : decode cX6_side 2 = .ok (.if_icmp .lt 8, 3) := by decide +kernel
theorem dX6_side_5 : decode cX6_side 5 = .ok (.iload_n 1, 1) := by decide +kernel
theorem dX6_side_6 : decode cX6_side 6 = .ok (.iconst 4, 1) := by decide +kernel
theorem dX6_side_7 : decode cX6_side 7 = .ok (.if_icmp .le 6, 3) := by decide +kernel
theorem dX6_side_10 : decode cX6_side 10 = .ok (.ldc 33, 2) := by decide +kernel
theorem dX6_side_12 : decode cX6_side 12 = .ok (.ireturn, 1) := by decide +kernel
theorem dX6_side_13 : decode cX6_side 13 = .ok (.aload_n 0, 1) := by decide +kernel
theorem dX6_side_14 : decode cX6_side 14 = .ok (.getfield 22, 3) := by decide +kernel
theorem dX6_side_17 : decode cX6_side 17 = .ok (.aload_n 0, 1) := by decide +kernel
theorem dX6_side_18 : decode cX6_side 18 = .ok (.getfield 10, 3) := by decide +kernel
theorem dX6_side_21 : decode cX6_side 21 = .ok (.invokevirtual 34, 3) := by decide +kernel
theorem dX6_side_24 : decode cX6_side 24 = .ok (.aload_n 0, 1) := by decide +kernel
theorem dX6_side_25 : decode cX6_side 25 = .ok (.getfield 10, 3) := by decide +kernel
theorem dX6_side_28 : decode cX6_side 28 = .ok (.getfield 38, 3) := by decide +kernel
theorem dX6_side_31 : decode cX6_side 31 = .ok (.getfield 42, 3) := by decide +kernel
theorem dX6_side_34 : decode cX6_side 34 = .ok (.istore_n 2, 1) := by decide +kernel
theorem dX6_side_35 : decode cX6_side 35 = .ok (.aload_n 0, 1) := by decide +kernel
theorem dX6_side_36 : decode cX6_side 36 = .ok (.getfield 10, 3) := by decide +kernel
theorem dX6_side_39 : decode cX6_side 39 = .ok (.getfield 38, 3) := by decide +kernel
theorem dX6_side_42 : decode cX6_side 42 = .ok (.iload_n 1, 1) := by decide +kernel
theorem dX6_side_43 : decode cX6_side 43 = .ok (.invokevirtual 48, 3) := by decide +kernel
theorem dX6_side_46 : decode cX6_side 46 = .ok (.aload_n 0, 1) := by decide +kernel
theorem dX6_side_47 : decode cX6_side 47 = .ok (.getfield 10, 3) := by decide +kernel
theorem dX6_side_50 : decode cX6_side 50 = .ok (.getfield 52, 3) := by decide +kernel
theorem dX6_side_53 : decode cX6_side 53 = .ok (.iconst 0, 1) := by decide +kernel
theorem dX6_side_54 : decode cX6_side 54 = .ok (.putfield 56, 3) := by decide +kernel
theorem dX6_side_57 : decode cX6_side 57 = .ok (.aload_n 0, 1) := by decide +kernel
theorem dX6_side_58 : decode cX6_side 58 = .ok (.getfield 10, 3) := by decide +kernel
theorem dX6_side_61 : decode cX6_side 61 = .ok (.invokevirtual 62, 3) := by decide +kernel
theorem dX6_side_64 : decode cX6_side 64 = .ok (.iload_n 2, 1) := by decide +kernel
theorem dX6_side_65 : decode cX6_side 65 = .ok (.ireturn, 1) := by decide +kernel
set_option maxRecDepth 20000 in
theorem ggX6_shape_X6_isLength : GoodIn wsX6_shape wsX6_isLength := goodIn_r _ [11] (by decide +kernel) (by decide +kernel)
set_option maxRecDepth 20000 in
theorem gX6_shape_X6_isLength : GoodIn wsX6_shape (va_wsS RX6 65 yX6_isLength wsX6_isLength) := goodIn_app (goodIn_of _ (by decide +kernel)) ggX6_shape_X6_isLength
set_option maxRecDepth 20000 in
theorem ggX6_shape_X0_remember : GoodIn wsX6_shape wsX0_remember := goodIn_r _ [16, 17, 18, 19, 20, 21, 15, 22, 23, 24, 25, 26, 27, 28, 29, 30, 31, 32, 33, 34, 35, 36, 37, 38, 39, 40, 41, 42, 43, 44, 45, 46, 47, 48, 49, 50, 51, 52, 53, 54, 55, 56, 57, 58, 59, 60, 61, 62, 63, 64, 65, 66, 67, 68, 69, 70, 124, 125, 108, 109, 110, 111, 112, 126, 127, 128, 129, 130, 131, 113, 114, 115, 116, 117, 118, 119, 120, 121, 122, 123] (by decide +kernel) (by decide +kernel)
set_option maxRecDepth 20000 in
theorem gX6_shape_X0_remember : GoodIn wsX6_shape (wsV RX6 34 RX0 yX0_remember wsX0_remember) := goodIn_app (goodIn_of _ (by decide +kernel)) ggX6_shape_X0_remember
set_option maxRecDepth 20000 in
theorem ggX6_shape_X1_renew : GoodIn wsX6_shape wsX1_renew := goodIn_r _ [74, 50, 51, 52, 9, 10, 11, 75, 76, 77, 78, 129, 130, 131] (by decide +kernel) (by decide +kernel)
set_option maxRecDepth 20000 in
theorem gX6_shape_X1_renew : GoodIn wsX6_shape (wsV RX6 73 RX1 yX1_renew wsX1_renew) := goodIn_app (goodIn_of _ (by decide +kernel)) ggX6_shape_X1_renew
set_option maxRecDepth 20000 in
theorem ggX6_shape_X3_forgetResults : GoodIn wsX6_shape wsX3_forgetResults := goodIn_r _ [82, 31, 29, 83, 30, 84, 85, 86, 72, 73, 48, 74, 50, 51, 52, 9, 10, 11, 75, 76, 77, 78, 108, 109, 110, 111, 112, 129, 130, 131] (by decide +kernel) (by decide +kernel)
set_option maxRecDepth 20000 in
theorem gX6_shape_X3_forgetResults : GoodIn wsX6_shape (wsV RX6 62 RX3 yX3_forgetResults wsX3_forgetResults) := goodIn_app (goodIn_of _ (by decide +kernel)) ggX6_shape_X3_forgetResults
set_option maxRecDepth 20000 in
theorem ggX6_shape_X3_tiles : GoodIn wsX6_shape wsX3_tiles := goodIn_r _ [90, 91, 92, 93, 26, 94, 29, 83, 95, 96, 97, 98, 28, 99, 100, 101, 102, 103, 30, 84, 108, 109, 110, 111, 112, 129, 130, 131, 126, 127, 128] (by decide +kernel) (by decide +kernel)
set_option maxRecDepth 20000 in
theorem gX6_shape_X3_tiles : GoodIn wsX6_shape (wsV RX6 81 RX3 yX3_tiles wsX3_tiles) := goodIn_app (goodIn_of _ (by decide +kernel)) ggX6_shape_X3_tiles
theorem dX6_shape_0 : decode cX6_shape 0 = .ok (.iload_n 1, 1) := by decide +kernel
theorem dX6_shape_1 : decode cX6_shape 1 = .ok (.invokestatic 65, 3) := by decide +kernel
theorem dX6_shape_4 : decode cX6_shape 4 = .ok (.ifCond .eq 17, 3) := by decide +kernel
theorem dX6_shape_7 : decode cX6_shape 7 = .ok (.iload_n 2, 1) := by decide +kernel
theorem dX6_shape_8 : decode cX6_shape 8 = .ok (.invokestatic 65, 3) := by decide +kernel
theorem dX6_shape_11 : decode cX6_shape 11 = .ok (.ifCond .eq 10, 3) := by decide +kernel
theorem dX6_shape_14 : decode cX6_shape 14 = .ok (.iload_n 3, 1) := by decide +kernel
theorem dX6_shape_15 : decode cX6_shape 15 = .ok (.invokestatic 65, 3) := by decide +kernel
theorem dX6_shape_18 : decode cX6_shape 18 = .ok (.ifCond .ne 6, 3) := by decide +kernel
theorem dX6_shape_21 : decode cX6_shape 21 = .ok (.ldc 33, 2) := by decide +kernel
theorem dX6_shape_23 : decode cX6_shape 23 = .ok (.ireturn, 1) := by decide +kernel
theorem dX6_shape_24 : decode cX6_shape 24 = .ok (.aload_n 0, 1) := by decide +kernel
theorem dX6_shape_25 : decode cX6_shape 25 = .ok (.getfield 22, 3) := by decide +kernel
theorem dX6_shape_28 : decode cX6_shape 28 = .ok (.aload_n 0, 1) := by decide +kernel
theorem dX6_shape_29 : decode cX6_shape 29 = .ok (.getfield 10, 3) := by decide +kernel
theorem dX6_shape_32 : decode cX6_shape 32 = .ok (.invokevirtual 34, 3) := by decide +kernel
theorem dX6_shape_35 : decode cX6_shape 35 = .ok (.aload_n 0, 1) := by decide +kernel
theorem dX6_shape_36 : decode cX6_shape 36 = .ok (.getfield 10, 3) := by decide +kernel
theorem dX6_shape_39 : decode cX6_shape 39 = .ok (.getfield 69, 3) := by decide +kernel
theorem dX6_shape_42 : decode cX6_shape 42 = .ok (.iload_n 1, 1) := by decide +kernel
theorem dX6_shape_43 : decode cX6_shape 43 = .ok (.iload_n 2, 1) := by decide +kernel
theorem dX6_shape_44 : decode cX6_shape 44 = .ok (.iconst 0, 1) := by decide +kernel
theorem dX6_shape_45 : decode cX6_shape 45 = .ok (.invokevirtual 73, 3) := by decide +kernel
theorem dX6_shape_48 : decode cX6_shape 48 = .ok (.aload_n 0, 1) := by decide +kernel
theorem dX6_shape_49 : decode cX6_shape 49 = .ok (.getfield 10, 3) := by decide +kernel
theorem dX6_shape_52 : decode cX6_shape 52 = .ok (.getfield 78, 3) := by decide +kernel
theorem dX6_shape_55 : decode cX6_shape 55 = .ok (.iload_n 2, 1) := by decide +kernel
theorem dX6_shape_56 : decode cX6_shape 56 = .ok (.iload_n 3, 1) := by decide +kernel
theorem dX6_shape_57 : decode cX6_shape 57 = .ok (.iconst 0, 1) := by decide +kernel
theorem dX6_shape_58 : decode cX6_shape 58 = .ok (.invokevirtual 73, 3) := by decide +kernel
theorem dX6_shape_61 : decode cX6_shape 61 = .ok (.aload_n 0, 1) := by decide +kernel
theorem dX6_shape_62 : decode cX6_shape 62 = .ok (.getfield 10, 3) := by decide +kernel
theorem dX6_shape_65 : decode cX6_shape 65 = .ok (.getfield 52, 3) := by decide +kernel
theorem dX6_shape_68 : decode cX6_shape 68 = .ok (.iconst 0, 1) := by decide +kernel
theorem dX6_shape_69 : decode cX6_shape 69 = .ok (.putfield 56, 3) := by decide +kernel
theorem dX6_shape_72 : decode cX6_shape 72 = .ok (.aload_n 0, 1) := by decide +kernel
theorem dX6_shape_73 : decode cX6_shape 73 = .ok (.getfield 10, 3) := by decide +kernel
theorem dX6_shape_76 : decode cX6_shape 76 = .ok (.invokevirtual 62, 3) := by decide +kernel
theorem dX6_shape_79 : decode cX6_shape 79 = .ok (.aload_n 0, 1) := by decide +kernel
theorem dX6_shape_80 : decode cX6_shape 80 = .ok (.getfield 10, 3) := by decide +kernel
theorem dX6_shape_83 : decode cX6_shape 83 = .ok (.invokevirtual 81, 3) := by decide +kernel
theorem dX6_shape_86 : decode cX6_shape 86 = .ok (.ireturn, 1) := by decide +kernel
set_option maxRecDepth 20000 in
theorem ggX6_left_X6_setEntry : GoodIn wsX6_left wsX6_setEntry := goodIn_r _ [7, 8, 1, 9, 10, 11, 12, 13, 14, 15, 16, 17, 18, 19, 20, 21, 22, 23, 24, 25, 26, 27, 28, 29, 30, 31, 32, 33, 34, 35, 36, 37, 38, 39, 40, 41, 42, 43, 44, 45, 46, 47, 48, 49, 50, 51, 52, 53, 54, 55, 56, 57, 58, 59, 60, 61, 62, 63, 64, 65, 66, 67, 68, 69, 70, 71, 72, 73, 74, 75, 76, 77, 78, 79, 80, 81, 82, 83, 84, 85, 86, 87, 88, 89, 90, 91, 92, 93, 94, 95, 96, 6, 97, 98, 99, 100, 101, 102, 103, 104, 105, 106, 107, 108, 109, 110, 111, 112, 113, 114, 115, 116, 117, 118, 119, 120, 121, 122, 123, 124, 125, 126, 127, 128, 129] (by decide +kernel) (by decide +kernel)
set_option maxRecDepth 20000 in
theorem gX6_left_X6_setEntry : GoodIn wsX6_left (wsV RX6 85 RX6 yX6_setEntry wsX6_setEntry) := goodIn_app (goodIn_of _ (by decide +kernel)) ggX6_left_X6_setEntry
theorem dX6_left_0 : decode cX6_left 0 = .ok (.aload_n 0, 1) := by decide +kernel
theorem dX6_left_1 : decode cX6_left 1 = .ok (.aload_n 0, 1) := by decide +kernel
theorem dX6_left_2 : decode cX6_left 2 = .ok (.getfield 10, 3) := by decide +kernel
theorem dX6_left_5 : decode cX6_left 5 = .ok (.getfield 69, 3) := by decide +kernel
theorem dX6_left_8 : decode cX6_left 8 = .ok (.iload_n 1, 1) := by decide +kernel
theorem dX6_left_9 : decode cX6_left 9 = .ok (.iload_n 2, 1) := by decide +kernel
theorem dX6_left_10 : decode cX6_left 10 = .ok (.iload_n 3, 1) := by decide +kernel
theorem dX6_left_11 : decode cX6_left 11 = .ok (.invokevirtual 85, 3) := by decide +kernel
theorem dX6_left_14 : decode cX6_left 14 = .ok (.ireturn, 1) := by decide +kernel
set_option maxRecDepth 20000 in
theorem ggX6_right_X6_setEntry : GoodIn wsX6_right wsX6_setEntry := goodIn_r _ [7, 8, 1, 9, 10, 11, 12, 13, 14, 15, 16, 17, 18, 19, 20, 21, 22, 23, 24, 25, 26, 27, 28, 29, 30, 31, 32, 33, 34, 35, 36, 37, 38, 39, 40, 41, 42, 43, 44, 45, 46, 47, 48, 49, 50, 51, 52, 53, 54, 55, 56, 57, 58, 59, 60, 61, 62, 63, 64, 65, 66, 67, 68, 69, 70, 71, 72, 73, 74, 75, 76, 77, 78, 79, 80, 81, 82, 83, 84, 85, 86, 87, 88, 89, 90, 91, 92, 93, 94, 95, 96, 6, 97, 98, 99, 100, 101, 102, 103, 104, 105, 106, 107, 108, 109, 110, 111, 112, 113, 114, 115, 116, 117, 118, 119, 120, 121, 122, 123, 124, 125, 126, 127, 128, 129] (by decide +kernel) (by decide +kernel)
set_option maxRecDepth 20000 in
theorem gX6_right_X6_setEntry : GoodIn wsX6_right (wsV RX6 85 RX6 yX6_setEntry wsX6_setEntry) := goodIn_app (goodIn_of _ (by decide +kernel)) ggX6_right_X6_setEntry
theorem dX6_right_0 : decode cX6_right 0 = .ok (.aload_n 0, 1) := by decide +kernel
theorem dX6_right_1 : decode cX6_right 1 = .ok (.aload_n 0, 1) := by decide +kernel
theorem dX6_right_2 : decode cX6_right 2 = .ok (.getfield 10, 3) := by decide +kernel
theorem dX6_right_5 : decode cX6_right 5 = .ok (.getfield 78, 3) := by decide +kernel
theorem dX6_right_8 : decode cX6_right 8 = .ok (.iload_n 1, 1) := by decide +kernel
theorem dX6_right_9 : decode cX6_right 9 = .ok (.iload_n 2, 1) := by decide +kernel
theorem dX6_right_10 : decode cX6_right 10 = .ok (.iload_n 3, 1) := by decide +kernel
theorem dX6_right_11 : decode cX6_right 11 = .ok (.invokevirtual 85, 3) := by decide +kernel
theorem dX6_right_14 : decode cX6_right 14 = .ok (.ireturn, 1) := by decide +kernel
set_option maxRecDepth 20000 in
theorem ggX6_fault_X2_has : GoodIn wsX6_fault wsX2_has := goodIn_r _ [12, 13, 100, 101, 102] (by decide +kernel) (by decide +kernel)
set_option maxRecDepth 20000 in
theorem gX6_fault_X2_has : GoodIn wsX6_fault (wsV RX6 89 RX2 yX2_has wsX2_has) := goodIn_app (goodIn_of _ (by decide +kernel)) ggX6_fault_X2_has
set_option maxRecDepth 20000 in
theorem ggX6_fault_X0_remember : GoodIn wsX6_fault wsX0_remember := goodIn_r _ [18, 19, 20, 21, 22, 23, 17, 24, 25, 26, 27, 28, 29, 30, 31, 32, 33, 34, 35, 36, 37, 11, 38, 13, 39, 40, 41, 42, 43, 44, 45, 46, 47, 48, 49, 50, 51, 52, 53, 54, 55, 56, 57, 58, 59, 60, 61, 62, 63, 64, 65, 66, 67, 68, 69, 70, 103, 104, 84, 85, 86, 87, 88, 100, 101, 102, 105, 106, 107, 89, 90, 91, 92, 93, 94, 95, 96, 97, 98, 99] (by decide +kernel) (by decide +kernel)
set_option maxRecDepth 20000 in
theorem gX6_fault_X0_remember : GoodIn wsX6_fault (wsV RX6 34 RX0 yX0_remember wsX0_remember) := goodIn_app (goodIn_of _ (by decide +kernel)) ggX6_fault_X0_remember
set_option maxRecDepth 20000 in
theorem ggX6_fault_X2_kindAt : GoodIn wsX6_fault wsX2_kindAt := goodIn_r _ [74, 40, 75, 9, 10, 11, 12, 13, 100, 101, 102] (by decide +kernel) (by decide +kernel)
set_option maxRecDepth 20000 in
theorem gX6_fault_X2_kindAt : GoodIn wsX6_fault (wsV RX6 94 RX2 yX2_kindAt wsX2_kindAt) := goodIn_app (goodIn_of _ (by decide +kernel)) ggX6_fault_X2_kindAt
set_option maxRecDepth 20000 in
theorem ggX6_fault_X2_setKind : GoodIn wsX6_fault wsX2_setKind := goodIn_r _ [79, 40, 75, 9, 10, 11, 12, 13, 100, 101, 102] (by decide +kernel) (by decide +kernel)
set_option maxRecDepth 20000 in
theorem gX6_fault_X2_setKind : GoodIn wsX6_fault (wsV RX6 98 RX2 yX2_setKind wsX2_setKind) := goodIn_app (goodIn_of _ (by decide +kernel)) ggX6_fault_X2_setKind
theorem dX6_fault_0 : decode cX6_fault 0 = .ok (.aload_n 0, 1) := by decide +kernel
theorem dX6_fault_1 : decode cX6_fault 1 = .ok (.getfield 10, 3) := by decide +kernel
theorem dX6_fault_4 : decode cX6_fault 4 = .ok (.getfield 38, 3) := by decide +kernel
theorem dX6_fault_7 : decode cX6_fault 7 = .ok (.iload_n 1, 1) := by decide +kernel
theorem dX6_fault_8 : decode cX6_fault 8 = .ok (.iload_n 2, 1) := by decide +kernel
theorem dX6_fault_9 : decode cX6_fault 9 = .ok (.invokevirtual 89, 3) := by decide +kernel
theorem dX6_fault_12 : decode cX6_fault 12 = .ok (.ifCond .eq 12, 3) := by decide +kernel
theorem dX6_fault_15 : decode cX6_fault 15 = .ok (.iload_n 3, 1) := by decide +kernel
theorem dX6_fault_16 : decode cX6_fault 16 = .ok (.ifCond .lt 8, 3) := by decide +kernel
theorem dX6_fault_19 : decode cX6_fault 19 = .ok (.iload_n 3, 1) := by decide +kernel
theorem dX6_fault_20 : decode cX6_fault 20 = .ok (.iconst 4, 1) := by decide +kernel
theorem dX6_fault_21 : decode cX6_fault 21 = .ok (.if_icmp .le 6, 3) := by decide +kernel
theorem dX6_fault_24 : decode cX6_fault 24 = .ok (.ldc 33, 2) := by decide +kernel
theorem dX6_fault_26 : decode cX6_fault 26 = .ok (.ireturn, 1) := by decide +kernel
theorem dX6_fault_27 : decode cX6_fault 27 = .ok (.aload_n 0, 1) := by decide +kernel
theorem dX6_fault_28 : decode cX6_fault 28 = .ok (.getfield 10, 3) := by decide +kernel
theorem dX6_fault_31 : decode cX6_fault 31 = .ok (.getfield 52, 3) := by decide +kernel
theorem dX6_fault_34 : decode cX6_fault 34 = .ok (.getfield 56, 3) := by decide +kernel
theorem dX6_fault_37 : decode cX6_fault 37 = .ok (.ifCond .eq 6, 3) := by decide +kernel
theorem dX6_fault_40 : decode cX6_fault 40 = .ok (.ldc 93, 2) := by decide +kernel
theorem dX6_fault_42 : decode cX6_fault 42 = .ok (.ireturn, 1) := by decide +kernel
theorem dX6_fault_43 : decode cX6_fault 43 = .ok (.aload_n 0, 1) := by decide +kernel
theorem dX6_fault_44 : decode cX6_fault 44 = .ok (.getfield 22, 3) := by decide +kernel
theorem dX6_fault_47 : decode cX6_fault 47 = .ok (.aload_n 0, 1) := by decide +kernel
theorem dX6_fault_48 : decode cX6_fault 48 = .ok (.getfield 10, 3) := by decide +kernel
theorem dX6_fault_51 : decode cX6_fault 51 = .ok (.invokevirtual 34, 3) := by decide +kernel
theorem dX6_fault_54 : decode cX6_fault 54 = .ok (.aload_n 0, 1) := by decide +kernel
theorem dX6_fault_55 : decode cX6_fault 55 = .ok (.getfield 10, 3) := by decide +kernel
theorem dX6_fault_58 : decode cX6_fault 58 = .ok (.getfield 38, 3) := by decide +kernel
theorem dX6_fault_61 : decode cX6_fault 61 = .ok (.iload_n 1, 1) := by decide +kernel
theorem dX6_fault_62 : decode cX6_fault 62 = .ok (.iload_n 2, 1) := by decide +kernel
theorem dX6_fault_63 : decode cX6_fault 63 = .ok (.invokevirtual 94, 3) := by decide +kernel
theorem dX6_fault_66 : decode cX6_fault 66 = .ok (.istore 4, 2) := by decide +kernel
theorem dX6_fault_68 : decode cX6_fault 68 = .ok (.aload_n 0, 1) := by decide +kernel
theorem dX6_fault_69 : decode cX6_fault 69 = .ok (.getfield 10, 3) := by decide +kernel
theorem dX6_fault_72 : decode cX6_fault 72 = .ok (.getfield 38, 3) := by decide +kernel
theorem dX6_fault_75 : decode cX6_fault 75 = .ok (.iload_n 1, 1) := by decide +kernel
theorem dX6_fault_76 : decode cX6_fault 76 = .ok (.iload_n 2, 1) := by decide +kernel
theorem dX6_fault_77 : decode cX6_fault 77 = .ok (.iload_n 3, 1) := by decide +kernel
theorem dX6_fault_78 : decode cX6_fault 78 = .ok (.invokevirtual 98, 3) := by decide +kernel
theorem dX6_fault_81 : decode cX6_fault 81 = .ok (.iload 4, 2) := by decide +kernel
theorem dX6_fault_83 : decode cX6_fault 83 = .ok (.ireturn, 1) := by decide +kernel
set_option maxRecDepth 20000 in
theorem ggX6_leave_X0_remember : GoodIn wsX6_leave wsX0_remember := goodIn_r _ [14, 15, 16, 17, 18, 19, 13, 20, 21, 22, 23, 24, 25, 26, 27, 28, 29, 30, 31, 32, 33, 34, 35, 36, 37, 38, 39, 40, 41, 42, 43, 44, 45, 46, 47, 48, 49, 50, 51, 52, 53, 54, 55, 56, 57, 58, 59, 60, 61, 62, 63, 64, 65, 66, 67, 68, 92, 93, 73, 74, 75, 76, 77, 78, 79, 80, 94, 95, 96, 81, 82, 83, 84, 85, 86, 87, 88, 89, 90, 91] (by decide +kernel) (by decide +kernel)
set_option maxRecDepth 20000 in
theorem gX6_leave_X0_remember : GoodIn wsX6_leave (wsV RX6 34 RX0 yX0_remember wsX0_remember) := goodIn_app (goodIn_of _ (by decide +kernel)) ggX6_leave_X0_remember
theorem dX6_leave_0 : decode cX6_leave 0 = .ok (.iload_n 1, 1) := by decide +kernel
theorem dX6_leave_1 : decode cX6_leave 1 = .ok (.ifCond .lt 17, 3) := by decide +kernel
theorem dX6_leave_4 : decode cX6_leave 4 = .ok (.iload_n 1, 1) := by decide +kernel
theorem dX6_leave_5 : decode cX6_leave 5 = .ok (.aload_n 0, 1) := by decide +kernel
theorem dX6_leave_6 : decode cX6_leave 6 = .ok (.getfield 10, 3) := by decide +kernel
theorem dX6_leave_9 : decode cX6_leave 9 = .ok (.getfield 38, 3) := by decide +kernel
theorem dX6_leave_12 : decode cX6_leave 12 = .ok (.getfield 42, 3) := by decide +kernel
theorem dX6_leave_15 : decode cX6_leave 15 = .ok (.if_icmp .le 6, 3) := by decide +kernel
theorem dX6_leave_18 : decode cX6_leave 18 = .ok (.ldc 33, 2) := by decide +kernel
theorem dX6_leave_20 : decode cX6_leave 20 = .ok (.ireturn, 1) := by decide +kernel
theorem dX6_leave_21 : decode cX6_leave 21 = .ok (.aload_n 0, 1) := by decide +kernel
theorem dX6_leave_22 : decode cX6_leave 22 = .ok (.getfield 10, 3) := by decide +kernel
theorem dX6_leave_25 : decode cX6_leave 25 = .ok (.getfield 52, 3) := by decide +kernel
theorem dX6_leave_28 : decode cX6_leave 28 = .ok (.getfield 56, 3) := by decide +kernel
theorem dX6_leave_31 : decode cX6_leave 31 = .ok (.ifCond .eq 6, 3) := by decide +kernel
theorem dX6_leave_34 : decode cX6_leave 34 = .ok (.ldc 93, 2) := by decide +kernel
theorem dX6_leave_36 : decode cX6_leave 36 = .ok (.ireturn, 1) := by decide +kernel
theorem dX6_leave_37 : decode cX6_leave 37 = .ok (.aload_n 0, 1) := by decide +kernel
theorem dX6_leave_38 : decode cX6_leave 38 = .ok (.getfield 22, 3) := by decide +kernel
theorem dX6_leave_41 : decode cX6_leave 41 = .ok (.aload_n 0, 1) := by decide +kernel
theorem dX6_leave_42 : decode cX6_leave 42 = .ok (.getfield 10, 3) := by decide +kernel
theorem dX6_leave_45 : decode cX6_leave 45 = .ok (.invokevirtual 34, 3) := by decide +kernel
theorem dX6_leave_48 : decode cX6_leave 48 = .ok (.aload_n 0, 1) := by decide +kernel
theorem dX6_leave_49 : decode cX6_leave 49 = .ok (.getfield 10, 3) := by decide +kernel
theorem dX6_leave_52 : decode cX6_leave 52 = .ok (.getfield 38, 3) := by decide +kernel
theorem dX6_leave_55 : decode cX6_leave 55 = .ok (.getfield 101, 3) := by decide +kernel
theorem dX6_leave_58 : decode cX6_leave 58 = .ok (.istore_n 2, 1) := by decide +kernel
theorem dX6_leave_59 : decode cX6_leave 59 = .ok (.aload_n 0, 1) := by decide +kernel
theorem dX6_leave_60 : decode cX6_leave 60 = .ok (.getfield 10, 3) := by decide +kernel
theorem dX6_leave_63 : decode cX6_leave 63 = .ok (.getfield 38, 3) := by decide +kernel
theorem dX6_leave_66 : decode cX6_leave 66 = .ok (.iload_n 1, 1) := by decide +kernel
theorem dX6_leave_67 : decode cX6_leave 67 = .ok (.putfield 101, 3) := by decide +kernel
theorem dX6_leave_70 : decode cX6_leave 70 = .ok (.iload_n 2, 1) := by decide +kernel
theorem dX6_leave_71 : decode cX6_leave 71 = .ok (.ireturn, 1) := by decide +kernel
set_option maxRecDepth 20000 in
theorem ggX6_begin_X3_tilesDown : GoodIn wsX6_begin wsX3_tilesDown := goodIn_r _ [11, 12, 13, 14, 15, 16, 10, 17, 18, 19, 112, 113, 114, 115, 116, 128, 129, 130, 131, 132, 133] (by decide +kernel) (by decide +kernel)
set_option maxRecDepth 20000 in
theorem gX6_begin_X3_tilesDown : GoodIn wsX6_begin (wsV RX6 104 RX3 yX3_tilesDown wsX3_tilesDown) := goodIn_app (goodIn_of _ (by decide +kernel)) ggX6_begin_X3_tilesDown
set_option maxRecDepth 20000 in
theorem ggX6_begin_X3_tilesAcross : GoodIn wsX6_begin wsX3_tilesAcross := goodIn_r _ [23, 24, 25, 14, 15, 16, 10, 17, 18, 19, 112, 113, 114, 115, 116, 128, 129, 130, 131, 132, 133] (by decide +kernel) (by decide +kernel)
set_option maxRecDepth 20000 in
theorem gX6_begin_X3_tilesAcross : GoodIn wsX6_begin (wsV RX6 107 RX3 yX3_tilesAcross wsX3_tilesAcross) := goodIn_app (goodIn_of _ (by decide +kernel)) ggX6_begin_X3_tilesAcross
set_option maxRecDepth 20000 in
theorem ggX6_begin_X0_remember : GoodIn wsX6_begin wsX0_remember := goodIn_r _ [30, 31, 32, 33, 34, 35, 29, 36, 37, 38, 39, 10, 40, 18, 12, 24, 41, 42, 43, 44, 45, 46, 47, 48, 49, 50, 51, 52, 53, 54, 55, 56, 57, 58, 59, 60, 61, 62, 63, 64, 65, 66, 67, 68, 69, 70, 71, 72, 73, 74, 75, 76, 77, 78, 79, 80, 134, 135, 112, 113, 114, 115, 116, 131, 132, 133, 128, 129, 130, 117, 118, 119, 120, 121, 122, 123, 124, 125, 126, 127] (by decide +kernel) (by decide +kernel)
set_option maxRecDepth 20000 in
theorem gX6_begin_X0_remember : GoodIn wsX6_begin (wsV RX6 34 RX0 yX0_remember wsX0_remember) := goodIn_app (goodIn_of _ (by decide +kernel)) ggX6_begin_X0_remember
set_option maxRecDepth 20000 in
theorem ggX6_begin_X3_beginTile : GoodIn wsX6_begin wsX3_beginTile := goodIn_r _ [84, 42, 85, 86, 87, 18, 19, 12, 13, 88, 89, 90, 91, 92, 24, 25, 93, 94, 95, 96, 97, 67, 98, 76, 78, 79, 99, 80, 74, 100, 101, 102, 103, 112, 113, 114, 115, 116, 117, 118, 119, 120, 121, 122, 123, 124, 125, 126, 127, 131, 132, 133, 128, 129, 130] (by decide +kernel) (by decide +kernel)
set_option maxRecDepth 20000 in
theorem gX6_begin_X3_beginTile : GoodIn wsX6_begin (wsV RX6 110 RX3 yX3_beginTile wsX3_beginTile) := goodIn_app (goodIn_of _ (by decide +kernel)) ggX6_begin_X3_beginTile
set_option maxRecDepth 20000 in
theorem ggX6_begin_X5_ticksLeft : GoodIn wsX6_begin wsX5_ticksLeft := goodIn_r _ [107, 75, 74, 117, 118, 119, 120, 121, 122, 123, 124, 125, 126, 127] (by decide +kernel) (by decide +kernel)
set_option maxRecDepth 20000 in
theorem gX6_begin_X5_ticksLeft : GoodIn wsX6_begin (wsV RX6 114 RX5 yX5_ticksLeft wsX5_ticksLeft) := goodIn_app (goodIn_of _ (by decide +kernel)) ggX6_begin_X5_ticksLeft
theorem dX6_begin_0 : decode cX6_begin 0 = .ok (.iload_n 1, 1) := by decide +kernel
theorem dX6_begin_1 : decode cX6_begin 1 = .ok (.ifCond .lt 29, 3) := by decide +kernel
theorem dX6_begin_4 : decode cX6_begin 4 = .ok (.iload_n 1, 1) := by decide +kernel
theorem dX6_begin_5 : decode cX6_begin 5 = .ok (.aload_n 0, 1) := by decide +kernel
theorem dX6_begin_6 : decode cX6_begin 6 = .ok (.getfield 10, 3) := by decide +kernel
theorem dX6_begin_9 : decode cX6_begin 9 = .ok (.invokevirtual 104, 3) := by decide +kernel
theorem dX6_begin_12 : decode cX6_begin 12 = .ok (.if_icmp .ge 18, 3) := by decide +kernel
theorem dX6_begin_15 : decode cX6_begin 15 = .ok (.iload_n 2, 1) := by decide +kernel
theorem dX6_begin_16 : decode cX6_begin 16 = .ok (.ifCond .lt 14, 3) := by decide +kernel
theorem dX6_begin_19 : decode cX6_begin 19 = .ok (.iload_n 2, 1) := by decide +kernel
theorem dX6_begin_20 : decode cX6_begin 20 = .ok (.aload_n 0, 1) := by decide +kernel
theorem dX6_begin_21 : decode cX6_begin 21 = .ok (.getfield 10, 3) := by decide +kernel
theorem dX6_begin_24 : decode cX6_begin 24 = .ok (.invokevirtual 107, 3) := by decide +kernel
theorem dX6_begin_27 : decode cX6_begin 27 = .ok (.if_icmp .lt 6, 3) := by decide +kernel
theorem dX6_begin_30 : decode cX6_begin 30 = .ok (.ldc 33, 2) := by decide +kernel
theorem dX6_begin_32 : decode cX6_begin 32 = .ok (.ireturn, 1) := by decide +kernel
theorem dX6_begin_33 : decode cX6_begin 33 = .ok (.aload_n 0, 1) := by decide +kernel
theorem dX6_begin_34 : decode cX6_begin 34 = .ok (.getfield 10, 3) := by decide +kernel
theorem dX6_begin_37 : decode cX6_begin 37 = .ok (.getfield 52, 3) := by decide +kernel
theorem dX6_begin_40 : decode cX6_begin 40 = .ok (.getfield 56, 3) := by decide +kernel
theorem dX6_begin_43 : decode cX6_begin 43 = .ok (.ifCond .eq 6, 3) := by decide +kernel
theorem dX6_begin_46 : decode cX6_begin 46 = .ok (.ldc 93, 2) := by decide +kernel
theorem dX6_begin_48 : decode cX6_begin 48 = .ok (.ireturn, 1) := by decide +kernel
theorem dX6_begin_49 : decode cX6_begin 49 = .ok (.aload_n 0, 1) := by decide +kernel
theorem dX6_begin_50 : decode cX6_begin 50 = .ok (.getfield 22, 3) := by decide +kernel
theorem dX6_begin_53 : decode cX6_begin 53 = .ok (.aload_n 0, 1) := by decide +kernel
theorem dX6_begin_54 : decode cX6_begin 54 = .ok (.getfield 10, 3) := by decide +kernel
theorem dX6_begin_57 : decode cX6_begin 57 = .ok (.invokevirtual 34, 3) := by decide +kernel
theorem dX6_begin_60 : decode cX6_begin 60 = .ok (.aload_n 0, 1) := by decide +kernel
theorem dX6_begin_61 : decode cX6_begin 61 = .ok (.getfield 10, 3) := by decide +kernel
theorem dX6_begin_64 : decode cX6_begin 64 = .ok (.iload_n 1, 1) := by decide +kernel
theorem dX6_begin_65 : decode cX6_begin 65 = .ok (.iload_n 2, 1) := by decide +kernel
theorem dX6_begin_66 : decode cX6_begin 66 = .ok (.invokevirtual 110, 3) := by decide +kernel
theorem dX6_begin_69 : decode cX6_begin 69 = .ok (.aload_n 0, 1) := by decide +kernel
theorem dX6_begin_70 : decode cX6_begin 70 = .ok (.getfield 10, 3) := by decide +kernel
theorem dX6_begin_73 : decode cX6_begin 73 = .ok (.getfield 52, 3) := by decide +kernel
theorem dX6_begin_76 : decode cX6_begin 76 = .ok (.invokevirtual 114, 3) := by decide +kernel
theorem dX6_begin_79 : decode cX6_begin 79 = .ok (.ireturn, 1) := by decide +kernel
set_option maxRecDepth 20000 in
theorem ggX6_tick_X5_ticksLeft : GoodIn wsX6_tick wsX5_ticksLeft := goodIn_r _ [11, 12, 13, 152, 153, 154, 155, 156, 157, 158, 159, 160, 161, 162] (by decide +kernel) (by decide +kernel)
set_option maxRecDepth 20000 in
theorem gX6_tick_X5_ticksLeft : GoodIn wsX6_tick (wsV RX6 114 RX5 yX5_ticksLeft wsX5_ticksLeft) := goodIn_app (goodIn_of _ (by decide +kernel)) ggX6_tick_X5_ticksLeft
set_option maxRecDepth 20000 in
theorem ggX6_tick_X0_remember : GoodIn wsX6_tick wsX0_remember := goodIn_r _ [18, 19, 20, 21, 22, 23, 17, 24, 25, 26, 27, 28, 29, 30, 31, 32, 33, 34, 35, 36, 37, 38, 39, 40, 41, 42, 43, 44, 45, 46, 47, 48, 49, 50, 51, 52, 53, 54, 55, 56, 57, 58, 10, 59, 60, 61, 62, 63, 64, 13, 12, 65, 66, 67, 68, 69, 163, 164, 147, 148, 149, 150, 151, 165, 166, 167, 168, 169, 170, 152, 153, 154, 155, 156, 157, 158, 159, 160, 161, 162] (by decide +kernel) (by decide +kernel)
set_option maxRecDepth 20000 in
theorem gX6_tick_X0_remember : GoodIn wsX6_tick (wsV RX6 34 RX0 yX0_remember wsX0_remember) := goodIn_app (goodIn_of _ (by decide +kernel)) ggX6_tick_X0_remember
set_option maxRecDepth 20000 in
theorem ggX6_tick_X3_goOn : GoodIn wsX6_tick wsX3_goOn := goodIn_r _ [73, 34, 74, 75, 76, 77, 78, 8, 9, 10, 11, 12, 13, 79, 80, 81, 28, 82, 83, 84, 30, 85, 86, 87, 88, 38, 89, 41, 90, 91, 92, 93, 42, 94, 95, 96, 97, 40, 98, 99, 100, 101, 102, 103, 104, 105, 106, 31, 107, 108, 109, 110, 111, 68, 112, 113, 114, 115, 116, 117, 118, 50, 119, 52, 53, 120, 121, 122, 123, 54, 124, 125, 126, 127, 128, 32, 129, 130, 131, 132, 69, 133, 134, 135, 136, 67, 65, 137, 138, 139, 140, 141, 142, 147, 148, 149, 150, 151, 152, 153, 154, 155, 156, 157, 158, 159, 160, 161, 162, 165, 166, 167, 168, 169, 170] (by decide +kernel) (by decide +kernel)
set_option maxRecDepth 20000 in
theorem gX6_tick_X3_goOn : GoodIn wsX6_tick (wsV RX6 117 RX3 yX3_goOn wsX3_goOn) := goodIn_app (goodIn_of _ (by decide +kernel)) ggX6_tick_X3_goOn
theorem dX6_tick_0 : decode cX6_tick 0 = .ok (.iload_n 1, 1) := by decide +kernel
theorem dX6_tick_1 : decode cX6_tick 1 = .ok (.iconst 1, 1) := by decide +kernel
theorem dX6_tick_2 : decode cX6_tick 2 = .ok (.if_icmp .lt 9, 3) := by decide +kernel
theorem dX6_tick_5 : decode cX6_tick 5 = .ok (.iload_n 1, 1) := by decide +kernel
theorem dX6_tick_6 : decode cX6_tick 6 = .ok (.bipush 20, 2) := by decide +kernel
theorem dX6_tick_8 : decode cX6_tick 8 = .ok (.if_icmp .le 6, 3) := by decide +kernel
theorem dX6_tick_11 : decode cX6_tick 11 = .ok (.ldc 33, 2) := by decide +kernel
theorem dX6_tick_13 : decode cX6_tick 13 = .ok (.ireturn, 1) := by decide +kernel
theorem dX6_tick_14 : decode cX6_tick 14 = .ok (.aload_n 0, 1) := by decide +kernel
theorem dX6_tick_15 : decode cX6_tick 15 = .ok (.getfield 10, 3) := by decide +kernel
theorem dX6_tick_18 : decode cX6_tick 18 = .ok (.getfield 52, 3) := by decide +kernel
theorem dX6_tick_21 : decode cX6_tick 21 = .ok (.getfield 56, 3) := by decide +kernel
theorem dX6_tick_24 : decode cX6_tick 24 = .ok (.ifCond .eq 16, 3) := by decide +kernel
theorem dX6_tick_27 : decode cX6_tick 27 = .ok (.aload_n 0, 1) := by decide +kernel
theorem dX6_tick_28 : decode cX6_tick 28 = .ok (.getfield 10, 3) := by decide +kernel
theorem dX6_tick_31 : decode cX6_tick 31 = .ok (.getfield 52, 3) := by decide +kernel
theorem dX6_tick_34 : decode cX6_tick 34 = .ok (.invokevirtual 114, 3) := by decide +kernel
theorem dX6_tick_37 : decode cX6_tick 37 = .ok (.ifCond .ne 6, 3) := by decide +kernel
theorem dX6_tick_40 : decode cX6_tick 40 = .ok (.ldc 93, 2) := by decide +kernel
theorem dX6_tick_42 : decode cX6_tick 42 = .ok (.ireturn, 1) := by decide +kernel
theorem dX6_tick_43 : decode cX6_tick 43 = .ok (.aload_n 0, 1) := by decide +kernel
theorem dX6_tick_44 : decode cX6_tick 44 = .ok (.getfield 22, 3) := by decide +kernel
theorem dX6_tick_47 : decode cX6_tick 47 = .ok (.aload_n 0, 1) := by decide +kernel
theorem dX6_tick_48 : decode cX6_tick 48 = .ok (.getfield 10, 3) := by decide +kernel
theorem dX6_tick_51 : decode cX6_tick 51 = .ok (.invokevirtual 34, 3) := by decide +kernel
theorem dX6_tick_54 : decode cX6_tick 54 = .ok (.aload_n 0, 1) := by decide +kernel
theorem dX6_tick_55 : decode cX6_tick 55 = .ok (.getfield 10, 3) := by decide +kernel
theorem dX6_tick_58 : decode cX6_tick 58 = .ok (.iload_n 1, 1) := by decide +kernel
theorem dX6_tick_59 : decode cX6_tick 59 = .ok (.invokevirtual 117, 3) := by decide +kernel
theorem dX6_tick_62 : decode cX6_tick 62 = .ok (.aload_n 0, 1) := by decide +kernel
theorem dX6_tick_63 : decode cX6_tick 63 = .ok (.getfield 10, 3) := by decide +kernel
theorem dX6_tick_66 : decode cX6_tick 66 = .ok (.getfield 52, 3) := by decide +kernel
theorem dX6_tick_69 : decode cX6_tick 69 = .ok (.invokevirtual 114, 3) := by decide +kernel
theorem dX6_tick_72 : decode cX6_tick 72 = .ok (.ireturn, 1) := by decide +kernel
set_option maxRecDepth 20000 in
theorem ggX6_drain_X5_ticksLeft : GoodIn wsX6_drain wsX5_ticksLeft := goodIn_r _ [10, 11, 12, 117, 118, 119, 120, 121, 122, 123, 124, 125, 126, 127] (by decide +kernel) (by decide +kernel)
set_option maxRecDepth 20000 in
theorem gX6_drain_X5_ticksLeft : GoodIn wsX6_drain (wsV RX6 114 RX5 yX5_ticksLeft wsX5_ticksLeft) := goodIn_app (goodIn_of _ (by decide +kernel)) ggX6_drain_X5_ticksLeft
set_option maxRecDepth 20000 in
theorem ggX6_drain_X0_remember : GoodIn wsX6_drain wsX0_remember := goodIn_r _ [17, 18, 19, 20, 21, 22, 16, 23, 24, 25, 26, 27, 28, 29, 30, 31, 32, 33, 34, 35, 36, 37, 38, 39, 40, 41, 42, 43, 44, 45, 46, 47, 48, 49, 50, 51, 52, 53, 54, 55, 56, 57, 9, 58, 59, 60, 61, 62, 63, 12, 11, 64, 65, 66, 67, 68, 128, 129, 112, 113, 114, 115, 116, 130, 131, 132, 133, 134, 135, 117, 118, 119, 120, 121, 122, 123, 124, 125, 126, 127] (by decide +kernel) (by decide +kernel)
set_option maxRecDepth 20000 in
theorem gX6_drain_X0_remember : GoodIn wsX6_drain (wsV RX6 34 RX0 yX0_remember wsX0_remember) := goodIn_app (goodIn_of _ (by decide +kernel)) ggX6_drain_X0_remember
set_option maxRecDepth 20000 in
theorem ggX6_drain_X3_drainTile : GoodIn wsX6_drain wsX3_drainTile := goodIn_r _ [72, 33, 73, 29, 74, 75, 76, 77, 32, 78, 79, 80, 9, 81, 82, 83, 84, 85, 64, 86, 87, 88, 89, 90, 91, 49, 92, 53, 93, 94, 95, 96, 51, 52, 112, 113, 114, 115, 116, 117, 118, 119, 120, 121, 122, 123, 124, 125, 126, 127, 130, 131, 132, 133, 134, 135] (by decide +kernel) (by decide +kernel)
set_option maxRecDepth 20000 in
theorem gX6_drain_X3_drainTile : GoodIn wsX6_drain (wsV RX6 120 RX3 yX3_drainTile wsX3_drainTile) := goodIn_app (goodIn_of _ (by decide +kernel)) ggX6_drain_X3_drainTile
set_option maxRecDepth 20000 in
theorem ggX6_drain_X3_knownEntries : GoodIn wsX6_drain wsX3_knownEntries := goodIn_r _ [100, 32, 101, 102, 103, 104, 105, 106, 49, 107, 51, 52, 53, 112, 113, 114, 115, 116, 133, 134, 135] (by decide +kernel) (by decide +kernel)
set_option maxRecDepth 20000 in
theorem gX6_drain_X3_knownEntries : GoodIn wsX6_drain (wsV RX6 123 RX3 yX3_knownEntries wsX3_knownEntries) := goodIn_app (goodIn_of _ (by decide +kernel)) ggX6_drain_X3_knownEntries
theorem dX6_drain_0 : decode cX6_drain 0 = .ok (.aload_n 0, 1) := by decide +kernel
theorem dX6_drain_1 : decode cX6_drain 1 = .ok (.getfield 10, 3) := by decide +kernel
theorem dX6_drain_4 : decode cX6_drain 4 = .ok (.getfield 52, 3) := by decide +kernel
theorem dX6_drain_7 : decode cX6_drain 7 = .ok (.getfield 56, 3) := by decide +kernel
theorem dX6_drain_10 : decode cX6_drain 10 = .ok (.ifCond .eq 16, 3) := by decide +kernel
theorem dX6_drain_13 : decode cX6_drain 13 = .ok (.aload_n 0, 1) := by decide +kernel
theorem dX6_drain_14 : decode cX6_drain 14 = .ok (.getfield 10, 3) := by decide +kernel
theorem dX6_drain_17 : decode cX6_drain 17 = .ok (.getfield 52, 3) := by decide +kernel
theorem dX6_drain_20 : decode cX6_drain 20 = .ok (.invokevirtual 114, 3) := by decide +kernel
theorem dX6_drain_23 : decode cX6_drain 23 = .ok (.ifCond .le 6, 3) := by decide +kernel
theorem dX6_drain_26 : decode cX6_drain 26 = .ok (.ldc 93, 2) := by decide +kernel
theorem dX6_drain_28 : decode cX6_drain 28 = .ok (.ireturn, 1) := by decide +kernel
theorem dX6_drain_29 : decode cX6_drain 29 = .ok (.aload_n 0, 1) := by decide +kernel
theorem dX6_drain_30 : decode cX6_drain 30 = .ok (.getfield 22, 3) := by decide +kernel
theorem dX6_drain_33 : decode cX6_drain 33 = .ok (.aload_n 0, 1) := by decide +kernel
theorem dX6_drain_34 : decode cX6_drain 34 = .ok (.getfield 10, 3) := by decide +kernel
theorem dX6_drain_37 : decode cX6_drain 37 = .ok (.invokevirtual 34, 3) := by decide +kernel
theorem dX6_drain_40 : decode cX6_drain 40 = .ok (.aload_n 0, 1) := by decide +kernel
theorem dX6_drain_41 : decode cX6_drain 41 = .ok (.getfield 10, 3) := by decide +kernel
theorem dX6_drain_44 : decode cX6_drain 44 = .ok (.invokevirtual 120, 3) := by decide +kernel
theorem dX6_drain_47 : decode cX6_drain 47 = .ok (.aload_n 0, 1) := by decide +kernel
theorem dX6_drain_48 : decode cX6_drain 48 = .ok (.getfield 10, 3) := by decide +kernel
theorem dX6_drain_51 : decode cX6_drain 51 = .ok (.invokevirtual 123, 3) := by decide +kernel
theorem dX6_drain_54 : decode cX6_drain 54 = .ok (.ireturn, 1) := by decide +kernel
set_option maxRecDepth 20000 in
theorem ggX6_all_X0_remember : GoodIn wsX6_all wsX0_remember := goodIn_r _ [10, 11, 12, 13, 14, 15, 9, 16, 17, 18, 19, 20, 21, 22, 23, 24, 25, 26, 27, 28, 29, 30, 31, 32, 33, 34, 35, 36, 37, 38, 39, 40, 41, 42, 43, 44, 45, 46, 47, 48, 49, 50, 51, 52, 53, 54, 55, 56, 57, 58, 59, 60, 61, 62, 63, 64, 206, 207, 190, 191, 192, 193, 194, 208, 209, 210, 211, 212, 213, 195, 196, 197, 198, 199, 200, 201, 202, 203, 204, 205] (by decide +kernel) (by decide +kernel)
set_option maxRecDepth 20000 in
theorem gX6_all_X0_remember : GoodIn wsX6_all (wsV RX6 34 RX0 yX0_remember wsX0_remember) := goodIn_app (goodIn_of _ (by decide +kernel)) ggX6_all_X0_remember
set_option maxRecDepth 20000 in
theorem ggX6_all_X3_doAllTiles : GoodIn wsX6_all wsX3_doAllTiles := goodIn_r _ [68, 26, 69, 70, 71, 20, 72, 23, 73, 74, 75, 76, 77, 22, 78, 79, 80, 81, 82, 24, 83, 84, 85, 86, 87, 88, 89, 90, 91, 92, 93, 94, 95, 96, 97, 98, 99, 100, 51, 101, 60, 62, 63, 102, 64, 58, 103, 104, 105, 106, 107, 108, 109, 110, 59, 111, 112, 113, 114, 115, 116, 117, 118, 119, 120, 121, 122, 30, 123, 33, 124, 125, 126, 127, 34, 128, 129, 130, 131, 32, 132, 133, 134, 135, 136, 137, 138, 139, 140, 141, 142, 143, 144, 145, 146, 147, 148, 149, 42, 150, 44, 45, 151, 152, 153, 154, 46, 155, 156, 157, 158, 159, 160, 161, 162, 163, 164, 165, 166, 167, 168, 169, 170, 171, 172, 173, 174, 175, 176, 25, 177, 178, 179, 180, 181, 182, 183, 184, 185, 190, 191, 192, 193, 194, 211, 212, 213, 208, 209, 210, 195, 196, 197, 198, 199, 200, 201, 202, 203, 204, 205] (by decide +kernel) (by decide +kernel)
set_option maxRecDepth 20000 in
theorem gX6_all_X3_doAllTiles : GoodIn wsX6_all (wsV RX6 126 RX3 yX3_doAllTiles wsX3_doAllTiles) := goodIn_app (goodIn_of _ (by decide +kernel)) ggX6_all_X3_doAllTiles
theorem dX6_all_0 : decode cX6_all 0 = .ok (.aload_n 0, 1) := by decide +kernel
theorem dX6_all_1 : decode cX6_all 1 = .ok (.getfield 10, 3) := by decide +kernel
theorem dX6_all_4 : decode cX6_all 4 = .ok (.getfield 52, 3) := by decide +kernel
theorem dX6_all_7 : decode cX6_all 7 = .ok (.getfield 56, 3) := by decide +kernel
theorem dX6_all_10 : decode cX6_all 10 = .ok (.ifCond .eq 6, 3) := by decide +kernel
theorem dX6_all_13 : decode cX6_all 13 = .ok (.ldc 93, 2) := by decide +kernel
theorem dX6_all_15 : decode cX6_all 15 = .ok (.ireturn, 1) := by decide +kernel
theorem dX6_all_16 : decode cX6_all 16 = .ok (.aload_n 0, 1) := by decide +kernel
theorem dX6_all_17 : decode cX6_all 17 = .ok (.getfield 22, 3) := by decide +kernel
theorem dX6_all_20 : decode cX6_all 20 = .ok (.aload_n 0, 1) := by decide +kernel
theorem dX6_all_21 : decode cX6_all 21 = .ok (.getfield 10, 3) := by decide +kernel
theorem dX6_all_24 : decode cX6_all 24 = .ok (.invokevirtual 34, 3) := by decide +kernel
theorem dX6_all_27 : decode cX6_all 27 = .ok (.aload_n 0, 1) := by decide +kernel
theorem dX6_all_28 : decode cX6_all 28 = .ok (.getfield 10, 3) := by decide +kernel
theorem dX6_all_31 : decode cX6_all 31 = .ok (.invokevirtual 126, 3) := by decide +kernel
theorem dX6_all_34 : decode cX6_all 34 = .ok (.ireturn, 1) := by decide +kernel
set_option maxRecDepth 20000 in
theorem ggX6_entry_X1_has : GoodIn wsX6_entry wsX1_has := goodIn_r _ [9, 10, 11, 26, 27, 28] (by decide +kernel) (by decide +kernel)
set_option maxRecDepth 20000 in
theorem gX6_entry_X1_has : GoodIn wsX6_entry (wsV RX6 129 RX1 yX1_has wsX1_has) := goodIn_app (goodIn_of _ (by decide +kernel)) ggX6_entry_X1_has
set_option maxRecDepth 20000 in
theorem ggX6_entry_X1_at : GoodIn wsX6_entry wsX1_at := goodIn_r _ [15, 10, 11, 16, 26, 27, 28] (by decide +kernel) (by decide +kernel)
set_option maxRecDepth 20000 in
theorem gX6_entry_X1_at : GoodIn wsX6_entry (wsV RX6 130 RX1 yX1_at wsX1_at) := goodIn_app (goodIn_of _ (by decide +kernel)) ggX6_entry_X1_at
theorem dX6_entry_0 : decode cX6_entry 0 = .ok (.iload_n 1, 1) := by decide +kernel
theorem dX6_entry_1 : decode cX6_entry 1 = .ok (.ifCond .lt 8, 3) := by decide +kernel
theorem dX6_entry_4 : decode cX6_entry 4 = .ok (.iload_n 1, 1) := by decide +kernel
theorem dX6_entry_5 : decode cX6_entry 5 = .ok (.iconst 1, 1) := by decide +kernel
theorem dX6_entry_6 : decode cX6_entry 6 = .ok (.if_icmp .le 6, 3) := by decide +kernel
theorem dX6_entry_9 : decode cX6_entry 9 = .ok (.ldc 33, 2) := by decide +kernel
theorem dX6_entry_11 : decode cX6_entry 11 = .ok (.ireturn, 1) := by decide +kernel
theorem dX6_entry_12 : decode cX6_entry 12 = .ok (.iload_n 1, 1) := by decide +kernel
theorem dX6_entry_13 : decode cX6_entry 13 = .ok (.ifCond .ne 13, 3) := by decide +kernel
theorem dX6_entry_16 : decode cX6_entry 16 = .ok (.aload_n 0, 1) := by decide +kernel
theorem dX6_entry_17 : decode cX6_entry 17 = .ok (.getfield 10, 3) := by decide +kernel
theorem dX6_entry_20 : decode cX6_entry 20 = .ok (.getfield 69, 3) := by decide +kernel
theorem dX6_entry_23 : decode cX6_entry 23 = .ok (.goto 10, 3) := by decide +kernel
theorem dX6_entry_26 : decode cX6_entry 26 = .ok (.aload_n 0, 1) := by decide +kernel
theorem dX6_entry_27 : decode cX6_entry 27 = .ok (.getfield 10, 3) := by decide +kernel
theorem dX6_entry_30 : decode cX6_entry 30 = .ok (.getfield 78, 3) := by decide +kernel
theorem dX6_entry_33 : decode cX6_entry 33 = .ok (.astore 4, 2) := by decide +kernel
theorem dX6_entry_35 : decode cX6_entry 35 = .ok (.aload 4, 2) := by decide +kernel
theorem dX6_entry_37 : decode cX6_entry 37 = .ok (.iload_n 2, 1) := by decide +kernel
theorem dX6_entry_38 : decode cX6_entry 38 = .ok (.iload_n 3, 1) := by decide +kernel
theorem dX6_entry_39 : decode cX6_entry 39 = .ok (.invokevirtual 129, 3) := by decide +kernel
theorem dX6_entry_42 : decode cX6_entry 42 = .ok (.ifCond .eq 13, 3) := by decide +kernel
theorem dX6_entry_45 : decode cX6_entry 45 = .ok (.aload 4, 2) := by decide +kernel
theorem dX6_entry_47 : decode cX6_entry 47 = .ok (.iload_n 2, 1) := by decide +kernel
theorem dX6_entry_48 : decode cX6_entry 48 = .ok (.iload_n 3, 1) := by decide +kernel
theorem dX6_entry_49 : decode cX6_entry 49 = .ok (.invokevirtual 130, 3) := by decide +kernel
theorem dX6_entry_52 : decode cX6_entry 52 = .ok (.goto 5, 3) := by decide +kernel
theorem dX6_entry_55 : decode cX6_entry 55 = .ok (.ldc 33, 2) := by decide +kernel
theorem dX6_entry_57 : decode cX6_entry 57 = .ok (.ireturn, 1) := by decide +kernel
set_option maxRecDepth 20000 in
theorem ggX6_cellOf_X2_placeOf : GoodIn wsX6_cellOf wsX2_placeOf := goodIn_r _ [12, 13, 71, 72, 73] (by decide +kernel) (by decide +kernel)
set_option maxRecDepth 20000 in
theorem gX6_cellOf_X2_placeOf : GoodIn wsX6_cellOf (wsV RX6 133 RX2 yX2_placeOf wsX2_placeOf) := goodIn_app (goodIn_of _ (by decide +kernel)) ggX6_cellOf_X2_placeOf
set_option maxRecDepth 20000 in
theorem ggX6_cellOf_X2_kindAt : GoodIn wsX6_cellOf wsX2_kindAt := goodIn_r _ [17, 18, 19, 20, 21, 11, 22, 23, 71, 72, 73] (by decide +kernel) (by decide +kernel)
set_option maxRecDepth 20000 in
theorem gX6_cellOf_X2_kindAt : GoodIn wsX6_cellOf (wsV RX6 94 RX2 yX2_kindAt wsX2_kindAt) := goodIn_app (goodIn_of _ (by decide +kernel)) ggX6_cellOf_X2_kindAt
set_option maxRecDepth 20000 in
theorem ggX6_cellOf_X5_cell : GoodIn wsX6_cellOf wsX5_cell := goodIn_r _ [27] (by decide +kernel) (by decide +kernel)
set_option maxRecDepth 20000 in
theorem gX6_cellOf_X5_cell : GoodIn wsX6_cellOf (va_wsS RX6 137 yX5_cell wsX5_cell) := goodIn_app (goodIn_of _ (by decide +kernel)) ggX6_cellOf_X5_cell
set_option maxRecDepth 20000 in
theorem ggX6_cellOf_X6_ofCellAtWork : GoodIn wsX6_cellOf wsX6_ofCellAtWork := goodIn_r _ [32, 1, 5, 33, 34, 35, 26, 36, 37, 38, 39, 40, 41, 42, 43, 44, 45, 46, 47, 48, 31, 49, 50, 51, 52, 53, 54, 55, 56, 57, 58, 59, 60, 61, 62, 63, 64, 65, 66, 67, 68, 69, 70, 74, 75, 76, 77, 78, 79, 80, 81, 82, 83, 84] (by decide +kernel) (by decide +kernel)
set_option maxRecDepth 20000 in
theorem gX6_cellOf_X6_ofCellAtWork : GoodIn wsX6_cellOf (wsV RX6 140 RX6 yX6_ofCellAtWork wsX6_ofCellAtWork) := goodIn_app (goodIn_of _ (by decide +kernel)) ggX6_cellOf_X6_ofCellAtWork
theorem dX6_cellOf_0 : decode cX6_cellOf 0 = .ok (.iload_n 1, 1) := by decide +kernel
theorem dX6_cellOf_1 : decode cX6_cellOf 1 = .ok (.ifCond .lt 35, 3) := by decide +kernel
theorem dX6_cellOf_4 : decode cX6_cellOf 4 = .ok (.iload_n 1, 1) := by decide +kernel
theorem dX6_cellOf_5 : decode cX6_cellOf 5 = .ok (.aload_n 0, 1) := by decide +kernel
theorem dX6_cellOf_6 : decode cX6_cellOf 6 = .ok (.getfield 10, 3) := by decide +kernel
theorem dX6_cellOf_9 : decode cX6_cellOf 9 = .ok (.getfield 38, 3) := by decide +kernel
theorem dX6_cellOf_12 : decode cX6_cellOf 12 = .ok (.getfield 42, 3) := by decide +kernel
theorem dX6_cellOf_15 : decode cX6_cellOf 15 = .ok (.if_icmp .ge 21, 3) := by decide +kernel
theorem dX6_cellOf_18 : decode cX6_cellOf 18 = .ok (.iload_n 2, 1) := by decide +kernel
theorem dX6_cellOf_19 : decode cX6_cellOf 19 = .ok (.ifCond .lt 17, 3) := by decide +kernel
theorem dX6_cellOf_22 : decode cX6_cellOf 22 = .ok (.iload_n 2, 1) := by decide +kernel
theorem dX6_cellOf_23 : decode cX6_cellOf 23 = .ok (.aload_n 0, 1) := by decide +kernel
theorem dX6_cellOf_24 : decode cX6_cellOf 24 = .ok (.getfield 10, 3) := by decide +kernel
theorem dX6_cellOf_27 : decode cX6_cellOf 27 = .ok (.getfield 38, 3) := by decide +kernel
theorem dX6_cellOf_30 : decode cX6_cellOf 30 = .ok (.getfield 42, 3) := by decide +kernel
theorem dX6_cellOf_33 : decode cX6_cellOf 33 = .ok (.if_icmp .lt 6, 3) := by decide +kernel
theorem dX6_cellOf_36 : decode cX6_cellOf 36 = .ok (.ldc 33, 2) := by decide +kernel
theorem dX6_cellOf_38 : decode cX6_cellOf 38 = .ok (.ireturn, 1) := by decide +kernel
theorem dX6_cellOf_39 : decode cX6_cellOf 39 = .ok (.iload_n 3, 1) := by decide +kernel
theorem dX6_cellOf_40 : decode cX6_cellOf 40 = .ok (.ifCond .lt 8, 3) := by decide +kernel
theorem dX6_cellOf_43 : decode cX6_cellOf 43 = .ok (.iload_n 3, 1) := by decide +kernel
theorem dX6_cellOf_44 : decode cX6_cellOf 44 = .ok (.iconst 5, 1) := by decide +kernel
theorem dX6_cellOf_45 : decode cX6_cellOf 45 = .ok (.if_icmp .le 6, 3) := by decide +kernel
theorem dX6_cellOf_48 : decode cX6_cellOf 48 = .ok (.ldc 33, 2) := by decide +kernel
theorem dX6_cellOf_50 : decode cX6_cellOf 50 = .ok (.ireturn, 1) := by decide +kernel
theorem dX6_cellOf_51 : decode cX6_cellOf 51 = .ok (.aload_n 0, 1) := by decide +kernel
theorem dX6_cellOf_52 : decode cX6_cellOf 52 = .ok (.getfield 10, 3) := by decide +kernel
theorem dX6_cellOf_55 : decode cX6_cellOf 55 = .ok (.getfield 38, 3) := by decide +kernel
theorem dX6_cellOf_58 : decode cX6_cellOf 58 = .ok (.iload_n 2, 1) := by decide +kernel
theorem dX6_cellOf_59 : decode cX6_cellOf 59 = .ok (.invokevirtual 133, 3) := by decide +kernel
theorem dX6_cellOf_62 : decode cX6_cellOf 62 = .ok (.istore 4, 2) := by decide +kernel
theorem dX6_cellOf_64 : decode cX6_cellOf 64 = .ok (.iload_n 3, 1) := by decide +kernel
theorem dX6_cellOf_65 : decode cX6_cellOf 65 = .ok (.iconst 3, 1) := by decide +kernel
theorem dX6_cellOf_66 : decode cX6_cellOf 66 = .ok (.if_icmp .ne 6, 3) := by decide +kernel
theorem dX6_cellOf_69 : decode cX6_cellOf 69 = .ok (.iload 4, 2) := by decide +kernel
theorem dX6_cellOf_71 : decode cX6_cellOf 71 = .ok (.ireturn, 1) := by decide +kernel
theorem dX6_cellOf_72 : decode cX6_cellOf 72 = .ok (.iload_n 3, 1) := by decide +kernel
theorem dX6_cellOf_73 : decode cX6_cellOf 73 = .ok (.iconst 4, 1) := by decide +kernel
theorem dX6_cellOf_74 : decode cX6_cellOf 74 = .ok (.if_icmp .ne 17, 3) := by decide +kernel
theorem dX6_cellOf_77 : decode cX6_cellOf 77 = .ok (.aload_n 0, 1) := by decide +kernel
theorem dX6_cellOf_78 : decode cX6_cellOf 78 = .ok (.getfield 10, 3) := by decide +kernel
theorem dX6_cellOf_81 : decode cX6_cellOf 81 = .ok (.getfield 38, 3) := by decide +kernel
theorem dX6_cellOf_84 : decode cX6_cellOf 84 = .ok (.iload_n 1, 1) := by decide +kernel
theorem dX6_cellOf_85 : decode cX6_cellOf 85 = .ok (.iload 4, 2) := by decide +kernel
theorem dX6_cellOf_87 : decode cX6_cellOf 87 = .ok (.invokevirtual 94, 3) := by decide +kernel
theorem dX6_cellOf_90 : decode cX6_cellOf 90 = .ok (.ireturn, 1) := by decide +kernel
theorem dX6_cellOf_91 : decode cX6_cellOf 91 = .ok (.aload_n 0, 1) := by decide +kernel
theorem dX6_cellOf_92 : decode cX6_cellOf 92 = .ok (.getfield 10, 3) := by decide +kernel
theorem dX6_cellOf_95 : decode cX6_cellOf 95 = .ok (.getfield 52, 3) := by decide +kernel
theorem dX6_cellOf_98 : decode cX6_cellOf 98 = .ok (.getfield 56, 3) := by decide +kernel
theorem dX6_cellOf_101 : decode cX6_cellOf 101 = .ok (.ifCond .eq 16, 3) := by decide +kernel
theorem dX6_cellOf_104 : decode cX6_cellOf 104 = .ok (.aload_n 0, 1) := by decide +kernel
theorem dX6_cellOf_105 : decode cX6_cellOf 105 = .ok (.iload_n 1, 1) := by decide +kernel
theorem dX6_cellOf_106 : decode cX6_cellOf 106 = .ok (.iload_n 2, 1) := by decide +kernel
theorem dX6_cellOf_107 : decode cX6_cellOf 107 = .ok (.invokestatic 137, 3) := by decide +kernel
theorem dX6_cellOf_110 : decode cX6_cellOf 110 = .ok (.iload_n 3, 1) := by decide +kernel
theorem dX6_cellOf_111 : decode cX6_cellOf 111 = .ok (.invokevirtual 140, 3) := by decide +kernel
theorem dX6_cellOf_114 : decode cX6_cellOf 114 = .ok (.goto 5, 3) := by decide +kernel
theorem dX6_cellOf_117 : decode cX6_cellOf 117 = .ok (.ldc 93, 2) := by decide +kernel
theorem dX6_cellOf_119 : decode cX6_cellOf 119 = .ok (.ireturn, 1) := by decide +kernel
set_option maxRecDepth 20000 in
theorem ggX6_result_X1_has : GoodIn wsX6_result wsX1_has := goodIn_r _ [8, 9, 10, 40, 41, 42] (by decide +kernel) (by decide +kernel)
set_option maxRecDepth 20000 in
theorem gX6_result_X1_has : GoodIn wsX6_result (wsV RX6 129 RX1 yX1_has wsX1_has) := goodIn_app (goodIn_of _ (by decide +kernel)) ggX6_result_X1_has
set_option maxRecDepth 20000 in
theorem ggX6_result_X3_dueAt : GoodIn wsX6_result wsX3_dueAt := goodIn_r _ [15, 16, 17, 18, 19, 20, 21, 7, 22, 9, 10, 23, 35, 36, 37, 38, 39, 40, 41, 42] (by decide +kernel) (by decide +kernel)
set_option maxRecDepth 20000 in
theorem gX6_result_X3_dueAt : GoodIn wsX6_result (wsV RX6 146 RX3 yX3_dueAt wsX3_dueAt) := goodIn_app (goodIn_of _ (by decide +kernel)) ggX6_result_X3_dueAt
set_option maxRecDepth 20000 in
theorem ggX6_result_X1_at : GoodIn wsX6_result wsX1_at := goodIn_r _ [22, 9, 10, 23, 40, 41, 42] (by decide +kernel) (by decide +kernel)
set_option maxRecDepth 20000 in
theorem gX6_result_X1_at : GoodIn wsX6_result (wsV RX6 130 RX1 yX1_at wsX1_at) := goodIn_app (goodIn_of _ (by decide +kernel)) ggX6_result_X1_at
set_option maxRecDepth 20000 in
theorem ggX6_result_X6_orNotFound : GoodIn wsX6_result wsX6_orNotFound := goodIn_r _ [28, 29, 30] (by decide +kernel) (by decide +kernel)
set_option maxRecDepth 20000 in
theorem gX6_result_X6_orNotFound : GoodIn wsX6_result (va_wsS RX6 149 yX6_orNotFound wsX6_orNotFound) := goodIn_app (goodIn_of _ (by decide +kernel)) ggX6_result_X6_orNotFound
theorem dX6_result_0 : decode cX6_result 0 = .ok (.iload_n 3, 1) := by decide +kernel
theorem dX6_result_1 : decode cX6_result 1 = .ok (.ifCond .lt 23, 3) := by decide +kernel
theorem dX6_result_4 : decode cX6_result 4 = .ok (.iload_n 3, 1) := by decide +kernel
theorem dX6_result_5 : decode cX6_result 5 = .ok (.iconst 1, 1) := by decide +kernel
theorem dX6_result_6 : decode cX6_result 6 = .ok (.if_icmp .gt 18, 3) := by decide +kernel
theorem dX6_result_9 : decode cX6_result 9 = .ok (.aload_n 0, 1) := by decide +kernel
theorem dX6_result_10 : decode cX6_result 10 = .ok (.getfield 10, 3) := by decide +kernel
theorem dX6_result_13 : decode cX6_result 13 = .ok (.getfield 143, 3) := by decide +kernel
theorem dX6_result_16 : decode cX6_result 16 = .ok (.iload_n 1, 1) := by decide +kernel
theorem dX6_result_17 : decode cX6_result 17 = .ok (.iload_n 2, 1) := by decide +kernel
theorem dX6_result_18 : decode cX6_result 18 = .ok (.invokevirtual 129, 3) := by decide +kernel
theorem dX6_result_21 : decode cX6_result 21 = .ok (.ifCond .ne 6, 3) := by decide +kernel
theorem dX6_result_24 : decode cX6_result 24 = .ok (.ldc 33, 2) := by decide +kernel
theorem dX6_result_26 : decode cX6_result 26 = .ok (.ireturn, 1) := by decide +kernel
theorem dX6_result_27 : decode cX6_result 27 = .ok (.iload_n 3, 1) := by decide +kernel
theorem dX6_result_28 : decode cX6_result 28 = .ok (.iconst 1, 1) := by decide +kernel
theorem dX6_result_29 : decode cX6_result 29 = .ok (.if_icmp .ne 13, 3) := by decide +kernel
theorem dX6_result_32 : decode cX6_result 32 = .ok (.aload_n 0, 1) := by decide +kernel
theorem dX6_result_33 : decode cX6_result 33 = .ok (.getfield 10, 3) := by decide +kernel
theorem dX6_result_36 : decode cX6_result 36 = .ok (.iload_n 1, 1) := by decide +kernel
theorem dX6_result_37 : decode cX6_result 37 = .ok (.iload_n 2, 1) := by decide +kernel
theorem dX6_result_38 : decode cX6_result 38 = .ok (.invokevirtual 146, 3) := by decide +kernel
theorem dX6_result_41 : decode cX6_result 41 = .ok (.ireturn, 1) := by decide +kernel
theorem dX6_result_42 : decode cX6_result 42 = .ok (.aload_n 0, 1) := by decide +kernel
theorem dX6_result_43 : decode cX6_result 43 = .ok (.getfield 10, 3) := by decide +kernel
theorem dX6_result_46 : decode cX6_result 46 = .ok (.getfield 143, 3) := by decide +kernel
theorem dX6_result_49 : decode cX6_result 49 = .ok (.iload_n 1, 1) := by decide +kernel
theorem dX6_result_50 : decode cX6_result 50 = .ok (.iload_n 2, 1) := by decide +kernel
theorem dX6_result_51 : decode cX6_result 51 = .ok (.invokevirtual 130, 3) := by decide +kernel
theorem dX6_result_54 : decode cX6_result 54 = .ok (.invokestatic 149, 3) := by decide +kernel
theorem dX6_result_57 : decode cX6_result 57 = .ok (.ireturn, 1) := by decide +kernel
set_option maxRecDepth 20000 in
theorem ggX6_count_X3_tiles : GoodIn wsX6_count wsX3_tiles := goodIn_r _ [24, 25, 26, 27, 23, 28, 29, 30, 31, 32, 33, 34, 35, 36, 37, 38, 39, 40, 41, 42, 91, 92, 93, 94, 95, 99, 100, 101, 96, 97, 98] (by decide +kernel) (by decide +kernel)
set_option maxRecDepth 20000 in
theorem gX6_count_X3_tiles : GoodIn wsX6_count (wsV RX6 81 RX3 yX3_tiles wsX3_tiles) := goodIn_app (goodIn_of _ (by decide +kernel)) ggX6_count_X3_tiles
set_option maxRecDepth 20000 in
theorem ggX6_count_X5_ticksLeft : GoodIn wsX6_count wsX5_ticksLeft := goodIn_r _ [47, 48, 49, 102, 103, 104, 105, 106, 107, 108, 109, 110, 111, 112] (by decide +kernel) (by decide +kernel)
set_option maxRecDepth 20000 in
theorem gX6_count_X5_ticksLeft : GoodIn wsX6_count (wsV RX6 114 RX5 yX5_ticksLeft wsX5_ticksLeft) := goodIn_app (goodIn_of _ (by decide +kernel)) ggX6_count_X5_ticksLeft
set_option maxRecDepth 20000 in
theorem ggX6_count_X3_knownEntries : GoodIn wsX6_count wsX3_knownEntries := goodIn_r _ [53, 54, 30, 42, 55, 56, 57, 58, 59, 60, 61, 62, 63, 91, 92, 93, 94, 95, 99, 100, 101] (by decide +kernel) (by decide +kernel)
set_option maxRecDepth 20000 in
theorem gX6_count_X3_knownEntries : GoodIn wsX6_count (wsV RX6 123 RX3 yX3_knownEntries wsX3_knownEntries) := goodIn_app (goodIn_of _ (by decide +kernel)) ggX6_count_X3_knownEntries
set_option maxRecDepth 20000 in
theorem ggX6_count_X3_wrongEntries : GoodIn wsX6_count wsX3_wrongEntries := goodIn_r _ [67, 54, 30, 42, 55, 56, 57, 58, 59, 60, 61, 62, 63, 68, 69, 70, 23, 71, 29, 41, 91, 92, 93, 94, 95, 99, 100, 101] (by decide +kernel) (by decide +kernel)
set_option maxRecDepth 20000 in
theorem gX6_count_X3_wrongEntries : GoodIn wsX6_count (wsV RX6 168 RX3 yX3_wrongEntries wsX3_wrongEntries) := goodIn_app (goodIn_of _ (by decide +kernel)) ggX6_count_X3_wrongEntries
set_option maxRecDepth 20000 in
theorem ggX6_count_X2_faultyCells : GoodIn wsX6_count wsX2_faultyCells := goodIn_r _ [76, 77, 78, 79, 80, 75, 81, 82, 83, 84, 85, 86, 96, 97, 98] (by decide +kernel) (by decide +kernel)
set_option maxRecDepth 20000 in
theorem gX6_count_X2_faultyCells : GoodIn wsX6_count (wsV RX6 171 RX2 yX2_faultyCells wsX2_faultyCells) := goodIn_app (goodIn_of _ (by decide +kernel)) ggX6_count_X2_faultyCells
theorem dX6_count_0 : decode cX6_count 0 = .ok (.iload_n 1, 1) := by decide +kernel
theorem dX6_count_1 : decode cX6_count 1 = .ok (.tableswitch 320 0 15 #[79, 90, 101, 112, 123, 131, 142, 161, 190, 219, 248, 277, 285, 293, 304, 312], 79) := by decide +kernel
theorem dX6_count_80 : decode cX6_count 80 = .ok (.aload_n 0, 1) := by decide +kernel
theorem dX6_count_81 : decode cX6_count 81 = .ok (.getfield 10, 3) := by decide +kernel
theorem dX6_count_84 : decode cX6_count 84 = .ok (.getfield 38, 3) := by decide +kernel
theorem dX6_count_87 : decode cX6_count 87 = .ok (.getfield 42, 3) := by decide +kernel
theorem dX6_count_90 : decode cX6_count 90 = .ok (.ireturn, 1) := by decide +kernel
theorem dX6_count_91 : decode cX6_count 91 = .ok (.aload_n 0, 1) := by decide +kernel
theorem dX6_count_92 : decode cX6_count 92 = .ok (.getfield 10, 3) := by decide +kernel
theorem dX6_count_95 : decode cX6_count 95 = .ok (.getfield 69, 3) := by decide +kernel
theorem dX6_count_98 : decode cX6_count 98 = .ok (.getfield 152, 3) := by decide +kernel
theorem dX6_count_101 : decode cX6_count 101 = .ok (.ireturn, 1) := by decide +kernel
theorem dX6_count_102 : decode cX6_count 102 = .ok (.aload_n 0, 1) := by decide +kernel
theorem dX6_count_103 : decode cX6_count 103 = .ok (.getfield 10, 3) := by decide +kernel
theorem dX6_count_106 : decode cX6_count 106 = .ok (.getfield 69, 3) := by decide +kernel
theorem dX6_count_109 : decode cX6_count 109 = .ok (.getfield 155, 3) := by decide +kernel
theorem dX6_count_112 : decode cX6_count 112 = .ok (.ireturn, 1) := by decide +kernel
theorem dX6_count_113 : decode cX6_count 113 = .ok (.aload_n 0, 1) := by decide +kernel
theorem dX6_count_114 : decode cX6_count 114 = .ok (.getfield 10, 3) := by decide +kernel
theorem dX6_count_117 : decode cX6_count 117 = .ok (.getfield 78, 3) := by decide +kernel
theorem dX6_count_120 : decode cX6_count 120 = .ok (.getfield 155, 3) := by decide +kernel
theorem dX6_count_123 : decode cX6_count 123 = .ok (.ireturn, 1) := by decide +kernel
theorem dX6_count_124 : decode cX6_count 124 = .ok (.aload_n 0, 1) := by decide +kernel
theorem dX6_count_125 : decode cX6_count 125 = .ok (.getfield 10, 3) := by decide +kernel
theorem dX6_count_128 : decode cX6_count 128 = .ok (.invokevirtual 81, 3) := by decide +kernel
theorem dX6_count_131 : decode cX6_count 131 = .ok (.ireturn, 1) := by decide +kernel
theorem dX6_count_132 : decode cX6_count 132 = .ok (.aload_n 0, 1) := by decide +kernel
theorem dX6_count_133 : decode cX6_count 133 = .ok (.getfield 10, 3) := by decide +kernel
theorem dX6_count_136 : decode cX6_count 136 = .ok (.getfield 38, 3) := by decide +kernel
theorem dX6_count_139 : decode cX6_count 139 = .ok (.getfield 101, 3) := by decide +kernel
theorem dX6_count_142 : decode cX6_count 142 = .ok (.ireturn, 1) := by decide +kernel
theorem dX6_count_143 : decode cX6_count 143 = .ok (.aload_n 0, 1) := by decide +kernel
theorem dX6_count_144 : decode cX6_count 144 = .ok (.getfield 10, 3) := by decide +kernel
theorem dX6_count_147 : decode cX6_count 147 = .ok (.getfield 52, 3) := by decide +kernel
theorem dX6_count_150 : decode cX6_count 150 = .ok (.getfield 56, 3) := by decide +kernel
theorem dX6_count_153 : decode cX6_count 153 = .ok (.ifCond .eq 7, 3) := by decide +kernel
theorem dX6_count_156 : decode cX6_count 156 = .ok (.iconst 1, 1) := by decide +kernel
theorem dX6_count_157 : decode cX6_count 157 = .ok (.goto 4, 3) := by decide +kernel
theorem dX6_count_160 : decode cX6_count 160 = .ok (.iconst 0, 1) := by decide +kernel
theorem dX6_count_161 : decode cX6_count 161 = .ok (.ireturn, 1) := by decide +kernel
theorem dX6_count_162 : decode cX6_count 162 = .ok (.aload_n 0, 1) := by decide +kernel
theorem dX6_count_163 : decode cX6_count 163 = .ok (.getfield 10, 3) := by decide +kernel
theorem dX6_count_166 : decode cX6_count 166 = .ok (.getfield 52, 3) := by decide +kernel
theorem dX6_count_169 : decode cX6_count 169 = .ok (.getfield 56, 3) := by decide +kernel
theorem dX6_count_172 : decode cX6_count 172 = .ok (.ifCond .eq 16, 3) := by decide +kernel
theorem dX6_count_175 : decode cX6_count 175 = .ok (.aload_n 0, 1) := by decide +kernel
theorem dX6_count_176 : decode cX6_count 176 = .ok (.getfield 10, 3) := by decide +kernel
theorem dX6_count_179 : decode cX6_count 179 = .ok (.getfield 52, 3) := by decide +kernel
theorem dX6_count_182 : decode cX6_count 182 = .ok (.getfield 158, 3) := by decide +kernel
theorem dX6_count_185 : decode cX6_count 185 = .ok (.goto 5, 3) := by decide +kernel
theorem dX6_count_188 : decode cX6_count 188 = .ok (.ldc 161, 2) := by decide +kernel
theorem dX6_count_190 : decode cX6_count 190 = .ok (.ireturn, 1) := by decide +kernel
theorem dX6_count_191 : decode cX6_count 191 = .ok (.aload_n 0, 1) := by decide +kernel
theorem dX6_count_192 : decode cX6_count 192 = .ok (.getfield 10, 3) := by decide +kernel
theorem dX6_count_195 : decode cX6_count 195 = .ok (.getfield 52, 3) := by decide +kernel
theorem dX6_count_198 : decode cX6_count 198 = .ok (.getfield 56, 3) := by decide +kernel
theorem dX6_count_201 : decode cX6_count 201 = .ok (.ifCond .eq 16, 3) := by decide +kernel
theorem dX6_count_204 : decode cX6_count 204 = .ok (.aload_n 0, 1) := by decide +kernel
theorem dX6_count_205 : decode cX6_count 205 = .ok (.getfield 10, 3) := by decide +kernel
theorem dX6_count_208 : decode cX6_count 208 = .ok (.getfield 52, 3) := by decide +kernel
theorem dX6_count_211 : decode cX6_count 211 = .ok (.getfield 162, 3) := by decide +kernel
theorem dX6_count_214 : decode cX6_count 214 = .ok (.goto 5, 3) := by decide +kernel
theorem dX6_count_217 : decode cX6_count 217 = .ok (.ldc 161, 2) := by decide +kernel
theorem dX6_count_219 : decode cX6_count 219 = .ok (.ireturn, 1) := by decide +kernel
theorem dX6_count_220 : decode cX6_count 220 = .ok (.aload_n 0, 1) := by decide +kernel
theorem dX6_count_221 : decode cX6_count 221 = .ok (.getfield 10, 3) := by decide +kernel
theorem dX6_count_224 : decode cX6_count 224 = .ok (.getfield 52, 3) := by decide +kernel
theorem dX6_count_227 : decode cX6_count 227 = .ok (.getfield 56, 3) := by decide +kernel
theorem dX6_count_230 : decode cX6_count 230 = .ok (.ifCond .eq 16, 3) := by decide +kernel
theorem dX6_count_233 : decode cX6_count 233 = .ok (.aload_n 0, 1) := by decide +kernel
theorem dX6_count_234 : decode cX6_count 234 = .ok (.getfield 10, 3) := by decide +kernel
theorem dX6_count_237 : decode cX6_count 237 = .ok (.getfield 52, 3) := by decide +kernel
theorem dX6_count_240 : decode cX6_count 240 = .ok (.getfield 165, 3) := by decide +kernel
theorem dX6_count_243 : decode cX6_count 243 = .ok (.goto 5, 3) := by decide +kernel
theorem dX6_count_246 : decode cX6_count 246 = .ok (.ldc 161, 2) := by decide +kernel
theorem dX6_count_248 : decode cX6_count 248 = .ok (.ireturn, 1) := by decide +kernel
theorem dX6_count_249 : decode cX6_count 249 = .ok (.aload_n 0, 1) := by decide +kernel
theorem dX6_count_250 : decode cX6_count 250 = .ok (.getfield 10, 3) := by decide +kernel
theorem dX6_count_253 : decode cX6_count 253 = .ok (.getfield 52, 3) := by decide +kernel
theorem dX6_count_256 : decode cX6_count 256 = .ok (.getfield 56, 3) := by decide +kernel
theorem dX6_count_259 : decode cX6_count 259 = .ok (.ifCond .eq 16, 3) := by decide +kernel
theorem dX6_count_262 : decode cX6_count 262 = .ok (.aload_n 0, 1) := by decide +kernel
theorem dX6_count_263 : decode cX6_count 263 = .ok (.getfield 10, 3) := by decide +kernel
theorem dX6_count_266 : decode cX6_count 266 = .ok (.getfield 52, 3) := by decide +kernel
theorem dX6_count_269 : decode cX6_count 269 = .ok (.invokevirtual 114, 3) := by decide +kernel
theorem dX6_count_272 : decode cX6_count 272 = .ok (.goto 5, 3) := by decide +kernel
theorem dX6_count_275 : decode cX6_count 275 = .ok (.ldc 161, 2) := by decide +kernel
theorem dX6_count_277 : decode cX6_count 277 = .ok (.ireturn, 1) := by decide +kernel
theorem dX6_count_278 : decode cX6_count 278 = .ok (.aload_n 0, 1) := by decide +kernel
theorem dX6_count_279 : decode cX6_count 279 = .ok (.getfield 10, 3) := by decide +kernel
theorem dX6_count_282 : decode cX6_count 282 = .ok (.invokevirtual 123, 3) := by decide +kernel
theorem dX6_count_285 : decode cX6_count 285 = .ok (.ireturn, 1) := by decide +kernel
theorem dX6_count_286 : decode cX6_count 286 = .ok (.aload_n 0, 1) := by decide +kernel
theorem dX6_count_287 : decode cX6_count 287 = .ok (.getfield 10, 3) := by decide +kernel
theorem dX6_count_290 : decode cX6_count 290 = .ok (.invokevirtual 168, 3) := by decide +kernel
theorem dX6_count_293 : decode cX6_count 293 = .ok (.ireturn, 1) := by decide +kernel
theorem dX6_count_294 : decode cX6_count 294 = .ok (.aload_n 0, 1) := by decide +kernel
theorem dX6_count_295 : decode cX6_count 295 = .ok (.getfield 10, 3) := by decide +kernel
theorem dX6_count_298 : decode cX6_count 298 = .ok (.getfield 38, 3) := by decide +kernel
theorem dX6_count_301 : decode cX6_count 301 = .ok (.invokevirtual 171, 3) := by decide +kernel
theorem dX6_count_304 : decode cX6_count 304 = .ok (.ireturn, 1) := by decide +kernel
theorem dX6_count_305 : decode cX6_count 305 = .ok (.aload_n 0, 1) := by decide +kernel
theorem dX6_count_306 : decode cX6_count 306 = .ok (.getfield 22, 3) := by decide +kernel
theorem dX6_count_309 : decode cX6_count 309 = .ok (.getfield 174, 3) := by decide +kernel
theorem dX6_count_312 : decode cX6_count 312 = .ok (.ireturn, 1) := by decide +kernel
theorem dX6_count_313 : decode cX6_count 313 = .ok (.aload_n 0, 1) := by decide +kernel
theorem dX6_count_314 : decode cX6_count 314 = .ok (.getfield 29, 3) := by decide +kernel
theorem dX6_count_317 : decode cX6_count 317 = .ok (.getfield 177, 3) := by decide +kernel
theorem dX6_count_320 : decode cX6_count 320 = .ok (.ireturn, 1) := by decide +kernel
theorem dX6_count_321 : decode cX6_count 321 = .ok (.ldc 33, 2) := by decide +kernel
theorem dX6_count_323 : decode cX6_count 323 = .ok (.ireturn, 1) := by decide +kernel
set_option maxRecDepth 20000 in
theorem ggX6_suspects_X3_suspectRows : GoodIn wsX6_suspects wsX3_suspectRows := goodIn_r _ [7, 8, 9, 10, 11, 12, 13, 14, 15, 16, 17, 18, 19, 20, 21, 22, 23, 24, 25, 26, 27, 28, 29, 6, 30, 31, 32, 33, 34, 55, 56, 57, 58, 59, 60, 61, 62] (by decide +kernel) (by decide +kernel)
set_option maxRecDepth 20000 in
theorem gX6_suspects_X3_suspectRows : GoodIn wsX6_suspects (wsV RX6 180 RX3 yX3_suspectRows wsX3_suspectRows) := goodIn_app (goodIn_of _ (by decide +kernel)) ggX6_suspects_X3_suspectRows
set_option maxRecDepth 20000 in
theorem ggX6_suspects_X3_suspectColumns : GoodIn wsX6_suspects wsX3_suspectColumns := goodIn_r _ [38, 8, 32, 39, 40, 41, 13, 42, 21, 16, 17, 18, 19, 20, 15, 22, 43, 44, 45, 46, 47, 48, 49, 6, 50, 31, 33, 34, 55, 56, 57, 58, 59, 60, 61, 62] (by decide +kernel) (by decide +kernel)
set_option maxRecDepth 20000 in
theorem gX6_suspects_X3_suspectColumns : GoodIn wsX6_suspects (wsV RX6 183 RX3 yX3_suspectColumns wsX3_suspectColumns) := goodIn_app (goodIn_of _ (by decide +kernel)) ggX6_suspects_X3_suspectColumns
theorem dX6_suspects_0 : decode cX6_suspects 0 = .ok (.iload_n 1, 1) := by decide +kernel
theorem dX6_suspects_1 : decode cX6_suspects 1 = .ok (.ifCond .lt 8, 3) := by decide +kernel
theorem dX6_suspects_4 : decode cX6_suspects 4 = .ok (.iload_n 1, 1) := by decide +kernel
theorem dX6_suspects_5 : decode cX6_suspects 5 = .ok (.iconst 1, 1) := by decide +kernel
theorem dX6_suspects_6 : decode cX6_suspects 6 = .ok (.if_icmp .le 6, 3) := by decide +kernel
theorem dX6_suspects_9 : decode cX6_suspects 9 = .ok (.ldc 33, 2) := by decide +kernel
theorem dX6_suspects_11 : decode cX6_suspects 11 = .ok (.ireturn, 1) := by decide +kernel
theorem dX6_suspects_12 : decode cX6_suspects 12 = .ok (.iload_n 1, 1) := by decide +kernel
theorem dX6_suspects_13 : decode cX6_suspects 13 = .ok (.ifCond .ne 13, 3) := by decide +kernel
theorem dX6_suspects_16 : decode cX6_suspects 16 = .ok (.aload_n 0, 1) := by decide +kernel
theorem dX6_suspects_17 : decode cX6_suspects 17 = .ok (.getfield 10, 3) := by decide +kernel
theorem dX6_suspects_20 : decode cX6_suspects 20 = .ok (.invokevirtual 180, 3) := by decide +kernel
theorem dX6_suspects_23 : decode cX6_suspects 23 = .ok (.goto 10, 3) := by decide +kernel
theorem dX6_suspects_26 : decode cX6_suspects 26 = .ok (.aload_n 0, 1) := by decide +kernel
theorem dX6_suspects_27 : decode cX6_suspects 27 = .ok (.getfield 10, 3) := by decide +kernel
theorem dX6_suspects_30 : decode cX6_suspects 30 = .ok (.invokevirtual 183, 3) := by decide +kernel
theorem dX6_suspects_33 : decode cX6_suspects 33 = .ok (.ireturn, 1) := by decide +kernel
set_option maxRecDepth 20000 in
theorem ggX6_wouldBeWrong_X6_wrongWithout : GoodIn wsX6_wouldBeWrong wsX6_wrongWithout := goodIn_r _ [9, 10, 1, 2, 11, 12, 13, 14, 15, 16, 17, 18, 19, 20, 21, 22, 23, 24, 25, 26, 27, 28, 29, 30, 31, 32, 33, 34, 35, 36, 37, 38, 39, 40, 41, 42, 43, 44, 45, 46, 47, 48, 49, 50, 51, 52, 53, 54, 55, 56, 57, 58, 59, 60, 61, 62, 63, 64, 65, 66, 67, 68, 69, 70, 71, 72, 73, 74, 75, 76, 77, 78, 79, 80, 81, 82, 83, 84, 85, 86, 87, 88, 89, 90, 91, 92, 93, 94, 95, 96, 97, 98, 99, 100, 101, 102, 103, 104, 105, 106, 107, 108, 109, 110, 111, 112, 113, 114, 115, 116, 117, 118, 119, 120, 121, 122, 123, 124, 125, 126, 127, 128, 129, 130, 131, 132, 133, 134, 135, 136, 137, 138, 139, 140, 141, 142, 143, 144, 145, 146, 147, 148, 149, 150, 151, 152, 153, 154, 155, 156, 157, 158, 159, 160, 161, 162, 163, 164, 165, 166, 167, 168, 169, 170, 171, 172, 173, 174, 175, 176, 177, 178, 179, 180, 181, 182, 183, 184, 185, 186, 187, 188, 189, 190, 191, 192, 193, 194, 195, 196, 197, 198, 199, 200, 201, 202, 203, 204, 205, 206, 207, 208, 209, 210, 211, 212, 213, 214] (by decide +kernel) (by decide +kernel)
set_option maxRecDepth 20000 in
theorem gX6_wouldBeWrong_X6_wrongWithout : GoodIn wsX6_wouldBeWrong (wsV RX6 186 RX6 yX6_wrongWithout wsX6_wrongWithout) := goodIn_app (goodIn_of _ (by decide +kernel)) ggX6_wouldBeWrong_X6_wrongWithout
theorem dX6_wouldBeWrong_0 : decode cX6_wouldBeWrong 0 = .ok (.iload_n 1, 1) := by decide +kernel
theorem dX6_wouldBeWrong_1 : decode cX6_wouldBeWrong 1 = .ok (.ifCond .lt 17, 3) := by decide +kernel
theorem dX6_wouldBeWrong_4 : decode cX6_wouldBeWrong 4 = .ok (.iload_n 1, 1) := by decide +kernel
theorem dX6_wouldBeWrong_5 : decode cX6_wouldBeWrong 5 = .ok (.aload_n 0, 1) := by decide +kernel
theorem dX6_wouldBeWrong_6 : decode cX6_wouldBeWrong 6 = .ok (.getfield 10, 3) := by decide +kernel
theorem dX6_wouldBeWrong_9 : decode cX6_wouldBeWrong 9 = .ok (.getfield 38, 3) := by decide +kernel
theorem dX6_wouldBeWrong_12 : decode cX6_wouldBeWrong 12 = .ok (.getfield 42, 3) := by decide +kernel
theorem dX6_wouldBeWrong_15 : decode cX6_wouldBeWrong 15 = .ok (.if_icmp .le 6, 3) := by decide +kernel
theorem dX6_wouldBeWrong_18 : decode cX6_wouldBeWrong 18 = .ok (.ldc 33, 2) := by decide +kernel
theorem dX6_wouldBeWrong_20 : decode cX6_wouldBeWrong 20 = .ok (.ireturn, 1) := by decide +kernel
theorem dX6_wouldBeWrong_21 : decode cX6_wouldBeWrong 21 = .ok (.aload_n 0, 1) := by decide +kernel
theorem dX6_wouldBeWrong_22 : decode cX6_wouldBeWrong 22 = .ok (.iload_n 1, 1) := by decide +kernel
theorem dX6_wouldBeWrong_23 : decode cX6_wouldBeWrong 23 = .ok (.invokevirtual 186, 3) := by decide +kernel
theorem dX6_wouldBeWrong_26 : decode cX6_wouldBeWrong 26 = .ok (.ireturn, 1) := by decide +kernel
set_option maxRecDepth 20000 in
theorem ggX6_best_X6_wrongWithout : GoodIn wsX6_best wsX6_wrongWithout := goodIn_r _ [8, 9, 1, 2, 10, 11, 12, 13, 14, 15, 16, 17, 18, 19, 20, 21, 22, 23, 24, 25, 26, 27, 28, 29, 30, 31, 32, 33, 34, 35, 36, 37, 38, 39, 40, 41, 42, 43, 44, 45, 46, 47, 48, 49, 50, 51, 52, 53, 54, 55, 56, 57, 58, 59, 60, 61, 62, 63, 64, 65, 66, 67, 68, 69, 70, 71, 72, 73, 74, 75, 76, 77, 78, 79, 80, 81, 82, 83, 84, 85, 86, 87, 88, 89, 90, 91, 92, 93, 94, 95, 96, 97, 98, 99, 100, 101, 102, 103, 104, 105, 106, 107, 108, 109, 110, 111, 112, 113, 114, 115, 116, 117, 118, 119, 120, 121, 122, 123, 124, 125, 126, 127, 128, 129, 130, 131, 132, 133, 134, 135, 136, 137, 138, 139, 140, 141, 142, 143, 144, 145, 146, 147, 148, 149, 150, 151, 152, 153, 154, 155, 156, 157, 158, 159, 160, 161, 162, 163, 164, 165, 166, 167, 168, 169, 170, 171, 172, 173, 174, 175, 176, 177, 178, 179, 180, 181, 182, 183, 184, 185, 186, 187, 188, 189, 190, 191, 192, 193, 194, 195, 196, 197, 198, 199, 200, 201, 202, 203, 204, 205, 206, 207, 208, 209, 210, 211, 212, 213] (by decide +kernel) (by decide +kernel)
set_option maxRecDepth 20000 in
theorem gX6_best_X6_wrongWithout : GoodIn wsX6_best (wsV RX6 186 RX6 yX6_wrongWithout wsX6_wrongWithout) := goodIn_app (goodIn_of _ (by decide +kernel)) ggX6_best_X6_wrongWithout
theorem dX6_best_0 : decode cX6_best 0 = .ok (.iconst 0, 1) := by decide +kernel
theorem dX6_best_1 : decode cX6_best 1 = .ok (.istore_n 1, 1) := by decide +kernel
theorem dX6_best_2 : decode cX6_best 2 = .ok (.aload_n 0, 1) := by decide +kernel
theorem dX6_best_3 : decode cX6_best 3 = .ok (.iconst 0, 1) := by decide +kernel
theorem dX6_best_4 : decode cX6_best 4 = .ok (.invokevirtual 186, 3) := by decide +kernel
theorem dX6_best_7 : decode cX6_best 7 = .ok (.istore_n 2, 1) := by decide +kernel
theorem dX6_best_8 : decode cX6_best 8 = .ok (.iconst 1, 1) := by decide +kernel
theorem dX6_best_9 : decode cX6_best 9 = .ok (.istore_n 3, 1) := by decide +kernel
theorem dX6_best_10 : decode cX6_best 10 = .ok (.iload_n 3, 1) := by decide +kernel
theorem dX6_best_11 : decode cX6_best 11 = .ok (.aload_n 0, 1) := by decide +kernel
theorem dX6_best_12 : decode cX6_best 12 = .ok (.getfield 10, 3) := by decide +kernel
theorem dX6_best_15 : decode cX6_best 15 = .ok (.getfield 38, 3) := by decide +kernel
theorem dX6_best_18 : decode cX6_best 18 = .ok (.getfield 42, 3) := by decide +kernel
theorem dX6_best_21 : decode cX6_best 21 = .ok (.if_icmp .gt 27, 3) := by decide +kernel
theorem dX6_best_24 : decode cX6_best 24 = .ok (.aload_n 0, 1) := by decide +kernel
theorem dX6_best_25 : decode cX6_best 25 = .ok (.iload_n 3, 1) := by decide +kernel
theorem dX6_best_26 : decode cX6_best 26 = .ok (.invokevirtual 186, 3) := by decide +kernel
theorem dX6_best_29 : decode cX6_best 29 = .ok (.istore 4, 2) := by decide +kernel
theorem dX6_best_31 : decode cX6_best 31 = .ok (.iload 4, 2) := by decide +kernel
theorem dX6_best_33 : decode cX6_best 33 = .ok (.iload_n 2, 1) := by decide +kernel
theorem dX6_best_34 : decode cX6_best 34 = .ok (.if_icmp .gt 8, 3) := by decide +kernel
theorem dX6_best_37 : decode cX6_best 37 = .ok (.iload_n 3, 1) := by decide +kernel
theorem dX6_best_38 : decode cX6_best 38 = .ok (.istore_n 1, 1) := by decide +kernel
theorem dX6_best_39 : decode cX6_best 39 = .ok (.iload 4, 2) := by decide +kernel
theorem dX6_best_41 : decode cX6_best 41 = .ok (.istore_n 2, 1) := by decide +kernel
theorem dX6_best_42 : decode cX6_best 42 = .ok (.iinc 3 1, 3) := by decide +kernel
theorem dX6_best_45 : decode cX6_best 45 = .ok (.goto (-35), 3) := by decide +kernel
theorem dX6_best_48 : decode cX6_best 48 = .ok (.iload_n 1, 1) := by decide +kernel
theorem dX6_best_49 : decode cX6_best 49 = .ok (.ireturn, 1) := by decide +kernel
set_option maxRecDepth 20000 in
theorem ggX6_undo_X0_restore : GoodIn wsX6_undo wsX0_restore := goodIn_r _ [9, 10, 11, 12, 13, 14, 15, 16, 17, 18, 19, 20, 21, 22, 23, 24, 25, 26, 27, 28, 29, 30, 31, 32, 33, 34, 35, 36, 37, 38, 39, 40, 41, 42, 43, 44, 45, 46, 47, 48, 49, 50, 51, 52, 53, 54, 55, 56, 57, 58, 59, 64, 65, 66, 67, 68, 69, 70, 71, 72, 73, 74, 75, 76, 77, 78, 79, 80, 81, 82, 83, 84, 85, 86, 87] (by decide +kernel) (by decide +kernel)
set_option maxRecDepth 20000 in
theorem gX6_undo_X0_restore : GoodIn wsX6_undo (wsV RX6 189 RX0 yX0_restore wsX0_restore) := goodIn_app (goodIn_of _ (by decide +kernel)) ggX6_undo_X0_restore
theorem dX6_undo_0 : decode cX6_undo 0 = .ok (.aload_n 0, 1) := by decide +kernel
theorem dX6_undo_1 : decode cX6_undo 1 = .ok (.getfield 22, 3) := by decide +kernel
theorem dX6_undo_4 : decode cX6_undo 4 = .ok (.getfield 174, 3) := by decide +kernel
theorem dX6_undo_7 : decode cX6_undo 7 = .ok (.ifCond .ne 6, 3) := by decide +kernel
theorem dX6_undo_10 : decode cX6_undo 10 = .ok (.ldc 93, 2) := by decide +kernel
theorem dX6_undo_12 : decode cX6_undo 12 = .ok (.ireturn, 1) := by decide +kernel
theorem dX6_undo_13 : decode cX6_undo 13 = .ok (.aload_n 0, 1) := by decide +kernel
theorem dX6_undo_14 : decode cX6_undo 14 = .ok (.getfield 22, 3) := by decide +kernel
theorem dX6_undo_17 : decode cX6_undo 17 = .ok (.aload_n 0, 1) := by decide +kernel
theorem dX6_undo_18 : decode cX6_undo 18 = .ok (.getfield 10, 3) := by decide +kernel
theorem dX6_undo_21 : decode cX6_undo 21 = .ok (.invokevirtual 189, 3) := by decide +kernel
theorem dX6_undo_24 : decode cX6_undo 24 = .ok (.aload_n 0, 1) := by decide +kernel
theorem dX6_undo_25 : decode cX6_undo 25 = .ok (.getfield 22, 3) := by decide +kernel
theorem dX6_undo_28 : decode cX6_undo 28 = .ok (.getfield 174, 3) := by decide +kernel
theorem dX6_undo_31 : decode cX6_undo 31 = .ok (.ireturn, 1) := by decide +kernel
set_option maxRecDepth 20000 in
theorem ggX6_type_X4_append : GoodIn wsX6_type wsX4_append := goodIn_r _ [9, 10, 11, 16, 17, 18, 19, 20, 21, 22, 23, 24, 25, 26] (by decide +kernel) (by decide +kernel)
set_option maxRecDepth 20000 in
theorem gX6_type_X4_append : GoodIn wsX6_type (wsV RX6 193 RX4 yX4_append wsX4_append) := goodIn_app (goodIn_of _ (by decide +kernel)) ggX6_type_X4_append
theorem dX6_type_0 : decode cX6_type 0 = .ok (.iload_n 1, 1) := by decide +kernel
theorem dX6_type_1 : decode cX6_type 1 = .ok (.bipush 32, 2) := by decide +kernel
theorem dX6_type_3 : decode cX6_type 3 = .ok (.if_icmp .lt 9, 3) := by decide +kernel
theorem dX6_type_6 : decode cX6_type 6 = .ok (.iload_n 1, 1) := by decide +kernel
theorem dX6_type_7 : decode cX6_type 7 = .ok (.bipush 126, 2) := by decide +kernel
theorem dX6_type_9 : decode cX6_type 9 = .ok (.if_icmp .le 6, 3) := by decide +kernel
theorem dX6_type_12 : decode cX6_type 12 = .ok (.ldc 33, 2) := by decide +kernel
theorem dX6_type_14 : decode cX6_type 14 = .ok (.ireturn, 1) := by decide +kernel
theorem dX6_type_15 : decode cX6_type 15 = .ok (.aload_n 0, 1) := by decide +kernel
theorem dX6_type_16 : decode cX6_type 16 = .ok (.getfield 29, 3) := by decide +kernel
theorem dX6_type_19 : decode cX6_type 19 = .ok (.getfield 177, 3) := by decide +kernel
theorem dX6_type_22 : decode cX6_type 22 = .ok (.bipush 80, 2) := by decide +kernel
theorem dX6_type_24 : decode cX6_type 24 = .ok (.if_icmp .lt 6, 3) := by decide +kernel
theorem dX6_type_27 : decode cX6_type 27 = .ok (.ldc 192, 2) := by decide +kernel
theorem dX6_type_29 : decode cX6_type 29 = .ok (.ireturn, 1) := by decide +kernel
theorem dX6_type_30 : decode cX6_type 30 = .ok (.aload_n 0, 1) := by decide +kernel
theorem dX6_type_31 : decode cX6_type 31 = .ok (.getfield 29, 3) := by decide +kernel
theorem dX6_type_34 : decode cX6_type 34 = .ok (.iload_n 1, 1) := by decide +kernel
theorem dX6_type_35 : decode cX6_type 35 = .ok (.i2c, 1) := by decide +kernel
theorem dX6_type_36 : decode cX6_type 36 = .ok (.invokevirtual 193, 3) := by decide +kernel
theorem dX6_type_39 : decode cX6_type 39 = .ok (.aload_n 0, 1) := by decide +kernel
theorem dX6_type_40 : decode cX6_type 40 = .ok (.getfield 29, 3) := by decide +kernel
theorem dX6_type_43 : decode cX6_type 43 = .ok (.getfield 177, 3) := by decide +kernel
theorem dX6_type_46 : decode cX6_type 46 = .ok (.ireturn, 1) := by decide +kernel
theorem dX6_clearText_0 : decode cX6_clearText 0 = .ok (.aload_n 0, 1) := by decide +kernel
theorem dX6_clearText_1 : decode cX6_clearText 1 = .ok (.getfield 29, 3) := by decide +kernel
theorem dX6_clearText_4 : decode cX6_clearText 4 = .ok (.getfield 177, 3) := by decide +kernel
theorem dX6_clearText_7 : decode cX6_clearText 7 = .ok (.istore_n 1, 1) := by decide +kernel
theorem dX6_clearText_8 : decode cX6_clearText 8 = .ok (.aload_n 0, 1) := by decide +kernel
theorem dX6_clearText_9 : decode cX6_clearText 9 = .ok (.getfield 29, 3) := by decide +kernel
theorem dX6_clearText_12 : decode cX6_clearText 12 = .ok (.iconst 0, 1) := by decide +kernel
theorem dX6_clearText_13 : decode cX6_clearText 13 = .ok (.putfield 177, 3) := by decide +kernel
theorem dX6_clearText_16 : decode cX6_clearText 16 = .ok (.iload_n 1, 1) := by decide +kernel
theorem dX6_clearText_17 : decode cX6_clearText 17 = .ok (.ireturn, 1) := by decide +kernel
set_option maxRecDepth 20000 in
theorem ggX6_textFault_X4_scan : GoodIn wsX6_textFault wsX4_scan := goodIn_r _ [10, 11, 12, 13, 14, 15, 16, 9, 17, 18, 19, 20, 21, 22, 23, 24, 25, 26, 27, 28, 29, 30, 31, 32, 33, 34, 35, 36, 37, 38, 39, 40, 41, 42, 43, 44, 45, 46, 47, 48, 49, 50, 51, 52, 53, 54, 55, 56, 57, 58, 59, 60, 61, 62, 63, 64, 65, 66, 67, 68, 69, 70, 71, 72, 73, 74, 75, 76, 77, 78, 79, 80, 81, 82, 83, 84, 85, 86, 91, 92, 93, 94, 95, 96, 97, 98, 99, 100, 101, 102, 103, 104] (by decide +kernel) (by decide +kernel)
set_option maxRecDepth 20000 in
theorem gX6_textFault_X4_scan : GoodIn wsX6_textFault (wsV RX6 197 RX4 yX4_scan wsX4_scan) := goodIn_app (goodIn_of _ (by decide +kernel)) ggX6_textFault_X4_scan
theorem dX6_textFault_0 : decode cX6_textFault 0 = .ok (.iload_n 1, 1) := by decide +kernel
theorem dX6_textFault_1 : decode cX6_textFault 1 = .ok (.ifCond .lt 8, 3) := by decide +kernel
theorem dX6_textFault_4 : decode cX6_textFault 4 = .ok (.iload_n 1, 1) := by decide +kernel
theorem dX6_textFault_5 : decode cX6_textFault 5 = .ok (.iconst 1, 1) := by decide +kernel
theorem dX6_textFault_6 : decode cX6_textFault 6 = .ok (.if_icmp .le 6, 3) := by decide +kernel
theorem dX6_textFault_9 : decode cX6_textFault 9 = .ok (.ldc 33, 2) := by decide +kernel
theorem dX6_textFault_11 : decode cX6_textFault 11 = .ok (.ireturn, 1) := by decide +kernel
theorem dX6_textFault_12 : decode cX6_textFault 12 = .ok (.aload_n 0, 1) := by decide +kernel
theorem dX6_textFault_13 : decode cX6_textFault 13 = .ok (.getfield 29, 3) := by decide +kernel
theorem dX6_textFault_16 : decode cX6_textFault 16 = .ok (.invokevirtual 197, 3) := by decide +kernel
theorem dX6_textFault_19 : decode cX6_textFault 19 = .ok (.aload_n 0, 1) := by decide +kernel
theorem dX6_textFault_20 : decode cX6_textFault 20 = .ok (.getfield 29, 3) := by decide +kernel
theorem dX6_textFault_23 : decode cX6_textFault 23 = .ok (.getfield 200, 3) := by decide +kernel
theorem dX6_textFault_26 : decode cX6_textFault 26 = .ok (.ifCond .ne 6, 3) := by decide +kernel
theorem dX6_textFault_29 : decode cX6_textFault 29 = .ok (.ldc 161, 2) := by decide +kernel
theorem dX6_textFault_31 : decode cX6_textFault 31 = .ok (.ireturn, 1) := by decide +kernel
theorem dX6_textFault_32 : decode cX6_textFault 32 = .ok (.iload_n 1, 1) := by decide +kernel
theorem dX6_textFault_33 : decode cX6_textFault 33 = .ok (.ifCond .ne 13, 3) := by decide +kernel
theorem dX6_textFault_36 : decode cX6_textFault 36 = .ok (.aload_n 0, 1) := by decide +kernel
theorem dX6_textFault_37 : decode cX6_textFault 37 = .ok (.getfield 29, 3) := by decide +kernel
theorem dX6_textFault_40 : decode cX6_textFault 40 = .ok (.getfield 203, 3) := by decide +kernel
theorem dX6_textFault_43 : decode cX6_textFault 43 = .ok (.goto 10, 3) := by decide +kernel
theorem dX6_textFault_46 : decode cX6_textFault 46 = .ok (.aload_n 0, 1) := by decide +kernel
theorem dX6_textFault_47 : decode cX6_textFault 47 = .ok (.getfield 29, 3) := by decide +kernel
theorem dX6_textFault_50 : decode cX6_textFault 50 = .ok (.getfield 200, 3) := by decide +kernel
theorem dX6_textFault_53 : decode cX6_textFault 53 = .ok (.ireturn, 1) := by decide +kernel
set_option maxRecDepth 20000 in
theorem ggX6_read_X4_scan : GoodIn wsX6_read wsX4_scan := goodIn_r _ [16, 17, 18, 19, 20, 21, 22, 15, 23, 24, 25, 26, 27, 28, 29, 30, 31, 32, 33, 34, 35, 36, 37, 38, 39, 40, 41, 42, 43, 44, 45, 46, 47, 48, 49, 50, 51, 52, 53, 54, 55, 56, 57, 58, 59, 60, 61, 62, 63, 64, 65, 66, 67, 68, 69, 70, 71, 72, 73, 74, 75, 76, 77, 78, 79, 80, 81, 82, 83, 84, 85, 86, 87, 88, 89, 90, 91, 92, 184, 185, 186, 187, 188, 189, 190, 191, 192, 193, 194, 195, 196, 197] (by decide +kernel) (by decide +kernel)
set_option maxRecDepth 20000 in
theorem gX6_read_X4_scan : GoodIn wsX6_read (wsV RX6 197 RX4 yX4_scan wsX4_scan) := goodIn_app (goodIn_of _ (by decide +kernel)) ggX6_read_X4_scan
set_option maxRecDepth 20000 in
theorem ggX6_read_X0_remember : GoodIn wsX6_read wsX0_remember := goodIn_r _ [97, 98, 99, 100, 101, 102, 96, 103, 104, 105, 106, 107, 108, 109, 110, 111, 112, 113, 114, 115, 116, 117, 118, 119, 120, 121, 122, 123, 124, 125, 126, 127, 128, 31, 129, 33, 34, 35, 130, 131, 132, 133, 134, 135, 136, 137, 138, 139, 140, 141, 142, 143, 144, 145, 146, 147, 198, 199, 168, 169, 170, 171, 172, 200, 201, 202, 195, 196, 197, 173, 174, 175, 176, 177, 178, 179, 180, 181, 182, 183] (by decide +kernel) (by decide +kernel)
set_option maxRecDepth 20000 in
theorem gX6_read_X0_remember : GoodIn wsX6_read (wsV RX6 34 RX0 yX0_remember wsX0_remember) := goodIn_app (goodIn_of _ (by decide +kernel)) ggX6_read_X0_remember
set_option maxRecDepth 20000 in
theorem ggX6_read_X3_takeLeft : GoodIn wsX6_read wsX3_takeLeft := goodIn_r _ [151, 110, 111, 152, 153, 126, 127, 128, 31, 129, 33, 34, 35, 130, 123, 124, 125, 154, 29, 30, 32, 36, 37, 38, 39, 40, 41, 42, 155, 156, 157, 107, 158, 112, 159, 168, 169, 170, 171, 172, 195, 196, 197] (by decide +kernel) (by decide +kernel)
set_option maxRecDepth 20000 in
theorem gX6_read_X3_takeLeft : GoodIn wsX6_read (wsV RX6 209 RX3 yX3_takeLeft wsX3_takeLeft) := goodIn_app (goodIn_of _ (by decide +kernel)) ggX6_read_X3_takeLeft
set_option maxRecDepth 20000 in
theorem ggX6_read_X3_takeRight : GoodIn wsX6_read wsX3_takeRight := goodIn_r _ [163, 111, 110, 153, 152, 126, 127, 128, 31, 129, 33, 34, 35, 130, 123, 124, 125, 154, 29, 30, 32, 36, 37, 38, 39, 40, 41, 42, 155, 156, 157, 107, 158, 112, 159, 168, 169, 170, 171, 172, 195, 196, 197] (by decide +kernel) (by decide +kernel)
set_option maxRecDepth 20000 in
theorem gX6_read_X3_takeRight : GoodIn wsX6_read (wsV RX6 213 RX3 yX3_takeRight wsX3_takeRight) := goodIn_app (goodIn_of _ (by decide +kernel)) ggX6_read_X3_takeRight
theorem dX6_read_0 : decode cX6_read 0 = .ok (.iload_n 1, 1) := by decide +kernel
theorem dX6_read_1 : decode cX6_read 1 = .ok (.ifCond .lt 8, 3) := by decide +kernel
theorem dX6_read_4 : decode cX6_read 4 = .ok (.iload_n 1, 1) := by decide +kernel
theorem dX6_read_5 : decode cX6_read 5 = .ok (.iconst 1, 1) := by decide +kernel
theorem dX6_read_6 : decode cX6_read 6 = .ok (.if_icmp .le 6, 3) := by decide +kernel
theorem dX6_read_9 : decode cX6_read 9 = .ok (.ldc 33, 2) := by decide +kernel
theorem dX6_read_11 : decode cX6_read 11 = .ok (.ireturn, 1) := by decide +kernel
theorem dX6_read_12 : decode cX6_read 12 = .ok (.aload_n 0, 1) := by decide +kernel
theorem dX6_read_13 : decode cX6_read 13 = .ok (.getfield 10, 3) := by decide +kernel
theorem dX6_read_16 : decode cX6_read 16 = .ok (.getfield 52, 3) := by decide +kernel
theorem dX6_read_19 : decode cX6_read 19 = .ok (.getfield 56, 3) := by decide +kernel
theorem dX6_read_22 : decode cX6_read 22 = .ok (.ifCond .eq 6, 3) := by decide +kernel
theorem dX6_read_25 : decode cX6_read 25 = .ok (.ldc 93, 2) := by decide +kernel
theorem dX6_read_27 : decode cX6_read 27 = .ok (.ireturn, 1) := by decide +kernel
theorem dX6_read_28 : decode cX6_read 28 = .ok (.aload_n 0, 1) := by decide +kernel
theorem dX6_read_29 : decode cX6_read 29 = .ok (.getfield 29, 3) := by decide +kernel
theorem dX6_read_32 : decode cX6_read 32 = .ok (.invokevirtual 197, 3) := by decide +kernel
theorem dX6_read_35 : decode cX6_read 35 = .ok (.aload_n 0, 1) := by decide +kernel
theorem dX6_read_36 : decode cX6_read 36 = .ok (.getfield 29, 3) := by decide +kernel
theorem dX6_read_39 : decode cX6_read 39 = .ok (.getfield 200, 3) := by decide +kernel
theorem dX6_read_42 : decode cX6_read 42 = .ok (.ifCond .eq 6, 3) := by decide +kernel
theorem dX6_read_45 : decode cX6_read 45 = .ok (.ldc 93, 2) := by decide +kernel
theorem dX6_read_47 : decode cX6_read 47 = .ok (.ireturn, 1) := by decide +kernel
theorem dX6_read_48 : decode cX6_read 48 = .ok (.aload_n 0, 1) := by decide +kernel
theorem dX6_read_49 : decode cX6_read 49 = .ok (.getfield 22, 3) := by decide +kernel
theorem dX6_read_52 : decode cX6_read 52 = .ok (.aload_n 0, 1) := by decide +kernel
theorem dX6_read_53 : decode cX6_read 53 = .ok (.getfield 10, 3) := by decide +kernel
theorem dX6_read_56 : decode cX6_read 56 = .ok (.invokevirtual 34, 3) := by decide +kernel
theorem dX6_read_59 : decode cX6_read 59 = .ok (.iload_n 1, 1) := by decide +kernel
theorem dX6_read_60 : decode cX6_read 60 = .ok (.ifCond .ne 20, 3) := by decide +kernel
theorem dX6_read_63 : decode cX6_read 63 = .ok (.aload_n 0, 1) := by decide +kernel
theorem dX6_read_64 : decode cX6_read 64 = .ok (.getfield 10, 3) := by decide +kernel
theorem dX6_read_67 : decode cX6_read 67 = .ok (.aload_n 0, 1) := by decide +kernel
theorem dX6_read_68 : decode cX6_read 68 = .ok (.getfield 29, 3) := by decide +kernel
theorem dX6_read_71 : decode cX6_read 71 = .ok (.getfield 206, 3) := by decide +kernel
theorem dX6_read_74 : decode cX6_read 74 = .ok (.invokevirtual 209, 3) := by decide +kernel
theorem dX6_read_77 : decode cX6_read 77 = .ok (.goto 17, 3) := by decide +kernel
theorem dX6_read_80 : decode cX6_read 80 = .ok (.aload_n 0, 1) := by decide +kernel
theorem dX6_read_81 : decode cX6_read 81 = .ok (.getfield 10, 3) := by decide +kernel
theorem dX6_read_84 : decode cX6_read 84 = .ok (.aload_n 0, 1) := by decide +kernel
theorem dX6_read_85 : decode cX6_read 85 = .ok (.getfield 29, 3) := by decide +kernel
theorem dX6_read_88 : decode cX6_read 88 = .ok (.getfield 206, 3) := by decide +kernel
theorem dX6_read_91 : decode cX6_read 91 = .ok (.invokevirtual 213, 3) := by decide +kernel
theorem dX6_read_94 : decode cX6_read 94 = .ok (.aload_n 0, 1) := by decide +kernel
theorem dX6_read_95 : decode cX6_read 95 = .ok (.getfield 29, 3) := by decide +kernel
theorem dX6_read_98 : decode cX6_read 98 = .ok (.getfield 206, 3) := by decide +kernel
theorem dX6_read_101 : decode cX6_read 101 = .ok (.getfield 152, 3) := by decide +kernel
theorem dX6_read_104 : decode cX6_read 104 = .ok (.aload_n 0, 1) := by decide +kernel
theorem dX6_read_105 : decode cX6_read 105 = .ok (.getfield 29, 3) := by decide +kernel
theorem dX6_read_108 : decode cX6_read 108 = .ok (.getfield 206, 3) := by decide +kernel
theorem dX6_read_111 : decode cX6_read 111 = .ok (.getfield 155, 3) := by decide +kernel
theorem dX6_read_114 : decode cX6_read 114 = .ok (.imul, 1) := by decide +kernel
theorem dX6_read_115 : decode cX6_read 115 = .ok (.ireturn, 1) := by decide +kernel
theorem dX6_isLength_0 : decode cX6_isLength 0 = .ok (.iload_n 0, 1) := by decide +kernel
theorem dX6_isLength_1 : decode cX6_isLength 1 = .ok (.iconst 1, 1) := by decide +kernel
theorem dX6_isLength_2 : decode cX6_isLength 2 = .ok (.if_icmp .lt 13, 3) := by decide +kernel
theorem dX6_isLength_5 : decode cX6_isLength 5 = .ok (.iload_n 0, 1) := by decide +kernel
theorem dX6_isLength_6 : decode cX6_isLength 6 = .ok (.bipush 6, 2) := by decide +kernel
theorem dX6_isLength_8 : decode cX6_isLength 8 = .ok (.if_icmp .gt 7, 3) := by decide +kernel
theorem dX6_isLength_11 : decode cX6_isLength 11 = .ok (.iconst 1, 1) := by decide +kernel
theorem dX6_isLength_12 : decode cX6_isLength 12 = .ok (.goto 4, 3) := by decide +kernel
theorem dX6_isLength_15 : decode cX6_isLength 15 = .ok (.iconst 0, 1) := by decide +kernel
theorem dX6_isLength_16 : decode cX6_isLength 16 = .ok (.ireturn, 1) := by decide +kernel
theorem dX6_orNotFound_0 : decode cX6_orNotFound 0 = .ok (.iload_n 0, 1) := by decide +kernel
theorem dX6_orNotFound_1 : decode cX6_orNotFound 1 = .ok (.ldc 216, 2) := by decide +kernel
theorem dX6_orNotFound_3 : decode cX6_orNotFound 3 = .ok (.if_icmp .ne 8, 3) := by decide +kernel
theorem dX6_orNotFound_6 : decode cX6_orNotFound 6 = .ok (.ldc 161, 2) := by decide +kernel
theorem dX6_orNotFound_8 : decode cX6_orNotFound 8 = .ok (.goto 4, 3) := by decide +kernel
theorem dX6_orNotFound_11 : decode cX6_orNotFound 11 = .ok (.iload_n 0, 1) := by decide +kernel
theorem dX6_orNotFound_12 : decode cX6_orNotFound 12 = .ok (.ireturn, 1) := by decide +kernel
set_option maxRecDepth 20000 in
theorem ggX6_setEntry_X1_has : GoodIn wsX6_setEntry wsX1_has := goodIn_r _ [11, 12, 13, 117, 118, 119] (by decide +kernel) (by decide +kernel)
set_option maxRecDepth 20000 in
theorem gX6_setEntry_X1_has : GoodIn wsX6_setEntry (wsV RX6 129 RX1 yX1_has wsX1_has) := goodIn_app (goodIn_of _ (by decide +kernel)) ggX6_setEntry_X1_has
set_option maxRecDepth 20000 in
theorem ggX6_setEntry_X0_remember : GoodIn wsX6_setEntry wsX0_remember := goodIn_r _ [18, 19, 20, 21, 22, 23, 17, 24, 25, 26, 27, 28, 29, 30, 31, 32, 33, 34, 35, 36, 37, 38, 39, 40, 41, 42, 43, 44, 45, 46, 47, 48, 49, 10, 50, 12, 13, 51, 52, 53, 54, 55, 56, 57, 58, 59, 60, 61, 62, 63, 64, 65, 66, 67, 68, 69, 120, 121, 101, 102, 103, 104, 105, 122, 123, 124, 117, 118, 119, 106, 107, 108, 109, 110, 111, 112, 113, 114, 115, 116] (by decide +kernel) (by decide +kernel)
set_option maxRecDepth 20000 in
theorem gX6_setEntry_X0_remember : GoodIn wsX6_setEntry (wsV RX6 34 RX0 yX0_remember wsX0_remember) := goodIn_app (goodIn_of _ (by decide +kernel)) ggX6_setEntry_X0_remember
set_option maxRecDepth 20000 in
theorem ggX6_setEntry_X1_at : GoodIn wsX6_setEntry wsX1_at := goodIn_r _ [73, 12, 13, 51, 117, 118, 119] (by decide +kernel) (by decide +kernel)
set_option maxRecDepth 20000 in
theorem gX6_setEntry_X1_at : GoodIn wsX6_setEntry (wsV RX6 130 RX1 yX1_at wsX1_at) := goodIn_app (goodIn_of _ (by decide +kernel)) ggX6_setEntry_X1_at
set_option maxRecDepth 20000 in
theorem ggX6_setEntry_X1_put : GoodIn wsX6_setEntry wsX1_put := goodIn_r _ [77, 51, 78, 8, 9, 10, 11, 12, 13, 117, 118, 119] (by decide +kernel) (by decide +kernel)
set_option maxRecDepth 20000 in
theorem gX6_setEntry_X1_put : GoodIn wsX6_setEntry (wsV RX6 217 RX1 yX1_put wsX1_put) := goodIn_app (goodIn_of _ (by decide +kernel)) ggX6_setEntry_X1_put
set_option maxRecDepth 20000 in
theorem ggX6_setEntry_X3_forgetResults : GoodIn wsX6_setEntry wsX3_forgetResults := goodIn_r _ [82, 33, 31, 83, 32, 84, 85, 86, 87, 88, 10, 89, 12, 13, 51, 90, 91, 92, 93, 94, 95, 96, 101, 102, 103, 104, 105, 117, 118, 119] (by decide +kernel) (by decide +kernel)
set_option maxRecDepth 20000 in
theorem gX6_setEntry_X3_forgetResults : GoodIn wsX6_setEntry (wsV RX6 62 RX3 yX3_forgetResults wsX3_forgetResults) := goodIn_app (goodIn_of _ (by decide +kernel)) ggX6_setEntry_X3_forgetResults
theorem dX6_setEntry_0 : decode cX6_setEntry 0 = .ok (.aload_n 1, 1) := by decide +kernel
theorem dX6_setEntry_1 : decode cX6_setEntry 1 = .ok (.iload_n 2, 1) := by decide +kernel
theorem dX6_setEntry_2 : decode cX6_setEntry 2 = .ok (.iload_n 3, 1) := by decide +kernel
theorem dX6_setEntry_3 : decode cX6_setEntry 3 = .ok (.invokevirtual 129, 3) := by decide +kernel
theorem dX6_setEntry_6 : decode cX6_setEntry 6 = .ok (.ifCond .eq 17, 3) := by decide +kernel
theorem dX6_setEntry_9 : decode cX6_setEntry 9 = .ok (.iload 4, 2) := by decide +kernel
theorem dX6_setEntry_11 : decode cX6_setEntry 11 = .ok (.bipush (-99), 2) := by decide +kernel
theorem dX6_setEntry_13 : decode cX6_setEntry 13 = .ok (.if_icmp .lt 10, 3) := by decide +kernel
theorem dX6_setEntry_16 : decode cX6_setEntry 16 = .ok (.iload 4, 2) := by decide +kernel
theorem dX6_setEntry_18 : decode cX6_setEntry 18 = .ok (.bipush 99, 2) := by decide +kernel
theorem dX6_setEntry_20 : decode cX6_setEntry 20 = .ok (.if_icmp .le 6, 3) := by decide +kernel
theorem dX6_setEntry_23 : decode cX6_setEntry 23 = .ok (.ldc 33, 2) := by decide +kernel
theorem dX6_setEntry_25 : decode cX6_setEntry 25 = .ok (.ireturn, 1) := by decide +kernel
theorem dX6_setEntry_26 : decode cX6_setEntry 26 = .ok (.aload_n 0, 1) := by decide +kernel
theorem dX6_setEntry_27 : decode cX6_setEntry 27 = .ok (.getfield 10, 3) := by decide +kernel
theorem dX6_setEntry_30 : decode cX6_setEntry 30 = .ok (.getfield 52, 3) := by decide +kernel
theorem dX6_setEntry_33 : decode cX6_setEntry 33 = .ok (.getfield 56, 3) := by decide +kernel
theorem dX6_setEntry_36 : decode cX6_setEntry 36 = .ok (.ifCond .eq 6, 3) := by decide +kernel
theorem dX6_setEntry_39 : decode cX6_setEntry 39 = .ok (.ldc 93, 2) := by decide +kernel
theorem dX6_setEntry_41 : decode cX6_setEntry 41 = .ok (.ireturn, 1) := by decide +kernel
theorem dX6_setEntry_42 : decode cX6_setEntry 42 = .ok (.aload_n 0, 1) := by decide +kernel
theorem dX6_setEntry_43 : decode cX6_setEntry 43 = .ok (.getfield 22, 3) := by decide +kernel
theorem dX6_setEntry_46 : decode cX6_setEntry 46 = .ok (.aload_n 0, 1) := by decide +kernel
theorem dX6_setEntry_47 : decode cX6_setEntry 47 = .ok (.getfield 10, 3) := by decide +kernel
theorem dX6_setEntry_50 : decode cX6_setEntry 50 = .ok (.invokevirtual 34, 3) := by decide +kernel
theorem dX6_setEntry_53 : decode cX6_setEntry 53 = .ok (.aload_n 1, 1) := by decide +kernel
theorem dX6_setEntry_54 : decode cX6_setEntry 54 = .ok (.iload_n 2, 1) := by decide +kernel
theorem dX6_setEntry_55 : decode cX6_setEntry 55 = .ok (.iload_n 3, 1) := by decide +kernel
theorem dX6_setEntry_56 : decode cX6_setEntry 56 = .ok (.invokevirtual 130, 3) := by decide +kernel
theorem dX6_setEntry_59 : decode cX6_setEntry 59 = .ok (.istore 5, 2) := by decide +kernel
theorem dX6_setEntry_61 : decode cX6_setEntry 61 = .ok (.aload_n 1, 1) := by decide +kernel
theorem dX6_setEntry_62 : decode cX6_setEntry 62 = .ok (.iload_n 2, 1) := by decide +kernel
theorem dX6_setEntry_63 : decode cX6_setEntry 63 = .ok (.iload_n 3, 1) := by decide +kernel
theorem dX6_setEntry_64 : decode cX6_setEntry 64 = .ok (.iload 4, 2) := by decide +kernel
theorem dX6_setEntry_66 : decode cX6_setEntry 66 = .ok (.invokevirtual 217, 3) := by decide +kernel
theorem dX6_setEntry_69 : decode cX6_setEntry 69 = .ok (.aload_n 0, 1) := by decide +kernel
theorem dX6_setEntry_70 : decode cX6_setEntry 70 = .ok (.getfield 10, 3) := by decide +kernel
theorem dX6_setEntry_73 : decode cX6_setEntry 73 = .ok (.invokevirtual 62, 3) := by decide +kernel
theorem dX6_setEntry_76 : decode cX6_setEntry 76 = .ok (.iload 5, 2) := by decide +kernel
theorem dX6_setEntry_78 : decode cX6_setEntry 78 = .ok (.ireturn, 1) := by decide +kernel
set_option maxRecDepth 20000 in
theorem ggX6_ofCellAtWork_X5_sumOf : GoodIn wsX6_ofCellAtWork wsX5_sumOf := goodIn_r _ [7, 8, 9, 10, 6, 11, 43, 44, 45, 46, 47, 48, 49, 50, 51, 52, 53] (by decide +kernel) (by decide +kernel)
set_option maxRecDepth 20000 in
theorem gX6_ofCellAtWork_X5_sumOf : GoodIn wsX6_ofCellAtWork (wsV RX6 220 RX5 yX5_sumOf wsX5_sumOf) := goodIn_app (goodIn_of _ (by decide +kernel)) ggX6_ofCellAtWork_X5_sumOf
set_option maxRecDepth 20000 in
theorem ggX6_ofCellAtWork_X5_rightwardOf : GoodIn wsX6_ofCellAtWork wsX5_rightwardOf := goodIn_r _ [15, 16, 17, 9, 10, 6, 11, 43, 44, 45, 46, 47, 48, 49, 50, 51, 52, 53] (by decide +kernel) (by decide +kernel)
set_option maxRecDepth 20000 in
theorem gX6_ofCellAtWork_X5_rightwardOf : GoodIn wsX6_ofCellAtWork (wsV RX6 223 RX5 yX5_rightwardOf wsX5_rightwardOf) := goodIn_app (goodIn_of _ (by decide +kernel)) ggX6_ofCellAtWork_X5_rightwardOf
set_option maxRecDepth 20000 in
theorem ggX6_ofCellAtWork_X6_orNotFound : GoodIn wsX6_ofCellAtWork wsX6_orNotFound := goodIn_r _ [21, 22, 23] (by decide +kernel) (by decide +kernel)
set_option maxRecDepth 20000 in
theorem gX6_ofCellAtWork_X6_orNotFound : GoodIn wsX6_ofCellAtWork (va_wsS RX6 149 yX6_orNotFound wsX6_orNotFound) := goodIn_app (goodIn_of _ (by decide +kernel)) ggX6_ofCellAtWork_X6_orNotFound
set_option maxRecDepth 20000 in
theorem ggX6_ofCellAtWork_X5_downwardOf : GoodIn wsX6_ofCellAtWork wsX5_downwardOf := goodIn_r _ [27, 28, 17, 9, 10, 6, 11, 43, 44, 45, 46, 47, 48, 49, 50, 51, 52, 53] (by decide +kernel) (by decide +kernel)
set_option maxRecDepth 20000 in
theorem gX6_ofCellAtWork_X5_downwardOf : GoodIn wsX6_ofCellAtWork (wsV RX6 226 RX5 yX5_downwardOf wsX5_downwardOf) := goodIn_app (goodIn_of _ (by decide +kernel)) ggX6_ofCellAtWork_X5_downwardOf
set_option maxRecDepth 20000 in
theorem ggX6_ofCellAtWork_X5_meetingsOf : GoodIn wsX6_ofCellAtWork wsX5_meetingsOf := goodIn_r _ [32, 33, 9, 10, 6, 11, 43, 44, 45, 46, 47, 48, 49, 50, 51, 52, 53] (by decide +kernel) (by decide +kernel)
set_option maxRecDepth 20000 in
theorem gX6_ofCellAtWork_X5_meetingsOf : GoodIn wsX6_ofCellAtWork (wsV RX6 229 RX5 yX5_meetingsOf wsX5_meetingsOf) := goodIn_app (goodIn_of _ (by decide +kernel)) ggX6_ofCellAtWork_X5_meetingsOf
theorem dX6_ofCellAtWork_0 : decode cX6_ofCellAtWork 0 = .ok (.iload_n 2, 1) := by decide +kernel
theorem dX6_ofCellAtWork_1 : decode cX6_ofCellAtWork 1 = .ok (.tableswitch 69 0 2 #[27, 39, 54], 27) := by decide +kernel
theorem dX6_ofCellAtWork_28 : decode cX6_ofCellAtWork 28 = .ok (.aload_n 0, 1) := by decide +kernel
theorem dX6_ofCellAtWork_29 : decode cX6_ofCellAtWork 29 = .ok (.getfield 10, 3) := by decide +kernel
theorem dX6_ofCellAtWork_32 : decode cX6_ofCellAtWork 32 = .ok (.getfield 52, 3) := by decide +kernel
theorem dX6_ofCellAtWork_35 : decode cX6_ofCellAtWork 35 = .ok (.iload_n 1, 1) := by decide +kernel
theorem dX6_ofCellAtWork_36 : decode cX6_ofCellAtWork 36 = .ok (.invokevirtual 220, 3) := by decide +kernel
theorem dX6_ofCellAtWork_39 : decode cX6_ofCellAtWork 39 = .ok (.ireturn, 1) := by decide +kernel
theorem dX6_ofCellAtWork_40 : decode cX6_ofCellAtWork 40 = .ok (.aload_n 0, 1) := by decide +kernel
theorem dX6_ofCellAtWork_41 : decode cX6_ofCellAtWork 41 = .ok (.getfield 10, 3) := by decide +kernel
theorem dX6_ofCellAtWork_44 : decode cX6_ofCellAtWork 44 = .ok (.getfield 52, 3) := by decide +kernel
theorem dX6_ofCellAtWork_47 : decode cX6_ofCellAtWork 47 = .ok (.iload_n 1, 1) := by decide +kernel
theorem dX6_ofCellAtWork_48 : decode cX6_ofCellAtWork 48 = .ok (.invokevirtual 223, 3) := by decide +kernel
theorem dX6_ofCellAtWork_51 : decode cX6_ofCellAtWork 51 = .ok (.invokestatic 149, 3) := by decide +kernel
theorem dX6_ofCellAtWork_54 : decode cX6_ofCellAtWork 54 = .ok (.ireturn, 1) := by decide +kernel
theorem dX6_ofCellAtWork_55 : decode cX6_ofCellAtWork 55 = .ok (.aload_n 0, 1) := by decide +kernel
theorem dX6_ofCellAtWork_56 : decode cX6_ofCellAtWork 56 = .ok (.getfield 10, 3) := by decide +kernel
theorem dX6_ofCellAtWork_59 : decode cX6_ofCellAtWork 59 = .ok (.getfield 52, 3) := by decide +kernel
theorem dX6_ofCellAtWork_62 : decode cX6_ofCellAtWork 62 = .ok (.iload_n 1, 1) := by decide +kernel
theorem dX6_ofCellAtWork_63 : decode cX6_ofCellAtWork 63 = .ok (.invokevirtual 226, 3) := by decide +kernel
theorem dX6_ofCellAtWork_66 : decode cX6_ofCellAtWork 66 = .ok (.invokestatic 149, 3) := by decide +kernel
theorem dX6_ofCellAtWork_69 : decode cX6_ofCellAtWork 69 = .ok (.ireturn, 1) := by decide +kernel
theorem dX6_ofCellAtWork_70 : decode cX6_ofCellAtWork 70 = .ok (.aload_n 0, 1) := by decide +kernel
theorem dX6_ofCellAtWork_71 : decode cX6_ofCellAtWork 71 = .ok (.getfield 10, 3) := by decide +kernel
theorem dX6_ofCellAtWork_74 : decode cX6_ofCellAtWork 74 = .ok (.getfield 52, 3) := by decide +kernel
theorem dX6_ofCellAtWork_77 : decode cX6_ofCellAtWork 77 = .ok (.iload_n 1, 1) := by decide +kernel
theorem dX6_ofCellAtWork_78 : decode cX6_ofCellAtWork 78 = .ok (.invokevirtual 229, 3) := by decide +kernel
theorem dX6_ofCellAtWork_81 : decode cX6_ofCellAtWork 81 = .ok (.ireturn, 1) := by decide +kernel
set_option maxRecDepth 20000 in
theorem ggX6_wrongWithout_X3_copyFrom : GoodIn wsX6_wrongWithout wsX3_copyFrom := goodIn_r _ [9, 10, 11, 12, 13, 14, 15, 16, 17, 18, 19, 20, 21, 22, 23, 24, 25, 26, 27, 28, 29, 30, 31, 32, 33, 34, 35, 36, 37, 38, 39, 40, 41, 42, 43, 44, 45, 46, 47, 48, 49, 50, 51, 52, 186, 187, 188, 189, 190, 191, 192, 193, 194, 195, 196, 197, 198, 199, 200, 201, 202, 203, 204, 205, 206, 207] (by decide +kernel) (by decide +kernel)
set_option maxRecDepth 20000 in
theorem gX6_wrongWithout_X3_copyFrom : GoodIn wsX6_wrongWithout (wsV RX6 232 RX3 yX3_copyFrom wsX3_copyFrom) := goodIn_app (goodIn_of _ (by decide +kernel)) ggX6_wrongWithout_X3_copyFrom
set_option maxRecDepth 20000 in
theorem ggX6_wrongWithout_X3_doAllTiles : GoodIn wsX6_wrongWithout wsX3_doAllTiles := goodIn_r _ [56, 14, 57, 58, 59, 8, 60, 11, 61, 62, 63, 64, 65, 10, 66, 67, 68, 69, 70, 12, 71, 72, 73, 74, 75, 76, 77, 78, 79, 80, 81, 82, 83, 84, 85, 86, 87, 88, 39, 89, 48, 50, 51, 90, 52, 46, 91, 92, 93, 94, 95, 96, 97, 98, 47, 99, 100, 101, 102, 103, 104, 105, 106, 107, 108, 109, 110, 18, 111, 21, 112, 113, 114, 115, 22, 116, 117, 118, 119, 20, 120, 121, 122, 123, 124, 125, 126, 127, 128, 129, 130, 131, 132, 133, 134, 135, 136, 137, 30, 138, 32, 33, 139, 140, 141, 142, 34, 143, 144, 145, 146, 147, 148, 149, 150, 151, 152, 153, 154, 155, 156, 157, 158, 159, 160, 161, 162, 163, 164, 13, 165, 166, 167, 168, 169, 170, 171, 172, 173, 186, 187, 188, 189, 190, 194, 195, 196, 191, 192, 193, 197, 198, 199, 200, 201, 202, 203, 204, 205, 206, 207] (by decide +kernel) (by decide +kernel)
set_option maxRecDepth 20000 in
theorem gX6_wrongWithout_X3_doAllTiles : GoodIn wsX6_wrongWithout (wsV RX6 126 RX3 yX3_doAllTiles wsX3_doAllTiles) := goodIn_app (goodIn_of _ (by decide +kernel)) ggX6_wrongWithout_X3_doAllTiles
set_option maxRecDepth 20000 in
theorem ggX6_wrongWithout_X3_wrongEntries : GoodIn wsX6_wrongWithout wsX3_wrongEntries := goodIn_r _ [177, 13, 61, 71, 127, 139, 140, 141, 30, 142, 32, 33, 34, 178, 179, 180, 8, 181, 11, 12, 186, 187, 188, 189, 190, 194, 195, 196] (by decide +kernel) (by decide +kernel)
set_option maxRecDepth 20000 in
theorem gX6_wrongWithout_X3_wrongEntries : GoodIn wsX6_wrongWithout (wsV RX6 168 RX3 yX3_wrongEntries wsX3_wrongEntries) := goodIn_app (goodIn_of _ (by decide +kernel)) ggX6_wrongWithout_X3_wrongEntries
theorem dX6_wrongWithout_0 : decode cX6_wrongWithout 0 = .ok (.aload_n 0, 1) := by decide +kernel
theorem dX6_wrongWithout_1 : decode cX6_wrongWithout 1 = .ok (.getfield 16, 3) := by decide +kernel
theorem dX6_wrongWithout_4 : decode cX6_wrongWithout 4 = .ok (.aload_n 0, 1) := by decide +kernel
theorem dX6_wrongWithout_5 : decode cX6_wrongWithout 5 = .ok (.getfield 10, 3) := by decide +kernel
theorem dX6_wrongWithout_8 : decode cX6_wrongWithout 8 = .ok (.invokevirtual 232, 3) := by decide +kernel
theorem dX6_wrongWithout_11 : decode cX6_wrongWithout 11 = .ok (.aload_n 0, 1) := by decide +kernel
theorem dX6_wrongWithout_12 : decode cX6_wrongWithout 12 = .ok (.getfield 16, 3) := by decide +kernel
theorem dX6_wrongWithout_15 : decode cX6_wrongWithout 15 = .ok (.getfield 38, 3) := by decide +kernel
theorem dX6_wrongWithout_18 : decode cX6_wrongWithout 18 = .ok (.iload_n 1, 1) := by decide +kernel
theorem dX6_wrongWithout_19 : decode cX6_wrongWithout 19 = .ok (.putfield 101, 3) := by decide +kernel
theorem dX6_wrongWithout_22 : decode cX6_wrongWithout 22 = .ok (.aload_n 0, 1) := by decide +kernel
theorem dX6_wrongWithout_23 : decode cX6_wrongWithout 23 = .ok (.getfield 16, 3) := by decide +kernel
theorem dX6_wrongWithout_26 : decode cX6_wrongWithout 26 = .ok (.invokevirtual 126, 3) := by decide +kernel
theorem dX6_wrongWithout_29 : decode cX6_wrongWithout 29 = .ok (.pop, 1) := by decide +kernel
theorem dX6_wrongWithout_30 : decode cX6_wrongWithout 30 = .ok (.aload_n 0, 1) := by decide +kernel
theorem dX6_wrongWithout_31 : decode cX6_wrongWithout 31 = .ok (.getfield 16, 3) := by decide +kernel
theorem dX6_wrongWithout_34 : decode cX6_wrongWithout 34 = .ok (.invokevirtual 168, 3) := by decide +kernel
theorem dX6_wrongWithout_37 : decode cX6_wrongWithout 37 = .ok (.ireturn, 1) := by decide +kernel
end
section
theorem dX7_init_0 : decode cX7_init 0 = .ok (.aload_n 0, 1) := by decide +kernel
theorem dX7_init_1 : decode cX7_init 1 = .ok (.invokespecial 1, 3) := by decide +kernel
theorem dX7_init_4 : decode cX7_init 4 = .ok (.aload_n 0, 1) := by decide +kernel
theorem dX7_init_5 : decode cX7_init 5 = .ok (.sipush 269, 3) := by decide +kernel
theorem dX7_init_8 : decode cX7_init 8 = .ok (.newarray .int, 2) := by decide +kernel
theorem dX7_init_10 : decode cX7_init 10 = .ok (.putfield 7, 3) := by decide +kernel
theorem dX7_init_13 : decode cX7_init 13 = .ok (.aload_n 0, 1) := by decide +kernel
theorem dX7_init_14 : decode cX7_init 14 = .ok (.sipush 1076, 3) := by decide +kernel
theorem dX7_init_17 : decode cX7_init 17 = .ok (.newarray .int, 2) := by decide +kernel
theorem dX7_init_19 : decode cX7_init 19 = .ok (.putfield 13, 3) := by decide +kernel
theorem dX7_init_22 : decode cX7_init 22 = .ok (.aload_n 0, 1) := by decide +kernel
theorem dX7_init_23 : decode cX7_init 23 = .ok (.sipush 269, 3) := by decide +kernel
theorem dX7_init_26 : decode cX7_init 26 = .ok (.newarray .int, 2) := by decide +kernel
theorem dX7_init_28 : decode cX7_init 28 = .ok (.putfield 16, 3) := by decide +kernel
theorem dX7_init_31 : decode cX7_init 31 = .ok (.aload_n 0, 1) := by decide +kernel
theorem dX7_init_32 : decode cX7_init 32 = .ok (.bipush 80, 2) := by decide +kernel
theorem dX7_init_34 : decode cX7_init 34 = .ok (.newarray .int, 2) := by decide +kernel
theorem dX7_init_36 : decode cX7_init 36 = .ok (.putfield 19, 3) := by decide +kernel
theorem dX7_init_39 : decode cX7_init 39 = .ok (.aload_n 0, 1) := by decide +kernel
theorem dX7_init_40 : decode cX7_init 40 = .ok (.bipush 36, 2) := by decide +kernel
theorem dX7_init_42 : decode cX7_init 42 = .ok (.newarray .int, 2) := by decide +kernel
theorem dX7_init_44 : decode cX7_init 44 = .ok (.putfield 22, 3) := by decide +kernel
theorem dX7_init_47 : decode cX7_init 47 = .ok (.aload_n 0, 1) := by decide +kernel
theorem dX7_init_48 : decode cX7_init 48 = .ok (.getfield 7, 3) := by decide +kernel
theorem dX7_init_51 : decode cX7_init 51 = .ok (.iconst 0, 1) := by decide +kernel
theorem dX7_init_52 : decode cX7_init 52 = .ok (.iconst 2, 1) := by decide +kernel
theorem dX7_init_53 : decode cX7_init 53 = .ok (.iastore, 1) := by decide +kernel
theorem dX7_init_54 : decode cX7_init 54 = .ok (.aload_n 0, 1) := by decide +kernel
theorem dX7_init_55 : decode cX7_init 55 = .ok (.getfield 7, 3) := by decide +kernel
theorem dX7_init_58 : decode cX7_init 58 = .ok (.iconst 1, 1) := by decide +kernel
theorem dX7_init_59 : decode cX7_init 59 = .ok (.iconst 2, 1) := by decide +kernel
theorem dX7_init_60 : decode cX7_init 60 = .ok (.iastore, 1) := by decide +kernel
theorem dX7_init_61 : decode cX7_init 61 = .ok (.aload_n 0, 1) := by decide +kernel
theorem dX7_init_62 : decode cX7_init 62 = .ok (.getfield 7, 3) := by decide +kernel
theorem dX7_init_65 : decode cX7_init 65 = .ok (.iconst 2, 1) := by decide +kernel
theorem dX7_init_66 : decode cX7_init 66 = .ok (.iconst 2, 1) := by decide +kernel
theorem dX7_init_67 : decode cX7_init 67 = .ok (.iastore, 1) := by decide +kernel
theorem dX7_init_68 : decode cX7_init 68 = .ok (.aload_n 0, 1) := by decide +kernel
theorem dX7_init_69 : decode cX7_init 69 = .ok (.getfield 7, 3) := by decide +kernel
theorem dX7_init_72 : decode cX7_init 72 = .ok (.iconst 3, 1) := by decide +kernel
theorem dX7_init_73 : decode cX7_init 73 = .ok (.iconst 2, 1) := by decide +kernel
theorem dX7_init_74 : decode cX7_init 74 = .ok (.iastore, 1) := by decide +kernel
theorem dX7_init_75 : decode cX7_init 75 = .ok (.aload_n 0, 1) := by decide +kernel
theorem dX7_init_76 : decode cX7_init 76 = .ok (.getfield 7, 3) := by decide +kernel
theorem dX7_init_79 : decode cX7_init 79 = .ok (.iconst 4, 1) := by decide +kernel
theorem dX7_init_80 : decode cX7_init 80 = .ok (.iconst 2, 1) := by decide +kernel
theorem dX7_init_81 : decode cX7_init 81 = .ok (.iastore, 1) := by decide +kernel
theorem dX7_init_82 : decode cX7_init 82 = .ok (.return_, 1) := by decide +kernel
theorem dX7_in_0 : decode cX7_in 0 = .ok (.iload_n 0, 1) := by decide +kernel
theorem dX7_in_1 : decode cX7_in 1 = .ok (.iload_n 1, 1) := by decide +kernel
theorem dX7_in_2 : decode cX7_in 2 = .ok (.if_icmp .lt 12, 3) := by decide +kernel
theorem dX7_in_5 : decode cX7_in 5 = .ok (.iload_n 0, 1) := by decide +kernel
theorem dX7_in_6 : decode cX7_in 6 = .ok (.iload_n 2, 1) := by decide +kernel
theorem dX7_in_7 : decode cX7_in 7 = .ok (.if_icmp .gt 7, 3) := by decide +kernel
theorem dX7_in_10 : decode cX7_in 10 = .ok (.iconst 1, 1) := by decide +kernel
theorem dX7_in_11 : decode cX7_in 11 = .ok (.goto 4, 3) := by decide +kernel
theorem dX7_in_14 : decode cX7_in 14 = .ok (.iconst 0, 1) := by decide +kernel
theorem dX7_in_15 : decode cX7_in 15 = .ok (.ireturn, 1) := by decide +kernel
theorem dX7_changes_0 : decode cX7_changes 0 = .ok (.aload_n 0, 1) := by decide +kernel
theorem dX7_changes_1 : decode cX7_changes 1 = .ok (.getfield 25, 3) := by decide +kernel
theorem dX7_changes_4 : decode cX7_changes 4 = .ok (.iconst 4, 1) := by decide +kernel
theorem dX7_changes_5 : decode cX7_changes 5 = .ok (.if_icmp .ne 44, 3) := by decide +kernel
theorem dX7_changes_8 : decode cX7_changes 8 = .ok (.iconst 0, 1) := by decide +kernel
theorem dX7_changes_9 : decode cX7_changes 9 = .ok (.istore_n 1, 1) := by decide +kernel
theorem dX7_changes_10 : decode cX7_changes 10 = .ok (.iload_n 1, 1) := by decide +kernel
theorem dX7_changes_11 : decode cX7_changes 11 = .ok (.sipush 807, 3) := by decide +kernel
theorem dX7_changes_14 : decode cX7_changes 14 = .ok (.if_icmp .ge 25, 3) := by decide +kernel
theorem dX7_changes_17 : decode cX7_changes 17 = .ok (.aload_n 0, 1) := by decide +kernel
theorem dX7_changes_18 : decode cX7_changes 18 = .ok (.getfield 13, 3) := by decide +kernel
theorem dX7_changes_21 : decode cX7_changes 21 = .ok (.iload_n 1, 1) := by decide +kernel
theorem dX7_changes_22 : decode cX7_changes 22 = .ok (.aload_n 0, 1) := by decide +kernel
theorem dX7_changes_23 : decode cX7_changes 23 = .ok (.getfield 13, 3) := by decide +kernel
theorem dX7_changes_26 : decode cX7_changes 26 = .ok (.iload_n 1, 1) := by decide +kernel
theorem dX7_changes_27 : decode cX7_changes 27 = .ok (.sipush 269, 3) := by decide +kernel
theorem dX7_changes_30 : decode cX7_changes 30 = .ok (.iadd, 1) := by decide +kernel
theorem dX7_changes_31 : decode cX7_changes 31 = .ok (.iaload, 1) := by decide +kernel
theorem dX7_changes_32 : decode cX7_changes 32 = .ok (.iastore, 1) := by decide +kernel
theorem dX7_changes_33 : decode cX7_changes 33 = .ok (.iinc 1 1, 3) := by decide +kernel
theorem dX7_changes_36 : decode cX7_changes 36 = .ok (.goto (-26), 3) := by decide +kernel
theorem dX7_changes_39 : decode cX7_changes 39 = .ok (.aload_n 0, 1) := by decide +kernel
theorem dX7_changes_40 : decode cX7_changes 40 = .ok (.dup, 1) := by decide +kernel
theorem dX7_changes_41 : decode cX7_changes 41 = .ok (.getfield 25, 3) := by decide +kernel
theorem dX7_changes_44 : decode cX7_changes 44 = .ok (.iconst 1, 1) := by decide +kernel
theorem dX7_changes_45 : decode cX7_changes 45 = .ok (.isub, 1) := by decide +kernel
theorem dX7_changes_46 : decode cX7_changes 46 = .ok (.putfield 25, 3) := by decide +kernel
theorem dX7_changes_49 : decode cX7_changes 49 = .ok (.iconst 0, 1) := by decide +kernel
theorem dX7_changes_50 : decode cX7_changes 50 = .ok (.istore_n 1, 1) := by decide +kernel
theorem dX7_changes_51 : decode cX7_changes 51 = .ok (.iload_n 1, 1) := by decide +kernel
theorem dX7_changes_52 : decode cX7_changes 52 = .ok (.sipush 269, 3) := by decide +kernel
theorem dX7_changes_55 : decode cX7_changes 55 = .ok (.if_icmp .ge 30, 3) := by decide +kernel
theorem dX7_changes_58 : decode cX7_changes 58 = .ok (.aload_n 0, 1) := by decide +kernel
theorem dX7_changes_59 : decode cX7_changes 59 = .ok (.getfield 13, 3) := by decide +kernel
theorem dX7_changes_62 : decode cX7_changes 62 = .ok (.sipush 269, 3) := by decide +kernel
theorem dX7_changes_65 : decode cX7_changes 65 = .ok (.aload_n 0, 1) := by decide +kernel
theorem dX7_changes_66 : decode cX7_changes 66 = .ok (.getfield 25, 3) := by decide +kernel
theorem dX7_changes_69 : decode cX7_changes 69 = .ok (.imul, 1) := by decide +kernel
theorem dX7_changes_70 : decode cX7_changes 70 = .ok (.iload_n 1, 1) := by decide +kernel
theorem dX7_changes_71 : decode cX7_changes 71 = .ok (.iadd, 1) := by decide +kernel
theorem dX7_changes_72 : decode cX7_changes 72 = .ok (.aload_n 0, 1) := by decide +kernel
theorem dX7_changes_73 : decode cX7_changes 73 = .ok (.getfield 7, 3) := by decide +kernel
theorem dX7_changes_76 : decode cX7_changes 76 = .ok (.iload_n 1, 1) := by decide +kernel
theorem dX7_changes_77 : decode cX7_changes 77 = .ok (.iaload, 1) := by decide +kernel
theorem dX7_changes_78 : decode cX7_changes 78 = .ok (.iastore, 1) := by decide +kernel
theorem dX7_changes_79 : decode cX7_changes 79 = .ok (.iinc 1 1, 3) := by decide +kernel
theorem dX7_changes_82 : decode cX7_changes 82 = .ok (.goto (-31), 3) := by decide +kernel
theorem dX7_changes_85 : decode cX7_changes 85 = .ok (.aload_n 0, 1) := by decide +kernel
theorem dX7_changes_86 : decode cX7_changes 86 = .ok (.dup, 1) := by decide +kernel
theorem dX7_changes_87 : decode cX7_changes 87 = .ok (.getfield 25, 3) := by decide +kernel
theorem dX7_changes_90 : decode cX7_changes 90 = .ok (.iconst 1, 1) := by decide +kernel
theorem dX7_changes_91 : decode cX7_changes 91 = .ok (.iadd, 1) := by decide +kernel
theorem dX7_changes_92 : decode cX7_changes 92 = .ok (.putfield 25, 3) := by decide +kernel
theorem dX7_changes_95 : decode cX7_changes 95 = .ok (.return_, 1) := by decide +kernel
theorem dX7_clears_0 : decode cX7_clears 0 = .ok (.iconst 0, 1) := by decide +kernel
theorem dX7_clears_1 : decode cX7_clears 1 = .ok (.istore_n 3, 1) := by decide +kernel
theorem dX7_clears_2 : decode cX7_clears 2 = .ok (.iload_n 3, 1) := by decide +kernel
theorem dX7_clears_3 : decode cX7_clears 3 = .ok (.iload_n 2, 1) := by decide +kernel
theorem dX7_clears_4 : decode cX7_clears 4 = .ok (.if_icmp .ge 18, 3) := by decide +kernel
theorem dX7_clears_7 : decode cX7_clears 7 = .ok (.aload_n 0, 1) := by decide +kernel
theorem dX7_clears_8 : decode cX7_clears 8 = .ok (.getfield 7, 3) := by decide +kernel
theorem dX7_clears_11 : decode cX7_clears 11 = .ok (.iload_n 1, 1) := by decide +kernel
theorem dX7_clears_12 : decode cX7_clears 12 = .ok (.iload_n 3, 1) := by decide +kernel
theorem dX7_clears_13 : decode cX7_clears 13 = .ok (.iadd, 1) := by decide +kernel
theorem dX7_clears_14 : decode cX7_clears 14 = .ok (.iconst 0, 1) := by decide +kernel
theorem dX7_clears_15 : decode cX7_clears 15 = .ok (.iastore, 1) := by decide +kernel
theorem dX7_clears_16 : decode cX7_clears 16 = .ok (.iinc 3 1, 3) := by decide +kernel
theorem dX7_clears_19 : decode cX7_clears 19 = .ok (.goto (-17), 3) := by decide +kernel
theorem dX7_clears_22 : decode cX7_clears 22 = .ok (.return_, 1) := by decide +kernel
theorem dX7_along_0 : decode cX7_along 0 = .ok (.iload_n 1, 1) := by decide +kernel
theorem dX7_along_1 : decode cX7_along 1 = .ok (.aload_n 0, 1) := by decide +kernel
theorem dX7_along_2 : decode cX7_along 2 = .ok (.getfield 7, 3) := by decide +kernel
theorem dX7_along_5 : decode cX7_along 5 = .ok (.iconst 0, 1) := by decide +kernel
theorem dX7_along_6 : decode cX7_along 6 = .ok (.iaload, 1) := by decide +kernel
theorem dX7_along_7 : decode cX7_along 7 = .ok (.iadd, 1) := by decide +kernel
theorem dX7_along_8 : decode cX7_along 8 = .ok (.iconst 1, 1) := by decide +kernel
theorem dX7_along_9 : decode cX7_along 9 = .ok (.isub, 1) := by decide +kernel
theorem dX7_along_10 : decode cX7_along 10 = .ok (.aload_n 0, 1) := by decide +kernel
theorem dX7_along_11 : decode cX7_along 11 = .ok (.getfield 7, 3) := by decide +kernel
theorem dX7_along_14 : decode cX7_along 14 = .ok (.iconst 0, 1) := by decide +kernel
theorem dX7_along_15 : decode cX7_along 15 = .ok (.iaload, 1) := by decide +kernel
theorem dX7_along_16 : decode cX7_along 16 = .ok (.idiv, 1) := by decide +kernel
theorem dX7_along_17 : decode cX7_along 17 = .ok (.ireturn, 1) := by decide +kernel
set_option maxRecDepth 20000 in
theorem ggX7_tiles_X7_along : GoodIn wsX7_tiles wsX7_along := goodIn_r _ [6, 1, 7, 8, 9, 10, 11, 12, 13, 14, 15, 16, 17, 18, 19, 20, 21, 22] (by decide +kernel) (by decide +kernel)
set_option maxRecDepth 20000 in
theorem gX7_tiles_X7_along : GoodIn wsX7_tiles (wsV RX7 29 RX7 yX7_along wsX7_along) := goodIn_app (goodIn_of _ (by decide +kernel)) ggX7_tiles_X7_along
theorem dX7_tiles_0 : decode cX7_tiles 0 = .ok (.aload_n 0, 1) := by decide +kernel
theorem dX7_tiles_1 : decode cX7_tiles 1 = .ok (.aload_n 0, 1) := by decide +kernel
theorem dX7_tiles_2 : decode cX7_tiles 2 = .ok (.getfield 7, 3) := by decide +kernel
theorem dX7_tiles_5 : decode cX7_tiles 5 = .ok (.iconst 1, 1) := by decide +kernel
theorem dX7_tiles_6 : decode cX7_tiles 6 = .ok (.iaload, 1) := by decide +kernel
theorem dX7_tiles_7 : decode cX7_tiles 7 = .ok (.invokevirtual 29, 3) := by decide +kernel
theorem dX7_tiles_10 : decode cX7_tiles 10 = .ok (.aload_n 0, 1) := by decide +kernel
theorem dX7_tiles_11 : decode cX7_tiles 11 = .ok (.aload_n 0, 1) := by decide +kernel
theorem dX7_tiles_12 : decode cX7_tiles 12 = .ok (.getfield 7, 3) := by decide +kernel
theorem dX7_tiles_15 : decode cX7_tiles 15 = .ok (.iconst 3, 1) := by decide +kernel
theorem dX7_tiles_16 : decode cX7_tiles 16 = .ok (.iaload, 1) := by decide +kernel
theorem dX7_tiles_17 : decode cX7_tiles 17 = .ok (.invokevirtual 29, 3) := by decide +kernel
theorem dX7_tiles_20 : decode cX7_tiles 20 = .ok (.imul, 1) := by decide +kernel
theorem dX7_tiles_21 : decode cX7_tiles 21 = .ok (.ireturn, 1) := by decide +kernel
set_option maxRecDepth 20000 in
theorem ggX7_side_X7_in : GoodIn wsX7_side wsX7_in := goodIn_r _ [6] (by decide +kernel) (by decide +kernel)
set_option maxRecDepth 20000 in
theorem gX7_side_X7_in : GoodIn wsX7_side (va_wsS RX7 33 yX7_in wsX7_in) := goodIn_app (goodIn_of _ (by decide +kernel)) ggX7_side_X7_in
set_option maxRecDepth 20000 in
theorem ggX7_side_X7_changes : GoodIn wsX7_side wsX7_changes := goodIn_r _ [10, 11, 12, 2, 17, 18, 19, 20, 21, 22, 23, 24, 25, 26, 27, 28, 29, 30, 31, 32] (by decide +kernel) (by decide +kernel)
set_option maxRecDepth 20000 in
theorem gX7_side_X7_changes : GoodIn wsX7_side (wsV RX7 38 RX7 yX7_changes wsX7_changes) := goodIn_app (goodIn_of _ (by decide +kernel)) ggX7_side_X7_changes
set_option maxRecDepth 20000 in
theorem ggX7_side_X7_clears : GoodIn wsX7_side wsX7_clears := goodIn_r _ [16, 2, 17, 18, 19, 20, 21, 22, 23, 24, 25, 26, 27, 28, 29, 30, 31, 32] (by decide +kernel) (by decide +kernel)
set_option maxRecDepth 20000 in
theorem gX7_side_X7_clears : GoodIn wsX7_side (wsV RX7 41 RX7 yX7_clears wsX7_clears) := goodIn_app (goodIn_of _ (by decide +kernel)) ggX7_side_X7_clears
theorem dX7_side_0 : decode cX7_side 0 = .ok (.iload_n 1, 1) := by decide +kernel
theorem dX7_side_1 : decode cX7_side 1 = .ok (.iconst 1, 1) := by decide +kernel
theorem dX7_side_2 : decode cX7_side 2 = .ok (.iconst 4, 1) := by decide +kernel
theorem dX7_side_3 : decode cX7_side 3 = .ok (.invokestatic 33, 3) := by decide +kernel
theorem dX7_side_6 : decode cX7_side 6 = .ok (.ifCond .ne 6, 3) := by decide +kernel
theorem dX7_side_9 : decode cX7_side 9 = .ok (.ldc 37, 2) := by decide +kernel
theorem dX7_side_11 : decode cX7_side 11 = .ok (.ireturn, 1) := by decide +kernel
theorem dX7_side_12 : decode cX7_side 12 = .ok (.aload_n 0, 1) := by decide +kernel
theorem dX7_side_13 : decode cX7_side 13 = .ok (.invokevirtual 38, 3) := by decide +kernel
theorem dX7_side_16 : decode cX7_side 16 = .ok (.aload_n 0, 1) := by decide +kernel
theorem dX7_side_17 : decode cX7_side 17 = .ok (.getfield 7, 3) := by decide +kernel
theorem dX7_side_20 : decode cX7_side 20 = .ok (.iconst 0, 1) := by decide +kernel
theorem dX7_side_21 : decode cX7_side 21 = .ok (.iaload, 1) := by decide +kernel
theorem dX7_side_22 : decode cX7_side 22 = .ok (.istore_n 2, 1) := by decide +kernel
theorem dX7_side_23 : decode cX7_side 23 = .ok (.aload_n 0, 1) := by decide +kernel
theorem dX7_side_24 : decode cX7_side 24 = .ok (.getfield 7, 3) := by decide +kernel
theorem dX7_side_27 : decode cX7_side 27 = .ok (.iconst 0, 1) := by decide +kernel
theorem dX7_side_28 : decode cX7_side 28 = .ok (.iload_n 1, 1) := by decide +kernel
theorem dX7_side_29 : decode cX7_side 29 = .ok (.iastore, 1) := by decide +kernel
theorem dX7_side_30 : decode cX7_side 30 = .ok (.aload_n 0, 1) := by decide +kernel
theorem dX7_side_31 : decode cX7_side 31 = .ok (.getfield 7, 3) := by decide +kernel
theorem dX7_side_34 : decode cX7_side 34 = .ok (.iconst 4, 1) := by decide +kernel
theorem dX7_side_35 : decode cX7_side 35 = .ok (.iload_n 1, 1) := by decide +kernel
theorem dX7_side_36 : decode cX7_side 36 = .ok (.iastore, 1) := by decide +kernel
theorem dX7_side_37 : decode cX7_side 37 = .ok (.aload_n 0, 1) := by decide +kernel
theorem dX7_side_38 : decode cX7_side 38 = .ok (.getfield 7, 3) := by decide +kernel
theorem dX7_side_41 : decode cX7_side 41 = .ok (.iconst 5, 1) := by decide +kernel
theorem dX7_side_42 : decode cX7_side 42 = .ok (.iconst 0, 1) := by decide +kernel
theorem dX7_side_43 : decode cX7_side 43 = .ok (.iastore, 1) := by decide +kernel
theorem dX7_side_44 : decode cX7_side 44 = .ok (.aload_n 0, 1) := by decide +kernel
theorem dX7_side_45 : decode cX7_side 45 = .ok (.sipush 153, 3) := by decide +kernel
theorem dX7_side_48 : decode cX7_side 48 = .ok (.bipush 20, 2) := by decide +kernel
theorem dX7_side_50 : decode cX7_side 50 = .ok (.invokevirtual 41, 3) := by decide +kernel
theorem dX7_side_53 : decode cX7_side 53 = .ok (.aload_n 0, 1) := by decide +kernel
theorem dX7_side_54 : decode cX7_side 54 = .ok (.bipush 117, 2) := by decide +kernel
theorem dX7_side_56 : decode cX7_side 56 = .ok (.bipush 36, 2) := by decide +kernel
theorem dX7_side_58 : decode cX7_side 58 = .ok (.invokevirtual 41, 3) := by decide +kernel
theorem dX7_side_61 : decode cX7_side 61 = .ok (.iload_n 2, 1) := by decide +kernel
theorem dX7_side_62 : decode cX7_side 62 = .ok (.ireturn, 1) := by decide +kernel
set_option maxRecDepth 20000 in
theorem ggX7_shape_X7_in : GoodIn wsX7_shape wsX7_in := goodIn_r _ [6] (by decide +kernel) (by decide +kernel)
set_option maxRecDepth 20000 in
theorem gX7_shape_X7_in : GoodIn wsX7_shape (va_wsS RX7 33 yX7_in wsX7_in) := goodIn_app (goodIn_of _ (by decide +kernel)) ggX7_shape_X7_in
set_option maxRecDepth 20000 in
theorem ggX7_shape_X7_changes : GoodIn wsX7_shape wsX7_changes := goodIn_r _ [10, 11, 12, 2, 25, 26, 27, 28, 29, 30, 31, 32, 33, 34, 35, 36, 37, 38, 39, 40] (by decide +kernel) (by decide +kernel)
set_option maxRecDepth 20000 in
theorem gX7_shape_X7_changes : GoodIn wsX7_shape (wsV RX7 38 RX7 yX7_changes wsX7_changes) := goodIn_app (goodIn_of _ (by decide +kernel)) ggX7_shape_X7_changes
set_option maxRecDepth 20000 in
theorem ggX7_shape_X7_clears : GoodIn wsX7_shape wsX7_clears := goodIn_r _ [16, 2, 25, 26, 27, 28, 29, 30, 31, 32, 33, 34, 35, 36, 37, 38, 39, 40] (by decide +kernel) (by decide +kernel)
set_option maxRecDepth 20000 in
theorem gX7_shape_X7_clears : GoodIn wsX7_shape (wsV RX7 41 RX7 yX7_clears wsX7_clears) := goodIn_app (goodIn_of _ (by decide +kernel)) ggX7_shape_X7_clears
set_option maxRecDepth 20000 in
theorem ggX7_shape_X7_tiles : GoodIn wsX7_shape wsX7_tiles := goodIn_r _ [20, 2, 21, 22, 23, 5, 24, 25, 26, 27, 28, 29, 30, 31, 32, 33, 34, 35, 36, 37, 38, 39, 40] (by decide +kernel) (by decide +kernel)
set_option maxRecDepth 20000 in
theorem gX7_shape_X7_tiles : GoodIn wsX7_shape (wsV RX7 45 RX7 yX7_tiles wsX7_tiles) := goodIn_app (goodIn_of _ (by decide +kernel)) ggX7_shape_X7_tiles
theorem dX7_shape_0 : decode cX7_shape 0 = .ok (.iload_n 1, 1) := by decide +kernel
theorem dX7_shape_1 : decode cX7_shape 1 = .ok (.iconst 1, 1) := by decide +kernel
theorem dX7_shape_2 : decode cX7_shape 2 = .ok (.bipush 6, 2) := by decide +kernel
theorem dX7_shape_4 : decode cX7_shape 4 = .ok (.invokestatic 33, 3) := by decide +kernel
theorem dX7_shape_7 : decode cX7_shape 7 = .ok (.ifCond .eq 23, 3) := by decide +kernel
theorem dX7_shape_10 : decode cX7_shape 10 = .ok (.iload_n 2, 1) := by decide +kernel
theorem dX7_shape_11 : decode cX7_shape 11 = .ok (.iconst 1, 1) := by decide +kernel
theorem dX7_shape_12 : decode cX7_shape 12 = .ok (.bipush 6, 2) := by decide +kernel
theorem dX7_shape_14 : decode cX7_shape 14 = .ok (.invokestatic 33, 3) := by decide +kernel
theorem dX7_shape_17 : decode cX7_shape 17 = .ok (.ifCond .eq 13, 3) := by decide +kernel
theorem dX7_shape_20 : decode cX7_shape 20 = .ok (.iload_n 3, 1) := by decide +kernel
theorem dX7_shape_21 : decode cX7_shape 21 = .ok (.iconst 1, 1) := by decide +kernel
theorem dX7_shape_22 : decode cX7_shape 22 = .ok (.bipush 6, 2) := by decide +kernel
theorem dX7_shape_24 : decode cX7_shape 24 = .ok (.invokestatic 33, 3) := by decide +kernel
theorem dX7_shape_27 : decode cX7_shape 27 = .ok (.ifCond .ne 6, 3) := by decide +kernel
theorem dX7_shape_30 : decode cX7_shape 30 = .ok (.ldc 37, 2) := by decide +kernel
theorem dX7_shape_32 : decode cX7_shape 32 = .ok (.ireturn, 1) := by decide +kernel
theorem dX7_shape_33 : decode cX7_shape 33 = .ok (.aload_n 0, 1) := by decide +kernel
theorem dX7_shape_34 : decode cX7_shape 34 = .ok (.invokevirtual 38, 3) := by decide +kernel
theorem dX7_shape_37 : decode cX7_shape 37 = .ok (.aload_n 0, 1) := by decide +kernel
theorem dX7_shape_38 : decode cX7_shape 38 = .ok (.getfield 7, 3) := by decide +kernel
theorem dX7_shape_41 : decode cX7_shape 41 = .ok (.iconst 1, 1) := by decide +kernel
theorem dX7_shape_42 : decode cX7_shape 42 = .ok (.iload_n 1, 1) := by decide +kernel
theorem dX7_shape_43 : decode cX7_shape 43 = .ok (.iastore, 1) := by decide +kernel
theorem dX7_shape_44 : decode cX7_shape 44 = .ok (.aload_n 0, 1) := by decide +kernel
theorem dX7_shape_45 : decode cX7_shape 45 = .ok (.getfield 7, 3) := by decide +kernel
theorem dX7_shape_48 : decode cX7_shape 48 = .ok (.iconst 2, 1) := by decide +kernel
theorem dX7_shape_49 : decode cX7_shape 49 = .ok (.iload_n 2, 1) := by decide +kernel
theorem dX7_shape_50 : decode cX7_shape 50 = .ok (.iastore, 1) := by decide +kernel
theorem dX7_shape_51 : decode cX7_shape 51 = .ok (.aload_n 0, 1) := by decide +kernel
theorem dX7_shape_52 : decode cX7_shape 52 = .ok (.getfield 7, 3) := by decide +kernel
theorem dX7_shape_55 : decode cX7_shape 55 = .ok (.iconst 3, 1) := by decide +kernel
theorem dX7_shape_56 : decode cX7_shape 56 = .ok (.iload_n 3, 1) := by decide +kernel
theorem dX7_shape_57 : decode cX7_shape 57 = .ok (.iastore, 1) := by decide +kernel
theorem dX7_shape_58 : decode cX7_shape 58 = .ok (.aload_n 0, 1) := by decide +kernel
theorem dX7_shape_59 : decode cX7_shape 59 = .ok (.getfield 7, 3) := by decide +kernel
theorem dX7_shape_62 : decode cX7_shape 62 = .ok (.iconst 5, 1) := by decide +kernel
theorem dX7_shape_63 : decode cX7_shape 63 = .ok (.iconst 0, 1) := by decide +kernel
theorem dX7_shape_64 : decode cX7_shape 64 = .ok (.iastore, 1) := by decide +kernel
theorem dX7_shape_65 : decode cX7_shape 65 = .ok (.aload_n 0, 1) := by decide +kernel
theorem dX7_shape_66 : decode cX7_shape 66 = .ok (.bipush 9, 2) := by decide +kernel
theorem dX7_shape_68 : decode cX7_shape 68 = .ok (.bipush 72, 2) := by decide +kernel
theorem dX7_shape_70 : decode cX7_shape 70 = .ok (.invokevirtual 41, 3) := by decide +kernel
theorem dX7_shape_73 : decode cX7_shape 73 = .ok (.aload_n 0, 1) := by decide +kernel
theorem dX7_shape_74 : decode cX7_shape 74 = .ok (.bipush 117, 2) := by decide +kernel
theorem dX7_shape_76 : decode cX7_shape 76 = .ok (.bipush 36, 2) := by decide +kernel
theorem dX7_shape_78 : decode cX7_shape 78 = .ok (.invokevirtual 41, 3) := by decide +kernel
theorem dX7_shape_81 : decode cX7_shape 81 = .ok (.aload_n 0, 1) := by decide +kernel
theorem dX7_shape_82 : decode cX7_shape 82 = .ok (.invokevirtual 45, 3) := by decide +kernel
theorem dX7_shape_85 : decode cX7_shape 85 = .ok (.ireturn, 1) := by decide +kernel
theorem dX7_rowsOf_0 : decode cX7_rowsOf 0 = .ok (.iload_n 1, 1) := by decide +kernel
theorem dX7_rowsOf_1 : decode cX7_rowsOf 1 = .ok (.ifCond .ne 12, 3) := by decide +kernel
theorem dX7_rowsOf_4 : decode cX7_rowsOf 4 = .ok (.aload_n 0, 1) := by decide +kernel
theorem dX7_rowsOf_5 : decode cX7_rowsOf 5 = .ok (.getfield 7, 3) := by decide +kernel
theorem dX7_rowsOf_8 : decode cX7_rowsOf 8 = .ok (.iconst 1, 1) := by decide +kernel
theorem dX7_rowsOf_9 : decode cX7_rowsOf 9 = .ok (.iaload, 1) := by decide +kernel
theorem dX7_rowsOf_10 : decode cX7_rowsOf 10 = .ok (.goto 9, 3) := by decide +kernel
theorem dX7_rowsOf_13 : decode cX7_rowsOf 13 = .ok (.aload_n 0, 1) := by decide +kernel
theorem dX7_rowsOf_14 : decode cX7_rowsOf 14 = .ok (.getfield 7, 3) := by decide +kernel
theorem dX7_rowsOf_17 : decode cX7_rowsOf 17 = .ok (.iconst 2, 1) := by decide +kernel
theorem dX7_rowsOf_18 : decode cX7_rowsOf 18 = .ok (.iaload, 1) := by decide +kernel
theorem dX7_rowsOf_19 : decode cX7_rowsOf 19 = .ok (.ireturn, 1) := by decide +kernel
theorem dX7_columnsOf_0 : decode cX7_columnsOf 0 = .ok (.iload_n 1, 1) := by decide +kernel
theorem dX7_columnsOf_1 : decode cX7_columnsOf 1 = .ok (.ifCond .ne 12, 3) := by decide +kernel
theorem dX7_columnsOf_4 : decode cX7_columnsOf 4 = .ok (.aload_n 0, 1) := by decide +kernel
theorem dX7_columnsOf_5 : decode cX7_columnsOf 5 = .ok (.getfield 7, 3) := by decide +kernel
theorem dX7_columnsOf_8 : decode cX7_columnsOf 8 = .ok (.iconst 2, 1) := by decide +kernel
theorem dX7_columnsOf_9 : decode cX7_columnsOf 9 = .ok (.iaload, 1) := by decide +kernel
theorem dX7_columnsOf_10 : decode cX7_columnsOf 10 = .ok (.goto 9, 3) := by decide +kernel
theorem dX7_columnsOf_13 : decode cX7_columnsOf 13 = .ok (.aload_n 0, 1) := by decide +kernel
theorem dX7_columnsOf_14 : decode cX7_columnsOf 14 = .ok (.getfield 7, 3) := by decide +kernel
theorem dX7_columnsOf_17 : decode cX7_columnsOf 17 = .ok (.iconst 3, 1) := by decide +kernel
theorem dX7_columnsOf_18 : decode cX7_columnsOf 18 = .ok (.iaload, 1) := by decide +kernel
theorem dX7_columnsOf_19 : decode cX7_columnsOf 19 = .ok (.ireturn, 1) := by decide +kernel
set_option maxRecDepth 20000 in
theorem ggX7_isEntry_X7_in : GoodIn wsX7_isEntry wsX7_in := goodIn_r _ [4] (by decide +kernel) (by decide +kernel)
set_option maxRecDepth 20000 in
theorem gX7_isEntry_X7_in : GoodIn wsX7_isEntry (va_wsS RX7 33 yX7_in wsX7_in) := goodIn_app (goodIn_of _ (by decide +kernel)) ggX7_isEntry_X7_in
set_option maxRecDepth 20000 in
theorem ggX7_isEntry_X7_rowsOf : GoodIn wsX7_isEntry wsX7_rowsOf := goodIn_r _ [8, 9, 14, 15, 16, 17, 18, 19, 20, 21, 22, 23, 24, 25, 26, 27, 28, 29] (by decide +kernel) (by decide +kernel)
set_option maxRecDepth 20000 in
theorem gX7_isEntry_X7_rowsOf : GoodIn wsX7_isEntry (wsV RX7 49 RX7 yX7_rowsOf wsX7_rowsOf) := goodIn_app (goodIn_of _ (by decide +kernel)) ggX7_isEntry_X7_rowsOf
set_option maxRecDepth 20000 in
theorem ggX7_isEntry_X7_columnsOf : GoodIn wsX7_isEntry wsX7_columnsOf := goodIn_r _ [13, 9, 14, 15, 16, 17, 18, 19, 20, 21, 22, 23, 24, 25, 26, 27, 28, 29] (by decide +kernel) (by decide +kernel)
set_option maxRecDepth 20000 in
theorem gX7_isEntry_X7_columnsOf : GoodIn wsX7_isEntry (wsV RX7 52 RX7 yX7_columnsOf wsX7_columnsOf) := goodIn_app (goodIn_of _ (by decide +kernel)) ggX7_isEntry_X7_columnsOf
theorem dX7_isEntry_0 : decode cX7_isEntry 0 = .ok (.iload_n 1, 1) := by decide +kernel
theorem dX7_isEntry_1 : decode cX7_isEntry 1 = .ok (.iconst 0, 1) := by decide +kernel
theorem dX7_isEntry_2 : decode cX7_isEntry 2 = .ok (.iconst 1, 1) := by decide +kernel
theorem dX7_isEntry_3 : decode cX7_isEntry 3 = .ok (.invokestatic 33, 3) := by decide +kernel
theorem dX7_isEntry_6 : decode cX7_isEntry 6 = .ok (.ifCond .eq 37, 3) := by decide +kernel
theorem dX7_isEntry_9 : decode cX7_isEntry 9 = .ok (.iload_n 2, 1) := by decide +kernel
theorem dX7_isEntry_10 : decode cX7_isEntry 10 = .ok (.iconst 0, 1) := by decide +kernel
theorem dX7_isEntry_11 : decode cX7_isEntry 11 = .ok (.aload_n 0, 1) := by decide +kernel
theorem dX7_isEntry_12 : decode cX7_isEntry 12 = .ok (.iload_n 1, 1) := by decide +kernel
theorem dX7_isEntry_13 : decode cX7_isEntry 13 = .ok (.invokevirtual 49, 3) := by decide +kernel
theorem dX7_isEntry_16 : decode cX7_isEntry 16 = .ok (.iconst 1, 1) := by decide +kernel
theorem dX7_isEntry_17 : decode cX7_isEntry 17 = .ok (.isub, 1) := by decide +kernel
theorem dX7_isEntry_18 : decode cX7_isEntry 18 = .ok (.invokestatic 33, 3) := by decide +kernel
theorem dX7_isEntry_21 : decode cX7_isEntry 21 = .ok (.ifCond .eq 22, 3) := by decide +kernel
theorem dX7_isEntry_24 : decode cX7_isEntry 24 = .ok (.iload_n 3, 1) := by decide +kernel
theorem dX7_isEntry_25 : decode cX7_isEntry 25 = .ok (.iconst 0, 1) := by decide +kernel
theorem dX7_isEntry_26 : decode cX7_isEntry 26 = .ok (.aload_n 0, 1) := by decide +kernel
theorem dX7_isEntry_27 : decode cX7_isEntry 27 = .ok (.iload_n 1, 1) := by decide +kernel
theorem dX7_isEntry_28 : decode cX7_isEntry 28 = .ok (.invokevirtual 52, 3) := by decide +kernel
theorem dX7_isEntry_31 : decode cX7_isEntry 31 = .ok (.iconst 1, 1) := by decide +kernel
theorem dX7_isEntry_32 : decode cX7_isEntry 32 = .ok (.isub, 1) := by decide +kernel
theorem dX7_isEntry_33 : decode cX7_isEntry 33 = .ok (.invokestatic 33, 3) := by decide +kernel
theorem dX7_isEntry_36 : decode cX7_isEntry 36 = .ok (.ifCond .eq 7, 3) := by decide +kernel
theorem dX7_isEntry_39 : decode cX7_isEntry 39 = .ok (.iconst 1, 1) := by decide +kernel
theorem dX7_isEntry_40 : decode cX7_isEntry 40 = .ok (.goto 4, 3) := by decide +kernel
theorem dX7_isEntry_43 : decode cX7_isEntry 43 = .ok (.iconst 0, 1) := by decide +kernel
theorem dX7_isEntry_44 : decode cX7_isEntry 44 = .ok (.ireturn, 1) := by decide +kernel
set_option maxRecDepth 20000 in
theorem ggX7_sets_X7_isEntry : GoodIn wsX7_sets wsX7_isEntry := goodIn_r _ [8, 9, 10, 7, 11, 12, 13, 14, 15, 2, 16, 17, 18, 19, 30, 31, 32, 33, 34, 35, 36, 37, 38, 39, 40, 41, 42, 43, 44, 45] (by decide +kernel) (by decide +kernel)
set_option maxRecDepth 20000 in
theorem gX7_sets_X7_isEntry : GoodIn wsX7_sets (wsV RX7 55 RX7 yX7_isEntry wsX7_isEntry) := goodIn_app (goodIn_of _ (by decide +kernel)) ggX7_sets_X7_isEntry
set_option maxRecDepth 20000 in
theorem ggX7_sets_X7_in : GoodIn wsX7_sets wsX7_in := goodIn_r _ [11] (by decide +kernel) (by decide +kernel)
set_option maxRecDepth 20000 in
theorem gX7_sets_X7_in : GoodIn wsX7_sets (va_wsS RX7 33 yX7_in wsX7_in) := goodIn_app (goodIn_of _ (by decide +kernel)) ggX7_sets_X7_in
set_option maxRecDepth 20000 in
theorem ggX7_sets_X7_changes : GoodIn wsX7_sets wsX7_changes := goodIn_r _ [23, 24, 25, 2, 30, 31, 32, 33, 34, 35, 36, 37, 38, 39, 40, 41, 42, 43, 44, 45] (by decide +kernel) (by decide +kernel)
set_option maxRecDepth 20000 in
theorem gX7_sets_X7_changes : GoodIn wsX7_sets (wsV RX7 38 RX7 yX7_changes wsX7_changes) := goodIn_app (goodIn_of _ (by decide +kernel)) ggX7_sets_X7_changes
set_option maxRecDepth 20000 in
theorem ggX7_sets_X7_clears : GoodIn wsX7_sets wsX7_clears := goodIn_r _ [29, 2, 30, 31, 32, 33, 34, 35, 36, 37, 38, 39, 40, 41, 42, 43, 44, 45] (by decide +kernel) (by decide +kernel)
set_option maxRecDepth 20000 in
theorem gX7_sets_X7_clears : GoodIn wsX7_sets (wsV RX7 41 RX7 yX7_clears wsX7_clears) := goodIn_app (goodIn_of _ (by decide +kernel)) ggX7_sets_X7_clears
theorem dX7_sets_0 : decode cX7_sets 0 = .ok (.aload_n 0, 1) := by decide +kernel
theorem dX7_sets_1 : decode cX7_sets 1 = .ok (.iload_n 1, 1) := by decide +kernel
theorem dX7_sets_2 : decode cX7_sets 2 = .ok (.iload_n 2, 1) := by decide +kernel
theorem dX7_sets_3 : decode cX7_sets 3 = .ok (.iload_n 3, 1) := by decide +kernel
theorem dX7_sets_4 : decode cX7_sets 4 = .ok (.invokevirtual 55, 3) := by decide +kernel
theorem dX7_sets_7 : decode cX7_sets 7 = .ok (.ifCond .eq 15, 3) := by decide +kernel
theorem dX7_sets_10 : decode cX7_sets 10 = .ok (.iload 4, 2) := by decide +kernel
theorem dX7_sets_12 : decode cX7_sets 12 = .ok (.bipush (-99), 2) := by decide +kernel
theorem dX7_sets_14 : decode cX7_sets 14 = .ok (.bipush 99, 2) := by decide +kernel
theorem dX7_sets_16 : decode cX7_sets 16 = .ok (.invokestatic 33, 3) := by decide +kernel
theorem dX7_sets_19 : decode cX7_sets 19 = .ok (.ifCond .ne 6, 3) := by decide +kernel
theorem dX7_sets_22 : decode cX7_sets 22 = .ok (.ldc 37, 2) := by decide +kernel
theorem dX7_sets_24 : decode cX7_sets 24 = .ok (.ireturn, 1) := by decide +kernel
theorem dX7_sets_25 : decode cX7_sets 25 = .ok (.aload_n 0, 1) := by decide +kernel
theorem dX7_sets_26 : decode cX7_sets 26 = .ok (.getfield 7, 3) := by decide +kernel
theorem dX7_sets_29 : decode cX7_sets 29 = .ok (.iconst 5, 1) := by decide +kernel
theorem dX7_sets_30 : decode cX7_sets 30 = .ok (.iaload, 1) := by decide +kernel
theorem dX7_sets_31 : decode cX7_sets 31 = .ok (.iconst 1, 1) := by decide +kernel
theorem dX7_sets_32 : decode cX7_sets 32 = .ok (.if_icmp .ne 6, 3) := by decide +kernel
theorem dX7_sets_35 : decode cX7_sets 35 = .ok (.ldc 58, 2) := by decide +kernel
theorem dX7_sets_37 : decode cX7_sets 37 = .ok (.ireturn, 1) := by decide +kernel
theorem dX7_sets_38 : decode cX7_sets 38 = .ok (.aload_n 0, 1) := by decide +kernel
theorem dX7_sets_39 : decode cX7_sets 39 = .ok (.invokevirtual 38, 3) := by decide +kernel
theorem dX7_sets_42 : decode cX7_sets 42 = .ok (.bipush 9, 2) := by decide +kernel
theorem dX7_sets_44 : decode cX7_sets 44 = .ok (.bipush 36, 2) := by decide +kernel
theorem dX7_sets_46 : decode cX7_sets 46 = .ok (.iload_n 1, 1) := by decide +kernel
theorem dX7_sets_47 : decode cX7_sets 47 = .ok (.imul, 1) := by decide +kernel
theorem dX7_sets_48 : decode cX7_sets 48 = .ok (.iadd, 1) := by decide +kernel
theorem dX7_sets_49 : decode cX7_sets 49 = .ok (.bipush 6, 2) := by decide +kernel
theorem dX7_sets_51 : decode cX7_sets 51 = .ok (.iload_n 2, 1) := by decide +kernel
theorem dX7_sets_52 : decode cX7_sets 52 = .ok (.imul, 1) := by decide +kernel
theorem dX7_sets_53 : decode cX7_sets 53 = .ok (.iadd, 1) := by decide +kernel
theorem dX7_sets_54 : decode cX7_sets 54 = .ok (.iload_n 3, 1) := by decide +kernel
theorem dX7_sets_55 : decode cX7_sets 55 = .ok (.iadd, 1) := by decide +kernel
theorem dX7_sets_56 : decode cX7_sets 56 = .ok (.istore 5, 2) := by decide +kernel
theorem dX7_sets_58 : decode cX7_sets 58 = .ok (.aload_n 0, 1) := by decide +kernel
theorem dX7_sets_59 : decode cX7_sets 59 = .ok (.getfield 7, 3) := by decide +kernel
theorem dX7_sets_62 : decode cX7_sets 62 = .ok (.iload 5, 2) := by decide +kernel
theorem dX7_sets_64 : decode cX7_sets 64 = .ok (.iaload, 1) := by decide +kernel
theorem dX7_sets_65 : decode cX7_sets 65 = .ok (.istore 6, 2) := by decide +kernel
theorem dX7_sets_67 : decode cX7_sets 67 = .ok (.aload_n 0, 1) := by decide +kernel
theorem dX7_sets_68 : decode cX7_sets 68 = .ok (.getfield 7, 3) := by decide +kernel
theorem dX7_sets_71 : decode cX7_sets 71 = .ok (.iload 5, 2) := by decide +kernel
theorem dX7_sets_73 : decode cX7_sets 73 = .ok (.iload 4, 2) := by decide +kernel
theorem dX7_sets_75 : decode cX7_sets 75 = .ok (.iastore, 1) := by decide +kernel
theorem dX7_sets_76 : decode cX7_sets 76 = .ok (.aload_n 0, 1) := by decide +kernel
theorem dX7_sets_77 : decode cX7_sets 77 = .ok (.bipush 117, 2) := by decide +kernel
theorem dX7_sets_79 : decode cX7_sets 79 = .ok (.bipush 36, 2) := by decide +kernel
theorem dX7_sets_81 : decode cX7_sets 81 = .ok (.invokevirtual 41, 3) := by decide +kernel
theorem dX7_sets_84 : decode cX7_sets 84 = .ok (.iload 6, 2) := by decide +kernel
theorem dX7_sets_86 : decode cX7_sets 86 = .ok (.ireturn, 1) := by decide +kernel
set_option maxRecDepth 20000 in
theorem ggX7_left_X7_sets : GoodIn wsX7_left wsX7_sets := goodIn_r _ [5, 6, 7, 8, 9, 10, 11, 4, 12, 13, 14, 15, 16, 17, 18, 19, 20, 21, 22, 23, 24, 25, 26, 27, 28, 29, 30, 31, 32, 33, 34, 35, 36, 37, 38, 39, 40, 41, 42, 43, 44, 45, 46, 47, 48, 49] (by decide +kernel) (by decide +kernel)
set_option maxRecDepth 20000 in
theorem gX7_left_X7_sets : GoodIn wsX7_left (wsV RX7 59 RX7 yX7_sets wsX7_sets) := goodIn_app (goodIn_of _ (by decide +kernel)) ggX7_left_X7_sets
theorem dX7_left_0 : decode cX7_left 0 = .ok (.aload_n 0, 1) := by decide +kernel
theorem dX7_left_1 : decode cX7_left 1 = .ok (.iconst 0, 1) := by decide +kernel
theorem dX7_left_2 : decode cX7_left 2 = .ok (.iload_n 1, 1) := by decide +kernel
theorem dX7_left_3 : decode cX7_left 3 = .ok (.iload_n 2, 1) := by decide +kernel
theorem dX7_left_4 : decode cX7_left 4 = .ok (.iload_n 3, 1) := by decide +kernel
theorem dX7_left_5 : decode cX7_left 5 = .ok (.invokevirtual 59, 3) := by decide +kernel
theorem dX7_left_8 : decode cX7_left 8 = .ok (.ireturn, 1) := by decide +kernel
set_option maxRecDepth 20000 in
theorem ggX7_right_X7_sets : GoodIn wsX7_right wsX7_sets := goodIn_r _ [5, 6, 7, 8, 9, 10, 11, 4, 12, 13, 14, 15, 16, 17, 18, 19, 20, 21, 22, 23, 24, 25, 26, 27, 28, 29, 30, 31, 32, 33, 34, 35, 36, 37, 38, 39, 40, 41, 42, 43, 44, 45, 46, 47, 48, 49] (by decide +kernel) (by decide +kernel)
set_option maxRecDepth 20000 in
theorem gX7_right_X7_sets : GoodIn wsX7_right (wsV RX7 59 RX7 yX7_sets wsX7_sets) := goodIn_app (goodIn_of _ (by decide +kernel)) ggX7_right_X7_sets
theorem dX7_right_0 : decode cX7_right 0 = .ok (.aload_n 0, 1) := by decide +kernel
theorem dX7_right_1 : decode cX7_right 1 = .ok (.iconst 1, 1) := by decide +kernel
theorem dX7_right_2 : decode cX7_right 2 = .ok (.iload_n 1, 1) := by decide +kernel
theorem dX7_right_3 : decode cX7_right 3 = .ok (.iload_n 2, 1) := by decide +kernel
theorem dX7_right_4 : decode cX7_right 4 = .ok (.iload_n 3, 1) := by decide +kernel
theorem dX7_right_5 : decode cX7_right 5 = .ok (.invokevirtual 59, 3) := by decide +kernel
theorem dX7_right_8 : decode cX7_right 8 = .ok (.ireturn, 1) := by decide +kernel
set_option maxRecDepth 20000 in
theorem ggX7_fault_X7_in : GoodIn wsX7_fault wsX7_in := goodIn_r _ [7] (by decide +kernel) (by decide +kernel)
set_option maxRecDepth 20000 in
theorem gX7_fault_X7_in : GoodIn wsX7_fault (va_wsS RX7 33 yX7_in wsX7_in) := goodIn_app (goodIn_of _ (by decide +kernel)) ggX7_fault_X7_in
set_option maxRecDepth 20000 in
theorem ggX7_fault_X7_changes : GoodIn wsX7_fault wsX7_changes := goodIn_r _ [11, 12, 13, 1, 14, 15, 16, 17, 18, 19, 20, 21, 22, 23, 24, 25, 26, 27, 28, 29] (by decide +kernel) (by decide +kernel)
set_option maxRecDepth 20000 in
theorem gX7_fault_X7_changes : GoodIn wsX7_fault (wsV RX7 38 RX7 yX7_changes wsX7_changes) := goodIn_app (goodIn_of _ (by decide +kernel)) ggX7_fault_X7_changes
theorem dX7_fault_0 : decode cX7_fault 0 = .ok (.iload_n 1, 1) := by decide +kernel
theorem dX7_fault_1 : decode cX7_fault 1 = .ok (.iconst 0, 1) := by decide +kernel
theorem dX7_fault_2 : decode cX7_fault 2 = .ok (.aload_n 0, 1) := by decide +kernel
theorem dX7_fault_3 : decode cX7_fault 3 = .ok (.getfield 7, 3) := by decide +kernel
theorem dX7_fault_6 : decode cX7_fault 6 = .ok (.iconst 0, 1) := by decide +kernel
theorem dX7_fault_7 : decode cX7_fault 7 = .ok (.iaload, 1) := by decide +kernel
theorem dX7_fault_8 : decode cX7_fault 8 = .ok (.iconst 1, 1) := by decide +kernel
theorem dX7_fault_9 : decode cX7_fault 9 = .ok (.isub, 1) := by decide +kernel
theorem dX7_fault_10 : decode cX7_fault 10 = .ok (.invokestatic 33, 3) := by decide +kernel
theorem dX7_fault_13 : decode cX7_fault 13 = .ok (.ifCond .eq 26, 3) := by decide +kernel
theorem dX7_fault_16 : decode cX7_fault 16 = .ok (.iload_n 2, 1) := by decide +kernel
theorem dX7_fault_17 : decode cX7_fault 17 = .ok (.iconst 0, 1) := by decide +kernel
theorem dX7_fault_18 : decode cX7_fault 18 = .ok (.aload_n 0, 1) := by decide +kernel
theorem dX7_fault_19 : decode cX7_fault 19 = .ok (.getfield 7, 3) := by decide +kernel
theorem dX7_fault_22 : decode cX7_fault 22 = .ok (.iconst 0, 1) := by decide +kernel
theorem dX7_fault_23 : decode cX7_fault 23 = .ok (.iaload, 1) := by decide +kernel
theorem dX7_fault_24 : decode cX7_fault 24 = .ok (.invokestatic 33, 3) := by decide +kernel
theorem dX7_fault_27 : decode cX7_fault 27 = .ok (.ifCond .eq 12, 3) := by decide +kernel
theorem dX7_fault_30 : decode cX7_fault 30 = .ok (.iload_n 3, 1) := by decide +kernel
theorem dX7_fault_31 : decode cX7_fault 31 = .ok (.iconst 0, 1) := by decide +kernel
theorem dX7_fault_32 : decode cX7_fault 32 = .ok (.iconst 4, 1) := by decide +kernel
theorem dX7_fault_33 : decode cX7_fault 33 = .ok (.invokestatic 33, 3) := by decide +kernel
theorem dX7_fault_36 : decode cX7_fault 36 = .ok (.ifCond .ne 6, 3) := by decide +kernel
theorem dX7_fault_39 : decode cX7_fault 39 = .ok (.ldc 37, 2) := by decide +kernel
theorem dX7_fault_41 : decode cX7_fault 41 = .ok (.ireturn, 1) := by decide +kernel
theorem dX7_fault_42 : decode cX7_fault 42 = .ok (.aload_n 0, 1) := by decide +kernel
theorem dX7_fault_43 : decode cX7_fault 43 = .ok (.getfield 7, 3) := by decide +kernel
theorem dX7_fault_46 : decode cX7_fault 46 = .ok (.iconst 5, 1) := by decide +kernel
theorem dX7_fault_47 : decode cX7_fault 47 = .ok (.iaload, 1) := by decide +kernel
theorem dX7_fault_48 : decode cX7_fault 48 = .ok (.iconst 1, 1) := by decide +kernel
theorem dX7_fault_49 : decode cX7_fault 49 = .ok (.if_icmp .ne 6, 3) := by decide +kernel
theorem dX7_fault_52 : decode cX7_fault 52 = .ok (.ldc 58, 2) := by decide +kernel
theorem dX7_fault_54 : decode cX7_fault 54 = .ok (.ireturn, 1) := by decide +kernel
theorem dX7_fault_55 : decode cX7_fault 55 = .ok (.aload_n 0, 1) := by decide +kernel
theorem dX7_fault_56 : decode cX7_fault 56 = .ok (.invokevirtual 38, 3) := by decide +kernel
theorem dX7_fault_59 : decode cX7_fault 59 = .ok (.aload_n 0, 1) := by decide +kernel
theorem dX7_fault_60 : decode cX7_fault 60 = .ok (.getfield 7, 3) := by decide +kernel
theorem dX7_fault_63 : decode cX7_fault 63 = .ok (.sipush 153, 3) := by decide +kernel
theorem dX7_fault_66 : decode cX7_fault 66 = .ok (.iconst 5, 1) := by decide +kernel
theorem dX7_fault_67 : decode cX7_fault 67 = .ok (.iload_n 1, 1) := by decide +kernel
theorem dX7_fault_68 : decode cX7_fault 68 = .ok (.imul, 1) := by decide +kernel
theorem dX7_fault_69 : decode cX7_fault 69 = .ok (.iadd, 1) := by decide +kernel
theorem dX7_fault_70 : decode cX7_fault 70 = .ok (.iload_n 2, 1) := by decide +kernel
theorem dX7_fault_71 : decode cX7_fault 71 = .ok (.iadd, 1) := by decide +kernel
theorem dX7_fault_72 : decode cX7_fault 72 = .ok (.iaload, 1) := by decide +kernel
theorem dX7_fault_73 : decode cX7_fault 73 = .ok (.istore 4, 2) := by decide +kernel
theorem dX7_fault_75 : decode cX7_fault 75 = .ok (.aload_n 0, 1) := by decide +kernel
theorem dX7_fault_76 : decode cX7_fault 76 = .ok (.getfield 7, 3) := by decide +kernel
theorem dX7_fault_79 : decode cX7_fault 79 = .ok (.sipush 153, 3) := by decide +kernel
theorem dX7_fault_82 : decode cX7_fault 82 = .ok (.iconst 5, 1) := by decide +kernel
theorem dX7_fault_83 : decode cX7_fault 83 = .ok (.iload_n 1, 1) := by decide +kernel
theorem dX7_fault_84 : decode cX7_fault 84 = .ok (.imul, 1) := by decide +kernel
theorem dX7_fault_85 : decode cX7_fault 85 = .ok (.iadd, 1) := by decide +kernel
theorem dX7_fault_86 : decode cX7_fault 86 = .ok (.iload_n 2, 1) := by decide +kernel
theorem dX7_fault_87 : decode cX7_fault 87 = .ok (.iadd, 1) := by decide +kernel
theorem dX7_fault_88 : decode cX7_fault 88 = .ok (.iload_n 3, 1) := by decide +kernel
theorem dX7_fault_89 : decode cX7_fault 89 = .ok (.iastore, 1) := by decide +kernel
theorem dX7_fault_90 : decode cX7_fault 90 = .ok (.iload 4, 2) := by decide +kernel
theorem dX7_fault_92 : decode cX7_fault 92 = .ok (.ireturn, 1) := by decide +kernel
set_option maxRecDepth 20000 in
theorem ggX7_leave_X7_in : GoodIn wsX7_leave wsX7_in := goodIn_r _ [7] (by decide +kernel) (by decide +kernel)
set_option maxRecDepth 20000 in
theorem gX7_leave_X7_in : GoodIn wsX7_leave (va_wsS RX7 33 yX7_in wsX7_in) := goodIn_app (goodIn_of _ (by decide +kernel)) ggX7_leave_X7_in
set_option maxRecDepth 20000 in
theorem ggX7_leave_X7_changes : GoodIn wsX7_leave wsX7_changes := goodIn_r _ [11, 12, 13, 1, 14, 15, 16, 17, 18, 19, 20, 21, 22, 23, 24, 25, 26, 27, 28, 29] (by decide +kernel) (by decide +kernel)
set_option maxRecDepth 20000 in
theorem gX7_leave_X7_changes : GoodIn wsX7_leave (wsV RX7 38 RX7 yX7_changes wsX7_changes) := goodIn_app (goodIn_of _ (by decide +kernel)) ggX7_leave_X7_changes
theorem dX7_leave_0 : decode cX7_leave 0 = .ok (.iload_n 1, 1) := by decide +kernel
theorem dX7_leave_1 : decode cX7_leave 1 = .ok (.iconst 0, 1) := by decide +kernel
theorem dX7_leave_2 : decode cX7_leave 2 = .ok (.aload_n 0, 1) := by decide +kernel
theorem dX7_leave_3 : decode cX7_leave 3 = .ok (.getfield 7, 3) := by decide +kernel
theorem dX7_leave_6 : decode cX7_leave 6 = .ok (.iconst 0, 1) := by decide +kernel
theorem dX7_leave_7 : decode cX7_leave 7 = .ok (.iaload, 1) := by decide +kernel
theorem dX7_leave_8 : decode cX7_leave 8 = .ok (.invokestatic 33, 3) := by decide +kernel
theorem dX7_leave_11 : decode cX7_leave 11 = .ok (.ifCond .ne 6, 3) := by decide +kernel
theorem dX7_leave_14 : decode cX7_leave 14 = .ok (.ldc 37, 2) := by decide +kernel
theorem dX7_leave_16 : decode cX7_leave 16 = .ok (.ireturn, 1) := by decide +kernel
theorem dX7_leave_17 : decode cX7_leave 17 = .ok (.aload_n 0, 1) := by decide +kernel
theorem dX7_leave_18 : decode cX7_leave 18 = .ok (.getfield 7, 3) := by decide +kernel
theorem dX7_leave_21 : decode cX7_leave 21 = .ok (.iconst 5, 1) := by decide +kernel
theorem dX7_leave_22 : decode cX7_leave 22 = .ok (.iaload, 1) := by decide +kernel
theorem dX7_leave_23 : decode cX7_leave 23 = .ok (.iconst 1, 1) := by decide +kernel
theorem dX7_leave_24 : decode cX7_leave 24 = .ok (.if_icmp .ne 6, 3) := by decide +kernel
theorem dX7_leave_27 : decode cX7_leave 27 = .ok (.ldc 58, 2) := by decide +kernel
theorem dX7_leave_29 : decode cX7_leave 29 = .ok (.ireturn, 1) := by decide +kernel
theorem dX7_leave_30 : decode cX7_leave 30 = .ok (.aload_n 0, 1) := by decide +kernel
theorem dX7_leave_31 : decode cX7_leave 31 = .ok (.invokevirtual 38, 3) := by decide +kernel
theorem dX7_leave_34 : decode cX7_leave 34 = .ok (.aload_n 0, 1) := by decide +kernel
theorem dX7_leave_35 : decode cX7_leave 35 = .ok (.getfield 7, 3) := by decide +kernel
theorem dX7_leave_38 : decode cX7_leave 38 = .ok (.iconst 4, 1) := by decide +kernel
theorem dX7_leave_39 : decode cX7_leave 39 = .ok (.iaload, 1) := by decide +kernel
theorem dX7_leave_40 : decode cX7_leave 40 = .ok (.istore_n 2, 1) := by decide +kernel
theorem dX7_leave_41 : decode cX7_leave 41 = .ok (.aload_n 0, 1) := by decide +kernel
theorem dX7_leave_42 : decode cX7_leave 42 = .ok (.getfield 7, 3) := by decide +kernel
theorem dX7_leave_45 : decode cX7_leave 45 = .ok (.iconst 4, 1) := by decide +kernel
theorem dX7_leave_46 : decode cX7_leave 46 = .ok (.iload_n 1, 1) := by decide +kernel
theorem dX7_leave_47 : decode cX7_leave 47 = .ok (.iastore, 1) := by decide +kernel
theorem dX7_leave_48 : decode cX7_leave 48 = .ok (.iload_n 2, 1) := by decide +kernel
theorem dX7_leave_49 : decode cX7_leave 49 = .ok (.ireturn, 1) := by decide +kernel
theorem dX7_tileRows_0 : decode cX7_tileRows 0 = .ok (.aload_n 0, 1) := by decide +kernel
theorem dX7_tileRows_1 : decode cX7_tileRows 1 = .ok (.getfield 7, 3) := by decide +kernel
theorem dX7_tileRows_4 : decode cX7_tileRows 4 = .ok (.iconst 1, 1) := by decide +kernel
theorem dX7_tileRows_5 : decode cX7_tileRows 5 = .ok (.iaload, 1) := by decide +kernel
theorem dX7_tileRows_6 : decode cX7_tileRows 6 = .ok (.aload_n 0, 1) := by decide +kernel
theorem dX7_tileRows_7 : decode cX7_tileRows 7 = .ok (.getfield 7, 3) := by decide +kernel
theorem dX7_tileRows_10 : decode cX7_tileRows 10 = .ok (.iconst 0, 1) := by decide +kernel
theorem dX7_tileRows_11 : decode cX7_tileRows 11 = .ok (.iaload, 1) := by decide +kernel
theorem dX7_tileRows_12 : decode cX7_tileRows 12 = .ok (.aload_n 0, 1) := by decide +kernel
theorem dX7_tileRows_13 : decode cX7_tileRows 13 = .ok (.getfield 7, 3) := by decide +kernel
theorem dX7_tileRows_16 : decode cX7_tileRows 16 = .ok (.bipush 6, 2) := by decide +kernel
theorem dX7_tileRows_18 : decode cX7_tileRows 18 = .ok (.iaload, 1) := by decide +kernel
theorem dX7_tileRows_19 : decode cX7_tileRows 19 = .ok (.imul, 1) := by decide +kernel
theorem dX7_tileRows_20 : decode cX7_tileRows 20 = .ok (.isub, 1) := by decide +kernel
theorem dX7_tileRows_21 : decode cX7_tileRows 21 = .ok (.istore_n 1, 1) := by decide +kernel
theorem dX7_tileRows_22 : decode cX7_tileRows 22 = .ok (.iload_n 1, 1) := by decide +kernel
theorem dX7_tileRows_23 : decode cX7_tileRows 23 = .ok (.aload_n 0, 1) := by decide +kernel
theorem dX7_tileRows_24 : decode cX7_tileRows 24 = .ok (.getfield 7, 3) := by decide +kernel
theorem dX7_tileRows_27 : decode cX7_tileRows 27 = .ok (.iconst 0, 1) := by decide +kernel
theorem dX7_tileRows_28 : decode cX7_tileRows 28 = .ok (.iaload, 1) := by decide +kernel
theorem dX7_tileRows_29 : decode cX7_tileRows 29 = .ok (.if_icmp .ge 7, 3) := by decide +kernel
theorem dX7_tileRows_32 : decode cX7_tileRows 32 = .ok (.iload_n 1, 1) := by decide +kernel
theorem dX7_tileRows_33 : decode cX7_tileRows 33 = .ok (.goto 9, 3) := by decide +kernel
theorem dX7_tileRows_36 : decode cX7_tileRows 36 = .ok (.aload_n 0, 1) := by decide +kernel
theorem dX7_tileRows_37 : decode cX7_tileRows 37 = .ok (.getfield 7, 3) := by decide +kernel
theorem dX7_tileRows_40 : decode cX7_tileRows 40 = .ok (.iconst 0, 1) := by decide +kernel
theorem dX7_tileRows_41 : decode cX7_tileRows 41 = .ok (.iaload, 1) := by decide +kernel
theorem dX7_tileRows_42 : decode cX7_tileRows 42 = .ok (.ireturn, 1) := by decide +kernel
theorem dX7_tileColumns_0 : decode cX7_tileColumns 0 = .ok (.aload_n 0, 1) := by decide +kernel
theorem dX7_tileColumns_1 : decode cX7_tileColumns 1 = .ok (.getfield 7, 3) := by decide +kernel
theorem dX7_tileColumns_4 : decode cX7_tileColumns 4 = .ok (.iconst 3, 1) := by decide +kernel
theorem dX7_tileColumns_5 : decode cX7_tileColumns 5 = .ok (.iaload, 1) := by decide +kernel
theorem dX7_tileColumns_6 : decode cX7_tileColumns 6 = .ok (.aload_n 0, 1) := by decide +kernel
theorem dX7_tileColumns_7 : decode cX7_tileColumns 7 = .ok (.getfield 7, 3) := by decide +kernel
theorem dX7_tileColumns_10 : decode cX7_tileColumns 10 = .ok (.iconst 0, 1) := by decide +kernel
theorem dX7_tileColumns_11 : decode cX7_tileColumns 11 = .ok (.iaload, 1) := by decide +kernel
theorem dX7_tileColumns_12 : decode cX7_tileColumns 12 = .ok (.aload_n 0, 1) := by decide +kernel
theorem dX7_tileColumns_13 : decode cX7_tileColumns 13 = .ok (.getfield 7, 3) := by decide +kernel
theorem dX7_tileColumns_16 : decode cX7_tileColumns 16 = .ok (.bipush 7, 2) := by decide +kernel
theorem dX7_tileColumns_18 : decode cX7_tileColumns 18 = .ok (.iaload, 1) := by decide +kernel
theorem dX7_tileColumns_19 : decode cX7_tileColumns 19 = .ok (.imul, 1) := by decide +kernel
theorem dX7_tileColumns_20 : decode cX7_tileColumns 20 = .ok (.isub, 1) := by decide +kernel
theorem dX7_tileColumns_21 : decode cX7_tileColumns 21 = .ok (.istore_n 1, 1) := by decide +kernel
theorem dX7_tileColumns_22 : decode cX7_tileColumns 22 = .ok (.iload_n 1, 1) := by decide +kernel
theorem dX7_tileColumns_23 : decode cX7_tileColumns 23 = .ok (.aload_n 0, 1) := by decide +kernel
theorem dX7_tileColumns_24 : decode cX7_tileColumns 24 = .ok (.getfield 7, 3) := by decide +kernel
theorem dX7_tileColumns_27 : decode cX7_tileColumns 27 = .ok (.iconst 0, 1) := by decide +kernel
theorem dX7_tileColumns_28 : decode cX7_tileColumns 28 = .ok (.iaload, 1) := by decide +kernel
theorem dX7_tileColumns_29 : decode cX7_tileColumns 29 = .ok (.if_icmp .ge 7, 3) := by decide +kernel
theorem dX7_tileColumns_32 : decode cX7_tileColumns 32 = .ok (.iload_n 1, 1) := by decide +kernel
theorem dX7_tileColumns_33 : decode cX7_tileColumns 33 = .ok (.goto 9, 3) := by decide +kernel
theorem dX7_tileColumns_36 : decode cX7_tileColumns 36 = .ok (.aload_n 0, 1) := by decide +kernel
theorem dX7_tileColumns_37 : decode cX7_tileColumns 37 = .ok (.getfield 7, 3) := by decide +kernel
theorem dX7_tileColumns_40 : decode cX7_tileColumns 40 = .ok (.iconst 0, 1) := by decide +kernel
theorem dX7_tileColumns_41 : decode cX7_tileColumns 41 = .ok (.iaload, 1) := by decide +kernel
theorem dX7_tileColumns_42 : decode cX7_tileColumns 42 = .ok (.ireturn, 1) := by decide +kernel
set_option maxRecDepth 20000 in
theorem ggX7_ticks_X7_tileRows : GoodIn wsX7_ticks wsX7_tileRows := goodIn_r _ [6, 1, 11, 12, 13, 14, 15, 16, 17, 18, 19, 20, 21, 22, 23, 24, 25, 26] (by decide +kernel) (by decide +kernel)
set_option maxRecDepth 20000 in
theorem gX7_ticks_X7_tileRows : GoodIn wsX7_ticks (wsV RX7 63 RX7 yX7_tileRows wsX7_tileRows) := goodIn_app (goodIn_of _ (by decide +kernel)) ggX7_ticks_X7_tileRows
set_option maxRecDepth 20000 in
theorem ggX7_ticks_X7_tileColumns : GoodIn wsX7_ticks wsX7_tileColumns := goodIn_r _ [10, 1, 11, 12, 13, 14, 15, 16, 17, 18, 19, 20, 21, 22, 23, 24, 25, 26] (by decide +kernel) (by decide +kernel)
set_option maxRecDepth 20000 in
theorem gX7_ticks_X7_tileColumns : GoodIn wsX7_ticks (wsV RX7 66 RX7 yX7_tileColumns wsX7_tileColumns) := goodIn_app (goodIn_of _ (by decide +kernel)) ggX7_ticks_X7_tileColumns
theorem dX7_ticks_0 : decode cX7_ticks 0 = .ok (.aload_n 0, 1) := by decide +kernel
theorem dX7_ticks_1 : decode cX7_ticks 1 = .ok (.invokevirtual 63, 3) := by decide +kernel
theorem dX7_ticks_4 : decode cX7_ticks 4 = .ok (.aload_n 0, 1) := by decide +kernel
theorem dX7_ticks_5 : decode cX7_ticks 5 = .ok (.invokevirtual 66, 3) := by decide +kernel
theorem dX7_ticks_8 : decode cX7_ticks 8 = .ok (.iadd, 1) := by decide +kernel
theorem dX7_ticks_9 : decode cX7_ticks 9 = .ok (.aload_n 0, 1) := by decide +kernel
theorem dX7_ticks_10 : decode cX7_ticks 10 = .ok (.getfield 7, 3) := by decide +kernel
theorem dX7_ticks_13 : decode cX7_ticks 13 = .ok (.iconst 2, 1) := by decide +kernel
theorem dX7_ticks_14 : decode cX7_ticks 14 = .ok (.iaload, 1) := by decide +kernel
theorem dX7_ticks_15 : decode cX7_ticks 15 = .ok (.iadd, 1) := by decide +kernel
theorem dX7_ticks_16 : decode cX7_ticks 16 = .ok (.iconst 2, 1) := by decide +kernel
theorem dX7_ticks_17 : decode cX7_ticks 17 = .ok (.isub, 1) := by decide +kernel
theorem dX7_ticks_18 : decode cX7_ticks 18 = .ok (.ireturn, 1) := by decide +kernel
set_option maxRecDepth 20000 in
theorem ggX7_begins_X7_clears : GoodIn wsX7_begins wsX7_clears := goodIn_r _ [6, 1, 7, 8, 9, 10, 11, 12, 13, 14, 15, 16, 17, 18, 19, 20, 21, 22] (by decide +kernel) (by decide +kernel)
set_option maxRecDepth 20000 in
theorem gX7_begins_X7_clears : GoodIn wsX7_begins (wsV RX7 41 RX7 yX7_clears wsX7_clears) := goodIn_app (goodIn_of _ (by decide +kernel)) ggX7_begins_X7_clears
theorem dX7_begins_0 : decode cX7_begins 0 = .ok (.aload_n 0, 1) := by decide +kernel
theorem dX7_begins_1 : decode cX7_begins 1 = .ok (.getfield 7, 3) := by decide +kernel
theorem dX7_begins_4 : decode cX7_begins 4 = .ok (.iconst 5, 1) := by decide +kernel
theorem dX7_begins_5 : decode cX7_begins 5 = .ok (.iconst 1, 1) := by decide +kernel
theorem dX7_begins_6 : decode cX7_begins 6 = .ok (.iastore, 1) := by decide +kernel
theorem dX7_begins_7 : decode cX7_begins 7 = .ok (.aload_n 0, 1) := by decide +kernel
theorem dX7_begins_8 : decode cX7_begins 8 = .ok (.getfield 7, 3) := by decide +kernel
theorem dX7_begins_11 : decode cX7_begins 11 = .ok (.bipush 6, 2) := by decide +kernel
theorem dX7_begins_13 : decode cX7_begins 13 = .ok (.iload_n 1, 1) := by decide +kernel
theorem dX7_begins_14 : decode cX7_begins 14 = .ok (.iastore, 1) := by decide +kernel
theorem dX7_begins_15 : decode cX7_begins 15 = .ok (.aload_n 0, 1) := by decide +kernel
theorem dX7_begins_16 : decode cX7_begins 16 = .ok (.getfield 7, 3) := by decide +kernel
theorem dX7_begins_19 : decode cX7_begins 19 = .ok (.bipush 7, 2) := by decide +kernel
theorem dX7_begins_21 : decode cX7_begins 21 = .ok (.iload_n 2, 1) := by decide +kernel
theorem dX7_begins_22 : decode cX7_begins 22 = .ok (.iastore, 1) := by decide +kernel
theorem dX7_begins_23 : decode cX7_begins 23 = .ok (.aload_n 0, 1) := by decide +kernel
theorem dX7_begins_24 : decode cX7_begins 24 = .ok (.getfield 7, 3) := by decide +kernel
theorem dX7_begins_27 : decode cX7_begins 27 = .ok (.bipush 8, 2) := by decide +kernel
theorem dX7_begins_29 : decode cX7_begins 29 = .ok (.iconst 0, 1) := by decide +kernel
theorem dX7_begins_30 : decode cX7_begins 30 = .ok (.iastore, 1) := by decide +kernel
theorem dX7_begins_31 : decode cX7_begins 31 = .ok (.aload_n 0, 1) := by decide +kernel
theorem dX7_begins_32 : decode cX7_begins 32 = .ok (.sipush 173, 3) := by decide +kernel
theorem dX7_begins_35 : decode cX7_begins 35 = .ok (.bipush 96, 2) := by decide +kernel
theorem dX7_begins_37 : decode cX7_begins 37 = .ok (.invokevirtual 41, 3) := by decide +kernel
theorem dX7_begins_40 : decode cX7_begins 40 = .ok (.return_, 1) := by decide +kernel
set_option maxRecDepth 20000 in
theorem ggX7_begin_X7_along : GoodIn wsX7_begin wsX7_along := goodIn_r _ [8, 1, 38, 39, 40, 41, 42, 43, 44, 45, 46, 47, 48, 49, 50, 51, 52, 53] (by decide +kernel) (by decide +kernel)
set_option maxRecDepth 20000 in
theorem gX7_begin_X7_along : GoodIn wsX7_begin (wsV RX7 29 RX7 yX7_along wsX7_along) := goodIn_app (goodIn_of _ (by decide +kernel)) ggX7_begin_X7_along
set_option maxRecDepth 20000 in
theorem ggX7_begin_X7_in : GoodIn wsX7_begin wsX7_in := goodIn_r _ [11] (by decide +kernel) (by decide +kernel)
set_option maxRecDepth 20000 in
theorem gX7_begin_X7_in : GoodIn wsX7_begin (va_wsS RX7 33 yX7_in wsX7_in) := goodIn_app (goodIn_of _ (by decide +kernel)) ggX7_begin_X7_in
set_option maxRecDepth 20000 in
theorem ggX7_begin_X7_changes : GoodIn wsX7_begin wsX7_changes := goodIn_r _ [15, 16, 17, 1, 38, 39, 40, 41, 42, 43, 44, 45, 46, 47, 48, 49, 50, 51, 52, 53] (by decide +kernel) (by decide +kernel)
set_option maxRecDepth 20000 in
theorem gX7_begin_X7_changes : GoodIn wsX7_begin (wsV RX7 38 RX7 yX7_changes wsX7_changes) := goodIn_app (goodIn_of _ (by decide +kernel)) ggX7_begin_X7_changes
set_option maxRecDepth 20000 in
theorem ggX7_begin_X7_begins : GoodIn wsX7_begin wsX7_begins := goodIn_r _ [21, 1, 22, 23, 24, 7, 25, 38, 39, 40, 41, 42, 43, 44, 45, 46, 47, 48, 49, 50, 51, 52, 53] (by decide +kernel) (by decide +kernel)
set_option maxRecDepth 20000 in
theorem gX7_begin_X7_begins : GoodIn wsX7_begin (wsV RX7 69 RX7 yX7_begins wsX7_begins) := goodIn_app (goodIn_of _ (by decide +kernel)) ggX7_begin_X7_begins
set_option maxRecDepth 20000 in
theorem ggX7_begin_X7_ticks : GoodIn wsX7_begin wsX7_ticks := goodIn_r _ [29, 1, 30, 31, 32, 7, 33, 34, 35, 36, 37, 38, 39, 40, 41, 42, 43, 44, 45, 46, 47, 48, 49, 50, 51, 52, 53] (by decide +kernel) (by decide +kernel)
set_option maxRecDepth 20000 in
theorem gX7_begin_X7_ticks : GoodIn wsX7_begin (wsV RX7 72 RX7 yX7_ticks wsX7_ticks) := goodIn_app (goodIn_of _ (by decide +kernel)) ggX7_begin_X7_ticks
theorem dX7_begin_0 : decode cX7_begin 0 = .ok (.iload_n 1, 1) := by decide +kernel
theorem dX7_begin_1 : decode cX7_begin 1 = .ok (.iconst 0, 1) := by decide +kernel
theorem dX7_begin_2 : decode cX7_begin 2 = .ok (.aload_n 0, 1) := by decide +kernel
theorem dX7_begin_3 : decode cX7_begin 3 = .ok (.aload_n 0, 1) := by decide +kernel
theorem dX7_begin_4 : decode cX7_begin 4 = .ok (.getfield 7, 3) := by decide +kernel
theorem dX7_begin_7 : decode cX7_begin 7 = .ok (.iconst 1, 1) := by decide +kernel
theorem dX7_begin_8 : decode cX7_begin 8 = .ok (.iaload, 1) := by decide +kernel
theorem dX7_begin_9 : decode cX7_begin 9 = .ok (.invokevirtual 29, 3) := by decide +kernel
theorem dX7_begin_12 : decode cX7_begin 12 = .ok (.iconst 1, 1) := by decide +kernel
theorem dX7_begin_13 : decode cX7_begin 13 = .ok (.isub, 1) := by decide +kernel
theorem dX7_begin_14 : decode cX7_begin 14 = .ok (.invokestatic 33, 3) := by decide +kernel
theorem dX7_begin_17 : decode cX7_begin 17 = .ok (.ifCond .eq 23, 3) := by decide +kernel
theorem dX7_begin_20 : decode cX7_begin 20 = .ok (.iload_n 2, 1) := by decide +kernel
theorem dX7_begin_21 : decode cX7_begin 21 = .ok (.iconst 0, 1) := by decide +kernel
theorem dX7_begin_22 : decode cX7_begin 22 = .ok (.aload_n 0, 1) := by decide +kernel
theorem dX7_begin_23 : decode cX7_begin 23 = .ok (.aload_n 0, 1) := by decide +kernel
theorem dX7_begin_24 : decode cX7_begin 24 = .ok (.getfield 7, 3) := by decide +kernel
theorem dX7_begin_27 : decode cX7_begin 27 = .ok (.iconst 3, 1) := by decide +kernel
theorem dX7_begin_28 : decode cX7_begin 28 = .ok (.iaload, 1) := by decide +kernel
theorem dX7_begin_29 : decode cX7_begin 29 = .ok (.invokevirtual 29, 3) := by decide +kernel
theorem dX7_begin_32 : decode cX7_begin 32 = .ok (.iconst 1, 1) := by decide +kernel
theorem dX7_begin_33 : decode cX7_begin 33 = .ok (.isub, 1) := by decide +kernel
theorem dX7_begin_34 : decode cX7_begin 34 = .ok (.invokestatic 33, 3) := by decide +kernel
theorem dX7_begin_37 : decode cX7_begin 37 = .ok (.ifCond .ne 6, 3) := by decide +kernel
theorem dX7_begin_40 : decode cX7_begin 40 = .ok (.ldc 37, 2) := by decide +kernel
theorem dX7_begin_42 : decode cX7_begin 42 = .ok (.ireturn, 1) := by decide +kernel
theorem dX7_begin_43 : decode cX7_begin 43 = .ok (.aload_n 0, 1) := by decide +kernel
theorem dX7_begin_44 : decode cX7_begin 44 = .ok (.getfield 7, 3) := by decide +kernel
theorem dX7_begin_47 : decode cX7_begin 47 = .ok (.iconst 5, 1) := by decide +kernel
theorem dX7_begin_48 : decode cX7_begin 48 = .ok (.iaload, 1) := by decide +kernel
theorem dX7_begin_49 : decode cX7_begin 49 = .ok (.iconst 1, 1) := by decide +kernel
theorem dX7_begin_50 : decode cX7_begin 50 = .ok (.if_icmp .ne 6, 3) := by decide +kernel
theorem dX7_begin_53 : decode cX7_begin 53 = .ok (.ldc 58, 2) := by decide +kernel
theorem dX7_begin_55 : decode cX7_begin 55 = .ok (.ireturn, 1) := by decide +kernel
theorem dX7_begin_56 : decode cX7_begin 56 = .ok (.aload_n 0, 1) := by decide +kernel
theorem dX7_begin_57 : decode cX7_begin 57 = .ok (.invokevirtual 38, 3) := by decide +kernel
theorem dX7_begin_60 : decode cX7_begin 60 = .ok (.aload_n 0, 1) := by decide +kernel
theorem dX7_begin_61 : decode cX7_begin 61 = .ok (.iload_n 1, 1) := by decide +kernel
theorem dX7_begin_62 : decode cX7_begin 62 = .ok (.iload_n 2, 1) := by decide +kernel
theorem dX7_begin_63 : decode cX7_begin 63 = .ok (.invokevirtual 69, 3) := by decide +kernel
theorem dX7_begin_66 : decode cX7_begin 66 = .ok (.aload_n 0, 1) := by decide +kernel
theorem dX7_begin_67 : decode cX7_begin 67 = .ok (.invokevirtual 72, 3) := by decide +kernel
theorem dX7_begin_70 : decode cX7_begin 70 = .ok (.ireturn, 1) := by decide +kernel
theorem dX7_placeOf_0 : decode cX7_placeOf 0 = .ok (.iload_n 1, 1) := by decide +kernel
theorem dX7_placeOf_1 : decode cX7_placeOf 1 = .ok (.aload_n 0, 1) := by decide +kernel
theorem dX7_placeOf_2 : decode cX7_placeOf 2 = .ok (.getfield 7, 3) := by decide +kernel
theorem dX7_placeOf_5 : decode cX7_placeOf 5 = .ok (.iconst 4, 1) := by decide +kernel
theorem dX7_placeOf_6 : decode cX7_placeOf 6 = .ok (.iaload, 1) := by decide +kernel
theorem dX7_placeOf_7 : decode cX7_placeOf 7 = .ok (.if_icmp .ge 7, 3) := by decide +kernel
theorem dX7_placeOf_10 : decode cX7_placeOf 10 = .ok (.iload_n 1, 1) := by decide +kernel
theorem dX7_placeOf_11 : decode cX7_placeOf 11 = .ok (.goto 6, 3) := by decide +kernel
theorem dX7_placeOf_14 : decode cX7_placeOf 14 = .ok (.iload_n 1, 1) := by decide +kernel
theorem dX7_placeOf_15 : decode cX7_placeOf 15 = .ok (.iconst 1, 1) := by decide +kernel
theorem dX7_placeOf_16 : decode cX7_placeOf 16 = .ok (.iadd, 1) := by decide +kernel
theorem dX7_placeOf_17 : decode cX7_placeOf 17 = .ok (.ireturn, 1) := by decide +kernel
set_option maxRecDepth 20000 in
theorem ggX7_faultOf_X7_placeOf : GoodIn wsX7_faultOf wsX7_placeOf := goodIn_r _ [6, 1, 7, 8, 9, 10, 11, 12, 13, 14, 15, 16, 17, 18, 19, 20, 21, 22] (by decide +kernel) (by decide +kernel)
set_option maxRecDepth 20000 in
theorem gX7_faultOf_X7_placeOf : GoodIn wsX7_faultOf (wsV RX7 75 RX7 yX7_placeOf wsX7_placeOf) := goodIn_app (goodIn_of _ (by decide +kernel)) ggX7_faultOf_X7_placeOf
theorem dX7_faultOf_0 : decode cX7_faultOf 0 = .ok (.aload_n 0, 1) := by decide +kernel
theorem dX7_faultOf_1 : decode cX7_faultOf 1 = .ok (.getfield 7, 3) := by decide +kernel
theorem dX7_faultOf_4 : decode cX7_faultOf 4 = .ok (.sipush 153, 3) := by decide +kernel
theorem dX7_faultOf_7 : decode cX7_faultOf 7 = .ok (.iconst 5, 1) := by decide +kernel
theorem dX7_faultOf_8 : decode cX7_faultOf 8 = .ok (.iload_n 1, 1) := by decide +kernel
theorem dX7_faultOf_9 : decode cX7_faultOf 9 = .ok (.imul, 1) := by decide +kernel
theorem dX7_faultOf_10 : decode cX7_faultOf 10 = .ok (.iadd, 1) := by decide +kernel
theorem dX7_faultOf_11 : decode cX7_faultOf 11 = .ok (.aload_n 0, 1) := by decide +kernel
theorem dX7_faultOf_12 : decode cX7_faultOf 12 = .ok (.iload_n 2, 1) := by decide +kernel
theorem dX7_faultOf_13 : decode cX7_faultOf 13 = .ok (.invokevirtual 75, 3) := by decide +kernel
theorem dX7_faultOf_16 : decode cX7_faultOf 16 = .ok (.iadd, 1) := by decide +kernel
theorem dX7_faultOf_17 : decode cX7_faultOf 17 = .ok (.iaload, 1) := by decide +kernel
theorem dX7_faultOf_18 : decode cX7_faultOf 18 = .ok (.ireturn, 1) := by decide +kernel
theorem dX7_cell_0 : decode cX7_cell 0 = .ok (.sipush 173, 3) := by decide +kernel
theorem dX7_cell_3 : decode cX7_cell 3 = .ok (.bipush 24, 2) := by decide +kernel
theorem dX7_cell_5 : decode cX7_cell 5 = .ok (.iload_n 0, 1) := by decide +kernel
theorem dX7_cell_6 : decode cX7_cell 6 = .ok (.imul, 1) := by decide +kernel
theorem dX7_cell_7 : decode cX7_cell 7 = .ok (.iadd, 1) := by decide +kernel
theorem dX7_cell_8 : decode cX7_cell 8 = .ok (.bipush 6, 2) := by decide +kernel
theorem dX7_cell_10 : decode cX7_cell 10 = .ok (.iload_n 1, 1) := by decide +kernel
theorem dX7_cell_11 : decode cX7_cell 11 = .ok (.imul, 1) := by decide +kernel
theorem dX7_cell_12 : decode cX7_cell 12 = .ok (.iadd, 1) := by decide +kernel
theorem dX7_cell_13 : decode cX7_cell 13 = .ok (.ireturn, 1) := by decide +kernel
set_option maxRecDepth 20000 in
theorem ggX7_gets_X7_in : GoodIn wsX7_gets wsX7_in := goodIn_r _ [9] (by decide +kernel) (by decide +kernel)
set_option maxRecDepth 20000 in
theorem gX7_gets_X7_in : GoodIn wsX7_gets (va_wsS RX7 33 yX7_in wsX7_in) := goodIn_app (goodIn_of _ (by decide +kernel)) ggX7_gets_X7_in
set_option maxRecDepth 20000 in
theorem ggX7_gets_X7_cell : GoodIn wsX7_gets wsX7_cell := goodIn_r _ [12] (by decide +kernel) (by decide +kernel)
set_option maxRecDepth 20000 in
theorem gX7_gets_X7_cell : GoodIn wsX7_gets (va_wsS RX7 78 yX7_cell wsX7_cell) := goodIn_app (goodIn_of _ (by decide +kernel)) ggX7_gets_X7_cell
theorem dX7_gets_0 : decode cX7_gets 0 = .ok (.aload_n 0, 1) := by decide +kernel
theorem dX7_gets_1 : decode cX7_gets 1 = .ok (.getfield 7, 3) := by decide +kernel
theorem dX7_gets_4 : decode cX7_gets 4 = .ok (.bipush 8, 2) := by decide +kernel
theorem dX7_gets_6 : decode cX7_gets 6 = .ok (.iaload, 1) := by decide +kernel
theorem dX7_gets_7 : decode cX7_gets 7 = .ok (.iload_n 1, 1) := by decide +kernel
theorem dX7_gets_8 : decode cX7_gets 8 = .ok (.isub, 1) := by decide +kernel
theorem dX7_gets_9 : decode cX7_gets 9 = .ok (.istore_n 3, 1) := by decide +kernel
theorem dX7_gets_10 : decode cX7_gets 10 = .ok (.aload_n 0, 1) := by decide +kernel
theorem dX7_gets_11 : decode cX7_gets 11 = .ok (.getfield 7, 3) := by decide +kernel
theorem dX7_gets_14 : decode cX7_gets 14 = .ok (.bipush 8, 2) := by decide +kernel
theorem dX7_gets_16 : decode cX7_gets 16 = .ok (.iaload, 1) := by decide +kernel
theorem dX7_gets_17 : decode cX7_gets 17 = .ok (.iload_n 2, 1) := by decide +kernel
theorem dX7_gets_18 : decode cX7_gets 18 = .ok (.isub, 1) := by decide +kernel
theorem dX7_gets_19 : decode cX7_gets 19 = .ok (.istore 4, 2) := by decide +kernel
theorem dX7_gets_21 : decode cX7_gets 21 = .ok (.aload_n 0, 1) := by decide +kernel
theorem dX7_gets_22 : decode cX7_gets 22 = .ok (.iload_n 2, 1) := by decide +kernel
theorem dX7_gets_23 : decode cX7_gets 23 = .ok (.ifCond .ne 19, 3) := by decide +kernel
theorem dX7_gets_26 : decode cX7_gets 26 = .ok (.iload_n 3, 1) := by decide +kernel
theorem dX7_gets_27 : decode cX7_gets 27 = .ok (.iconst 0, 1) := by decide +kernel
theorem dX7_gets_28 : decode cX7_gets 28 = .ok (.aload_n 0, 1) := by decide +kernel
theorem dX7_gets_29 : decode cX7_gets 29 = .ok (.getfield 7, 3) := by decide +kernel
theorem dX7_gets_32 : decode cX7_gets 32 = .ok (.iconst 2, 1) := by decide +kernel
theorem dX7_gets_33 : decode cX7_gets 33 = .ok (.iaload, 1) := by decide +kernel
theorem dX7_gets_34 : decode cX7_gets 34 = .ok (.iconst 1, 1) := by decide +kernel
theorem dX7_gets_35 : decode cX7_gets 35 = .ok (.isub, 1) := by decide +kernel
theorem dX7_gets_36 : decode cX7_gets 36 = .ok (.invokestatic 33, 3) := by decide +kernel
theorem dX7_gets_39 : decode cX7_gets 39 = .ok (.goto 26, 3) := by decide +kernel
theorem dX7_gets_42 : decode cX7_gets 42 = .ok (.aload_n 0, 1) := by decide +kernel
theorem dX7_gets_43 : decode cX7_gets 43 = .ok (.getfield 7, 3) := by decide +kernel
theorem dX7_gets_46 : decode cX7_gets 46 = .ok (.iload_n 1, 1) := by decide +kernel
theorem dX7_gets_47 : decode cX7_gets 47 = .ok (.iload_n 2, 1) := by decide +kernel
theorem dX7_gets_48 : decode cX7_gets 48 = .ok (.iconst 1, 1) := by decide +kernel
theorem dX7_gets_49 : decode cX7_gets 49 = .ok (.isub, 1) := by decide +kernel
theorem dX7_gets_50 : decode cX7_gets 50 = .ok (.invokestatic 78, 3) := by decide +kernel
theorem dX7_gets_53 : decode cX7_gets 53 = .ok (.iconst 1, 1) := by decide +kernel
theorem dX7_gets_54 : decode cX7_gets 54 = .ok (.iadd, 1) := by decide +kernel
theorem dX7_gets_55 : decode cX7_gets 55 = .ok (.iaload, 1) := by decide +kernel
theorem dX7_gets_56 : decode cX7_gets 56 = .ok (.iconst 1, 1) := by decide +kernel
theorem dX7_gets_57 : decode cX7_gets 57 = .ok (.if_icmp .ne 7, 3) := by decide +kernel
theorem dX7_gets_60 : decode cX7_gets 60 = .ok (.iconst 1, 1) := by decide +kernel
theorem dX7_gets_61 : decode cX7_gets 61 = .ok (.goto 4, 3) := by decide +kernel
theorem dX7_gets_64 : decode cX7_gets 64 = .ok (.iconst 0, 1) := by decide +kernel
theorem dX7_gets_65 : decode cX7_gets 65 = .ok (.putfield 82, 3) := by decide +kernel
theorem dX7_gets_68 : decode cX7_gets 68 = .ok (.aload_n 0, 1) := by decide +kernel
theorem dX7_gets_69 : decode cX7_gets 69 = .ok (.iload_n 1, 1) := by decide +kernel
theorem dX7_gets_70 : decode cX7_gets 70 = .ok (.ifCond .ne 20, 3) := by decide +kernel
theorem dX7_gets_73 : decode cX7_gets 73 = .ok (.iload 4, 2) := by decide +kernel
theorem dX7_gets_75 : decode cX7_gets 75 = .ok (.iconst 0, 1) := by decide +kernel
theorem dX7_gets_76 : decode cX7_gets 76 = .ok (.aload_n 0, 1) := by decide +kernel
theorem dX7_gets_77 : decode cX7_gets 77 = .ok (.getfield 7, 3) := by decide +kernel
theorem dX7_gets_80 : decode cX7_gets 80 = .ok (.iconst 2, 1) := by decide +kernel
theorem dX7_gets_81 : decode cX7_gets 81 = .ok (.iaload, 1) := by decide +kernel
theorem dX7_gets_82 : decode cX7_gets 82 = .ok (.iconst 1, 1) := by decide +kernel
theorem dX7_gets_83 : decode cX7_gets 83 = .ok (.isub, 1) := by decide +kernel
theorem dX7_gets_84 : decode cX7_gets 84 = .ok (.invokestatic 33, 3) := by decide +kernel
theorem dX7_gets_87 : decode cX7_gets 87 = .ok (.goto 26, 3) := by decide +kernel
theorem dX7_gets_90 : decode cX7_gets 90 = .ok (.aload_n 0, 1) := by decide +kernel
theorem dX7_gets_91 : decode cX7_gets 91 = .ok (.getfield 7, 3) := by decide +kernel
theorem dX7_gets_94 : decode cX7_gets 94 = .ok (.iload_n 1, 1) := by decide +kernel
theorem dX7_gets_95 : decode cX7_gets 95 = .ok (.iconst 1, 1) := by decide +kernel
theorem dX7_gets_96 : decode cX7_gets 96 = .ok (.isub, 1) := by decide +kernel
theorem dX7_gets_97 : decode cX7_gets 97 = .ok (.iload_n 2, 1) := by decide +kernel
theorem dX7_gets_98 : decode cX7_gets 98 = .ok (.invokestatic 78, 3) := by decide +kernel
theorem dX7_gets_101 : decode cX7_gets 101 = .ok (.iconst 3, 1) := by decide +kernel
theorem dX7_gets_102 : decode cX7_gets 102 = .ok (.iadd, 1) := by decide +kernel
theorem dX7_gets_103 : decode cX7_gets 103 = .ok (.iaload, 1) := by decide +kernel
theorem dX7_gets_104 : decode cX7_gets 104 = .ok (.iconst 1, 1) := by decide +kernel
theorem dX7_gets_105 : decode cX7_gets 105 = .ok (.if_icmp .ne 7, 3) := by decide +kernel
theorem dX7_gets_108 : decode cX7_gets 108 = .ok (.iconst 1, 1) := by decide +kernel
theorem dX7_gets_109 : decode cX7_gets 109 = .ok (.goto 4, 3) := by decide +kernel
theorem dX7_gets_112 : decode cX7_gets 112 = .ok (.iconst 0, 1) := by decide +kernel
theorem dX7_gets_113 : decode cX7_gets 113 = .ok (.putfield 86, 3) := by decide +kernel
theorem dX7_gets_116 : decode cX7_gets 116 = .ok (.aload_n 0, 1) := by decide +kernel
theorem dX7_gets_117 : decode cX7_gets 117 = .ok (.iconst 0, 1) := by decide +kernel
theorem dX7_gets_118 : decode cX7_gets 118 = .ok (.putfield 89, 3) := by decide +kernel
theorem dX7_gets_121 : decode cX7_gets 121 = .ok (.aload_n 0, 1) := by decide +kernel
theorem dX7_gets_122 : decode cX7_gets 122 = .ok (.iconst 0, 1) := by decide +kernel
theorem dX7_gets_123 : decode cX7_gets 123 = .ok (.putfield 92, 3) := by decide +kernel
theorem dX7_gets_126 : decode cX7_gets 126 = .ok (.aload_n 0, 1) := by decide +kernel
theorem dX7_gets_127 : decode cX7_gets 127 = .ok (.getfield 82, 3) := by decide +kernel
theorem dX7_gets_130 : decode cX7_gets 130 = .ok (.ifCond .eq 57, 3) := by decide +kernel
theorem dX7_gets_133 : decode cX7_gets 133 = .ok (.aload_n 0, 1) := by decide +kernel
theorem dX7_gets_134 : decode cX7_gets 134 = .ok (.iload_n 2, 1) := by decide +kernel
theorem dX7_gets_135 : decode cX7_gets 135 = .ok (.ifCond .ne 35, 3) := by decide +kernel
theorem dX7_gets_138 : decode cX7_gets 138 = .ok (.aload_n 0, 1) := by decide +kernel
theorem dX7_gets_139 : decode cX7_gets 139 = .ok (.getfield 7, 3) := by decide +kernel
theorem dX7_gets_142 : decode cX7_gets 142 = .ok (.bipush 9, 2) := by decide +kernel
theorem dX7_gets_144 : decode cX7_gets 144 = .ok (.bipush 6, 2) := by decide +kernel
theorem dX7_gets_146 : decode cX7_gets 146 = .ok (.aload_n 0, 1) := by decide +kernel
theorem dX7_gets_147 : decode cX7_gets 147 = .ok (.getfield 7, 3) := by decide +kernel
theorem dX7_gets_150 : decode cX7_gets 150 = .ok (.iconst 0, 1) := by decide +kernel
theorem dX7_gets_151 : decode cX7_gets 151 = .ok (.iaload, 1) := by decide +kernel
theorem dX7_gets_152 : decode cX7_gets 152 = .ok (.aload_n 0, 1) := by decide +kernel
theorem dX7_gets_153 : decode cX7_gets 153 = .ok (.getfield 7, 3) := by decide +kernel
theorem dX7_gets_156 : decode cX7_gets 156 = .ok (.bipush 6, 2) := by decide +kernel
theorem dX7_gets_158 : decode cX7_gets 158 = .ok (.iaload, 1) := by decide +kernel
theorem dX7_gets_159 : decode cX7_gets 159 = .ok (.imul, 1) := by decide +kernel
theorem dX7_gets_160 : decode cX7_gets 160 = .ok (.iload_n 1, 1) := by decide +kernel
theorem dX7_gets_161 : decode cX7_gets 161 = .ok (.iadd, 1) := by decide +kernel
theorem dX7_gets_162 : decode cX7_gets 162 = .ok (.imul, 1) := by decide +kernel
theorem dX7_gets_163 : decode cX7_gets 163 = .ok (.iadd, 1) := by decide +kernel
theorem dX7_gets_164 : decode cX7_gets 164 = .ok (.iload_n 3, 1) := by decide +kernel
theorem dX7_gets_165 : decode cX7_gets 165 = .ok (.iadd, 1) := by decide +kernel
theorem dX7_gets_166 : decode cX7_gets 166 = .ok (.iaload, 1) := by decide +kernel
theorem dX7_gets_167 : decode cX7_gets 167 = .ok (.goto 17, 3) := by decide +kernel
theorem dX7_gets_170 : decode cX7_gets 170 = .ok (.aload_n 0, 1) := by decide +kernel
theorem dX7_gets_171 : decode cX7_gets 171 = .ok (.getfield 7, 3) := by decide +kernel
theorem dX7_gets_174 : decode cX7_gets 174 = .ok (.iload_n 1, 1) := by decide +kernel
theorem dX7_gets_175 : decode cX7_gets 175 = .ok (.iload_n 2, 1) := by decide +kernel
theorem dX7_gets_176 : decode cX7_gets 176 = .ok (.iconst 1, 1) := by decide +kernel
theorem dX7_gets_177 : decode cX7_gets 177 = .ok (.isub, 1) := by decide +kernel
theorem dX7_gets_178 : decode cX7_gets 178 = .ok (.invokestatic 78, 3) := by decide +kernel
theorem dX7_gets_181 : decode cX7_gets 181 = .ok (.iconst 2, 1) := by decide +kernel
theorem dX7_gets_182 : decode cX7_gets 182 = .ok (.iadd, 1) := by decide +kernel
theorem dX7_gets_183 : decode cX7_gets 183 = .ok (.iaload, 1) := by decide +kernel
theorem dX7_gets_184 : decode cX7_gets 184 = .ok (.putfield 89, 3) := by decide +kernel
theorem dX7_gets_187 : decode cX7_gets 187 = .ok (.aload_n 0, 1) := by decide +kernel
theorem dX7_gets_188 : decode cX7_gets 188 = .ok (.getfield 86, 3) := by decide +kernel
theorem dX7_gets_191 : decode cX7_gets 191 = .ok (.ifCond .eq 58, 3) := by decide +kernel
theorem dX7_gets_194 : decode cX7_gets 194 = .ok (.aload_n 0, 1) := by decide +kernel
theorem dX7_gets_195 : decode cX7_gets 195 = .ok (.iload_n 1, 1) := by decide +kernel
theorem dX7_gets_196 : decode cX7_gets 196 = .ok (.ifCond .ne 36, 3) := by decide +kernel
theorem dX7_gets_199 : decode cX7_gets 199 = .ok (.aload_n 0, 1) := by decide +kernel
theorem dX7_gets_200 : decode cX7_gets 200 = .ok (.getfield 7, 3) := by decide +kernel
theorem dX7_gets_203 : decode cX7_gets 203 = .ok (.bipush 45, 2) := by decide +kernel
theorem dX7_gets_205 : decode cX7_gets 205 = .ok (.bipush 6, 2) := by decide +kernel
theorem dX7_gets_207 : decode cX7_gets 207 = .ok (.iload 4, 2) := by decide +kernel
theorem dX7_gets_209 : decode cX7_gets 209 = .ok (.imul, 1) := by decide +kernel
theorem dX7_gets_210 : decode cX7_gets 210 = .ok (.iadd, 1) := by decide +kernel
theorem dX7_gets_211 : decode cX7_gets 211 = .ok (.aload_n 0, 1) := by decide +kernel
theorem dX7_gets_212 : decode cX7_gets 212 = .ok (.getfield 7, 3) := by decide +kernel
theorem dX7_gets_215 : decode cX7_gets 215 = .ok (.iconst 0, 1) := by decide +kernel
theorem dX7_gets_216 : decode cX7_gets 216 = .ok (.iaload, 1) := by decide +kernel
theorem dX7_gets_217 : decode cX7_gets 217 = .ok (.aload_n 0, 1) := by decide +kernel
theorem dX7_gets_218 : decode cX7_gets 218 = .ok (.getfield 7, 3) := by decide +kernel
theorem dX7_gets_221 : decode cX7_gets 221 = .ok (.bipush 7, 2) := by decide +kernel
theorem dX7_gets_223 : decode cX7_gets 223 = .ok (.iaload, 1) := by decide +kernel
theorem dX7_gets_224 : decode cX7_gets 224 = .ok (.imul, 1) := by decide +kernel
theorem dX7_gets_225 : decode cX7_gets 225 = .ok (.iadd, 1) := by decide +kernel
theorem dX7_gets_226 : decode cX7_gets 226 = .ok (.iload_n 2, 1) := by decide +kernel
theorem dX7_gets_227 : decode cX7_gets 227 = .ok (.iadd, 1) := by decide +kernel
theorem dX7_gets_228 : decode cX7_gets 228 = .ok (.iaload, 1) := by decide +kernel
theorem dX7_gets_229 : decode cX7_gets 229 = .ok (.goto 17, 3) := by decide +kernel
theorem dX7_gets_232 : decode cX7_gets 232 = .ok (.aload_n 0, 1) := by decide +kernel
theorem dX7_gets_233 : decode cX7_gets 233 = .ok (.getfield 7, 3) := by decide +kernel
theorem dX7_gets_236 : decode cX7_gets 236 = .ok (.iload_n 1, 1) := by decide +kernel
theorem dX7_gets_237 : decode cX7_gets 237 = .ok (.iconst 1, 1) := by decide +kernel
theorem dX7_gets_238 : decode cX7_gets 238 = .ok (.isub, 1) := by decide +kernel
theorem dX7_gets_239 : decode cX7_gets 239 = .ok (.iload_n 2, 1) := by decide +kernel
theorem dX7_gets_240 : decode cX7_gets 240 = .ok (.invokestatic 78, 3) := by decide +kernel
theorem dX7_gets_243 : decode cX7_gets 243 = .ok (.iconst 4, 1) := by decide +kernel
theorem dX7_gets_244 : decode cX7_gets 244 = .ok (.iadd, 1) := by decide +kernel
theorem dX7_gets_245 : decode cX7_gets 245 = .ok (.iaload, 1) := by decide +kernel
theorem dX7_gets_246 : decode cX7_gets 246 = .ok (.putfield 92, 3) := by decide +kernel
theorem dX7_gets_249 : decode cX7_gets 249 = .ok (.return_, 1) := by decide +kernel
set_option maxRecDepth 20000 in
theorem ggX7_goes_X7_tileRows : GoodIn wsX7_goes wsX7_tileRows := goodIn_r _ [10, 3, 33, 34, 35, 36, 37, 38, 39, 40, 41, 42, 43, 44, 45, 46, 47, 48] (by decide +kernel) (by decide +kernel)
set_option maxRecDepth 20000 in
theorem gX7_goes_X7_tileRows : GoodIn wsX7_goes (wsV RX7 63 RX7 yX7_tileRows wsX7_tileRows) := goodIn_app (goodIn_of _ (by decide +kernel)) ggX7_goes_X7_tileRows
set_option maxRecDepth 20000 in
theorem ggX7_goes_X7_tileColumns : GoodIn wsX7_goes wsX7_tileColumns := goodIn_r _ [14, 3, 33, 34, 35, 36, 37, 38, 39, 40, 41, 42, 43, 44, 45, 46, 47, 48] (by decide +kernel) (by decide +kernel)
set_option maxRecDepth 20000 in
theorem gX7_goes_X7_tileColumns : GoodIn wsX7_goes (wsV RX7 66 RX7 yX7_tileColumns wsX7_tileColumns) := goodIn_app (goodIn_of _ (by decide +kernel)) ggX7_goes_X7_tileColumns
set_option maxRecDepth 20000 in
theorem ggX7_goes_X7_gets : GoodIn wsX7_goes wsX7_gets := goodIn_r _ [18, 3, 1, 2, 4, 5, 19, 20, 9, 21, 22, 23, 24, 33, 34, 35, 36, 37, 38, 39, 40, 41, 42, 43, 44, 45, 46, 47, 48] (by decide +kernel) (by decide +kernel)
set_option maxRecDepth 20000 in
theorem gX7_goes_X7_gets : GoodIn wsX7_goes (wsV RX7 95 RX7 yX7_gets wsX7_gets) := goodIn_app (goodIn_of _ (by decide +kernel)) ggX7_goes_X7_gets
set_option maxRecDepth 20000 in
theorem ggX7_goes_X7_cell : GoodIn wsX7_goes wsX7_cell := goodIn_r _ [24] (by decide +kernel) (by decide +kernel)
set_option maxRecDepth 20000 in
theorem gX7_goes_X7_cell : GoodIn wsX7_goes (va_wsS RX7 78 yX7_cell wsX7_cell) := goodIn_app (goodIn_of _ (by decide +kernel)) ggX7_goes_X7_cell
set_option maxRecDepth 20000 in
theorem ggX7_goes_X7_faultOf : GoodIn wsX7_goes wsX7_faultOf := goodIn_r _ [28, 3, 29, 30, 31, 9, 32, 33, 34, 35, 36, 37, 38, 39, 40, 41, 42, 43, 44, 45, 46, 47, 48] (by decide +kernel) (by decide +kernel)
set_option maxRecDepth 20000 in
theorem gX7_goes_X7_faultOf : GoodIn wsX7_goes (wsV RX7 98 RX7 yX7_faultOf wsX7_faultOf) := goodIn_app (goodIn_of _ (by decide +kernel)) ggX7_goes_X7_faultOf
theorem dX7_goes_0 : decode cX7_goes 0 = .ok (.aload_n 0, 1) := by decide +kernel
theorem dX7_goes_1 : decode cX7_goes 1 = .ok (.invokevirtual 63, 3) := by decide +kernel
theorem dX7_goes_4 : decode cX7_goes 4 = .ok (.iconst 1, 1) := by decide +kernel
theorem dX7_goes_5 : decode cX7_goes 5 = .ok (.isub, 1) := by decide +kernel
theorem dX7_goes_6 : decode cX7_goes 6 = .ok (.istore_n 1, 1) := by decide +kernel
theorem dX7_goes_7 : decode cX7_goes 7 = .ok (.iload_n 1, 1) := by decide +kernel
theorem dX7_goes_8 : decode cX7_goes 8 = .ok (.ifCond .lt 198, 3) := by decide +kernel
theorem dX7_goes_11 : decode cX7_goes 11 = .ok (.aload_n 0, 1) := by decide +kernel
theorem dX7_goes_12 : decode cX7_goes 12 = .ok (.invokevirtual 66, 3) := by decide +kernel
theorem dX7_goes_15 : decode cX7_goes 15 = .ok (.iconst 1, 1) := by decide +kernel
theorem dX7_goes_16 : decode cX7_goes 16 = .ok (.isub, 1) := by decide +kernel
theorem dX7_goes_17 : decode cX7_goes 17 = .ok (.istore_n 2, 1) := by decide +kernel
theorem dX7_goes_18 : decode cX7_goes 18 = .ok (.iload_n 2, 1) := by decide +kernel
theorem dX7_goes_19 : decode cX7_goes 19 = .ok (.ifCond .lt 181, 3) := by decide +kernel
theorem dX7_goes_22 : decode cX7_goes 22 = .ok (.aload_n 0, 1) := by decide +kernel
theorem dX7_goes_23 : decode cX7_goes 23 = .ok (.iload_n 1, 1) := by decide +kernel
theorem dX7_goes_24 : decode cX7_goes 24 = .ok (.iload_n 2, 1) := by decide +kernel
theorem dX7_goes_25 : decode cX7_goes 25 = .ok (.invokevirtual 95, 3) := by decide +kernel
theorem dX7_goes_28 : decode cX7_goes 28 = .ok (.iload_n 1, 1) := by decide +kernel
theorem dX7_goes_29 : decode cX7_goes 29 = .ok (.iload_n 2, 1) := by decide +kernel
theorem dX7_goes_30 : decode cX7_goes 30 = .ok (.invokestatic 78, 3) := by decide +kernel
theorem dX7_goes_33 : decode cX7_goes 33 = .ok (.istore_n 3, 1) := by decide +kernel
theorem dX7_goes_34 : decode cX7_goes 34 = .ok (.aload_n 0, 1) := by decide +kernel
theorem dX7_goes_35 : decode cX7_goes 35 = .ok (.iload_n 1, 1) := by decide +kernel
theorem dX7_goes_36 : decode cX7_goes 36 = .ok (.iload_n 2, 1) := by decide +kernel
theorem dX7_goes_37 : decode cX7_goes 37 = .ok (.invokevirtual 98, 3) := by decide +kernel
theorem dX7_goes_40 : decode cX7_goes 40 = .ok (.istore 4, 2) := by decide +kernel
theorem dX7_goes_42 : decode cX7_goes 42 = .ok (.aload_n 0, 1) := by decide +kernel
theorem dX7_goes_43 : decode cX7_goes 43 = .ok (.getfield 82, 3) := by decide +kernel
theorem dX7_goes_46 : decode cX7_goes 46 = .ok (.ifCond .eq 64, 3) := by decide +kernel
theorem dX7_goes_49 : decode cX7_goes 49 = .ok (.aload_n 0, 1) := by decide +kernel
theorem dX7_goes_50 : decode cX7_goes 50 = .ok (.getfield 86, 3) := by decide +kernel
theorem dX7_goes_53 : decode cX7_goes 53 = .ok (.ifCond .eq 57, 3) := by decide +kernel
theorem dX7_goes_56 : decode cX7_goes 56 = .ok (.aload_n 0, 1) := by decide +kernel
theorem dX7_goes_57 : decode cX7_goes 57 = .ok (.getfield 7, 3) := by decide +kernel
theorem dX7_goes_60 : decode cX7_goes 60 = .ok (.iload_n 3, 1) := by decide +kernel
theorem dX7_goes_61 : decode cX7_goes 61 = .ok (.iconst 0, 1) := by decide +kernel
theorem dX7_goes_62 : decode cX7_goes 62 = .ok (.iadd, 1) := by decide +kernel
theorem dX7_goes_63 : decode cX7_goes 63 = .ok (.dup2, 1) := by decide +kernel
theorem dX7_goes_64 : decode cX7_goes 64 = .ok (.iaload, 1) := by decide +kernel
theorem dX7_goes_65 : decode cX7_goes 65 = .ok (.aload_n 0, 1) := by decide +kernel
theorem dX7_goes_66 : decode cX7_goes 66 = .ok (.getfield 89, 3) := by decide +kernel
theorem dX7_goes_69 : decode cX7_goes 69 = .ok (.aload_n 0, 1) := by decide +kernel
theorem dX7_goes_70 : decode cX7_goes 70 = .ok (.getfield 92, 3) := by decide +kernel
theorem dX7_goes_73 : decode cX7_goes 73 = .ok (.imul, 1) := by decide +kernel
theorem dX7_goes_74 : decode cX7_goes 74 = .ok (.iload 4, 2) := by decide +kernel
theorem dX7_goes_76 : decode cX7_goes 76 = .ok (.iconst 1, 1) := by decide +kernel
theorem dX7_goes_77 : decode cX7_goes 77 = .ok (.if_icmp .ne 7, 3) := by decide +kernel
theorem dX7_goes_80 : decode cX7_goes 80 = .ok (.iconst 0, 1) := by decide +kernel
theorem dX7_goes_81 : decode cX7_goes 81 = .ok (.goto 14, 3) := by decide +kernel
theorem dX7_goes_84 : decode cX7_goes 84 = .ok (.iload 4, 2) := by decide +kernel
theorem dX7_goes_86 : decode cX7_goes 86 = .ok (.iconst 2, 1) := by decide +kernel
theorem dX7_goes_87 : decode cX7_goes 87 = .ok (.if_icmp .ne 7, 3) := by decide +kernel
theorem dX7_goes_90 : decode cX7_goes 90 = .ok (.iconst 2, 1) := by decide +kernel
theorem dX7_goes_91 : decode cX7_goes 91 = .ok (.goto 4, 3) := by decide +kernel
theorem dX7_goes_94 : decode cX7_goes 94 = .ok (.iconst 1, 1) := by decide +kernel
theorem dX7_goes_95 : decode cX7_goes 95 = .ok (.imul, 1) := by decide +kernel
theorem dX7_goes_96 : decode cX7_goes 96 = .ok (.iadd, 1) := by decide +kernel
theorem dX7_goes_97 : decode cX7_goes 97 = .ok (.iastore, 1) := by decide +kernel
theorem dX7_goes_98 : decode cX7_goes 98 = .ok (.aload_n 0, 1) := by decide +kernel
theorem dX7_goes_99 : decode cX7_goes 99 = .ok (.getfield 7, 3) := by decide +kernel
theorem dX7_goes_102 : decode cX7_goes 102 = .ok (.iload_n 3, 1) := by decide +kernel
theorem dX7_goes_103 : decode cX7_goes 103 = .ok (.iconst 5, 1) := by decide +kernel
theorem dX7_goes_104 : decode cX7_goes 104 = .ok (.iadd, 1) := by decide +kernel
theorem dX7_goes_105 : decode cX7_goes 105 = .ok (.dup2, 1) := by decide +kernel
theorem dX7_goes_106 : decode cX7_goes 106 = .ok (.iaload, 1) := by decide +kernel
theorem dX7_goes_107 : decode cX7_goes 107 = .ok (.iconst 1, 1) := by decide +kernel
theorem dX7_goes_108 : decode cX7_goes 108 = .ok (.iadd, 1) := by decide +kernel
theorem dX7_goes_109 : decode cX7_goes 109 = .ok (.iastore, 1) := by decide +kernel
theorem dX7_goes_110 : decode cX7_goes 110 = .ok (.aload_n 0, 1) := by decide +kernel
theorem dX7_goes_111 : decode cX7_goes 111 = .ok (.getfield 7, 3) := by decide +kernel
theorem dX7_goes_114 : decode cX7_goes 114 = .ok (.iload_n 3, 1) := by decide +kernel
theorem dX7_goes_115 : decode cX7_goes 115 = .ok (.iconst 1, 1) := by decide +kernel
theorem dX7_goes_116 : decode cX7_goes 116 = .ok (.iadd, 1) := by decide +kernel
theorem dX7_goes_117 : decode cX7_goes 117 = .ok (.aload_n 0, 1) := by decide +kernel
theorem dX7_goes_118 : decode cX7_goes 118 = .ok (.getfield 82, 3) := by decide +kernel
theorem dX7_goes_121 : decode cX7_goes 121 = .ok (.ifCond .eq 7, 3) := by decide +kernel
theorem dX7_goes_124 : decode cX7_goes 124 = .ok (.iconst 1, 1) := by decide +kernel
theorem dX7_goes_125 : decode cX7_goes 125 = .ok (.goto 4, 3) := by decide +kernel
theorem dX7_goes_128 : decode cX7_goes 128 = .ok (.iconst 0, 1) := by decide +kernel
theorem dX7_goes_129 : decode cX7_goes 129 = .ok (.iastore, 1) := by decide +kernel
theorem dX7_goes_130 : decode cX7_goes 130 = .ok (.aload_n 0, 1) := by decide +kernel
theorem dX7_goes_131 : decode cX7_goes 131 = .ok (.getfield 7, 3) := by decide +kernel
theorem dX7_goes_134 : decode cX7_goes 134 = .ok (.iload_n 3, 1) := by decide +kernel
theorem dX7_goes_135 : decode cX7_goes 135 = .ok (.iconst 2, 1) := by decide +kernel
theorem dX7_goes_136 : decode cX7_goes 136 = .ok (.iadd, 1) := by decide +kernel
theorem dX7_goes_137 : decode cX7_goes 137 = .ok (.iload 4, 2) := by decide +kernel
theorem dX7_goes_139 : decode cX7_goes 139 = .ok (.iconst 3, 1) := by decide +kernel
theorem dX7_goes_140 : decode cX7_goes 140 = .ok (.if_icmp .ne 7, 3) := by decide +kernel
theorem dX7_goes_143 : decode cX7_goes 143 = .ok (.iconst 0, 1) := by decide +kernel
theorem dX7_goes_144 : decode cX7_goes 144 = .ok (.goto 7, 3) := by decide +kernel
theorem dX7_goes_147 : decode cX7_goes 147 = .ok (.aload_n 0, 1) := by decide +kernel
theorem dX7_goes_148 : decode cX7_goes 148 = .ok (.getfield 89, 3) := by decide +kernel
theorem dX7_goes_151 : decode cX7_goes 151 = .ok (.iastore, 1) := by decide +kernel
theorem dX7_goes_152 : decode cX7_goes 152 = .ok (.aload_n 0, 1) := by decide +kernel
theorem dX7_goes_153 : decode cX7_goes 153 = .ok (.getfield 7, 3) := by decide +kernel
theorem dX7_goes_156 : decode cX7_goes 156 = .ok (.iload_n 3, 1) := by decide +kernel
theorem dX7_goes_157 : decode cX7_goes 157 = .ok (.iconst 3, 1) := by decide +kernel
theorem dX7_goes_158 : decode cX7_goes 158 = .ok (.iadd, 1) := by decide +kernel
theorem dX7_goes_159 : decode cX7_goes 159 = .ok (.aload_n 0, 1) := by decide +kernel
theorem dX7_goes_160 : decode cX7_goes 160 = .ok (.getfield 86, 3) := by decide +kernel
theorem dX7_goes_163 : decode cX7_goes 163 = .ok (.ifCond .eq 7, 3) := by decide +kernel
theorem dX7_goes_166 : decode cX7_goes 166 = .ok (.iconst 1, 1) := by decide +kernel
theorem dX7_goes_167 : decode cX7_goes 167 = .ok (.goto 4, 3) := by decide +kernel
theorem dX7_goes_170 : decode cX7_goes 170 = .ok (.iconst 0, 1) := by decide +kernel
theorem dX7_goes_171 : decode cX7_goes 171 = .ok (.iastore, 1) := by decide +kernel
theorem dX7_goes_172 : decode cX7_goes 172 = .ok (.aload_n 0, 1) := by decide +kernel
theorem dX7_goes_173 : decode cX7_goes 173 = .ok (.getfield 7, 3) := by decide +kernel
theorem dX7_goes_176 : decode cX7_goes 176 = .ok (.iload_n 3, 1) := by decide +kernel
theorem dX7_goes_177 : decode cX7_goes 177 = .ok (.iconst 4, 1) := by decide +kernel
theorem dX7_goes_178 : decode cX7_goes 178 = .ok (.iadd, 1) := by decide +kernel
theorem dX7_goes_179 : decode cX7_goes 179 = .ok (.iload 4, 2) := by decide +kernel
theorem dX7_goes_181 : decode cX7_goes 181 = .ok (.iconst 4, 1) := by decide +kernel
theorem dX7_goes_182 : decode cX7_goes 182 = .ok (.if_icmp .ne 7, 3) := by decide +kernel
theorem dX7_goes_185 : decode cX7_goes 185 = .ok (.iconst 0, 1) := by decide +kernel
theorem dX7_goes_186 : decode cX7_goes 186 = .ok (.goto 7, 3) := by decide +kernel
theorem dX7_goes_189 : decode cX7_goes 189 = .ok (.aload_n 0, 1) := by decide +kernel
theorem dX7_goes_190 : decode cX7_goes 190 = .ok (.getfield 92, 3) := by decide +kernel
theorem dX7_goes_193 : decode cX7_goes 193 = .ok (.iastore, 1) := by decide +kernel
theorem dX7_goes_194 : decode cX7_goes 194 = .ok (.iinc 2 (-1), 3) := by decide +kernel
theorem dX7_goes_197 : decode cX7_goes 197 = .ok (.goto (-179), 3) := by decide +kernel
theorem dX7_goes_200 : decode cX7_goes 200 = .ok (.iinc 1 (-1), 3) := by decide +kernel
theorem dX7_goes_203 : decode cX7_goes 203 = .ok (.goto (-196), 3) := by decide +kernel
theorem dX7_goes_206 : decode cX7_goes 206 = .ok (.aload_n 0, 1) := by decide +kernel
theorem dX7_goes_207 : decode cX7_goes 207 = .ok (.getfield 7, 3) := by decide +kernel
theorem dX7_goes_210 : decode cX7_goes 210 = .ok (.bipush 8, 2) := by decide +kernel
theorem dX7_goes_212 : decode cX7_goes 212 = .ok (.dup2, 1) := by decide +kernel
theorem dX7_goes_213 : decode cX7_goes 213 = .ok (.iaload, 1) := by decide +kernel
theorem dX7_goes_214 : decode cX7_goes 214 = .ok (.iconst 1, 1) := by decide +kernel
theorem dX7_goes_215 : decode cX7_goes 215 = .ok (.iadd, 1) := by decide +kernel
theorem dX7_goes_216 : decode cX7_goes 216 = .ok (.iastore, 1) := by decide +kernel
theorem dX7_goes_217 : decode cX7_goes 217 = .ok (.return_, 1) := by decide +kernel
set_option maxRecDepth 20000 in
theorem ggX7_isDone_X7_ticks : GoodIn wsX7_isDone wsX7_ticks := goodIn_r _ [6, 1, 7, 8, 9, 5, 10, 11, 12, 13, 14, 15, 16, 17, 18, 19, 20, 21, 22, 23, 24, 25, 26, 27, 28, 29, 30] (by decide +kernel) (by decide +kernel)
set_option maxRecDepth 20000 in
theorem gX7_isDone_X7_ticks : GoodIn wsX7_isDone (wsV RX7 72 RX7 yX7_ticks wsX7_ticks) := goodIn_app (goodIn_of _ (by decide +kernel)) ggX7_isDone_X7_ticks
theorem dX7_isDone_0 : decode cX7_isDone 0 = .ok (.aload_n 0, 1) := by decide +kernel
theorem dX7_isDone_1 : decode cX7_isDone 1 = .ok (.getfield 7, 3) := by decide +kernel
theorem dX7_isDone_4 : decode cX7_isDone 4 = .ok (.bipush 8, 2) := by decide +kernel
theorem dX7_isDone_6 : decode cX7_isDone 6 = .ok (.iaload, 1) := by decide +kernel
theorem dX7_isDone_7 : decode cX7_isDone 7 = .ok (.aload_n 0, 1) := by decide +kernel
theorem dX7_isDone_8 : decode cX7_isDone 8 = .ok (.invokevirtual 72, 3) := by decide +kernel
theorem dX7_isDone_11 : decode cX7_isDone 11 = .ok (.if_icmp .ne 7, 3) := by decide +kernel
theorem dX7_isDone_14 : decode cX7_isDone 14 = .ok (.iconst 1, 1) := by decide +kernel
theorem dX7_isDone_15 : decode cX7_isDone 15 = .ok (.goto 4, 3) := by decide +kernel
theorem dX7_isDone_18 : decode cX7_isDone 18 = .ok (.iconst 0, 1) := by decide +kernel
theorem dX7_isDone_19 : decode cX7_isDone 19 = .ok (.ireturn, 1) := by decide +kernel
set_option maxRecDepth 20000 in
theorem ggX7_tick_X7_in : GoodIn wsX7_tick wsX7_in := goodIn_r _ [7] (by decide +kernel) (by decide +kernel)
set_option maxRecDepth 20000 in
theorem gX7_tick_X7_in : GoodIn wsX7_tick (va_wsS RX7 33 yX7_in wsX7_in) := goodIn_app (goodIn_of _ (by decide +kernel)) ggX7_tick_X7_in
set_option maxRecDepth 20000 in
theorem ggX7_tick_X7_isDone : GoodIn wsX7_tick wsX7_isDone := goodIn_r _ [11, 2, 12, 13, 14, 6, 15, 16, 17, 18, 19, 20, 21, 22, 23, 53, 54, 55, 56, 57, 58, 59, 60, 61, 62, 63, 64, 65, 66, 67, 68] (by decide +kernel) (by decide +kernel)
set_option maxRecDepth 20000 in
theorem gX7_tick_X7_isDone : GoodIn wsX7_tick (wsV RX7 101 RX7 yX7_isDone wsX7_isDone) := goodIn_app (goodIn_of _ (by decide +kernel)) ggX7_tick_X7_isDone
set_option maxRecDepth 20000 in
theorem ggX7_tick_X7_changes : GoodIn wsX7_tick wsX7_changes := goodIn_r _ [27, 28, 29, 2, 53, 54, 55, 56, 57, 58, 59, 60, 61, 62, 63, 64, 65, 66, 67, 68] (by decide +kernel) (by decide +kernel)
set_option maxRecDepth 20000 in
theorem gX7_tick_X7_changes : GoodIn wsX7_tick (wsV RX7 38 RX7 yX7_changes wsX7_changes) := goodIn_app (goodIn_of _ (by decide +kernel)) ggX7_tick_X7_changes
set_option maxRecDepth 20000 in
theorem ggX7_tick_X7_goes : GoodIn wsX7_tick wsX7_goes := goodIn_r _ [33, 34, 35, 2, 36, 37, 16, 17, 18, 6, 19, 20, 21, 22, 23, 38, 39, 40, 41, 4, 5, 7, 42, 43, 44, 45, 46, 47, 48, 49, 50, 51, 52, 53, 54, 55, 56, 57, 58, 59, 60, 61, 62, 63, 64, 65, 66, 67, 68] (by decide +kernel) (by decide +kernel)
set_option maxRecDepth 20000 in
theorem gX7_tick_X7_goes : GoodIn wsX7_tick (wsV RX7 105 RX7 yX7_goes wsX7_goes) := goodIn_app (goodIn_of _ (by decide +kernel)) ggX7_tick_X7_goes
set_option maxRecDepth 20000 in
theorem ggX7_tick_X7_ticks : GoodIn wsX7_tick wsX7_ticks := goodIn_r _ [15, 2, 16, 17, 18, 6, 19, 20, 21, 22, 23, 53, 54, 55, 56, 57, 58, 59, 60, 61, 62, 63, 64, 65, 66, 67, 68] (by decide +kernel) (by decide +kernel)
set_option maxRecDepth 20000 in
theorem gX7_tick_X7_ticks : GoodIn wsX7_tick (wsV RX7 72 RX7 yX7_ticks wsX7_ticks) := goodIn_app (goodIn_of _ (by decide +kernel)) ggX7_tick_X7_ticks
theorem dX7_tick_0 : decode cX7_tick 0 = .ok (.iload_n 1, 1) := by decide +kernel
theorem dX7_tick_1 : decode cX7_tick 1 = .ok (.iconst 1, 1) := by decide +kernel
theorem dX7_tick_2 : decode cX7_tick 2 = .ok (.bipush 20, 2) := by decide +kernel
theorem dX7_tick_4 : decode cX7_tick 4 = .ok (.invokestatic 33, 3) := by decide +kernel
theorem dX7_tick_7 : decode cX7_tick 7 = .ok (.ifCond .ne 6, 3) := by decide +kernel
theorem dX7_tick_10 : decode cX7_tick 10 = .ok (.ldc 37, 2) := by decide +kernel
theorem dX7_tick_12 : decode cX7_tick 12 = .ok (.ireturn, 1) := by decide +kernel
theorem dX7_tick_13 : decode cX7_tick 13 = .ok (.aload_n 0, 1) := by decide +kernel
theorem dX7_tick_14 : decode cX7_tick 14 = .ok (.getfield 7, 3) := by decide +kernel
theorem dX7_tick_17 : decode cX7_tick 17 = .ok (.iconst 5, 1) := by decide +kernel
theorem dX7_tick_18 : decode cX7_tick 18 = .ok (.iaload, 1) := by decide +kernel
theorem dX7_tick_19 : decode cX7_tick 19 = .ok (.ifCond .eq 10, 3) := by decide +kernel
theorem dX7_tick_22 : decode cX7_tick 22 = .ok (.aload_n 0, 1) := by decide +kernel
theorem dX7_tick_23 : decode cX7_tick 23 = .ok (.invokevirtual 101, 3) := by decide +kernel
theorem dX7_tick_26 : decode cX7_tick 26 = .ok (.ifCond .eq 6, 3) := by decide +kernel
theorem dX7_tick_29 : decode cX7_tick 29 = .ok (.ldc 58, 2) := by decide +kernel
theorem dX7_tick_31 : decode cX7_tick 31 = .ok (.ireturn, 1) := by decide +kernel
theorem dX7_tick_32 : decode cX7_tick 32 = .ok (.aload_n 0, 1) := by decide +kernel
theorem dX7_tick_33 : decode cX7_tick 33 = .ok (.invokevirtual 38, 3) := by decide +kernel
theorem dX7_tick_36 : decode cX7_tick 36 = .ok (.iconst 0, 1) := by decide +kernel
theorem dX7_tick_37 : decode cX7_tick 37 = .ok (.istore_n 2, 1) := by decide +kernel
theorem dX7_tick_38 : decode cX7_tick 38 = .ok (.iload_n 2, 1) := by decide +kernel
theorem dX7_tick_39 : decode cX7_tick 39 = .ok (.iload_n 1, 1) := by decide +kernel
theorem dX7_tick_40 : decode cX7_tick 40 = .ok (.if_icmp .ge 20, 3) := by decide +kernel
theorem dX7_tick_43 : decode cX7_tick 43 = .ok (.aload_n 0, 1) := by decide +kernel
theorem dX7_tick_44 : decode cX7_tick 44 = .ok (.invokevirtual 101, 3) := by decide +kernel
theorem dX7_tick_47 : decode cX7_tick 47 = .ok (.ifCond .ne 13, 3) := by decide +kernel
theorem dX7_tick_50 : decode cX7_tick 50 = .ok (.aload_n 0, 1) := by decide +kernel
theorem dX7_tick_51 : decode cX7_tick 51 = .ok (.invokevirtual 105, 3) := by decide +kernel
theorem dX7_tick_54 : decode cX7_tick 54 = .ok (.iinc 2 1, 3) := by decide +kernel
theorem dX7_tick_57 : decode cX7_tick 57 = .ok (.goto (-19), 3) := by decide +kernel
theorem dX7_tick_60 : decode cX7_tick 60 = .ok (.aload_n 0, 1) := by decide +kernel
theorem dX7_tick_61 : decode cX7_tick 61 = .ok (.invokevirtual 72, 3) := by decide +kernel
theorem dX7_tick_64 : decode cX7_tick 64 = .ok (.aload_n 0, 1) := by decide +kernel
theorem dX7_tick_65 : decode cX7_tick 65 = .ok (.getfield 7, 3) := by decide +kernel
theorem dX7_tick_68 : decode cX7_tick 68 = .ok (.bipush 8, 2) := by decide +kernel
theorem dX7_tick_70 : decode cX7_tick 70 = .ok (.iaload, 1) := by decide +kernel
theorem dX7_tick_71 : decode cX7_tick 71 = .ok (.isub, 1) := by decide +kernel
theorem dX7_tick_72 : decode cX7_tick 72 = .ok (.ireturn, 1) := by decide +kernel
set_option maxRecDepth 20000 in
theorem ggX7_drains_X7_tileRows : GoodIn wsX7_drains wsX7_tileRows := goodIn_r _ [6, 1, 14, 15, 16, 17, 18, 19, 20, 21, 22, 23, 24, 25, 26, 27, 28, 29] (by decide +kernel) (by decide +kernel)
set_option maxRecDepth 20000 in
theorem gX7_drains_X7_tileRows : GoodIn wsX7_drains (wsV RX7 63 RX7 yX7_tileRows wsX7_tileRows) := goodIn_app (goodIn_of _ (by decide +kernel)) ggX7_drains_X7_tileRows
set_option maxRecDepth 20000 in
theorem ggX7_drains_X7_tileColumns : GoodIn wsX7_drains wsX7_tileColumns := goodIn_r _ [10, 1, 14, 15, 16, 17, 18, 19, 20, 21, 22, 23, 24, 25, 26, 27, 28, 29] (by decide +kernel) (by decide +kernel)
set_option maxRecDepth 20000 in
theorem gX7_drains_X7_tileColumns : GoodIn wsX7_drains (wsV RX7 66 RX7 yX7_tileColumns wsX7_tileColumns) := goodIn_app (goodIn_of _ (by decide +kernel)) ggX7_drains_X7_tileColumns
set_option maxRecDepth 20000 in
theorem ggX7_drains_X7_cell : GoodIn wsX7_drains wsX7_cell := goodIn_r _ [13] (by decide +kernel) (by decide +kernel)
set_option maxRecDepth 20000 in
theorem gX7_drains_X7_cell : GoodIn wsX7_drains (va_wsS RX7 78 yX7_cell wsX7_cell) := goodIn_app (goodIn_of _ (by decide +kernel)) ggX7_drains_X7_cell
theorem dX7_drains_0 : decode cX7_drains 0 = .ok (.iconst 0, 1) := by decide +kernel
theorem dX7_drains_1 : decode cX7_drains 1 = .ok (.istore_n 1, 1) := by decide +kernel
theorem dX7_drains_2 : decode cX7_drains 2 = .ok (.iload_n 1, 1) := by decide +kernel
theorem dX7_drains_3 : decode cX7_drains 3 = .ok (.aload_n 0, 1) := by decide +kernel
theorem dX7_drains_4 : decode cX7_drains 4 = .ok (.invokevirtual 63, 3) := by decide +kernel
theorem dX7_drains_7 : decode cX7_drains 7 = .ok (.if_icmp .ge 93, 3) := by decide +kernel
theorem dX7_drains_10 : decode cX7_drains 10 = .ok (.iconst 0, 1) := by decide +kernel
theorem dX7_drains_11 : decode cX7_drains 11 = .ok (.istore_n 2, 1) := by decide +kernel
theorem dX7_drains_12 : decode cX7_drains 12 = .ok (.iload_n 2, 1) := by decide +kernel
theorem dX7_drains_13 : decode cX7_drains 13 = .ok (.aload_n 0, 1) := by decide +kernel
theorem dX7_drains_14 : decode cX7_drains 14 = .ok (.invokevirtual 66, 3) := by decide +kernel
theorem dX7_drains_17 : decode cX7_drains 17 = .ok (.if_icmp .ge 77, 3) := by decide +kernel
theorem dX7_drains_20 : decode cX7_drains 20 = .ok (.bipush 6, 2) := by decide +kernel
theorem dX7_drains_22 : decode cX7_drains 22 = .ok (.aload_n 0, 1) := by decide +kernel
theorem dX7_drains_23 : decode cX7_drains 23 = .ok (.getfield 7, 3) := by decide +kernel
theorem dX7_drains_26 : decode cX7_drains 26 = .ok (.iconst 0, 1) := by decide +kernel
theorem dX7_drains_27 : decode cX7_drains 27 = .ok (.iaload, 1) := by decide +kernel
theorem dX7_drains_28 : decode cX7_drains 28 = .ok (.aload_n 0, 1) := by decide +kernel
theorem dX7_drains_29 : decode cX7_drains 29 = .ok (.getfield 7, 3) := by decide +kernel
theorem dX7_drains_32 : decode cX7_drains 32 = .ok (.bipush 6, 2) := by decide +kernel
theorem dX7_drains_34 : decode cX7_drains 34 = .ok (.iaload, 1) := by decide +kernel
theorem dX7_drains_35 : decode cX7_drains 35 = .ok (.imul, 1) := by decide +kernel
theorem dX7_drains_36 : decode cX7_drains 36 = .ok (.iload_n 1, 1) := by decide +kernel
theorem dX7_drains_37 : decode cX7_drains 37 = .ok (.iadd, 1) := by decide +kernel
theorem dX7_drains_38 : decode cX7_drains 38 = .ok (.imul, 1) := by decide +kernel
theorem dX7_drains_39 : decode cX7_drains 39 = .ok (.aload_n 0, 1) := by decide +kernel
theorem dX7_drains_40 : decode cX7_drains 40 = .ok (.getfield 7, 3) := by decide +kernel
theorem dX7_drains_43 : decode cX7_drains 43 = .ok (.iconst 0, 1) := by decide +kernel
theorem dX7_drains_44 : decode cX7_drains 44 = .ok (.iaload, 1) := by decide +kernel
theorem dX7_drains_45 : decode cX7_drains 45 = .ok (.aload_n 0, 1) := by decide +kernel
theorem dX7_drains_46 : decode cX7_drains 46 = .ok (.getfield 7, 3) := by decide +kernel
theorem dX7_drains_49 : decode cX7_drains 49 = .ok (.bipush 7, 2) := by decide +kernel
theorem dX7_drains_51 : decode cX7_drains 51 = .ok (.iaload, 1) := by decide +kernel
theorem dX7_drains_52 : decode cX7_drains 52 = .ok (.imul, 1) := by decide +kernel
theorem dX7_drains_53 : decode cX7_drains 53 = .ok (.iadd, 1) := by decide +kernel
theorem dX7_drains_54 : decode cX7_drains 54 = .ok (.iload_n 2, 1) := by decide +kernel
theorem dX7_drains_55 : decode cX7_drains 55 = .ok (.iadd, 1) := by decide +kernel
theorem dX7_drains_56 : decode cX7_drains 56 = .ok (.istore_n 3, 1) := by decide +kernel
theorem dX7_drains_57 : decode cX7_drains 57 = .ok (.aload_n 0, 1) := by decide +kernel
theorem dX7_drains_58 : decode cX7_drains 58 = .ok (.getfield 7, 3) := by decide +kernel
theorem dX7_drains_61 : decode cX7_drains 61 = .ok (.bipush 81, 2) := by decide +kernel
theorem dX7_drains_63 : decode cX7_drains 63 = .ok (.iload_n 3, 1) := by decide +kernel
theorem dX7_drains_64 : decode cX7_drains 64 = .ok (.iadd, 1) := by decide +kernel
theorem dX7_drains_65 : decode cX7_drains 65 = .ok (.aload_n 0, 1) := by decide +kernel
theorem dX7_drains_66 : decode cX7_drains 66 = .ok (.getfield 7, 3) := by decide +kernel
theorem dX7_drains_69 : decode cX7_drains 69 = .ok (.iload_n 1, 1) := by decide +kernel
theorem dX7_drains_70 : decode cX7_drains 70 = .ok (.iload_n 2, 1) := by decide +kernel
theorem dX7_drains_71 : decode cX7_drains 71 = .ok (.invokestatic 78, 3) := by decide +kernel
theorem dX7_drains_74 : decode cX7_drains 74 = .ok (.iconst 0, 1) := by decide +kernel
theorem dX7_drains_75 : decode cX7_drains 75 = .ok (.iadd, 1) := by decide +kernel
theorem dX7_drains_76 : decode cX7_drains 76 = .ok (.iaload, 1) := by decide +kernel
theorem dX7_drains_77 : decode cX7_drains 77 = .ok (.iastore, 1) := by decide +kernel
theorem dX7_drains_78 : decode cX7_drains 78 = .ok (.aload_n 0, 1) := by decide +kernel
theorem dX7_drains_79 : decode cX7_drains 79 = .ok (.getfield 7, 3) := by decide +kernel
theorem dX7_drains_82 : decode cX7_drains 82 = .ok (.bipush 117, 2) := by decide +kernel
theorem dX7_drains_84 : decode cX7_drains 84 = .ok (.iload_n 3, 1) := by decide +kernel
theorem dX7_drains_85 : decode cX7_drains 85 = .ok (.iadd, 1) := by decide +kernel
theorem dX7_drains_86 : decode cX7_drains 86 = .ok (.iconst 1, 1) := by decide +kernel
theorem dX7_drains_87 : decode cX7_drains 87 = .ok (.iastore, 1) := by decide +kernel
theorem dX7_drains_88 : decode cX7_drains 88 = .ok (.iinc 2 1, 3) := by decide +kernel
theorem dX7_drains_91 : decode cX7_drains 91 = .ok (.goto (-79), 3) := by decide +kernel
theorem dX7_drains_94 : decode cX7_drains 94 = .ok (.iinc 1 1, 3) := by decide +kernel
theorem dX7_drains_97 : decode cX7_drains 97 = .ok (.goto (-95), 3) := by decide +kernel
theorem dX7_drains_100 : decode cX7_drains 100 = .ok (.aload_n 0, 1) := by decide +kernel
theorem dX7_drains_101 : decode cX7_drains 101 = .ok (.getfield 7, 3) := by decide +kernel
theorem dX7_drains_104 : decode cX7_drains 104 = .ok (.iconst 5, 1) := by decide +kernel
theorem dX7_drains_105 : decode cX7_drains 105 = .ok (.iconst 0, 1) := by decide +kernel
theorem dX7_drains_106 : decode cX7_drains 106 = .ok (.iastore, 1) := by decide +kernel
theorem dX7_drains_107 : decode cX7_drains 107 = .ok (.return_, 1) := by decide +kernel
theorem dX7_known_0 : decode cX7_known 0 = .ok (.iconst 0, 1) := by decide +kernel
theorem dX7_known_1 : decode cX7_known 1 = .ok (.istore_n 1, 1) := by decide +kernel
theorem dX7_known_2 : decode cX7_known 2 = .ok (.iconst 0, 1) := by decide +kernel
theorem dX7_known_3 : decode cX7_known 3 = .ok (.istore_n 2, 1) := by decide +kernel
theorem dX7_known_4 : decode cX7_known 4 = .ok (.iload_n 2, 1) := by decide +kernel
theorem dX7_known_5 : decode cX7_known 5 = .ok (.bipush 36, 2) := by decide +kernel
theorem dX7_known_7 : decode cX7_known 7 = .ok (.if_icmp .ge 21, 3) := by decide +kernel
theorem dX7_known_10 : decode cX7_known 10 = .ok (.iload_n 1, 1) := by decide +kernel
theorem dX7_known_11 : decode cX7_known 11 = .ok (.aload_n 0, 1) := by decide +kernel
theorem dX7_known_12 : decode cX7_known 12 = .ok (.getfield 7, 3) := by decide +kernel
theorem dX7_known_15 : decode cX7_known 15 = .ok (.bipush 117, 2) := by decide +kernel
theorem dX7_known_17 : decode cX7_known 17 = .ok (.iload_n 2, 1) := by decide +kernel
theorem dX7_known_18 : decode cX7_known 18 = .ok (.iadd, 1) := by decide +kernel
theorem dX7_known_19 : decode cX7_known 19 = .ok (.iaload, 1) := by decide +kernel
theorem dX7_known_20 : decode cX7_known 20 = .ok (.iadd, 1) := by decide +kernel
theorem dX7_known_21 : decode cX7_known 21 = .ok (.istore_n 1, 1) := by decide +kernel
theorem dX7_known_22 : decode cX7_known 22 = .ok (.iinc 2 1, 3) := by decide +kernel
theorem dX7_known_25 : decode cX7_known 25 = .ok (.goto (-21), 3) := by decide +kernel
theorem dX7_known_28 : decode cX7_known 28 = .ok (.iload_n 1, 1) := by decide +kernel
theorem dX7_known_29 : decode cX7_known 29 = .ok (.ireturn, 1) := by decide +kernel
set_option maxRecDepth 20000 in
theorem ggX7_drain_X7_isDone : GoodIn wsX7_drain wsX7_isDone := goodIn_r _ [7, 1, 8, 9, 10, 6, 11, 12, 13, 14, 15, 16, 17, 18, 19, 37, 38, 39, 40, 41, 42, 43, 44, 45, 46, 47, 48, 49, 50, 51, 52] (by decide +kernel) (by decide +kernel)
set_option maxRecDepth 20000 in
theorem gX7_drain_X7_isDone : GoodIn wsX7_drain (wsV RX7 101 RX7 yX7_isDone wsX7_isDone) := goodIn_app (goodIn_of _ (by decide +kernel)) ggX7_drain_X7_isDone
set_option maxRecDepth 20000 in
theorem ggX7_drain_X7_changes : GoodIn wsX7_drain wsX7_changes := goodIn_r _ [23, 24, 25, 1, 37, 38, 39, 40, 41, 42, 43, 44, 45, 46, 47, 48, 49, 50, 51, 52] (by decide +kernel) (by decide +kernel)
set_option maxRecDepth 20000 in
theorem gX7_drain_X7_changes : GoodIn wsX7_drain (wsV RX7 38 RX7 yX7_changes wsX7_changes) := goodIn_app (goodIn_of _ (by decide +kernel)) ggX7_drain_X7_changes
set_option maxRecDepth 20000 in
theorem ggX7_drain_X7_drains : GoodIn wsX7_drain wsX7_drains := goodIn_r _ [29, 1, 12, 13, 14, 6, 15, 16, 17, 18, 19, 30, 31, 32, 37, 38, 39, 40, 41, 42, 43, 44, 45, 46, 47, 48, 49, 50, 51, 52] (by decide +kernel) (by decide +kernel)
set_option maxRecDepth 20000 in
theorem gX7_drain_X7_drains : GoodIn wsX7_drain (wsV RX7 108 RX7 yX7_drains wsX7_drains) := goodIn_app (goodIn_of _ (by decide +kernel)) ggX7_drain_X7_drains
set_option maxRecDepth 20000 in
theorem ggX7_drain_X7_known : GoodIn wsX7_drain wsX7_known := goodIn_r _ [36, 1, 37, 38, 39, 40, 41, 42, 43, 44, 45, 46, 47, 48, 49, 50, 51, 52] (by decide +kernel) (by decide +kernel)
set_option maxRecDepth 20000 in
theorem gX7_drain_X7_known : GoodIn wsX7_drain (wsV RX7 111 RX7 yX7_known wsX7_known) := goodIn_app (goodIn_of _ (by decide +kernel)) ggX7_drain_X7_known
theorem dX7_drain_0 : decode cX7_drain 0 = .ok (.aload_n 0, 1) := by decide +kernel
theorem dX7_drain_1 : decode cX7_drain 1 = .ok (.getfield 7, 3) := by decide +kernel
theorem dX7_drain_4 : decode cX7_drain 4 = .ok (.iconst 5, 1) := by decide +kernel
theorem dX7_drain_5 : decode cX7_drain 5 = .ok (.iaload, 1) := by decide +kernel
theorem dX7_drain_6 : decode cX7_drain 6 = .ok (.ifCond .eq 10, 3) := by decide +kernel
theorem dX7_drain_9 : decode cX7_drain 9 = .ok (.aload_n 0, 1) := by decide +kernel
theorem dX7_drain_10 : decode cX7_drain 10 = .ok (.invokevirtual 101, 3) := by decide +kernel
theorem dX7_drain_13 : decode cX7_drain 13 = .ok (.ifCond .ne 6, 3) := by decide +kernel
end
section
theorem dX7_drain_16 : decode cX7_drain 16 = .ok (.ldc 58, 2) := by decide +kernel
theorem dX7_drain_18 : decode cX7_drain 18 = .ok (.ireturn, 1) := by decide +kernel
theorem dX7_drain_19 : decode cX7_drain 19 = .ok (.aload_n 0, 1) := by decide +kernel
theorem dX7_drain_20 : decode cX7_drain 20 = .ok (.invokevirtual 38, 3) := by decide +kernel
theorem dX7_drain_23 : decode cX7_drain 23 = .ok (.aload_n 0, 1) := by decide +kernel
theorem dX7_drain_24 : decode cX7_drain 24 = .ok (.invokevirtual 108, 3) := by decide +kernel
theorem dX7_drain_27 : decode cX7_drain 27 = .ok (.aload_n 0, 1) := by decide +kernel
theorem dX7_drain_28 : decode cX7_drain 28 = .ok (.invokevirtual 111, 3) := by decide +kernel
theorem dX7_drain_31 : decode cX7_drain 31 = .ok (.ireturn, 1) := by decide +kernel
set_option maxRecDepth 20000 in
theorem ggX7_doesAll_X7_along : GoodIn wsX7_doesAll wsX7_along := goodIn_r _ [6, 1, 61, 62, 63, 64, 65, 66, 67, 68, 69, 70, 71, 72, 73, 74, 75, 76] (by decide +kernel) (by decide +kernel)
set_option maxRecDepth 20000 in
theorem gX7_doesAll_X7_along : GoodIn wsX7_doesAll (wsV RX7 29 RX7 yX7_along wsX7_along) := goodIn_app (goodIn_of _ (by decide +kernel)) ggX7_doesAll_X7_along
set_option maxRecDepth 20000 in
theorem ggX7_doesAll_X7_begins : GoodIn wsX7_doesAll wsX7_begins := goodIn_r _ [10, 1, 11, 12, 13, 5, 14, 61, 62, 63, 64, 65, 66, 67, 68, 69, 70, 71, 72, 73, 74, 75, 76] (by decide +kernel) (by decide +kernel)
set_option maxRecDepth 20000 in
theorem gX7_doesAll_X7_begins : GoodIn wsX7_doesAll (wsV RX7 69 RX7 yX7_begins wsX7_begins) := goodIn_app (goodIn_of _ (by decide +kernel)) ggX7_doesAll_X7_begins
set_option maxRecDepth 20000 in
theorem ggX7_doesAll_X7_isDone : GoodIn wsX7_doesAll wsX7_isDone := goodIn_r _ [18, 1, 19, 20, 21, 5, 22, 23, 24, 25, 26, 27, 28, 29, 30, 61, 62, 63, 64, 65, 66, 67, 68, 69, 70, 71, 72, 73, 74, 75, 76] (by decide +kernel) (by decide +kernel)
set_option maxRecDepth 20000 in
theorem gX7_doesAll_X7_isDone : GoodIn wsX7_doesAll (wsV RX7 101 RX7 yX7_isDone wsX7_isDone) := goodIn_app (goodIn_of _ (by decide +kernel)) ggX7_doesAll_X7_isDone
set_option maxRecDepth 20000 in
theorem ggX7_doesAll_X7_goes : GoodIn wsX7_doesAll wsX7_goes := goodIn_r _ [34, 35, 36, 1, 37, 38, 23, 24, 25, 5, 26, 27, 28, 29, 30, 39, 40, 41, 42, 43, 44, 45, 46, 47, 48, 49, 50, 51, 52, 53, 54, 55, 56, 61, 62, 63, 64, 65, 66, 67, 68, 69, 70, 71, 72, 73, 74, 75, 76] (by decide +kernel) (by decide +kernel)
set_option maxRecDepth 20000 in
theorem gX7_doesAll_X7_goes : GoodIn wsX7_doesAll (wsV RX7 105 RX7 yX7_goes wsX7_goes) := goodIn_app (goodIn_of _ (by decide +kernel)) ggX7_doesAll_X7_goes
set_option maxRecDepth 20000 in
theorem ggX7_doesAll_X7_drains : GoodIn wsX7_doesAll wsX7_drains := goodIn_r _ [60, 1, 23, 24, 25, 5, 26, 27, 28, 29, 30, 46, 47, 48, 61, 62, 63, 64, 65, 66, 67, 68, 69, 70, 71, 72, 73, 74, 75, 76] (by decide +kernel) (by decide +kernel)
set_option maxRecDepth 20000 in
theorem gX7_doesAll_X7_drains : GoodIn wsX7_doesAll (wsV RX7 108 RX7 yX7_drains wsX7_drains) := goodIn_app (goodIn_of _ (by decide +kernel)) ggX7_doesAll_X7_drains
theorem dX7_doesAll_0 : decode cX7_doesAll 0 = .ok (.iconst 0, 1) := by decide +kernel
theorem dX7_doesAll_1 : decode cX7_doesAll 1 = .ok (.istore_n 1, 1) := by decide +kernel
theorem dX7_doesAll_2 : decode cX7_doesAll 2 = .ok (.iconst 0, 1) := by decide +kernel
theorem dX7_doesAll_3 : decode cX7_doesAll 3 = .ok (.istore_n 2, 1) := by decide +kernel
theorem dX7_doesAll_4 : decode cX7_doesAll 4 = .ok (.iload_n 2, 1) := by decide +kernel
theorem dX7_doesAll_5 : decode cX7_doesAll 5 = .ok (.aload_n 0, 1) := by decide +kernel
theorem dX7_doesAll_6 : decode cX7_doesAll 6 = .ok (.aload_n 0, 1) := by decide +kernel
theorem dX7_doesAll_7 : decode cX7_doesAll 7 = .ok (.getfield 7, 3) := by decide +kernel
theorem dX7_doesAll_10 : decode cX7_doesAll 10 = .ok (.iconst 1, 1) := by decide +kernel
theorem dX7_doesAll_11 : decode cX7_doesAll 11 = .ok (.iaload, 1) := by decide +kernel
theorem dX7_doesAll_12 : decode cX7_doesAll 12 = .ok (.invokevirtual 29, 3) := by decide +kernel
theorem dX7_doesAll_15 : decode cX7_doesAll 15 = .ok (.if_icmp .ge 58, 3) := by decide +kernel
theorem dX7_doesAll_18 : decode cX7_doesAll 18 = .ok (.iconst 0, 1) := by decide +kernel
theorem dX7_doesAll_19 : decode cX7_doesAll 19 = .ok (.istore_n 3, 1) := by decide +kernel
theorem dX7_doesAll_20 : decode cX7_doesAll 20 = .ok (.iload_n 3, 1) := by decide +kernel
theorem dX7_doesAll_21 : decode cX7_doesAll 21 = .ok (.aload_n 0, 1) := by decide +kernel
theorem dX7_doesAll_22 : decode cX7_doesAll 22 = .ok (.aload_n 0, 1) := by decide +kernel
theorem dX7_doesAll_23 : decode cX7_doesAll 23 = .ok (.getfield 7, 3) := by decide +kernel
theorem dX7_doesAll_26 : decode cX7_doesAll 26 = .ok (.iconst 3, 1) := by decide +kernel
theorem dX7_doesAll_27 : decode cX7_doesAll 27 = .ok (.iaload, 1) := by decide +kernel
theorem dX7_doesAll_28 : decode cX7_doesAll 28 = .ok (.invokevirtual 29, 3) := by decide +kernel
theorem dX7_doesAll_31 : decode cX7_doesAll 31 = .ok (.if_icmp .ge 36, 3) := by decide +kernel
theorem dX7_doesAll_34 : decode cX7_doesAll 34 = .ok (.aload_n 0, 1) := by decide +kernel
theorem dX7_doesAll_35 : decode cX7_doesAll 35 = .ok (.iload_n 2, 1) := by decide +kernel
theorem dX7_doesAll_36 : decode cX7_doesAll 36 = .ok (.iload_n 3, 1) := by decide +kernel
theorem dX7_doesAll_37 : decode cX7_doesAll 37 = .ok (.invokevirtual 69, 3) := by decide +kernel
theorem dX7_doesAll_40 : decode cX7_doesAll 40 = .ok (.aload_n 0, 1) := by decide +kernel
theorem dX7_doesAll_41 : decode cX7_doesAll 41 = .ok (.invokevirtual 101, 3) := by decide +kernel
theorem dX7_doesAll_44 : decode cX7_doesAll 44 = .ok (.ifCond .ne 13, 3) := by decide +kernel
theorem dX7_doesAll_47 : decode cX7_doesAll 47 = .ok (.aload_n 0, 1) := by decide +kernel
theorem dX7_doesAll_48 : decode cX7_doesAll 48 = .ok (.invokevirtual 105, 3) := by decide +kernel
theorem dX7_doesAll_51 : decode cX7_doesAll 51 = .ok (.iinc 1 1, 3) := by decide +kernel
theorem dX7_doesAll_54 : decode cX7_doesAll 54 = .ok (.goto (-14), 3) := by decide +kernel
theorem dX7_doesAll_57 : decode cX7_doesAll 57 = .ok (.aload_n 0, 1) := by decide +kernel
theorem dX7_doesAll_58 : decode cX7_doesAll 58 = .ok (.invokevirtual 108, 3) := by decide +kernel
theorem dX7_doesAll_61 : decode cX7_doesAll 61 = .ok (.iinc 3 1, 3) := by decide +kernel
theorem dX7_doesAll_64 : decode cX7_doesAll 64 = .ok (.goto (-44), 3) := by decide +kernel
theorem dX7_doesAll_67 : decode cX7_doesAll 67 = .ok (.iinc 2 1, 3) := by decide +kernel
theorem dX7_doesAll_70 : decode cX7_doesAll 70 = .ok (.goto (-66), 3) := by decide +kernel
theorem dX7_doesAll_73 : decode cX7_doesAll 73 = .ok (.iload_n 1, 1) := by decide +kernel
theorem dX7_doesAll_74 : decode cX7_doesAll 74 = .ok (.ireturn, 1) := by decide +kernel
set_option maxRecDepth 20000 in
theorem ggX7_all_X7_changes : GoodIn wsX7_all wsX7_changes := goodIn_r _ [7, 8, 9, 1, 72, 73, 74, 75, 76, 77, 78, 79, 80, 81, 82, 83, 84, 85, 86, 87] (by decide +kernel) (by decide +kernel)
set_option maxRecDepth 20000 in
theorem gX7_all_X7_changes : GoodIn wsX7_all (wsV RX7 38 RX7 yX7_changes wsX7_changes) := goodIn_app (goodIn_of _ (by decide +kernel)) ggX7_all_X7_changes
set_option maxRecDepth 20000 in
theorem ggX7_all_X7_doesAll : GoodIn wsX7_all wsX7_doesAll := goodIn_r _ [13, 1, 14, 15, 16, 6, 17, 18, 19, 20, 21, 22, 23, 24, 25, 26, 27, 28, 29, 30, 31, 32, 33, 34, 35, 36, 37, 38, 39, 40, 41, 42, 43, 44, 45, 46, 47, 48, 49, 50, 51, 52, 53, 54, 55, 56, 57, 58, 59, 60, 61, 62, 63, 64, 65, 66, 67, 68, 69, 70, 71, 72, 73, 74, 75, 76, 77, 78, 79, 80, 81, 82, 83, 84, 85, 86, 87] (by decide +kernel) (by decide +kernel)
set_option maxRecDepth 20000 in
theorem gX7_all_X7_doesAll : GoodIn wsX7_all (wsV RX7 114 RX7 yX7_doesAll wsX7_doesAll) := goodIn_app (goodIn_of _ (by decide +kernel)) ggX7_all_X7_doesAll
theorem dX7_all_0 : decode cX7_all 0 = .ok (.aload_n 0, 1) := by decide +kernel
theorem dX7_all_1 : decode cX7_all 1 = .ok (.getfield 7, 3) := by decide +kernel
theorem dX7_all_4 : decode cX7_all 4 = .ok (.iconst 5, 1) := by decide +kernel
theorem dX7_all_5 : decode cX7_all 5 = .ok (.iaload, 1) := by decide +kernel
theorem dX7_all_6 : decode cX7_all 6 = .ok (.iconst 1, 1) := by decide +kernel
theorem dX7_all_7 : decode cX7_all 7 = .ok (.if_icmp .ne 6, 3) := by decide +kernel
theorem dX7_all_10 : decode cX7_all 10 = .ok (.ldc 58, 2) := by decide +kernel
theorem dX7_all_12 : decode cX7_all 12 = .ok (.ireturn, 1) := by decide +kernel
theorem dX7_all_13 : decode cX7_all 13 = .ok (.aload_n 0, 1) := by decide +kernel
theorem dX7_all_14 : decode cX7_all 14 = .ok (.invokevirtual 38, 3) := by decide +kernel
theorem dX7_all_17 : decode cX7_all 17 = .ok (.aload_n 0, 1) := by decide +kernel
theorem dX7_all_18 : decode cX7_all 18 = .ok (.invokevirtual 114, 3) := by decide +kernel
theorem dX7_all_21 : decode cX7_all 21 = .ok (.ireturn, 1) := by decide +kernel
set_option maxRecDepth 20000 in
theorem ggX7_entry_X7_isEntry : GoodIn wsX7_entry wsX7_isEntry := goodIn_r _ [7, 8, 9, 6, 10, 11, 12, 13, 14, 1, 15, 16, 17, 18, 19, 20, 21, 22, 23, 24, 25, 26, 27, 28, 29, 30, 31, 32, 33, 34] (by decide +kernel) (by decide +kernel)
set_option maxRecDepth 20000 in
theorem gX7_entry_X7_isEntry : GoodIn wsX7_entry (wsV RX7 55 RX7 yX7_isEntry wsX7_isEntry) := goodIn_app (goodIn_of _ (by decide +kernel)) ggX7_entry_X7_isEntry
theorem dX7_entry_0 : decode cX7_entry 0 = .ok (.aload_n 0, 1) := by decide +kernel
theorem dX7_entry_1 : decode cX7_entry 1 = .ok (.iload_n 1, 1) := by decide +kernel
theorem dX7_entry_2 : decode cX7_entry 2 = .ok (.iload_n 2, 1) := by decide +kernel
theorem dX7_entry_3 : decode cX7_entry 3 = .ok (.iload_n 3, 1) := by decide +kernel
theorem dX7_entry_4 : decode cX7_entry 4 = .ok (.invokevirtual 55, 3) := by decide +kernel
theorem dX7_entry_7 : decode cX7_entry 7 = .ok (.ifCond .eq 25, 3) := by decide +kernel
theorem dX7_entry_10 : decode cX7_entry 10 = .ok (.aload_n 0, 1) := by decide +kernel
theorem dX7_entry_11 : decode cX7_entry 11 = .ok (.getfield 7, 3) := by decide +kernel
theorem dX7_entry_14 : decode cX7_entry 14 = .ok (.bipush 9, 2) := by decide +kernel
theorem dX7_entry_16 : decode cX7_entry 16 = .ok (.bipush 36, 2) := by decide +kernel
theorem dX7_entry_18 : decode cX7_entry 18 = .ok (.iload_n 1, 1) := by decide +kernel
theorem dX7_entry_19 : decode cX7_entry 19 = .ok (.imul, 1) := by decide +kernel
theorem dX7_entry_20 : decode cX7_entry 20 = .ok (.iadd, 1) := by decide +kernel
theorem dX7_entry_21 : decode cX7_entry 21 = .ok (.bipush 6, 2) := by decide +kernel
theorem dX7_entry_23 : decode cX7_entry 23 = .ok (.iload_n 2, 1) := by decide +kernel
theorem dX7_entry_24 : decode cX7_entry 24 = .ok (.imul, 1) := by decide +kernel
theorem dX7_entry_25 : decode cX7_entry 25 = .ok (.iadd, 1) := by decide +kernel
theorem dX7_entry_26 : decode cX7_entry 26 = .ok (.iload_n 3, 1) := by decide +kernel
theorem dX7_entry_27 : decode cX7_entry 27 = .ok (.iadd, 1) := by decide +kernel
theorem dX7_entry_28 : decode cX7_entry 28 = .ok (.iaload, 1) := by decide +kernel
theorem dX7_entry_29 : decode cX7_entry 29 = .ok (.goto 5, 3) := by decide +kernel
theorem dX7_entry_32 : decode cX7_entry 32 = .ok (.ldc 37, 2) := by decide +kernel
theorem dX7_entry_34 : decode cX7_entry 34 = .ok (.ireturn, 1) := by decide +kernel
set_option maxRecDepth 20000 in
theorem ggX7_cellOf_X7_in : GoodIn wsX7_cellOf wsX7_in := goodIn_r _ [8] (by decide +kernel) (by decide +kernel)
set_option maxRecDepth 20000 in
theorem gX7_cellOf_X7_in : GoodIn wsX7_cellOf (va_wsS RX7 33 yX7_in wsX7_in) := goodIn_app (goodIn_of _ (by decide +kernel)) ggX7_cellOf_X7_in
set_option maxRecDepth 20000 in
theorem ggX7_cellOf_X7_placeOf : GoodIn wsX7_cellOf wsX7_placeOf := goodIn_r _ [12, 1, 20, 21, 22, 23, 24, 25, 26, 27, 28, 29, 30, 31, 32, 33, 34, 35] (by decide +kernel) (by decide +kernel)
set_option maxRecDepth 20000 in
theorem gX7_cellOf_X7_placeOf : GoodIn wsX7_cellOf (wsV RX7 75 RX7 yX7_placeOf wsX7_placeOf) := goodIn_app (goodIn_of _ (by decide +kernel)) ggX7_cellOf_X7_placeOf
set_option maxRecDepth 20000 in
theorem ggX7_cellOf_X7_faultOf : GoodIn wsX7_cellOf wsX7_faultOf := goodIn_r _ [16, 1, 9, 10, 11, 7, 12, 20, 21, 22, 23, 24, 25, 26, 27, 28, 29, 30, 31, 32, 33, 34, 35] (by decide +kernel) (by decide +kernel)
set_option maxRecDepth 20000 in
theorem gX7_cellOf_X7_faultOf : GoodIn wsX7_cellOf (wsV RX7 98 RX7 yX7_faultOf wsX7_faultOf) := goodIn_app (goodIn_of _ (by decide +kernel)) ggX7_cellOf_X7_faultOf
set_option maxRecDepth 20000 in
theorem ggX7_cellOf_X7_cell : GoodIn wsX7_cellOf wsX7_cell := goodIn_r _ [19] (by decide +kernel) (by decide +kernel)
set_option maxRecDepth 20000 in
theorem gX7_cellOf_X7_cell : GoodIn wsX7_cellOf (va_wsS RX7 78 yX7_cell wsX7_cell) := goodIn_app (goodIn_of _ (by decide +kernel)) ggX7_cellOf_X7_cell
theorem dX7_cellOf_0 : decode cX7_cellOf 0 = .ok (.iload_n 1, 1) := by decide +kernel
theorem dX7_cellOf_1 : decode cX7_cellOf 1 = .ok (.iconst 0, 1) := by decide +kernel
theorem dX7_cellOf_2 : decode cX7_cellOf 2 = .ok (.aload_n 0, 1) := by decide +kernel
theorem dX7_cellOf_3 : decode cX7_cellOf 3 = .ok (.getfield 7, 3) := by decide +kernel
theorem dX7_cellOf_6 : decode cX7_cellOf 6 = .ok (.iconst 0, 1) := by decide +kernel
theorem dX7_cellOf_7 : decode cX7_cellOf 7 = .ok (.iaload, 1) := by decide +kernel
theorem dX7_cellOf_8 : decode cX7_cellOf 8 = .ok (.iconst 1, 1) := by decide +kernel
theorem dX7_cellOf_9 : decode cX7_cellOf 9 = .ok (.isub, 1) := by decide +kernel
theorem dX7_cellOf_10 : decode cX7_cellOf 10 = .ok (.invokestatic 33, 3) := by decide +kernel
theorem dX7_cellOf_13 : decode cX7_cellOf 13 = .ok (.ifCond .eq 28, 3) := by decide +kernel
theorem dX7_cellOf_16 : decode cX7_cellOf 16 = .ok (.iload_n 2, 1) := by decide +kernel
theorem dX7_cellOf_17 : decode cX7_cellOf 17 = .ok (.iconst 0, 1) := by decide +kernel
theorem dX7_cellOf_18 : decode cX7_cellOf 18 = .ok (.aload_n 0, 1) := by decide +kernel
theorem dX7_cellOf_19 : decode cX7_cellOf 19 = .ok (.getfield 7, 3) := by decide +kernel
theorem dX7_cellOf_22 : decode cX7_cellOf 22 = .ok (.iconst 0, 1) := by decide +kernel
theorem dX7_cellOf_23 : decode cX7_cellOf 23 = .ok (.iaload, 1) := by decide +kernel
theorem dX7_cellOf_24 : decode cX7_cellOf 24 = .ok (.iconst 1, 1) := by decide +kernel
theorem dX7_cellOf_25 : decode cX7_cellOf 25 = .ok (.isub, 1) := by decide +kernel
theorem dX7_cellOf_26 : decode cX7_cellOf 26 = .ok (.invokestatic 33, 3) := by decide +kernel
theorem dX7_cellOf_29 : decode cX7_cellOf 29 = .ok (.ifCond .eq 12, 3) := by decide +kernel
theorem dX7_cellOf_32 : decode cX7_cellOf 32 = .ok (.iload_n 3, 1) := by decide +kernel
theorem dX7_cellOf_33 : decode cX7_cellOf 33 = .ok (.iconst 0, 1) := by decide +kernel
theorem dX7_cellOf_34 : decode cX7_cellOf 34 = .ok (.iconst 5, 1) := by decide +kernel
theorem dX7_cellOf_35 : decode cX7_cellOf 35 = .ok (.invokestatic 33, 3) := by decide +kernel
theorem dX7_cellOf_38 : decode cX7_cellOf 38 = .ok (.ifCond .ne 6, 3) := by decide +kernel
theorem dX7_cellOf_41 : decode cX7_cellOf 41 = .ok (.ldc 37, 2) := by decide +kernel
theorem dX7_cellOf_43 : decode cX7_cellOf 43 = .ok (.ireturn, 1) := by decide +kernel
theorem dX7_cellOf_44 : decode cX7_cellOf 44 = .ok (.iload_n 3, 1) := by decide +kernel
theorem dX7_cellOf_45 : decode cX7_cellOf 45 = .ok (.iconst 3, 1) := by decide +kernel
theorem dX7_cellOf_46 : decode cX7_cellOf 46 = .ok (.if_icmp .eq 8, 3) := by decide +kernel
theorem dX7_cellOf_49 : decode cX7_cellOf 49 = .ok (.iload_n 3, 1) := by decide +kernel
theorem dX7_cellOf_50 : decode cX7_cellOf 50 = .ok (.iconst 4, 1) := by decide +kernel
theorem dX7_cellOf_51 : decode cX7_cellOf 51 = .ok (.if_icmp .ne 23, 3) := by decide +kernel
theorem dX7_cellOf_54 : decode cX7_cellOf 54 = .ok (.iload_n 3, 1) := by decide +kernel
theorem dX7_cellOf_55 : decode cX7_cellOf 55 = .ok (.iconst 3, 1) := by decide +kernel
theorem dX7_cellOf_56 : decode cX7_cellOf 56 = .ok (.if_icmp .ne 11, 3) := by decide +kernel
theorem dX7_cellOf_59 : decode cX7_cellOf 59 = .ok (.aload_n 0, 1) := by decide +kernel
theorem dX7_cellOf_60 : decode cX7_cellOf 60 = .ok (.iload_n 2, 1) := by decide +kernel
theorem dX7_cellOf_61 : decode cX7_cellOf 61 = .ok (.invokevirtual 75, 3) := by decide +kernel
theorem dX7_cellOf_64 : decode cX7_cellOf 64 = .ok (.goto 9, 3) := by decide +kernel
theorem dX7_cellOf_67 : decode cX7_cellOf 67 = .ok (.aload_n 0, 1) := by decide +kernel
theorem dX7_cellOf_68 : decode cX7_cellOf 68 = .ok (.iload_n 1, 1) := by decide +kernel
theorem dX7_cellOf_69 : decode cX7_cellOf 69 = .ok (.iload_n 2, 1) := by decide +kernel
theorem dX7_cellOf_70 : decode cX7_cellOf 70 = .ok (.invokevirtual 98, 3) := by decide +kernel
theorem dX7_cellOf_73 : decode cX7_cellOf 73 = .ok (.ireturn, 1) := by decide +kernel
theorem dX7_cellOf_74 : decode cX7_cellOf 74 = .ok (.aload_n 0, 1) := by decide +kernel
theorem dX7_cellOf_75 : decode cX7_cellOf 75 = .ok (.getfield 7, 3) := by decide +kernel
theorem dX7_cellOf_78 : decode cX7_cellOf 78 = .ok (.iconst 5, 1) := by decide +kernel
theorem dX7_cellOf_79 : decode cX7_cellOf 79 = .ok (.iaload, 1) := by decide +kernel
theorem dX7_cellOf_80 : decode cX7_cellOf 80 = .ok (.ifCond .ne 6, 3) := by decide +kernel
theorem dX7_cellOf_83 : decode cX7_cellOf 83 = .ok (.ldc 58, 2) := by decide +kernel
theorem dX7_cellOf_85 : decode cX7_cellOf 85 = .ok (.ireturn, 1) := by decide +kernel
theorem dX7_cellOf_86 : decode cX7_cellOf 86 = .ok (.iload_n 1, 1) := by decide +kernel
theorem dX7_cellOf_87 : decode cX7_cellOf 87 = .ok (.iload_n 2, 1) := by decide +kernel
theorem dX7_cellOf_88 : decode cX7_cellOf 88 = .ok (.invokestatic 78, 3) := by decide +kernel
theorem dX7_cellOf_91 : decode cX7_cellOf 91 = .ok (.istore 4, 2) := by decide +kernel
theorem dX7_cellOf_93 : decode cX7_cellOf 93 = .ok (.iload_n 3, 1) := by decide +kernel
theorem dX7_cellOf_94 : decode cX7_cellOf 94 = .ok (.tableswitch 92 0 2 #[26, 36, 64], 26) := by decide +kernel
theorem dX7_cellOf_120 : decode cX7_cellOf 120 = .ok (.aload_n 0, 1) := by decide +kernel
theorem dX7_cellOf_121 : decode cX7_cellOf 121 = .ok (.getfield 7, 3) := by decide +kernel
theorem dX7_cellOf_124 : decode cX7_cellOf 124 = .ok (.iload 4, 2) := by decide +kernel
theorem dX7_cellOf_126 : decode cX7_cellOf 126 = .ok (.iconst 0, 1) := by decide +kernel
theorem dX7_cellOf_127 : decode cX7_cellOf 127 = .ok (.iadd, 1) := by decide +kernel
theorem dX7_cellOf_128 : decode cX7_cellOf 128 = .ok (.iaload, 1) := by decide +kernel
theorem dX7_cellOf_129 : decode cX7_cellOf 129 = .ok (.ireturn, 1) := by decide +kernel
theorem dX7_cellOf_130 : decode cX7_cellOf 130 = .ok (.aload_n 0, 1) := by decide +kernel
theorem dX7_cellOf_131 : decode cX7_cellOf 131 = .ok (.getfield 7, 3) := by decide +kernel
theorem dX7_cellOf_134 : decode cX7_cellOf 134 = .ok (.iload 4, 2) := by decide +kernel
theorem dX7_cellOf_136 : decode cX7_cellOf 136 = .ok (.iconst 1, 1) := by decide +kernel
theorem dX7_cellOf_137 : decode cX7_cellOf 137 = .ok (.iadd, 1) := by decide +kernel
theorem dX7_cellOf_138 : decode cX7_cellOf 138 = .ok (.iaload, 1) := by decide +kernel
theorem dX7_cellOf_139 : decode cX7_cellOf 139 = .ok (.iconst 1, 1) := by decide +kernel
theorem dX7_cellOf_140 : decode cX7_cellOf 140 = .ok (.if_icmp .ne 15, 3) := by decide +kernel
theorem dX7_cellOf_143 : decode cX7_cellOf 143 = .ok (.aload_n 0, 1) := by decide +kernel
theorem dX7_cellOf_144 : decode cX7_cellOf 144 = .ok (.getfield 7, 3) := by decide +kernel
theorem dX7_cellOf_147 : decode cX7_cellOf 147 = .ok (.iload 4, 2) := by decide +kernel
theorem dX7_cellOf_149 : decode cX7_cellOf 149 = .ok (.iconst 2, 1) := by decide +kernel
theorem dX7_cellOf_150 : decode cX7_cellOf 150 = .ok (.iadd, 1) := by decide +kernel
theorem dX7_cellOf_151 : decode cX7_cellOf 151 = .ok (.iaload, 1) := by decide +kernel
theorem dX7_cellOf_152 : decode cX7_cellOf 152 = .ok (.goto 5, 3) := by decide +kernel
theorem dX7_cellOf_155 : decode cX7_cellOf 155 = .ok (.ldc 117, 2) := by decide +kernel
theorem dX7_cellOf_157 : decode cX7_cellOf 157 = .ok (.ireturn, 1) := by decide +kernel
theorem dX7_cellOf_158 : decode cX7_cellOf 158 = .ok (.aload_n 0, 1) := by decide +kernel
theorem dX7_cellOf_159 : decode cX7_cellOf 159 = .ok (.getfield 7, 3) := by decide +kernel
theorem dX7_cellOf_162 : decode cX7_cellOf 162 = .ok (.iload 4, 2) := by decide +kernel
theorem dX7_cellOf_164 : decode cX7_cellOf 164 = .ok (.iconst 3, 1) := by decide +kernel
theorem dX7_cellOf_165 : decode cX7_cellOf 165 = .ok (.iadd, 1) := by decide +kernel
theorem dX7_cellOf_166 : decode cX7_cellOf 166 = .ok (.iaload, 1) := by decide +kernel
theorem dX7_cellOf_167 : decode cX7_cellOf 167 = .ok (.iconst 1, 1) := by decide +kernel
theorem dX7_cellOf_168 : decode cX7_cellOf 168 = .ok (.if_icmp .ne 15, 3) := by decide +kernel
theorem dX7_cellOf_171 : decode cX7_cellOf 171 = .ok (.aload_n 0, 1) := by decide +kernel
theorem dX7_cellOf_172 : decode cX7_cellOf 172 = .ok (.getfield 7, 3) := by decide +kernel
theorem dX7_cellOf_175 : decode cX7_cellOf 175 = .ok (.iload 4, 2) := by decide +kernel
theorem dX7_cellOf_177 : decode cX7_cellOf 177 = .ok (.iconst 4, 1) := by decide +kernel
theorem dX7_cellOf_178 : decode cX7_cellOf 178 = .ok (.iadd, 1) := by decide +kernel
theorem dX7_cellOf_179 : decode cX7_cellOf 179 = .ok (.iaload, 1) := by decide +kernel
theorem dX7_cellOf_180 : decode cX7_cellOf 180 = .ok (.goto 5, 3) := by decide +kernel
theorem dX7_cellOf_183 : decode cX7_cellOf 183 = .ok (.ldc 117, 2) := by decide +kernel
theorem dX7_cellOf_185 : decode cX7_cellOf 185 = .ok (.ireturn, 1) := by decide +kernel
theorem dX7_cellOf_186 : decode cX7_cellOf 186 = .ok (.aload_n 0, 1) := by decide +kernel
theorem dX7_cellOf_187 : decode cX7_cellOf 187 = .ok (.getfield 7, 3) := by decide +kernel
theorem dX7_cellOf_190 : decode cX7_cellOf 190 = .ok (.iload 4, 2) := by decide +kernel
theorem dX7_cellOf_192 : decode cX7_cellOf 192 = .ok (.iconst 5, 1) := by decide +kernel
theorem dX7_cellOf_193 : decode cX7_cellOf 193 = .ok (.iadd, 1) := by decide +kernel
theorem dX7_cellOf_194 : decode cX7_cellOf 194 = .ok (.iaload, 1) := by decide +kernel
theorem dX7_cellOf_195 : decode cX7_cellOf 195 = .ok (.ireturn, 1) := by decide +kernel
theorem dX7_due_0 : decode cX7_due 0 = .ok (.iconst 0, 1) := by decide +kernel
theorem dX7_due_1 : decode cX7_due 1 = .ok (.istore_n 3, 1) := by decide +kernel
theorem dX7_due_2 : decode cX7_due 2 = .ok (.iconst 0, 1) := by decide +kernel
theorem dX7_due_3 : decode cX7_due 3 = .ok (.istore 4, 2) := by decide +kernel
theorem dX7_due_5 : decode cX7_due 5 = .ok (.iload 4, 2) := by decide +kernel
theorem dX7_due_7 : decode cX7_due 7 = .ok (.aload_n 0, 1) := by decide +kernel
theorem dX7_due_8 : decode cX7_due 8 = .ok (.getfield 7, 3) := by decide +kernel
theorem dX7_due_11 : decode cX7_due 11 = .ok (.iconst 2, 1) := by decide +kernel
theorem dX7_due_12 : decode cX7_due 12 = .ok (.iaload, 1) := by decide +kernel
theorem dX7_due_13 : decode cX7_due 13 = .ok (.if_icmp .ge 43, 3) := by decide +kernel
theorem dX7_due_16 : decode cX7_due 16 = .ok (.iload_n 3, 1) := by decide +kernel
theorem dX7_due_17 : decode cX7_due 17 = .ok (.aload_n 0, 1) := by decide +kernel
theorem dX7_due_18 : decode cX7_due 18 = .ok (.getfield 7, 3) := by decide +kernel
theorem dX7_due_21 : decode cX7_due 21 = .ok (.bipush 9, 2) := by decide +kernel
theorem dX7_due_23 : decode cX7_due 23 = .ok (.bipush 6, 2) := by decide +kernel
theorem dX7_due_25 : decode cX7_due 25 = .ok (.iload_n 1, 1) := by decide +kernel
theorem dX7_due_26 : decode cX7_due 26 = .ok (.imul, 1) := by decide +kernel
theorem dX7_due_27 : decode cX7_due 27 = .ok (.iadd, 1) := by decide +kernel
theorem dX7_due_28 : decode cX7_due 28 = .ok (.iload 4, 2) := by decide +kernel
theorem dX7_due_30 : decode cX7_due 30 = .ok (.iadd, 1) := by decide +kernel
theorem dX7_due_31 : decode cX7_due 31 = .ok (.iaload, 1) := by decide +kernel
theorem dX7_due_32 : decode cX7_due 32 = .ok (.aload_n 0, 1) := by decide +kernel
theorem dX7_due_33 : decode cX7_due 33 = .ok (.getfield 7, 3) := by decide +kernel
theorem dX7_due_36 : decode cX7_due 36 = .ok (.bipush 45, 2) := by decide +kernel
theorem dX7_due_38 : decode cX7_due 38 = .ok (.bipush 6, 2) := by decide +kernel
theorem dX7_due_40 : decode cX7_due 40 = .ok (.iload 4, 2) := by decide +kernel
theorem dX7_due_42 : decode cX7_due 42 = .ok (.imul, 1) := by decide +kernel
theorem dX7_due_43 : decode cX7_due 43 = .ok (.iadd, 1) := by decide +kernel
theorem dX7_due_44 : decode cX7_due 44 = .ok (.iload_n 2, 1) := by decide +kernel
theorem dX7_due_45 : decode cX7_due 45 = .ok (.iadd, 1) := by decide +kernel
theorem dX7_due_46 : decode cX7_due 46 = .ok (.iaload, 1) := by decide +kernel
theorem dX7_due_47 : decode cX7_due 47 = .ok (.imul, 1) := by decide +kernel
theorem dX7_due_48 : decode cX7_due 48 = .ok (.iadd, 1) := by decide +kernel
theorem dX7_due_49 : decode cX7_due 49 = .ok (.istore_n 3, 1) := by decide +kernel
theorem dX7_due_50 : decode cX7_due 50 = .ok (.iinc 4 1, 3) := by decide +kernel
theorem dX7_due_53 : decode cX7_due 53 = .ok (.goto (-48), 3) := by decide +kernel
theorem dX7_due_56 : decode cX7_due 56 = .ok (.iload_n 3, 1) := by decide +kernel
theorem dX7_due_57 : decode cX7_due 57 = .ok (.ireturn, 1) := by decide +kernel
theorem dX7_isKnown_0 : decode cX7_isKnown 0 = .ok (.aload_n 0, 1) := by decide +kernel
theorem dX7_isKnown_1 : decode cX7_isKnown 1 = .ok (.getfield 7, 3) := by decide +kernel
theorem dX7_isKnown_4 : decode cX7_isKnown 4 = .ok (.bipush 117, 2) := by decide +kernel
theorem dX7_isKnown_6 : decode cX7_isKnown 6 = .ok (.bipush 6, 2) := by decide +kernel
theorem dX7_isKnown_8 : decode cX7_isKnown 8 = .ok (.iload_n 1, 1) := by decide +kernel
theorem dX7_isKnown_9 : decode cX7_isKnown 9 = .ok (.imul, 1) := by decide +kernel
theorem dX7_isKnown_10 : decode cX7_isKnown 10 = .ok (.iadd, 1) := by decide +kernel
theorem dX7_isKnown_11 : decode cX7_isKnown 11 = .ok (.iload_n 2, 1) := by decide +kernel
theorem dX7_isKnown_12 : decode cX7_isKnown 12 = .ok (.iadd, 1) := by decide +kernel
theorem dX7_isKnown_13 : decode cX7_isKnown 13 = .ok (.iaload, 1) := by decide +kernel
theorem dX7_isKnown_14 : decode cX7_isKnown 14 = .ok (.iconst 1, 1) := by decide +kernel
theorem dX7_isKnown_15 : decode cX7_isKnown 15 = .ok (.if_icmp .ne 7, 3) := by decide +kernel
theorem dX7_isKnown_18 : decode cX7_isKnown 18 = .ok (.iconst 1, 1) := by decide +kernel
theorem dX7_isKnown_19 : decode cX7_isKnown 19 = .ok (.goto 4, 3) := by decide +kernel
theorem dX7_isKnown_22 : decode cX7_isKnown 22 = .ok (.iconst 0, 1) := by decide +kernel
theorem dX7_isKnown_23 : decode cX7_isKnown 23 = .ok (.ireturn, 1) := by decide +kernel
set_option maxRecDepth 20000 in
theorem ggX7_result_X7_in : GoodIn wsX7_result wsX7_in := goodIn_r _ [7] (by decide +kernel) (by decide +kernel)
set_option maxRecDepth 20000 in
theorem gX7_result_X7_in : GoodIn wsX7_result (va_wsS RX7 33 yX7_in wsX7_in) := goodIn_app (goodIn_of _ (by decide +kernel)) ggX7_result_X7_in
set_option maxRecDepth 20000 in
theorem ggX7_result_X7_due : GoodIn wsX7_result wsX7_due := goodIn_r _ [11, 1, 16, 17, 18, 19, 20, 21, 22, 23, 24, 25, 26, 27, 28, 29, 30, 31] (by decide +kernel) (by decide +kernel)
set_option maxRecDepth 20000 in
theorem gX7_result_X7_due : GoodIn wsX7_result (wsV RX7 118 RX7 yX7_due wsX7_due) := goodIn_app (goodIn_of _ (by decide +kernel)) ggX7_result_X7_due
set_option maxRecDepth 20000 in
theorem ggX7_result_X7_isKnown : GoodIn wsX7_result wsX7_isKnown := goodIn_r _ [15, 1, 16, 17, 18, 19, 20, 21, 22, 23, 24, 25, 26, 27, 28, 29, 30, 31] (by decide +kernel) (by decide +kernel)
set_option maxRecDepth 20000 in
theorem gX7_result_X7_isKnown : GoodIn wsX7_result (wsV RX7 121 RX7 yX7_isKnown wsX7_isKnown) := goodIn_app (goodIn_of _ (by decide +kernel)) ggX7_result_X7_isKnown
theorem dX7_result_0 : decode cX7_result 0 = .ok (.iload_n 1, 1) := by decide +kernel
theorem dX7_result_1 : decode cX7_result 1 = .ok (.iconst 0, 1) := by decide +kernel
theorem dX7_result_2 : decode cX7_result 2 = .ok (.aload_n 0, 1) := by decide +kernel
theorem dX7_result_3 : decode cX7_result 3 = .ok (.getfield 7, 3) := by decide +kernel
theorem dX7_result_6 : decode cX7_result 6 = .ok (.iconst 1, 1) := by decide +kernel
theorem dX7_result_7 : decode cX7_result 7 = .ok (.iaload, 1) := by decide +kernel
theorem dX7_result_8 : decode cX7_result 8 = .ok (.iconst 1, 1) := by decide +kernel
theorem dX7_result_9 : decode cX7_result 9 = .ok (.isub, 1) := by decide +kernel
theorem dX7_result_10 : decode cX7_result 10 = .ok (.invokestatic 33, 3) := by decide +kernel
theorem dX7_result_13 : decode cX7_result 13 = .ok (.ifCond .eq 28, 3) := by decide +kernel
theorem dX7_result_16 : decode cX7_result 16 = .ok (.iload_n 2, 1) := by decide +kernel
theorem dX7_result_17 : decode cX7_result 17 = .ok (.iconst 0, 1) := by decide +kernel
theorem dX7_result_18 : decode cX7_result 18 = .ok (.aload_n 0, 1) := by decide +kernel
theorem dX7_result_19 : decode cX7_result 19 = .ok (.getfield 7, 3) := by decide +kernel
theorem dX7_result_22 : decode cX7_result 22 = .ok (.iconst 3, 1) := by decide +kernel
theorem dX7_result_23 : decode cX7_result 23 = .ok (.iaload, 1) := by decide +kernel
theorem dX7_result_24 : decode cX7_result 24 = .ok (.iconst 1, 1) := by decide +kernel
theorem dX7_result_25 : decode cX7_result 25 = .ok (.isub, 1) := by decide +kernel
theorem dX7_result_26 : decode cX7_result 26 = .ok (.invokestatic 33, 3) := by decide +kernel
theorem dX7_result_29 : decode cX7_result 29 = .ok (.ifCond .eq 12, 3) := by decide +kernel
theorem dX7_result_32 : decode cX7_result 32 = .ok (.iload_n 3, 1) := by decide +kernel
theorem dX7_result_33 : decode cX7_result 33 = .ok (.iconst 0, 1) := by decide +kernel
theorem dX7_result_34 : decode cX7_result 34 = .ok (.iconst 1, 1) := by decide +kernel
theorem dX7_result_35 : decode cX7_result 35 = .ok (.invokestatic 33, 3) := by decide +kernel
theorem dX7_result_38 : decode cX7_result 38 = .ok (.ifCond .ne 6, 3) := by decide +kernel
theorem dX7_result_41 : decode cX7_result 41 = .ok (.ldc 37, 2) := by decide +kernel
theorem dX7_result_43 : decode cX7_result 43 = .ok (.ireturn, 1) := by decide +kernel
theorem dX7_result_44 : decode cX7_result 44 = .ok (.iload_n 3, 1) := by decide +kernel
theorem dX7_result_45 : decode cX7_result 45 = .ok (.iconst 1, 1) := by decide +kernel
theorem dX7_result_46 : decode cX7_result 46 = .ok (.if_icmp .ne 12, 3) := by decide +kernel
theorem dX7_result_49 : decode cX7_result 49 = .ok (.aload_n 0, 1) := by decide +kernel
theorem dX7_result_50 : decode cX7_result 50 = .ok (.iload_n 1, 1) := by decide +kernel
theorem dX7_result_51 : decode cX7_result 51 = .ok (.iload_n 2, 1) := by decide +kernel
theorem dX7_result_52 : decode cX7_result 52 = .ok (.invokevirtual 118, 3) := by decide +kernel
theorem dX7_result_55 : decode cX7_result 55 = .ok (.goto 31, 3) := by decide +kernel
theorem dX7_result_58 : decode cX7_result 58 = .ok (.aload_n 0, 1) := by decide +kernel
theorem dX7_result_59 : decode cX7_result 59 = .ok (.iload_n 1, 1) := by decide +kernel
theorem dX7_result_60 : decode cX7_result 60 = .ok (.iload_n 2, 1) := by decide +kernel
theorem dX7_result_61 : decode cX7_result 61 = .ok (.invokevirtual 121, 3) := by decide +kernel
theorem dX7_result_64 : decode cX7_result 64 = .ok (.ifCond .eq 20, 3) := by decide +kernel
theorem dX7_result_67 : decode cX7_result 67 = .ok (.aload_n 0, 1) := by decide +kernel
theorem dX7_result_68 : decode cX7_result 68 = .ok (.getfield 7, 3) := by decide +kernel
theorem dX7_result_71 : decode cX7_result 71 = .ok (.bipush 81, 2) := by decide +kernel
theorem dX7_result_73 : decode cX7_result 73 = .ok (.bipush 6, 2) := by decide +kernel
theorem dX7_result_75 : decode cX7_result 75 = .ok (.iload_n 1, 1) := by decide +kernel
theorem dX7_result_76 : decode cX7_result 76 = .ok (.imul, 1) := by decide +kernel
theorem dX7_result_77 : decode cX7_result 77 = .ok (.iadd, 1) := by decide +kernel
theorem dX7_result_78 : decode cX7_result 78 = .ok (.iload_n 2, 1) := by decide +kernel
theorem dX7_result_79 : decode cX7_result 79 = .ok (.iadd, 1) := by decide +kernel
theorem dX7_result_80 : decode cX7_result 80 = .ok (.iaload, 1) := by decide +kernel
theorem dX7_result_81 : decode cX7_result 81 = .ok (.goto 5, 3) := by decide +kernel
theorem dX7_result_84 : decode cX7_result 84 = .ok (.ldc 117, 2) := by decide +kernel
theorem dX7_result_86 : decode cX7_result 86 = .ok (.ireturn, 1) := by decide +kernel
set_option maxRecDepth 20000 in
theorem ggX7_wrong_X7_isKnown : GoodIn wsX7_wrong wsX7_isKnown := goodIn_r _ [6, 1, 11, 12, 13, 14, 15, 16, 17, 18, 19, 20, 21, 22, 23, 24, 25, 26] (by decide +kernel) (by decide +kernel)
set_option maxRecDepth 20000 in
theorem gX7_wrong_X7_isKnown : GoodIn wsX7_wrong (wsV RX7 121 RX7 yX7_isKnown wsX7_isKnown) := goodIn_app (goodIn_of _ (by decide +kernel)) ggX7_wrong_X7_isKnown
set_option maxRecDepth 20000 in
theorem ggX7_wrong_X7_due : GoodIn wsX7_wrong wsX7_due := goodIn_r _ [10, 1, 11, 12, 13, 14, 15, 16, 17, 18, 19, 20, 21, 22, 23, 24, 25, 26] (by decide +kernel) (by decide +kernel)
set_option maxRecDepth 20000 in
theorem gX7_wrong_X7_due : GoodIn wsX7_wrong (wsV RX7 118 RX7 yX7_due wsX7_due) := goodIn_app (goodIn_of _ (by decide +kernel)) ggX7_wrong_X7_due
theorem dX7_wrong_0 : decode cX7_wrong 0 = .ok (.iconst 0, 1) := by decide +kernel
theorem dX7_wrong_1 : decode cX7_wrong 1 = .ok (.istore_n 1, 1) := by decide +kernel
theorem dX7_wrong_2 : decode cX7_wrong 2 = .ok (.iconst 0, 1) := by decide +kernel
theorem dX7_wrong_3 : decode cX7_wrong 3 = .ok (.istore_n 2, 1) := by decide +kernel
theorem dX7_wrong_4 : decode cX7_wrong 4 = .ok (.iload_n 2, 1) := by decide +kernel
theorem dX7_wrong_5 : decode cX7_wrong 5 = .ok (.aload_n 0, 1) := by decide +kernel
theorem dX7_wrong_6 : decode cX7_wrong 6 = .ok (.getfield 7, 3) := by decide +kernel
theorem dX7_wrong_9 : decode cX7_wrong 9 = .ok (.iconst 1, 1) := by decide +kernel
theorem dX7_wrong_10 : decode cX7_wrong 10 = .ok (.iaload, 1) := by decide +kernel
theorem dX7_wrong_11 : decode cX7_wrong 11 = .ok (.if_icmp .ge 67, 3) := by decide +kernel
theorem dX7_wrong_14 : decode cX7_wrong 14 = .ok (.iconst 0, 1) := by decide +kernel
theorem dX7_wrong_15 : decode cX7_wrong 15 = .ok (.istore_n 3, 1) := by decide +kernel
theorem dX7_wrong_16 : decode cX7_wrong 16 = .ok (.iload_n 3, 1) := by decide +kernel
theorem dX7_wrong_17 : decode cX7_wrong 17 = .ok (.aload_n 0, 1) := by decide +kernel
theorem dX7_wrong_18 : decode cX7_wrong 18 = .ok (.getfield 7, 3) := by decide +kernel
theorem dX7_wrong_21 : decode cX7_wrong 21 = .ok (.iconst 3, 1) := by decide +kernel
theorem dX7_wrong_22 : decode cX7_wrong 22 = .ok (.iaload, 1) := by decide +kernel
theorem dX7_wrong_23 : decode cX7_wrong 23 = .ok (.if_icmp .ge 49, 3) := by decide +kernel
theorem dX7_wrong_26 : decode cX7_wrong 26 = .ok (.iload_n 1, 1) := by decide +kernel
theorem dX7_wrong_27 : decode cX7_wrong 27 = .ok (.aload_n 0, 1) := by decide +kernel
theorem dX7_wrong_28 : decode cX7_wrong 28 = .ok (.iload_n 2, 1) := by decide +kernel
theorem dX7_wrong_29 : decode cX7_wrong 29 = .ok (.iload_n 3, 1) := by decide +kernel
theorem dX7_wrong_30 : decode cX7_wrong 30 = .ok (.invokevirtual 121, 3) := by decide +kernel
theorem dX7_wrong_33 : decode cX7_wrong 33 = .ok (.ifCond .eq 30, 3) := by decide +kernel
theorem dX7_wrong_36 : decode cX7_wrong 36 = .ok (.aload_n 0, 1) := by decide +kernel
theorem dX7_wrong_37 : decode cX7_wrong 37 = .ok (.getfield 7, 3) := by decide +kernel
theorem dX7_wrong_40 : decode cX7_wrong 40 = .ok (.bipush 81, 2) := by decide +kernel
theorem dX7_wrong_42 : decode cX7_wrong 42 = .ok (.bipush 6, 2) := by decide +kernel
theorem dX7_wrong_44 : decode cX7_wrong 44 = .ok (.iload_n 2, 1) := by decide +kernel
theorem dX7_wrong_45 : decode cX7_wrong 45 = .ok (.imul, 1) := by decide +kernel
theorem dX7_wrong_46 : decode cX7_wrong 46 = .ok (.iadd, 1) := by decide +kernel
theorem dX7_wrong_47 : decode cX7_wrong 47 = .ok (.iload_n 3, 1) := by decide +kernel
theorem dX7_wrong_48 : decode cX7_wrong 48 = .ok (.iadd, 1) := by decide +kernel
theorem dX7_wrong_49 : decode cX7_wrong 49 = .ok (.iaload, 1) := by decide +kernel
theorem dX7_wrong_50 : decode cX7_wrong 50 = .ok (.aload_n 0, 1) := by decide +kernel
theorem dX7_wrong_51 : decode cX7_wrong 51 = .ok (.iload_n 2, 1) := by decide +kernel
theorem dX7_wrong_52 : decode cX7_wrong 52 = .ok (.iload_n 3, 1) := by decide +kernel
theorem dX7_wrong_53 : decode cX7_wrong 53 = .ok (.invokevirtual 118, 3) := by decide +kernel
theorem dX7_wrong_56 : decode cX7_wrong 56 = .ok (.if_icmp .eq 7, 3) := by decide +kernel
theorem dX7_wrong_59 : decode cX7_wrong 59 = .ok (.iconst 1, 1) := by decide +kernel
theorem dX7_wrong_60 : decode cX7_wrong 60 = .ok (.goto 4, 3) := by decide +kernel
theorem dX7_wrong_63 : decode cX7_wrong 63 = .ok (.iconst 0, 1) := by decide +kernel
theorem dX7_wrong_64 : decode cX7_wrong 64 = .ok (.iadd, 1) := by decide +kernel
theorem dX7_wrong_65 : decode cX7_wrong 65 = .ok (.istore_n 1, 1) := by decide +kernel
theorem dX7_wrong_66 : decode cX7_wrong 66 = .ok (.iinc 3 1, 3) := by decide +kernel
theorem dX7_wrong_69 : decode cX7_wrong 69 = .ok (.goto (-53), 3) := by decide +kernel
theorem dX7_wrong_72 : decode cX7_wrong 72 = .ok (.iinc 2 1, 3) := by decide +kernel
theorem dX7_wrong_75 : decode cX7_wrong 75 = .ok (.goto (-71), 3) := by decide +kernel
theorem dX7_wrong_78 : decode cX7_wrong 78 = .ok (.iload_n 1, 1) := by decide +kernel
theorem dX7_wrong_79 : decode cX7_wrong 79 = .ok (.ireturn, 1) := by decide +kernel
theorem dX7_faulty_0 : decode cX7_faulty 0 = .ok (.iconst 0, 1) := by decide +kernel
theorem dX7_faulty_1 : decode cX7_faulty 1 = .ok (.istore_n 1, 1) := by decide +kernel
theorem dX7_faulty_2 : decode cX7_faulty 2 = .ok (.iconst 0, 1) := by decide +kernel
theorem dX7_faulty_3 : decode cX7_faulty 3 = .ok (.istore_n 2, 1) := by decide +kernel
theorem dX7_faulty_4 : decode cX7_faulty 4 = .ok (.iload_n 2, 1) := by decide +kernel
theorem dX7_faulty_5 : decode cX7_faulty 5 = .ok (.bipush 20, 2) := by decide +kernel
theorem dX7_faulty_7 : decode cX7_faulty 7 = .ok (.if_icmp .ge 30, 3) := by decide +kernel
theorem dX7_faulty_10 : decode cX7_faulty 10 = .ok (.iload_n 1, 1) := by decide +kernel
theorem dX7_faulty_11 : decode cX7_faulty 11 = .ok (.aload_n 0, 1) := by decide +kernel
theorem dX7_faulty_12 : decode cX7_faulty 12 = .ok (.getfield 7, 3) := by decide +kernel
theorem dX7_faulty_15 : decode cX7_faulty 15 = .ok (.sipush 153, 3) := by decide +kernel
theorem dX7_faulty_18 : decode cX7_faulty 18 = .ok (.iload_n 2, 1) := by decide +kernel
theorem dX7_faulty_19 : decode cX7_faulty 19 = .ok (.iadd, 1) := by decide +kernel
theorem dX7_faulty_20 : decode cX7_faulty 20 = .ok (.iaload, 1) := by decide +kernel
theorem dX7_faulty_21 : decode cX7_faulty 21 = .ok (.ifCond .le 7, 3) := by decide +kernel
theorem dX7_faulty_24 : decode cX7_faulty 24 = .ok (.iconst 1, 1) := by decide +kernel
theorem dX7_faulty_25 : decode cX7_faulty 25 = .ok (.goto 4, 3) := by decide +kernel
theorem dX7_faulty_28 : decode cX7_faulty 28 = .ok (.iconst 0, 1) := by decide +kernel
theorem dX7_faulty_29 : decode cX7_faulty 29 = .ok (.iadd, 1) := by decide +kernel
theorem dX7_faulty_30 : decode cX7_faulty 30 = .ok (.istore_n 1, 1) := by decide +kernel
theorem dX7_faulty_31 : decode cX7_faulty 31 = .ok (.iinc 2 1, 3) := by decide +kernel
theorem dX7_faulty_34 : decode cX7_faulty 34 = .ok (.goto (-30), 3) := by decide +kernel
theorem dX7_faulty_37 : decode cX7_faulty 37 = .ok (.iload_n 1, 1) := by decide +kernel
theorem dX7_faulty_38 : decode cX7_faulty 38 = .ok (.ireturn, 1) := by decide +kernel
set_option maxRecDepth 20000 in
theorem ggX7_count_X7_tiles : GoodIn wsX7_count wsX7_tiles := goodIn_r _ [10, 1, 11, 12, 13, 9, 14, 47, 48, 49, 50, 51, 52, 53, 54, 55, 56, 57, 58, 59, 60, 61, 62] (by decide +kernel) (by decide +kernel)
set_option maxRecDepth 20000 in
theorem gX7_count_X7_tiles : GoodIn wsX7_count (wsV RX7 45 RX7 yX7_tiles wsX7_tiles) := goodIn_app (goodIn_of _ (by decide +kernel)) ggX7_count_X7_tiles
set_option maxRecDepth 20000 in
theorem ggX7_count_X7_ticks : GoodIn wsX7_count wsX7_ticks := goodIn_r _ [18, 1, 19, 20, 21, 9, 22, 23, 24, 25, 26, 47, 48, 49, 50, 51, 52, 53, 54, 55, 56, 57, 58, 59, 60, 61, 62] (by decide +kernel) (by decide +kernel)
set_option maxRecDepth 20000 in
theorem gX7_count_X7_ticks : GoodIn wsX7_count (wsV RX7 72 RX7 yX7_ticks wsX7_ticks) := goodIn_app (goodIn_of _ (by decide +kernel)) ggX7_count_X7_ticks
set_option maxRecDepth 20000 in
theorem ggX7_count_X7_known : GoodIn wsX7_count wsX7_known := goodIn_r _ [30, 1, 47, 48, 49, 50, 51, 52, 53, 54, 55, 56, 57, 58, 59, 60, 61, 62] (by decide +kernel) (by decide +kernel)
set_option maxRecDepth 20000 in
theorem gX7_count_X7_known : GoodIn wsX7_count (wsV RX7 111 RX7 yX7_known wsX7_known) := goodIn_app (goodIn_of _ (by decide +kernel)) ggX7_count_X7_known
set_option maxRecDepth 20000 in
theorem ggX7_count_X7_wrong : GoodIn wsX7_count wsX7_wrong := goodIn_r _ [34, 1, 35, 36, 37, 9, 38, 39, 40, 41, 42, 47, 48, 49, 50, 51, 52, 53, 54, 55, 56, 57, 58, 59, 60, 61, 62] (by decide +kernel) (by decide +kernel)
set_option maxRecDepth 20000 in
theorem gX7_count_X7_wrong : GoodIn wsX7_count (wsV RX7 125 RX7 yX7_wrong wsX7_wrong) := goodIn_app (goodIn_of _ (by decide +kernel)) ggX7_count_X7_wrong
set_option maxRecDepth 20000 in
theorem ggX7_count_X7_faulty : GoodIn wsX7_count wsX7_faulty := goodIn_r _ [46, 1, 47, 48, 49, 50, 51, 52, 53, 54, 55, 56, 57, 58, 59, 60, 61, 62] (by decide +kernel) (by decide +kernel)
set_option maxRecDepth 20000 in
theorem gX7_count_X7_faulty : GoodIn wsX7_count (wsV RX7 128 RX7 yX7_faulty wsX7_faulty) := goodIn_app (goodIn_of _ (by decide +kernel)) ggX7_count_X7_faulty
theorem dX7_count_0 : decode cX7_count 0 = .ok (.iload_n 1, 1) := by decide +kernel
theorem dX7_count_1 : decode cX7_count 1 = .ok (.tableswitch 177 0 15 #[79, 79, 79, 79, 86, 91, 91, 102, 102, 102, 125, 152, 157, 162, 167, 172], 79) := by decide +kernel
theorem dX7_count_80 : decode cX7_count 80 = .ok (.aload_n 0, 1) := by decide +kernel
theorem dX7_count_81 : decode cX7_count 81 = .ok (.getfield 7, 3) := by decide +kernel
theorem dX7_count_84 : decode cX7_count 84 = .ok (.iload_n 1, 1) := by decide +kernel
theorem dX7_count_85 : decode cX7_count 85 = .ok (.iaload, 1) := by decide +kernel
theorem dX7_count_86 : decode cX7_count 86 = .ok (.ireturn, 1) := by decide +kernel
theorem dX7_count_87 : decode cX7_count 87 = .ok (.aload_n 0, 1) := by decide +kernel
theorem dX7_count_88 : decode cX7_count 88 = .ok (.invokevirtual 45, 3) := by decide +kernel
theorem dX7_count_91 : decode cX7_count 91 = .ok (.ireturn, 1) := by decide +kernel
theorem dX7_count_92 : decode cX7_count 92 = .ok (.aload_n 0, 1) := by decide +kernel
theorem dX7_count_93 : decode cX7_count 93 = .ok (.getfield 7, 3) := by decide +kernel
theorem dX7_count_96 : decode cX7_count 96 = .ok (.iconst 4, 1) := by decide +kernel
theorem dX7_count_97 : decode cX7_count 97 = .ok (.iload_n 1, 1) := by decide +kernel
theorem dX7_count_98 : decode cX7_count 98 = .ok (.iadd, 1) := by decide +kernel
theorem dX7_count_99 : decode cX7_count 99 = .ok (.iconst 5, 1) := by decide +kernel
theorem dX7_count_100 : decode cX7_count 100 = .ok (.isub, 1) := by decide +kernel
theorem dX7_count_101 : decode cX7_count 101 = .ok (.iaload, 1) := by decide +kernel
theorem dX7_count_102 : decode cX7_count 102 = .ok (.ireturn, 1) := by decide +kernel
theorem dX7_count_103 : decode cX7_count 103 = .ok (.aload_n 0, 1) := by decide +kernel
theorem dX7_count_104 : decode cX7_count 104 = .ok (.getfield 7, 3) := by decide +kernel
theorem dX7_count_107 : decode cX7_count 107 = .ok (.iconst 5, 1) := by decide +kernel
theorem dX7_count_108 : decode cX7_count 108 = .ok (.iaload, 1) := by decide +kernel
theorem dX7_count_109 : decode cX7_count 109 = .ok (.ifCond .ne 8, 3) := by decide +kernel
theorem dX7_count_112 : decode cX7_count 112 = .ok (.ldc 117, 2) := by decide +kernel
theorem dX7_count_114 : decode cX7_count 114 = .ok (.goto 11, 3) := by decide +kernel
theorem dX7_count_117 : decode cX7_count 117 = .ok (.aload_n 0, 1) := by decide +kernel
theorem dX7_count_118 : decode cX7_count 118 = .ok (.getfield 7, 3) := by decide +kernel
theorem dX7_count_121 : decode cX7_count 121 = .ok (.iload_n 1, 1) := by decide +kernel
theorem dX7_count_122 : decode cX7_count 122 = .ok (.iconst 1, 1) := by decide +kernel
theorem dX7_count_123 : decode cX7_count 123 = .ok (.isub, 1) := by decide +kernel
theorem dX7_count_124 : decode cX7_count 124 = .ok (.iaload, 1) := by decide +kernel
theorem dX7_count_125 : decode cX7_count 125 = .ok (.ireturn, 1) := by decide +kernel
theorem dX7_count_126 : decode cX7_count 126 = .ok (.aload_n 0, 1) := by decide +kernel
theorem dX7_count_127 : decode cX7_count 127 = .ok (.getfield 7, 3) := by decide +kernel
theorem dX7_count_130 : decode cX7_count 130 = .ok (.iconst 5, 1) := by decide +kernel
theorem dX7_count_131 : decode cX7_count 131 = .ok (.iaload, 1) := by decide +kernel
theorem dX7_count_132 : decode cX7_count 132 = .ok (.ifCond .ne 8, 3) := by decide +kernel
theorem dX7_count_135 : decode cX7_count 135 = .ok (.ldc 117, 2) := by decide +kernel
theorem dX7_count_137 : decode cX7_count 137 = .ok (.goto 15, 3) := by decide +kernel
theorem dX7_count_140 : decode cX7_count 140 = .ok (.aload_n 0, 1) := by decide +kernel
theorem dX7_count_141 : decode cX7_count 141 = .ok (.invokevirtual 72, 3) := by decide +kernel
theorem dX7_count_144 : decode cX7_count 144 = .ok (.aload_n 0, 1) := by decide +kernel
theorem dX7_count_145 : decode cX7_count 145 = .ok (.getfield 7, 3) := by decide +kernel
theorem dX7_count_148 : decode cX7_count 148 = .ok (.bipush 8, 2) := by decide +kernel
theorem dX7_count_150 : decode cX7_count 150 = .ok (.iaload, 1) := by decide +kernel
theorem dX7_count_151 : decode cX7_count 151 = .ok (.isub, 1) := by decide +kernel
theorem dX7_count_152 : decode cX7_count 152 = .ok (.ireturn, 1) := by decide +kernel
theorem dX7_count_153 : decode cX7_count 153 = .ok (.aload_n 0, 1) := by decide +kernel
theorem dX7_count_154 : decode cX7_count 154 = .ok (.invokevirtual 111, 3) := by decide +kernel
theorem dX7_count_157 : decode cX7_count 157 = .ok (.ireturn, 1) := by decide +kernel
theorem dX7_count_158 : decode cX7_count 158 = .ok (.aload_n 0, 1) := by decide +kernel
theorem dX7_count_159 : decode cX7_count 159 = .ok (.invokevirtual 125, 3) := by decide +kernel
theorem dX7_count_162 : decode cX7_count 162 = .ok (.ireturn, 1) := by decide +kernel
theorem dX7_count_163 : decode cX7_count 163 = .ok (.aload_n 0, 1) := by decide +kernel
theorem dX7_count_164 : decode cX7_count 164 = .ok (.invokevirtual 128, 3) := by decide +kernel
theorem dX7_count_167 : decode cX7_count 167 = .ok (.ireturn, 1) := by decide +kernel
theorem dX7_count_168 : decode cX7_count 168 = .ok (.aload_n 0, 1) := by decide +kernel
theorem dX7_count_169 : decode cX7_count 169 = .ok (.getfield 25, 3) := by decide +kernel
theorem dX7_count_172 : decode cX7_count 172 = .ok (.ireturn, 1) := by decide +kernel
theorem dX7_count_173 : decode cX7_count 173 = .ok (.aload_n 0, 1) := by decide +kernel
theorem dX7_count_174 : decode cX7_count 174 = .ok (.getfield 131, 3) := by decide +kernel
theorem dX7_count_177 : decode cX7_count 177 = .ok (.ireturn, 1) := by decide +kernel
theorem dX7_count_178 : decode cX7_count 178 = .ok (.ldc 37, 2) := by decide +kernel
theorem dX7_count_180 : decode cX7_count 180 = .ok (.ireturn, 1) := by decide +kernel
set_option maxRecDepth 20000 in
theorem ggX7_isSuspect_X7_isKnown : GoodIn wsX7_isSuspect wsX7_isKnown := goodIn_r _ [6, 1, 11, 12, 13, 14, 15, 16, 17, 18, 19, 20, 21, 22, 23, 24, 25, 26] (by decide +kernel) (by decide +kernel)
set_option maxRecDepth 20000 in
theorem gX7_isSuspect_X7_isKnown : GoodIn wsX7_isSuspect (wsV RX7 121 RX7 yX7_isKnown wsX7_isKnown) := goodIn_app (goodIn_of _ (by decide +kernel)) ggX7_isSuspect_X7_isKnown
set_option maxRecDepth 20000 in
theorem ggX7_isSuspect_X7_due : GoodIn wsX7_isSuspect wsX7_due := goodIn_r _ [10, 1, 11, 12, 13, 14, 15, 16, 17, 18, 19, 20, 21, 22, 23, 24, 25, 26] (by decide +kernel) (by decide +kernel)
set_option maxRecDepth 20000 in
theorem gX7_isSuspect_X7_due : GoodIn wsX7_isSuspect (wsV RX7 118 RX7 yX7_due wsX7_due) := goodIn_app (goodIn_of _ (by decide +kernel)) ggX7_isSuspect_X7_due
theorem dX7_isSuspect_0 : decode cX7_isSuspect 0 = .ok (.iconst 0, 1) := by decide +kernel
theorem dX7_isSuspect_1 : decode cX7_isSuspect 1 = .ok (.istore_n 3, 1) := by decide +kernel
theorem dX7_isSuspect_2 : decode cX7_isSuspect 2 = .ok (.iconst 1, 1) := by decide +kernel
theorem dX7_isSuspect_3 : decode cX7_isSuspect 3 = .ok (.istore 4, 2) := by decide +kernel
theorem dX7_isSuspect_5 : decode cX7_isSuspect 5 = .ok (.iconst 0, 1) := by decide +kernel
theorem dX7_isSuspect_6 : decode cX7_isSuspect 6 = .ok (.istore 5, 2) := by decide +kernel
theorem dX7_isSuspect_8 : decode cX7_isSuspect 8 = .ok (.iload 5, 2) := by decide +kernel
theorem dX7_isSuspect_10 : decode cX7_isSuspect 10 = .ok (.iload_n 1, 1) := by decide +kernel
theorem dX7_isSuspect_11 : decode cX7_isSuspect 11 = .ok (.ifCond .ne 12, 3) := by decide +kernel
theorem dX7_isSuspect_14 : decode cX7_isSuspect 14 = .ok (.aload_n 0, 1) := by decide +kernel
theorem dX7_isSuspect_15 : decode cX7_isSuspect 15 = .ok (.getfield 7, 3) := by decide +kernel
theorem dX7_isSuspect_18 : decode cX7_isSuspect 18 = .ok (.iconst 3, 1) := by decide +kernel
theorem dX7_isSuspect_19 : decode cX7_isSuspect 19 = .ok (.iaload, 1) := by decide +kernel
theorem dX7_isSuspect_20 : decode cX7_isSuspect 20 = .ok (.goto 9, 3) := by decide +kernel
theorem dX7_isSuspect_23 : decode cX7_isSuspect 23 = .ok (.aload_n 0, 1) := by decide +kernel
theorem dX7_isSuspect_24 : decode cX7_isSuspect 24 = .ok (.getfield 7, 3) := by decide +kernel
theorem dX7_isSuspect_27 : decode cX7_isSuspect 27 = .ok (.iconst 1, 1) := by decide +kernel
theorem dX7_isSuspect_28 : decode cX7_isSuspect 28 = .ok (.iaload, 1) := by decide +kernel
theorem dX7_isSuspect_29 : decode cX7_isSuspect 29 = .ok (.if_icmp .ge 84, 3) := by decide +kernel
theorem dX7_isSuspect_32 : decode cX7_isSuspect 32 = .ok (.iload_n 1, 1) := by decide +kernel
theorem dX7_isSuspect_33 : decode cX7_isSuspect 33 = .ok (.ifCond .ne 7, 3) := by decide +kernel
theorem dX7_isSuspect_36 : decode cX7_isSuspect 36 = .ok (.iload_n 2, 1) := by decide +kernel
theorem dX7_isSuspect_37 : decode cX7_isSuspect 37 = .ok (.goto 5, 3) := by decide +kernel
theorem dX7_isSuspect_40 : decode cX7_isSuspect 40 = .ok (.iload 5, 2) := by decide +kernel
theorem dX7_isSuspect_42 : decode cX7_isSuspect 42 = .ok (.istore 6, 2) := by decide +kernel
theorem dX7_isSuspect_44 : decode cX7_isSuspect 44 = .ok (.iload_n 1, 1) := by decide +kernel
theorem dX7_isSuspect_45 : decode cX7_isSuspect 45 = .ok (.ifCond .ne 8, 3) := by decide +kernel
theorem dX7_isSuspect_48 : decode cX7_isSuspect 48 = .ok (.iload 5, 2) := by decide +kernel
theorem dX7_isSuspect_50 : decode cX7_isSuspect 50 = .ok (.goto 4, 3) := by decide +kernel
theorem dX7_isSuspect_53 : decode cX7_isSuspect 53 = .ok (.iload_n 2, 1) := by decide +kernel
theorem dX7_isSuspect_54 : decode cX7_isSuspect 54 = .ok (.istore 7, 2) := by decide +kernel
theorem dX7_isSuspect_56 : decode cX7_isSuspect 56 = .ok (.iload 4, 2) := by decide +kernel
theorem dX7_isSuspect_58 : decode cX7_isSuspect 58 = .ok (.ifCond .eq 18, 3) := by decide +kernel
theorem dX7_isSuspect_61 : decode cX7_isSuspect 61 = .ok (.aload_n 0, 1) := by decide +kernel
theorem dX7_isSuspect_62 : decode cX7_isSuspect 62 = .ok (.iload 6, 2) := by decide +kernel
theorem dX7_isSuspect_64 : decode cX7_isSuspect 64 = .ok (.iload 7, 2) := by decide +kernel
theorem dX7_isSuspect_66 : decode cX7_isSuspect 66 = .ok (.invokevirtual 121, 3) := by decide +kernel
theorem dX7_isSuspect_69 : decode cX7_isSuspect 69 = .ok (.ifCond .eq 7, 3) := by decide +kernel
theorem dX7_isSuspect_72 : decode cX7_isSuspect 72 = .ok (.iconst 1, 1) := by decide +kernel
theorem dX7_isSuspect_73 : decode cX7_isSuspect 73 = .ok (.goto 4, 3) := by decide +kernel
theorem dX7_isSuspect_76 : decode cX7_isSuspect 76 = .ok (.iconst 0, 1) := by decide +kernel
theorem dX7_isSuspect_77 : decode cX7_isSuspect 77 = .ok (.istore 4, 2) := by decide +kernel
theorem dX7_isSuspect_79 : decode cX7_isSuspect 79 = .ok (.iload_n 3, 1) := by decide +kernel
theorem dX7_isSuspect_80 : decode cX7_isSuspect 80 = .ok (.aload_n 0, 1) := by decide +kernel
theorem dX7_isSuspect_81 : decode cX7_isSuspect 81 = .ok (.getfield 7, 3) := by decide +kernel
theorem dX7_isSuspect_84 : decode cX7_isSuspect 84 = .ok (.bipush 81, 2) := by decide +kernel
theorem dX7_isSuspect_86 : decode cX7_isSuspect 86 = .ok (.bipush 6, 2) := by decide +kernel
theorem dX7_isSuspect_88 : decode cX7_isSuspect 88 = .ok (.iload 6, 2) := by decide +kernel
theorem dX7_isSuspect_90 : decode cX7_isSuspect 90 = .ok (.imul, 1) := by decide +kernel
theorem dX7_isSuspect_91 : decode cX7_isSuspect 91 = .ok (.iadd, 1) := by decide +kernel
theorem dX7_isSuspect_92 : decode cX7_isSuspect 92 = .ok (.iload 7, 2) := by decide +kernel
theorem dX7_isSuspect_94 : decode cX7_isSuspect 94 = .ok (.iadd, 1) := by decide +kernel
theorem dX7_isSuspect_95 : decode cX7_isSuspect 95 = .ok (.iaload, 1) := by decide +kernel
theorem dX7_isSuspect_96 : decode cX7_isSuspect 96 = .ok (.aload_n 0, 1) := by decide +kernel
theorem dX7_isSuspect_97 : decode cX7_isSuspect 97 = .ok (.iload 6, 2) := by decide +kernel
theorem dX7_isSuspect_99 : decode cX7_isSuspect 99 = .ok (.iload 7, 2) := by decide +kernel
theorem dX7_isSuspect_101 : decode cX7_isSuspect 101 = .ok (.invokevirtual 118, 3) := by decide +kernel
theorem dX7_isSuspect_104 : decode cX7_isSuspect 104 = .ok (.isub, 1) := by decide +kernel
theorem dX7_isSuspect_105 : decode cX7_isSuspect 105 = .ok (.iadd, 1) := by decide +kernel
theorem dX7_isSuspect_106 : decode cX7_isSuspect 106 = .ok (.istore_n 3, 1) := by decide +kernel
theorem dX7_isSuspect_107 : decode cX7_isSuspect 107 = .ok (.iinc 5 1, 3) := by decide +kernel
theorem dX7_isSuspect_110 : decode cX7_isSuspect 110 = .ok (.goto (-102), 3) := by decide +kernel
theorem dX7_isSuspect_113 : decode cX7_isSuspect 113 = .ok (.iload 4, 2) := by decide +kernel
theorem dX7_isSuspect_115 : decode cX7_isSuspect 115 = .ok (.ifCond .eq 11, 3) := by decide +kernel
theorem dX7_isSuspect_118 : decode cX7_isSuspect 118 = .ok (.iload_n 3, 1) := by decide +kernel
theorem dX7_isSuspect_119 : decode cX7_isSuspect 119 = .ok (.ifCond .eq 7, 3) := by decide +kernel
theorem dX7_isSuspect_122 : decode cX7_isSuspect 122 = .ok (.iconst 1, 1) := by decide +kernel
theorem dX7_isSuspect_123 : decode cX7_isSuspect 123 = .ok (.goto 4, 3) := by decide +kernel
theorem dX7_isSuspect_126 : decode cX7_isSuspect 126 = .ok (.iconst 0, 1) := by decide +kernel
theorem dX7_isSuspect_127 : decode cX7_isSuspect 127 = .ok (.ireturn, 1) := by decide +kernel
set_option maxRecDepth 20000 in
theorem ggX7_suspects_X7_in : GoodIn wsX7_suspects wsX7_in := goodIn_r _ [6] (by decide +kernel) (by decide +kernel)
set_option maxRecDepth 20000 in
theorem gX7_suspects_X7_in : GoodIn wsX7_suspects (va_wsS RX7 33 yX7_in wsX7_in) := goodIn_app (goodIn_of _ (by decide +kernel)) ggX7_suspects_X7_in
set_option maxRecDepth 20000 in
theorem ggX7_suspects_X7_isSuspect : GoodIn wsX7_suspects wsX7_isSuspect := goodIn_r _ [10, 2, 11, 12, 13, 5, 14, 15, 16, 17, 18, 19, 20, 21, 22, 23, 24, 25, 26, 27, 28, 29, 30, 31, 32, 33, 34] (by decide +kernel) (by decide +kernel)
set_option maxRecDepth 20000 in
theorem gX7_suspects_X7_isSuspect : GoodIn wsX7_suspects (wsV RX7 134 RX7 yX7_isSuspect wsX7_isSuspect) := goodIn_app (goodIn_of _ (by decide +kernel)) ggX7_suspects_X7_isSuspect
theorem dX7_suspects_0 : decode cX7_suspects 0 = .ok (.iload_n 1, 1) := by decide +kernel
theorem dX7_suspects_1 : decode cX7_suspects 1 = .ok (.iconst 0, 1) := by decide +kernel
theorem dX7_suspects_2 : decode cX7_suspects 2 = .ok (.iconst 1, 1) := by decide +kernel
theorem dX7_suspects_3 : decode cX7_suspects 3 = .ok (.invokestatic 33, 3) := by decide +kernel
theorem dX7_suspects_6 : decode cX7_suspects 6 = .ok (.ifCond .ne 6, 3) := by decide +kernel
theorem dX7_suspects_9 : decode cX7_suspects 9 = .ok (.ldc 37, 2) := by decide +kernel
theorem dX7_suspects_11 : decode cX7_suspects 11 = .ok (.ireturn, 1) := by decide +kernel
theorem dX7_suspects_12 : decode cX7_suspects 12 = .ok (.iconst 0, 1) := by decide +kernel
theorem dX7_suspects_13 : decode cX7_suspects 13 = .ok (.istore_n 2, 1) := by decide +kernel
theorem dX7_suspects_14 : decode cX7_suspects 14 = .ok (.iconst 0, 1) := by decide +kernel
theorem dX7_suspects_15 : decode cX7_suspects 15 = .ok (.istore_n 3, 1) := by decide +kernel
theorem dX7_suspects_16 : decode cX7_suspects 16 = .ok (.iload_n 3, 1) := by decide +kernel
theorem dX7_suspects_17 : decode cX7_suspects 17 = .ok (.iload_n 1, 1) := by decide +kernel
theorem dX7_suspects_18 : decode cX7_suspects 18 = .ok (.ifCond .ne 12, 3) := by decide +kernel
theorem dX7_suspects_21 : decode cX7_suspects 21 = .ok (.aload_n 0, 1) := by decide +kernel
theorem dX7_suspects_22 : decode cX7_suspects 22 = .ok (.getfield 7, 3) := by decide +kernel
theorem dX7_suspects_25 : decode cX7_suspects 25 = .ok (.iconst 1, 1) := by decide +kernel
theorem dX7_suspects_26 : decode cX7_suspects 26 = .ok (.iaload, 1) := by decide +kernel
theorem dX7_suspects_27 : decode cX7_suspects 27 = .ok (.goto 9, 3) := by decide +kernel
theorem dX7_suspects_30 : decode cX7_suspects 30 = .ok (.aload_n 0, 1) := by decide +kernel
theorem dX7_suspects_31 : decode cX7_suspects 31 = .ok (.getfield 7, 3) := by decide +kernel
theorem dX7_suspects_34 : decode cX7_suspects 34 = .ok (.iconst 3, 1) := by decide +kernel
theorem dX7_suspects_35 : decode cX7_suspects 35 = .ok (.iaload, 1) := by decide +kernel
theorem dX7_suspects_36 : decode cX7_suspects 36 = .ok (.if_icmp .ge 28, 3) := by decide +kernel
theorem dX7_suspects_39 : decode cX7_suspects 39 = .ok (.iload_n 2, 1) := by decide +kernel
theorem dX7_suspects_40 : decode cX7_suspects 40 = .ok (.aload_n 0, 1) := by decide +kernel
theorem dX7_suspects_41 : decode cX7_suspects 41 = .ok (.iload_n 1, 1) := by decide +kernel
theorem dX7_suspects_42 : decode cX7_suspects 42 = .ok (.iload_n 3, 1) := by decide +kernel
theorem dX7_suspects_43 : decode cX7_suspects 43 = .ok (.invokevirtual 134, 3) := by decide +kernel
theorem dX7_suspects_46 : decode cX7_suspects 46 = .ok (.ifCond .eq 9, 3) := by decide +kernel
theorem dX7_suspects_49 : decode cX7_suspects 49 = .ok (.iconst 1, 1) := by decide +kernel
theorem dX7_suspects_50 : decode cX7_suspects 50 = .ok (.iload_n 3, 1) := by decide +kernel
theorem dX7_suspects_51 : decode cX7_suspects 51 = .ok (.ishl, 1) := by decide +kernel
theorem dX7_suspects_52 : decode cX7_suspects 52 = .ok (.goto 4, 3) := by decide +kernel
theorem dX7_suspects_55 : decode cX7_suspects 55 = .ok (.iconst 0, 1) := by decide +kernel
theorem dX7_suspects_56 : decode cX7_suspects 56 = .ok (.ior, 1) := by decide +kernel
theorem dX7_suspects_57 : decode cX7_suspects 57 = .ok (.istore_n 2, 1) := by decide +kernel
theorem dX7_suspects_58 : decode cX7_suspects 58 = .ok (.iinc 3 1, 3) := by decide +kernel
theorem dX7_suspects_61 : decode cX7_suspects 61 = .ok (.goto (-45), 3) := by decide +kernel
theorem dX7_suspects_64 : decode cX7_suspects 64 = .ok (.iload_n 2, 1) := by decide +kernel
theorem dX7_suspects_65 : decode cX7_suspects 65 = .ok (.ireturn, 1) := by decide +kernel
set_option maxRecDepth 20000 in
theorem ggX7_wrongWithout_X7_doesAll : GoodIn wsX7_wrongWithout wsX7_doesAll := goodIn_r _ [7, 2, 8, 9, 10, 6, 11, 12, 13, 14, 15, 16, 17, 18, 19, 20, 21, 22, 23, 24, 25, 26, 27, 28, 29, 30, 31, 32, 33, 34, 35, 36, 37, 38, 39, 40, 41, 42, 43, 44, 45, 46, 47, 48, 49, 50, 51, 52, 53, 54, 55, 56, 57, 58, 59, 60, 61, 62, 63, 64, 65, 78, 79, 80, 81, 82, 83, 84, 85, 86, 87, 88, 89, 90, 91, 92, 93] (by decide +kernel) (by decide +kernel)
set_option maxRecDepth 20000 in
theorem gX7_wrongWithout_X7_doesAll : GoodIn wsX7_wrongWithout (wsV RX7 114 RX7 yX7_doesAll wsX7_doesAll) := goodIn_app (goodIn_of _ (by decide +kernel)) ggX7_wrongWithout_X7_doesAll
set_option maxRecDepth 20000 in
theorem ggX7_wrongWithout_X7_wrong : GoodIn wsX7_wrongWithout wsX7_wrong := goodIn_r _ [69, 2, 70, 71, 72, 6, 73, 74, 75, 76, 77, 78, 79, 80, 81, 82, 83, 84, 85, 86, 87, 88, 89, 90, 91, 92, 93] (by decide +kernel) (by decide +kernel)
set_option maxRecDepth 20000 in
theorem gX7_wrongWithout_X7_wrong : GoodIn wsX7_wrongWithout (wsV RX7 125 RX7 yX7_wrong wsX7_wrong) := goodIn_app (goodIn_of _ (by decide +kernel)) ggX7_wrongWithout_X7_wrong
theorem dX7_wrongWithout_0 : decode cX7_wrongWithout 0 = .ok (.iconst 0, 1) := by decide +kernel
theorem dX7_wrongWithout_1 : decode cX7_wrongWithout 1 = .ok (.istore_n 2, 1) := by decide +kernel
theorem dX7_wrongWithout_2 : decode cX7_wrongWithout 2 = .ok (.iload_n 2, 1) := by decide +kernel
theorem dX7_wrongWithout_3 : decode cX7_wrongWithout 3 = .ok (.sipush 269, 3) := by decide +kernel
theorem dX7_wrongWithout_6 : decode cX7_wrongWithout 6 = .ok (.if_icmp .ge 21, 3) := by decide +kernel
theorem dX7_wrongWithout_9 : decode cX7_wrongWithout 9 = .ok (.aload_n 0, 1) := by decide +kernel
theorem dX7_wrongWithout_10 : decode cX7_wrongWithout 10 = .ok (.getfield 16, 3) := by decide +kernel
theorem dX7_wrongWithout_13 : decode cX7_wrongWithout 13 = .ok (.iload_n 2, 1) := by decide +kernel
theorem dX7_wrongWithout_14 : decode cX7_wrongWithout 14 = .ok (.aload_n 0, 1) := by decide +kernel
theorem dX7_wrongWithout_15 : decode cX7_wrongWithout 15 = .ok (.getfield 7, 3) := by decide +kernel
theorem dX7_wrongWithout_18 : decode cX7_wrongWithout 18 = .ok (.iload_n 2, 1) := by decide +kernel
theorem dX7_wrongWithout_19 : decode cX7_wrongWithout 19 = .ok (.iaload, 1) := by decide +kernel
theorem dX7_wrongWithout_20 : decode cX7_wrongWithout 20 = .ok (.iastore, 1) := by decide +kernel
theorem dX7_wrongWithout_21 : decode cX7_wrongWithout 21 = .ok (.iinc 2 1, 3) := by decide +kernel
theorem dX7_wrongWithout_24 : decode cX7_wrongWithout 24 = .ok (.goto (-22), 3) := by decide +kernel
theorem dX7_wrongWithout_27 : decode cX7_wrongWithout 27 = .ok (.aload_n 0, 1) := by decide +kernel
theorem dX7_wrongWithout_28 : decode cX7_wrongWithout 28 = .ok (.getfield 7, 3) := by decide +kernel
theorem dX7_wrongWithout_31 : decode cX7_wrongWithout 31 = .ok (.iconst 4, 1) := by decide +kernel
theorem dX7_wrongWithout_32 : decode cX7_wrongWithout 32 = .ok (.iload_n 1, 1) := by decide +kernel
theorem dX7_wrongWithout_33 : decode cX7_wrongWithout 33 = .ok (.iastore, 1) := by decide +kernel
theorem dX7_wrongWithout_34 : decode cX7_wrongWithout 34 = .ok (.aload_n 0, 1) := by decide +kernel
theorem dX7_wrongWithout_35 : decode cX7_wrongWithout 35 = .ok (.invokevirtual 114, 3) := by decide +kernel
theorem dX7_wrongWithout_38 : decode cX7_wrongWithout 38 = .ok (.istore_n 2, 1) := by decide +kernel
theorem dX7_wrongWithout_39 : decode cX7_wrongWithout 39 = .ok (.iload_n 2, 1) := by decide +kernel
theorem dX7_wrongWithout_40 : decode cX7_wrongWithout 40 = .ok (.ifCond .le 10, 3) := by decide +kernel
theorem dX7_wrongWithout_43 : decode cX7_wrongWithout 43 = .ok (.aload_n 0, 1) := by decide +kernel
theorem dX7_wrongWithout_44 : decode cX7_wrongWithout 44 = .ok (.invokevirtual 125, 3) := by decide +kernel
theorem dX7_wrongWithout_47 : decode cX7_wrongWithout 47 = .ok (.goto 4, 3) := by decide +kernel
theorem dX7_wrongWithout_50 : decode cX7_wrongWithout 50 = .ok (.iconst 0, 1) := by decide +kernel
theorem dX7_wrongWithout_51 : decode cX7_wrongWithout 51 = .ok (.istore_n 3, 1) := by decide +kernel
theorem dX7_wrongWithout_52 : decode cX7_wrongWithout 52 = .ok (.iconst 0, 1) := by decide +kernel
theorem dX7_wrongWithout_53 : decode cX7_wrongWithout 53 = .ok (.istore 4, 2) := by decide +kernel
theorem dX7_wrongWithout_55 : decode cX7_wrongWithout 55 = .ok (.iload 4, 2) := by decide +kernel
theorem dX7_wrongWithout_57 : decode cX7_wrongWithout 57 = .ok (.sipush 269, 3) := by decide +kernel
theorem dX7_wrongWithout_60 : decode cX7_wrongWithout 60 = .ok (.if_icmp .ge 23, 3) := by decide +kernel
theorem dX7_wrongWithout_63 : decode cX7_wrongWithout 63 = .ok (.aload_n 0, 1) := by decide +kernel
theorem dX7_wrongWithout_64 : decode cX7_wrongWithout 64 = .ok (.getfield 7, 3) := by decide +kernel
theorem dX7_wrongWithout_67 : decode cX7_wrongWithout 67 = .ok (.iload 4, 2) := by decide +kernel
theorem dX7_wrongWithout_69 : decode cX7_wrongWithout 69 = .ok (.aload_n 0, 1) := by decide +kernel
theorem dX7_wrongWithout_70 : decode cX7_wrongWithout 70 = .ok (.getfield 16, 3) := by decide +kernel
theorem dX7_wrongWithout_73 : decode cX7_wrongWithout 73 = .ok (.iload 4, 2) := by decide +kernel
theorem dX7_wrongWithout_75 : decode cX7_wrongWithout 75 = .ok (.iaload, 1) := by decide +kernel
theorem dX7_wrongWithout_76 : decode cX7_wrongWithout 76 = .ok (.iastore, 1) := by decide +kernel
theorem dX7_wrongWithout_77 : decode cX7_wrongWithout 77 = .ok (.iinc 4 1, 3) := by decide +kernel
theorem dX7_wrongWithout_80 : decode cX7_wrongWithout 80 = .ok (.goto (-25), 3) := by decide +kernel
theorem dX7_wrongWithout_83 : decode cX7_wrongWithout 83 = .ok (.iload_n 3, 1) := by decide +kernel
theorem dX7_wrongWithout_84 : decode cX7_wrongWithout 84 = .ok (.ireturn, 1) := by decide +kernel
set_option maxRecDepth 20000 in
theorem ggX7_wouldBeWrong_X7_in : GoodIn wsX7_wouldBeWrong wsX7_in := goodIn_r _ [6] (by decide +kernel) (by decide +kernel)
set_option maxRecDepth 20000 in
theorem gX7_wouldBeWrong_X7_in : GoodIn wsX7_wouldBeWrong (va_wsS RX7 33 yX7_in wsX7_in) := goodIn_app (goodIn_of _ (by decide +kernel)) ggX7_wouldBeWrong_X7_in
set_option maxRecDepth 20000 in
theorem ggX7_wouldBeWrong_X7_wrongWithout : GoodIn wsX7_wouldBeWrong wsX7_wrongWithout := goodIn_r _ [10, 11, 1, 12, 13, 14, 5, 15, 16, 17, 18, 19, 20, 21, 22, 23, 24, 25, 26, 27, 28, 29, 30, 31, 32, 33, 34, 35, 36, 37, 38, 39, 40, 41, 42, 43, 44, 45, 46, 47, 48, 49, 50, 51, 52, 53, 54, 55, 3, 4, 6, 56, 57, 58, 59, 60, 61, 62, 63, 64, 65, 66, 67, 68, 69, 70, 71, 72, 73, 74, 75, 76, 77, 78, 79, 80, 81, 82, 83, 84, 85, 86, 87, 88, 89, 90, 91, 92, 93, 94, 95, 96, 97, 98] (by decide +kernel) (by decide +kernel)
set_option maxRecDepth 20000 in
theorem gX7_wouldBeWrong_X7_wrongWithout : GoodIn wsX7_wouldBeWrong (wsV RX7 137 RX7 yX7_wrongWithout wsX7_wrongWithout) := goodIn_app (goodIn_of _ (by decide +kernel)) ggX7_wouldBeWrong_X7_wrongWithout
theorem dX7_wouldBeWrong_0 : decode cX7_wouldBeWrong 0 = .ok (.iload_n 1, 1) := by decide +kernel
theorem dX7_wouldBeWrong_1 : decode cX7_wouldBeWrong 1 = .ok (.iconst 0, 1) := by decide +kernel
theorem dX7_wouldBeWrong_2 : decode cX7_wouldBeWrong 2 = .ok (.aload_n 0, 1) := by decide +kernel
theorem dX7_wouldBeWrong_3 : decode cX7_wouldBeWrong 3 = .ok (.getfield 7, 3) := by decide +kernel
theorem dX7_wouldBeWrong_6 : decode cX7_wouldBeWrong 6 = .ok (.iconst 0, 1) := by decide +kernel
theorem dX7_wouldBeWrong_7 : decode cX7_wouldBeWrong 7 = .ok (.iaload, 1) := by decide +kernel
theorem dX7_wouldBeWrong_8 : decode cX7_wouldBeWrong 8 = .ok (.invokestatic 33, 3) := by decide +kernel
theorem dX7_wouldBeWrong_11 : decode cX7_wouldBeWrong 11 = .ok (.ifCond .eq 11, 3) := by decide +kernel
theorem dX7_wouldBeWrong_14 : decode cX7_wouldBeWrong 14 = .ok (.aload_n 0, 1) := by decide +kernel
theorem dX7_wouldBeWrong_15 : decode cX7_wouldBeWrong 15 = .ok (.iload_n 1, 1) := by decide +kernel
theorem dX7_wouldBeWrong_16 : decode cX7_wouldBeWrong 16 = .ok (.invokevirtual 137, 3) := by decide +kernel
theorem dX7_wouldBeWrong_19 : decode cX7_wouldBeWrong 19 = .ok (.goto 5, 3) := by decide +kernel
theorem dX7_wouldBeWrong_22 : decode cX7_wouldBeWrong 22 = .ok (.ldc 37, 2) := by decide +kernel
theorem dX7_wouldBeWrong_24 : decode cX7_wouldBeWrong 24 = .ok (.ireturn, 1) := by decide +kernel
set_option maxRecDepth 20000 in
theorem ggX7_best_X7_wrongWithout : GoodIn wsX7_best wsX7_wrongWithout := goodIn_r _ [6, 7, 1, 8, 9, 10, 5, 11, 12, 13, 14, 15, 16, 17, 18, 19, 20, 21, 22, 23, 24, 25, 26, 27, 28, 29, 30, 31, 32, 33, 34, 35, 36, 37, 38, 39, 40, 41, 42, 43, 44, 45, 46, 47, 48, 49, 50, 51, 52, 53, 54, 55, 56, 57, 58, 59, 60, 61, 62, 63, 64, 65, 66, 67, 68, 69, 70, 71, 72, 73, 74, 75, 76, 77, 78, 79, 80, 81, 82, 83, 84, 85, 86, 87, 88, 89, 90, 91, 92, 93, 94, 95, 96, 97] (by decide +kernel) (by decide +kernel)
set_option maxRecDepth 20000 in
theorem gX7_best_X7_wrongWithout : GoodIn wsX7_best (wsV RX7 137 RX7 yX7_wrongWithout wsX7_wrongWithout) := goodIn_app (goodIn_of _ (by decide +kernel)) ggX7_best_X7_wrongWithout
theorem dX7_best_0 : decode cX7_best 0 = .ok (.iconst 0, 1) := by decide +kernel
theorem dX7_best_1 : decode cX7_best 1 = .ok (.istore_n 1, 1) := by decide +kernel
theorem dX7_best_2 : decode cX7_best 2 = .ok (.aload_n 0, 1) := by decide +kernel
theorem dX7_best_3 : decode cX7_best 3 = .ok (.iconst 0, 1) := by decide +kernel
theorem dX7_best_4 : decode cX7_best 4 = .ok (.invokevirtual 137, 3) := by decide +kernel
theorem dX7_best_7 : decode cX7_best 7 = .ok (.istore_n 2, 1) := by decide +kernel
theorem dX7_best_8 : decode cX7_best 8 = .ok (.iconst 1, 1) := by decide +kernel
theorem dX7_best_9 : decode cX7_best 9 = .ok (.istore_n 3, 1) := by decide +kernel
theorem dX7_best_10 : decode cX7_best 10 = .ok (.iload_n 3, 1) := by decide +kernel
theorem dX7_best_11 : decode cX7_best 11 = .ok (.aload_n 0, 1) := by decide +kernel
theorem dX7_best_12 : decode cX7_best 12 = .ok (.getfield 7, 3) := by decide +kernel
theorem dX7_best_15 : decode cX7_best 15 = .ok (.iconst 0, 1) := by decide +kernel
theorem dX7_best_16 : decode cX7_best 16 = .ok (.iaload, 1) := by decide +kernel
theorem dX7_best_17 : decode cX7_best 17 = .ok (.if_icmp .gt 27, 3) := by decide +kernel
theorem dX7_best_20 : decode cX7_best 20 = .ok (.aload_n 0, 1) := by decide +kernel
theorem dX7_best_21 : decode cX7_best 21 = .ok (.iload_n 3, 1) := by decide +kernel
theorem dX7_best_22 : decode cX7_best 22 = .ok (.invokevirtual 137, 3) := by decide +kernel
theorem dX7_best_25 : decode cX7_best 25 = .ok (.istore 4, 2) := by decide +kernel
theorem dX7_best_27 : decode cX7_best 27 = .ok (.iload 4, 2) := by decide +kernel
theorem dX7_best_29 : decode cX7_best 29 = .ok (.iload_n 2, 1) := by decide +kernel
theorem dX7_best_30 : decode cX7_best 30 = .ok (.if_icmp .gt 8, 3) := by decide +kernel
theorem dX7_best_33 : decode cX7_best 33 = .ok (.iload_n 3, 1) := by decide +kernel
theorem dX7_best_34 : decode cX7_best 34 = .ok (.istore_n 1, 1) := by decide +kernel
theorem dX7_best_35 : decode cX7_best 35 = .ok (.iload 4, 2) := by decide +kernel
theorem dX7_best_37 : decode cX7_best 37 = .ok (.istore_n 2, 1) := by decide +kernel
theorem dX7_best_38 : decode cX7_best 38 = .ok (.iinc 3 1, 3) := by decide +kernel
theorem dX7_best_41 : decode cX7_best 41 = .ok (.goto (-31), 3) := by decide +kernel
theorem dX7_best_44 : decode cX7_best 44 = .ok (.iload_n 1, 1) := by decide +kernel
theorem dX7_best_45 : decode cX7_best 45 = .ok (.ireturn, 1) := by decide +kernel
theorem dX7_undo_0 : decode cX7_undo 0 = .ok (.aload_n 0, 1) := by decide +kernel
theorem dX7_undo_1 : decode cX7_undo 1 = .ok (.getfield 25, 3) := by decide +kernel
theorem dX7_undo_4 : decode cX7_undo 4 = .ok (.ifCond .ne 6, 3) := by decide +kernel
theorem dX7_undo_7 : decode cX7_undo 7 = .ok (.ldc 58, 2) := by decide +kernel
theorem dX7_undo_9 : decode cX7_undo 9 = .ok (.ireturn, 1) := by decide +kernel
theorem dX7_undo_10 : decode cX7_undo 10 = .ok (.aload_n 0, 1) := by decide +kernel
theorem dX7_undo_11 : decode cX7_undo 11 = .ok (.dup, 1) := by decide +kernel
theorem dX7_undo_12 : decode cX7_undo 12 = .ok (.getfield 25, 3) := by decide +kernel
theorem dX7_undo_15 : decode cX7_undo 15 = .ok (.iconst 1, 1) := by decide +kernel
theorem dX7_undo_16 : decode cX7_undo 16 = .ok (.isub, 1) := by decide +kernel
theorem dX7_undo_17 : decode cX7_undo 17 = .ok (.putfield 25, 3) := by decide +kernel
theorem dX7_undo_20 : decode cX7_undo 20 = .ok (.iconst 0, 1) := by decide +kernel
theorem dX7_undo_21 : decode cX7_undo 21 = .ok (.istore_n 1, 1) := by decide +kernel
theorem dX7_undo_22 : decode cX7_undo 22 = .ok (.iload_n 1, 1) := by decide +kernel
theorem dX7_undo_23 : decode cX7_undo 23 = .ok (.sipush 269, 3) := by decide +kernel
theorem dX7_undo_26 : decode cX7_undo 26 = .ok (.if_icmp .ge 30, 3) := by decide +kernel
theorem dX7_undo_29 : decode cX7_undo 29 = .ok (.aload_n 0, 1) := by decide +kernel
theorem dX7_undo_30 : decode cX7_undo 30 = .ok (.getfield 7, 3) := by decide +kernel
theorem dX7_undo_33 : decode cX7_undo 33 = .ok (.iload_n 1, 1) := by decide +kernel
theorem dX7_undo_34 : decode cX7_undo 34 = .ok (.aload_n 0, 1) := by decide +kernel
theorem dX7_undo_35 : decode cX7_undo 35 = .ok (.getfield 13, 3) := by decide +kernel
theorem dX7_undo_38 : decode cX7_undo 38 = .ok (.sipush 269, 3) := by decide +kernel
theorem dX7_undo_41 : decode cX7_undo 41 = .ok (.aload_n 0, 1) := by decide +kernel
theorem dX7_undo_42 : decode cX7_undo 42 = .ok (.getfield 25, 3) := by decide +kernel
theorem dX7_undo_45 : decode cX7_undo 45 = .ok (.imul, 1) := by decide +kernel
theorem dX7_undo_46 : decode cX7_undo 46 = .ok (.iload_n 1, 1) := by decide +kernel
theorem dX7_undo_47 : decode cX7_undo 47 = .ok (.iadd, 1) := by decide +kernel
theorem dX7_undo_48 : decode cX7_undo 48 = .ok (.iaload, 1) := by decide +kernel
theorem dX7_undo_49 : decode cX7_undo 49 = .ok (.iastore, 1) := by decide +kernel
theorem dX7_undo_50 : decode cX7_undo 50 = .ok (.iinc 1 1, 3) := by decide +kernel
theorem dX7_undo_53 : decode cX7_undo 53 = .ok (.goto (-31), 3) := by decide +kernel
theorem dX7_undo_56 : decode cX7_undo 56 = .ok (.aload_n 0, 1) := by decide +kernel
theorem dX7_undo_57 : decode cX7_undo 57 = .ok (.getfield 25, 3) := by decide +kernel
theorem dX7_undo_60 : decode cX7_undo 60 = .ok (.ireturn, 1) := by decide +kernel
set_option maxRecDepth 20000 in
theorem ggX7_type_X7_in : GoodIn wsX7_type wsX7_in := goodIn_r _ [8] (by decide +kernel) (by decide +kernel)
set_option maxRecDepth 20000 in
theorem gX7_type_X7_in : GoodIn wsX7_type (va_wsS RX7 33 yX7_in wsX7_in) := goodIn_app (goodIn_of _ (by decide +kernel)) ggX7_type_X7_in
theorem dX7_type_0 : decode cX7_type 0 = .ok (.iload_n 1, 1) := by decide +kernel
theorem dX7_type_1 : decode cX7_type 1 = .ok (.bipush 32, 2) := by decide +kernel
theorem dX7_type_3 : decode cX7_type 3 = .ok (.bipush 126, 2) := by decide +kernel
theorem dX7_type_5 : decode cX7_type 5 = .ok (.invokestatic 33, 3) := by decide +kernel
theorem dX7_type_8 : decode cX7_type 8 = .ok (.ifCond .ne 6, 3) := by decide +kernel
theorem dX7_type_11 : decode cX7_type 11 = .ok (.ldc 37, 2) := by decide +kernel
theorem dX7_type_13 : decode cX7_type 13 = .ok (.ireturn, 1) := by decide +kernel
theorem dX7_type_14 : decode cX7_type 14 = .ok (.aload_n 0, 1) := by decide +kernel
theorem dX7_type_15 : decode cX7_type 15 = .ok (.getfield 131, 3) := by decide +kernel
theorem dX7_type_18 : decode cX7_type 18 = .ok (.bipush 80, 2) := by decide +kernel
theorem dX7_type_20 : decode cX7_type 20 = .ok (.if_icmp .ne 6, 3) := by decide +kernel
theorem dX7_type_23 : decode cX7_type 23 = .ok (.ldc 140, 2) := by decide +kernel
theorem dX7_type_25 : decode cX7_type 25 = .ok (.ireturn, 1) := by decide +kernel
theorem dX7_type_26 : decode cX7_type 26 = .ok (.aload_n 0, 1) := by decide +kernel
theorem dX7_type_27 : decode cX7_type 27 = .ok (.getfield 19, 3) := by decide +kernel
theorem dX7_type_30 : decode cX7_type 30 = .ok (.aload_n 0, 1) := by decide +kernel
theorem dX7_type_31 : decode cX7_type 31 = .ok (.getfield 131, 3) := by decide +kernel
theorem dX7_type_34 : decode cX7_type 34 = .ok (.iload_n 1, 1) := by decide +kernel
theorem dX7_type_35 : decode cX7_type 35 = .ok (.iastore, 1) := by decide +kernel
theorem dX7_type_36 : decode cX7_type 36 = .ok (.aload_n 0, 1) := by decide +kernel
theorem dX7_type_37 : decode cX7_type 37 = .ok (.dup, 1) := by decide +kernel
theorem dX7_type_38 : decode cX7_type 38 = .ok (.getfield 131, 3) := by decide +kernel
theorem dX7_type_41 : decode cX7_type 41 = .ok (.iconst 1, 1) := by decide +kernel
theorem dX7_type_42 : decode cX7_type 42 = .ok (.iadd, 1) := by decide +kernel
theorem dX7_type_43 : decode cX7_type 43 = .ok (.putfield 131, 3) := by decide +kernel
theorem dX7_type_46 : decode cX7_type 46 = .ok (.aload_n 0, 1) := by decide +kernel
theorem dX7_type_47 : decode cX7_type 47 = .ok (.getfield 131, 3) := by decide +kernel
theorem dX7_type_50 : decode cX7_type 50 = .ok (.ireturn, 1) := by decide +kernel
theorem dX7_clearText_0 : decode cX7_clearText 0 = .ok (.aload_n 0, 1) := by decide +kernel
theorem dX7_clearText_1 : decode cX7_clearText 1 = .ok (.getfield 131, 3) := by decide +kernel
theorem dX7_clearText_4 : decode cX7_clearText 4 = .ok (.istore_n 1, 1) := by decide +kernel
theorem dX7_clearText_5 : decode cX7_clearText 5 = .ok (.aload_n 0, 1) := by decide +kernel
theorem dX7_clearText_6 : decode cX7_clearText 6 = .ok (.iconst 0, 1) := by decide +kernel
theorem dX7_clearText_7 : decode cX7_clearText 7 = .ok (.putfield 131, 3) := by decide +kernel
theorem dX7_clearText_10 : decode cX7_clearText 10 = .ok (.iload_n 1, 1) := by decide +kernel
theorem dX7_clearText_11 : decode cX7_clearText 11 = .ok (.ireturn, 1) := by decide +kernel
set_option maxRecDepth 20000 in
theorem ggX7_isDigit_X7_in : GoodIn wsX7_isDigit wsX7_in := goodIn_r _ [7] (by decide +kernel) (by decide +kernel)
set_option maxRecDepth 20000 in
theorem gX7_isDigit_X7_in : GoodIn wsX7_isDigit (va_wsS RX7 33 yX7_in wsX7_in) := goodIn_app (goodIn_of _ (by decide +kernel)) ggX7_isDigit_X7_in
theorem dX7_isDigit_0 : decode cX7_isDigit 0 = .ok (.aload_n 0, 1) := by decide +kernel
theorem dX7_isDigit_1 : decode cX7_isDigit 1 = .ok (.getfield 141, 3) := by decide +kernel
theorem dX7_isDigit_4 : decode cX7_isDigit 4 = .ok (.aload_n 0, 1) := by decide +kernel
theorem dX7_isDigit_5 : decode cX7_isDigit 5 = .ok (.getfield 131, 3) := by decide +kernel
theorem dX7_isDigit_8 : decode cX7_isDigit 8 = .ok (.if_icmp .ge 26, 3) := by decide +kernel
theorem dX7_isDigit_11 : decode cX7_isDigit 11 = .ok (.aload_n 0, 1) := by decide +kernel
theorem dX7_isDigit_12 : decode cX7_isDigit 12 = .ok (.getfield 19, 3) := by decide +kernel
theorem dX7_isDigit_15 : decode cX7_isDigit 15 = .ok (.aload_n 0, 1) := by decide +kernel
theorem dX7_isDigit_16 : decode cX7_isDigit 16 = .ok (.getfield 141, 3) := by decide +kernel
theorem dX7_isDigit_19 : decode cX7_isDigit 19 = .ok (.iaload, 1) := by decide +kernel
theorem dX7_isDigit_20 : decode cX7_isDigit 20 = .ok (.bipush 48, 2) := by decide +kernel
theorem dX7_isDigit_22 : decode cX7_isDigit 22 = .ok (.bipush 57, 2) := by decide +kernel
theorem dX7_isDigit_24 : decode cX7_isDigit 24 = .ok (.invokestatic 33, 3) := by decide +kernel
theorem dX7_isDigit_27 : decode cX7_isDigit 27 = .ok (.ifCond .eq 7, 3) := by decide +kernel
theorem dX7_isDigit_30 : decode cX7_isDigit 30 = .ok (.iconst 1, 1) := by decide +kernel
theorem dX7_isDigit_31 : decode cX7_isDigit 31 = .ok (.goto 4, 3) := by decide +kernel
theorem dX7_isDigit_34 : decode cX7_isDigit 34 = .ok (.iconst 0, 1) := by decide +kernel
theorem dX7_isDigit_35 : decode cX7_isDigit 35 = .ok (.ireturn, 1) := by decide +kernel
set_option maxRecDepth 20000 in
theorem ggX7_number_X7_isDigit : GoodIn wsX7_number wsX7_isDigit := goodIn_r _ [11, 1, 2, 3, 12, 13, 10, 14, 15, 16, 17, 18, 19, 20, 21, 22, 23, 24, 25, 26, 27, 28, 29, 30] (by decide +kernel) (by decide +kernel)
set_option maxRecDepth 20000 in
theorem gX7_number_X7_isDigit : GoodIn wsX7_number (wsV RX7 144 RX7 yX7_isDigit wsX7_isDigit) := goodIn_app (goodIn_of _ (by decide +kernel)) ggX7_number_X7_isDigit
theorem dX7_number_0 : decode cX7_number 0 = .ok (.aload_n 0, 1) := by decide +kernel
theorem dX7_number_1 : decode cX7_number 1 = .ok (.getfield 141, 3) := by decide +kernel
theorem dX7_number_4 : decode cX7_number 4 = .ok (.aload_n 0, 1) := by decide +kernel
theorem dX7_number_5 : decode cX7_number 5 = .ok (.getfield 131, 3) := by decide +kernel
theorem dX7_number_8 : decode cX7_number 8 = .ok (.if_icmp .ge 21, 3) := by decide +kernel
theorem dX7_number_11 : decode cX7_number 11 = .ok (.aload_n 0, 1) := by decide +kernel
theorem dX7_number_12 : decode cX7_number 12 = .ok (.getfield 19, 3) := by decide +kernel
theorem dX7_number_15 : decode cX7_number 15 = .ok (.aload_n 0, 1) := by decide +kernel
theorem dX7_number_16 : decode cX7_number 16 = .ok (.getfield 141, 3) := by decide +kernel
theorem dX7_number_19 : decode cX7_number 19 = .ok (.iaload, 1) := by decide +kernel
theorem dX7_number_20 : decode cX7_number 20 = .ok (.bipush 45, 2) := by decide +kernel
theorem dX7_number_22 : decode cX7_number 22 = .ok (.if_icmp .ne 7, 3) := by decide +kernel
theorem dX7_number_25 : decode cX7_number 25 = .ok (.iconst 1, 1) := by decide +kernel
theorem dX7_number_26 : decode cX7_number 26 = .ok (.goto 4, 3) := by decide +kernel
theorem dX7_number_29 : decode cX7_number 29 = .ok (.iconst 0, 1) := by decide +kernel
theorem dX7_number_30 : decode cX7_number 30 = .ok (.istore_n 1, 1) := by decide +kernel
theorem dX7_number_31 : decode cX7_number 31 = .ok (.aload_n 0, 1) := by decide +kernel
theorem dX7_number_32 : decode cX7_number 32 = .ok (.dup, 1) := by decide +kernel
theorem dX7_number_33 : decode cX7_number 33 = .ok (.getfield 141, 3) := by decide +kernel
theorem dX7_number_36 : decode cX7_number 36 = .ok (.iload_n 1, 1) := by decide +kernel
theorem dX7_number_37 : decode cX7_number 37 = .ok (.ifCond .eq 7, 3) := by decide +kernel
theorem dX7_number_40 : decode cX7_number 40 = .ok (.iconst 1, 1) := by decide +kernel
theorem dX7_number_41 : decode cX7_number 41 = .ok (.goto 4, 3) := by decide +kernel
theorem dX7_number_44 : decode cX7_number 44 = .ok (.iconst 0, 1) := by decide +kernel
theorem dX7_number_45 : decode cX7_number 45 = .ok (.iadd, 1) := by decide +kernel
theorem dX7_number_46 : decode cX7_number 46 = .ok (.putfield 141, 3) := by decide +kernel
theorem dX7_number_49 : decode cX7_number 49 = .ok (.aload_n 0, 1) := by decide +kernel
theorem dX7_number_50 : decode cX7_number 50 = .ok (.invokevirtual 144, 3) := by decide +kernel
theorem dX7_number_53 : decode cX7_number 53 = .ok (.ifCond .ne 5, 3) := by decide +kernel
theorem dX7_number_56 : decode cX7_number 56 = .ok (.iconst 0, 1) := by decide +kernel
theorem dX7_number_57 : decode cX7_number 57 = .ok (.ireturn, 1) := by decide +kernel
theorem dX7_number_58 : decode cX7_number 58 = .ok (.aload_n 0, 1) := by decide +kernel
theorem dX7_number_59 : decode cX7_number 59 = .ok (.getfield 19, 3) := by decide +kernel
theorem dX7_number_62 : decode cX7_number 62 = .ok (.aload_n 0, 1) := by decide +kernel
theorem dX7_number_63 : decode cX7_number 63 = .ok (.getfield 141, 3) := by decide +kernel
theorem dX7_number_66 : decode cX7_number 66 = .ok (.iaload, 1) := by decide +kernel
theorem dX7_number_67 : decode cX7_number 67 = .ok (.bipush 48, 2) := by decide +kernel
theorem dX7_number_69 : decode cX7_number 69 = .ok (.isub, 1) := by decide +kernel
theorem dX7_number_70 : decode cX7_number 70 = .ok (.istore_n 2, 1) := by decide +kernel
theorem dX7_number_71 : decode cX7_number 71 = .ok (.aload_n 0, 1) := by decide +kernel
theorem dX7_number_72 : decode cX7_number 72 = .ok (.dup, 1) := by decide +kernel
theorem dX7_number_73 : decode cX7_number 73 = .ok (.getfield 141, 3) := by decide +kernel
theorem dX7_number_76 : decode cX7_number 76 = .ok (.iconst 1, 1) := by decide +kernel
theorem dX7_number_77 : decode cX7_number 77 = .ok (.iadd, 1) := by decide +kernel
theorem dX7_number_78 : decode cX7_number 78 = .ok (.putfield 141, 3) := by decide +kernel
theorem dX7_number_81 : decode cX7_number 81 = .ok (.aload_n 0, 1) := by decide +kernel
theorem dX7_number_82 : decode cX7_number 82 = .ok (.invokevirtual 144, 3) := by decide +kernel
theorem dX7_number_85 : decode cX7_number 85 = .ok (.ifCond .eq 31, 3) := by decide +kernel
theorem dX7_number_88 : decode cX7_number 88 = .ok (.bipush 10, 2) := by decide +kernel
theorem dX7_number_90 : decode cX7_number 90 = .ok (.iload_n 2, 1) := by decide +kernel
theorem dX7_number_91 : decode cX7_number 91 = .ok (.imul, 1) := by decide +kernel
theorem dX7_number_92 : decode cX7_number 92 = .ok (.aload_n 0, 1) := by decide +kernel
theorem dX7_number_93 : decode cX7_number 93 = .ok (.getfield 19, 3) := by decide +kernel
theorem dX7_number_96 : decode cX7_number 96 = .ok (.aload_n 0, 1) := by decide +kernel
theorem dX7_number_97 : decode cX7_number 97 = .ok (.getfield 141, 3) := by decide +kernel
theorem dX7_number_100 : decode cX7_number 100 = .ok (.iaload, 1) := by decide +kernel
theorem dX7_number_101 : decode cX7_number 101 = .ok (.iadd, 1) := by decide +kernel
theorem dX7_number_102 : decode cX7_number 102 = .ok (.bipush 48, 2) := by decide +kernel
theorem dX7_number_104 : decode cX7_number 104 = .ok (.isub, 1) := by decide +kernel
theorem dX7_number_105 : decode cX7_number 105 = .ok (.istore_n 2, 1) := by decide +kernel
theorem dX7_number_106 : decode cX7_number 106 = .ok (.aload_n 0, 1) := by decide +kernel
theorem dX7_number_107 : decode cX7_number 107 = .ok (.dup, 1) := by decide +kernel
theorem dX7_number_108 : decode cX7_number 108 = .ok (.getfield 141, 3) := by decide +kernel
theorem dX7_number_111 : decode cX7_number 111 = .ok (.iconst 1, 1) := by decide +kernel
theorem dX7_number_112 : decode cX7_number 112 = .ok (.iadd, 1) := by decide +kernel
theorem dX7_number_113 : decode cX7_number 113 = .ok (.putfield 141, 3) := by decide +kernel
theorem dX7_number_116 : decode cX7_number 116 = .ok (.aload_n 0, 1) := by decide +kernel
theorem dX7_number_117 : decode cX7_number 117 = .ok (.getfield 22, 3) := by decide +kernel
theorem dX7_number_120 : decode cX7_number 120 = .ok (.bipush 6, 2) := by decide +kernel
theorem dX7_number_122 : decode cX7_number 122 = .ok (.aload_n 0, 1) := by decide +kernel
theorem dX7_number_123 : decode cX7_number 123 = .ok (.getfield 147, 3) := by decide +kernel
theorem dX7_number_126 : decode cX7_number 126 = .ok (.imul, 1) := by decide +kernel
theorem dX7_number_127 : decode cX7_number 127 = .ok (.aload_n 0, 1) := by decide +kernel
theorem dX7_number_128 : decode cX7_number 128 = .ok (.getfield 150, 3) := by decide +kernel
theorem dX7_number_131 : decode cX7_number 131 = .ok (.iadd, 1) := by decide +kernel
theorem dX7_number_132 : decode cX7_number 132 = .ok (.iload_n 1, 1) := by decide +kernel
theorem dX7_number_133 : decode cX7_number 133 = .ok (.ifCond .eq 8, 3) := by decide +kernel
theorem dX7_number_136 : decode cX7_number 136 = .ok (.iload_n 2, 1) := by decide +kernel
theorem dX7_number_137 : decode cX7_number 137 = .ok (.ineg, 1) := by decide +kernel
theorem dX7_number_138 : decode cX7_number 138 = .ok (.goto 4, 3) := by decide +kernel
theorem dX7_number_141 : decode cX7_number 141 = .ok (.iload_n 2, 1) := by decide +kernel
theorem dX7_number_142 : decode cX7_number 142 = .ok (.iastore, 1) := by decide +kernel
theorem dX7_number_143 : decode cX7_number 143 = .ok (.aload_n 0, 1) := by decide +kernel
theorem dX7_number_144 : decode cX7_number 144 = .ok (.dup, 1) := by decide +kernel
theorem dX7_number_145 : decode cX7_number 145 = .ok (.getfield 150, 3) := by decide +kernel
theorem dX7_number_148 : decode cX7_number 148 = .ok (.iconst 1, 1) := by decide +kernel
theorem dX7_number_149 : decode cX7_number 149 = .ok (.iadd, 1) := by decide +kernel
theorem dX7_number_150 : decode cX7_number 150 = .ok (.putfield 150, 3) := by decide +kernel
theorem dX7_number_153 : decode cX7_number 153 = .ok (.iconst 1, 1) := by decide +kernel
theorem dX7_number_154 : decode cX7_number 154 = .ok (.ireturn, 1) := by decide +kernel
theorem dX7_fails_0 : decode cX7_fails 0 = .ok (.aload_n 0, 1) := by decide +kernel
theorem dX7_fails_1 : decode cX7_fails 1 = .ok (.iload_n 1, 1) := by decide +kernel
theorem dX7_fails_2 : decode cX7_fails 2 = .ok (.putfield 153, 3) := by decide +kernel
theorem dX7_fails_5 : decode cX7_fails 5 = .ok (.iconst 0, 1) := by decide +kernel
theorem dX7_fails_6 : decode cX7_fails 6 = .ok (.ireturn, 1) := by decide +kernel
set_option maxRecDepth 20000 in
theorem ggX7_rowEnds_X7_fails : GoodIn wsX7_rowEnds wsX7_fails := goodIn_r _ [8, 9, 10, 11, 12, 13, 14, 15, 16, 17, 18, 19, 20, 21, 22, 23, 24, 25] (by decide +kernel) (by decide +kernel)
set_option maxRecDepth 20000 in
theorem gX7_rowEnds_X7_fails : GoodIn wsX7_rowEnds (wsV RX7 159 RX7 yX7_fails wsX7_fails) := goodIn_app (goodIn_of _ (by decide +kernel)) ggX7_rowEnds_X7_fails
theorem dX7_rowEnds_0 : decode cX7_rowEnds 0 = .ok (.aload_n 0, 1) := by decide +kernel
theorem dX7_rowEnds_1 : decode cX7_rowEnds 1 = .ok (.getfield 147, 3) := by decide +kernel
theorem dX7_rowEnds_4 : decode cX7_rowEnds 4 = .ok (.ifCond .le 14, 3) := by decide +kernel
theorem dX7_rowEnds_7 : decode cX7_rowEnds 7 = .ok (.aload_n 0, 1) := by decide +kernel
theorem dX7_rowEnds_8 : decode cX7_rowEnds 8 = .ok (.getfield 150, 3) := by decide +kernel
theorem dX7_rowEnds_11 : decode cX7_rowEnds 11 = .ok (.aload_n 0, 1) := by decide +kernel
theorem dX7_rowEnds_12 : decode cX7_rowEnds 12 = .ok (.getfield 156, 3) := by decide +kernel
theorem dX7_rowEnds_15 : decode cX7_rowEnds 15 = .ok (.if_icmp .lt 15, 3) := by decide +kernel
theorem dX7_rowEnds_18 : decode cX7_rowEnds 18 = .ok (.aload_n 0, 1) := by decide +kernel
theorem dX7_rowEnds_19 : decode cX7_rowEnds 19 = .ok (.getfield 147, 3) := by decide +kernel
theorem dX7_rowEnds_22 : decode cX7_rowEnds 22 = .ok (.iconst 5, 1) := by decide +kernel
theorem dX7_rowEnds_23 : decode cX7_rowEnds 23 = .ok (.if_icmp .ne 13, 3) := by decide +kernel
theorem dX7_rowEnds_26 : decode cX7_rowEnds 26 = .ok (.iload_n 1, 1) := by decide +kernel
theorem dX7_rowEnds_27 : decode cX7_rowEnds 27 = .ok (.ifCond .ne 9, 3) := by decide +kernel
theorem dX7_rowEnds_30 : decode cX7_rowEnds 30 = .ok (.aload_n 0, 1) := by decide +kernel
theorem dX7_rowEnds_31 : decode cX7_rowEnds 31 = .ok (.iconst 2, 1) := by decide +kernel
theorem dX7_rowEnds_32 : decode cX7_rowEnds 32 = .ok (.invokevirtual 159, 3) := by decide +kernel
theorem dX7_rowEnds_35 : decode cX7_rowEnds 35 = .ok (.ireturn, 1) := by decide +kernel
theorem dX7_rowEnds_36 : decode cX7_rowEnds 36 = .ok (.aload_n 0, 1) := by decide +kernel
theorem dX7_rowEnds_37 : decode cX7_rowEnds 37 = .ok (.aload_n 0, 1) := by decide +kernel
theorem dX7_rowEnds_38 : decode cX7_rowEnds 38 = .ok (.getfield 150, 3) := by decide +kernel
theorem dX7_rowEnds_41 : decode cX7_rowEnds 41 = .ok (.putfield 156, 3) := by decide +kernel
theorem dX7_rowEnds_44 : decode cX7_rowEnds 44 = .ok (.aload_n 0, 1) := by decide +kernel
theorem dX7_rowEnds_45 : decode cX7_rowEnds 45 = .ok (.dup, 1) := by decide +kernel
theorem dX7_rowEnds_46 : decode cX7_rowEnds 46 = .ok (.getfield 147, 3) := by decide +kernel
theorem dX7_rowEnds_49 : decode cX7_rowEnds 49 = .ok (.iconst 1, 1) := by decide +kernel
theorem dX7_rowEnds_50 : decode cX7_rowEnds 50 = .ok (.iadd, 1) := by decide +kernel
theorem dX7_rowEnds_51 : decode cX7_rowEnds 51 = .ok (.putfield 147, 3) := by decide +kernel
theorem dX7_rowEnds_54 : decode cX7_rowEnds 54 = .ok (.aload_n 0, 1) := by decide +kernel
theorem dX7_rowEnds_55 : decode cX7_rowEnds 55 = .ok (.iconst 0, 1) := by decide +kernel
theorem dX7_rowEnds_56 : decode cX7_rowEnds 56 = .ok (.putfield 150, 3) := by decide +kernel
theorem dX7_rowEnds_59 : decode cX7_rowEnds 59 = .ok (.iconst 1, 1) := by decide +kernel
theorem dX7_rowEnds_60 : decode cX7_rowEnds 60 = .ok (.ireturn, 1) := by decide +kernel
set_option maxRecDepth 20000 in
theorem ggX7_isRight_X7_number : GoodIn wsX7_isRight wsX7_number := goodIn_r _ [11, 1, 5, 6, 12, 2, 4, 13, 14, 15, 10, 16, 17, 18, 19, 29, 30, 31, 32, 33, 34, 35, 36, 37, 38, 39, 40, 41, 42, 43, 44] (by decide +kernel) (by decide +kernel)
set_option maxRecDepth 20000 in
theorem gX7_isRight_X7_number : GoodIn wsX7_isRight (wsV RX7 163 RX7 yX7_number wsX7_number) := goodIn_app (goodIn_of _ (by decide +kernel)) ggX7_isRight_X7_number
set_option maxRecDepth 20000 in
theorem ggX7_isRight_X7_rowEnds : GoodIn wsX7_isRight wsX7_rowEnds := goodIn_r _ [23, 2, 4, 3, 24, 25, 26, 10, 27, 28, 29, 30, 31, 32, 33, 34, 35, 36, 37, 38, 39, 40, 41, 42, 43, 44] (by decide +kernel) (by decide +kernel)
set_option maxRecDepth 20000 in
theorem gX7_isRight_X7_rowEnds : GoodIn wsX7_isRight (wsV RX7 166 RX7 yX7_rowEnds wsX7_rowEnds) := goodIn_app (goodIn_of _ (by decide +kernel)) ggX7_isRight_X7_rowEnds
set_option maxRecDepth 20000 in
theorem ggX7_isRight_X7_fails : GoodIn wsX7_isRight wsX7_fails := goodIn_r _ [27, 28, 29, 30, 31, 32, 33, 34, 35, 36, 37, 38, 39, 40, 41, 42, 43, 44] (by decide +kernel) (by decide +kernel)
set_option maxRecDepth 20000 in
theorem gX7_isRight_X7_fails : GoodIn wsX7_isRight (wsV RX7 159 RX7 yX7_fails wsX7_fails) := goodIn_app (goodIn_of _ (by decide +kernel)) ggX7_isRight_X7_fails
theorem dX7_isRight_0 : decode cX7_isRight 0 = .ok (.aload_n 0, 1) := by decide +kernel
theorem dX7_isRight_1 : decode cX7_isRight 1 = .ok (.iconst 0, 1) := by decide +kernel
theorem dX7_isRight_2 : decode cX7_isRight 2 = .ok (.putfield 141, 3) := by decide +kernel
theorem dX7_isRight_5 : decode cX7_isRight 5 = .ok (.aload_n 0, 1) := by decide +kernel
theorem dX7_isRight_6 : decode cX7_isRight 6 = .ok (.iconst 0, 1) := by decide +kernel
theorem dX7_isRight_7 : decode cX7_isRight 7 = .ok (.putfield 147, 3) := by decide +kernel
theorem dX7_isRight_10 : decode cX7_isRight 10 = .ok (.aload_n 0, 1) := by decide +kernel
theorem dX7_isRight_11 : decode cX7_isRight 11 = .ok (.bipush 6, 2) := by decide +kernel
theorem dX7_isRight_13 : decode cX7_isRight 13 = .ok (.putfield 156, 3) := by decide +kernel
theorem dX7_isRight_16 : decode cX7_isRight 16 = .ok (.aload_n 0, 1) := by decide +kernel
theorem dX7_isRight_17 : decode cX7_isRight 17 = .ok (.iconst 0, 1) := by decide +kernel
theorem dX7_isRight_18 : decode cX7_isRight 18 = .ok (.putfield 150, 3) := by decide +kernel
theorem dX7_isRight_21 : decode cX7_isRight 21 = .ok (.aload_n 0, 1) := by decide +kernel
theorem dX7_isRight_22 : decode cX7_isRight 22 = .ok (.invokevirtual 163, 3) := by decide +kernel
theorem dX7_isRight_25 : decode cX7_isRight 25 = .ok (.ifCond .eq 113, 3) := by decide +kernel
theorem dX7_isRight_28 : decode cX7_isRight 28 = .ok (.aload_n 0, 1) := by decide +kernel
theorem dX7_isRight_29 : decode cX7_isRight 29 = .ok (.getfield 141, 3) := by decide +kernel
theorem dX7_isRight_32 : decode cX7_isRight 32 = .ok (.aload_n 0, 1) := by decide +kernel
theorem dX7_isRight_33 : decode cX7_isRight 33 = .ok (.getfield 131, 3) := by decide +kernel
theorem dX7_isRight_36 : decode cX7_isRight 36 = .ok (.if_icmp .ne 9, 3) := by decide +kernel
theorem dX7_isRight_39 : decode cX7_isRight 39 = .ok (.aload_n 0, 1) := by decide +kernel
theorem dX7_isRight_40 : decode cX7_isRight 40 = .ok (.iconst 1, 1) := by decide +kernel
theorem dX7_isRight_41 : decode cX7_isRight 41 = .ok (.invokevirtual 166, 3) := by decide +kernel
theorem dX7_isRight_44 : decode cX7_isRight 44 = .ok (.ireturn, 1) := by decide +kernel
theorem dX7_isRight_45 : decode cX7_isRight 45 = .ok (.aload_n 0, 1) := by decide +kernel
theorem dX7_isRight_46 : decode cX7_isRight 46 = .ok (.getfield 19, 3) := by decide +kernel
theorem dX7_isRight_49 : decode cX7_isRight 49 = .ok (.aload_n 0, 1) := by decide +kernel
theorem dX7_isRight_50 : decode cX7_isRight 50 = .ok (.getfield 141, 3) := by decide +kernel
theorem dX7_isRight_53 : decode cX7_isRight 53 = .ok (.iaload, 1) := by decide +kernel
theorem dX7_isRight_54 : decode cX7_isRight 54 = .ok (.bipush 44, 2) := by decide +kernel
theorem dX7_isRight_56 : decode cX7_isRight 56 = .ok (.if_icmp .ne 7, 3) := by decide +kernel
theorem dX7_isRight_59 : decode cX7_isRight 59 = .ok (.iconst 1, 1) := by decide +kernel
theorem dX7_isRight_60 : decode cX7_isRight 60 = .ok (.goto 4, 3) := by decide +kernel
theorem dX7_isRight_63 : decode cX7_isRight 63 = .ok (.iconst 0, 1) := by decide +kernel
theorem dX7_isRight_64 : decode cX7_isRight 64 = .ok (.istore_n 1, 1) := by decide +kernel
theorem dX7_isRight_65 : decode cX7_isRight 65 = .ok (.iload_n 1, 1) := by decide +kernel
theorem dX7_isRight_66 : decode cX7_isRight 66 = .ok (.ifCond .ne 23, 3) := by decide +kernel
theorem dX7_isRight_69 : decode cX7_isRight 69 = .ok (.aload_n 0, 1) := by decide +kernel
theorem dX7_isRight_70 : decode cX7_isRight 70 = .ok (.getfield 19, 3) := by decide +kernel
theorem dX7_isRight_73 : decode cX7_isRight 73 = .ok (.aload_n 0, 1) := by decide +kernel
theorem dX7_isRight_74 : decode cX7_isRight 74 = .ok (.getfield 141, 3) := by decide +kernel
theorem dX7_isRight_77 : decode cX7_isRight 77 = .ok (.iaload, 1) := by decide +kernel
theorem dX7_isRight_78 : decode cX7_isRight 78 = .ok (.bipush 59, 2) := by decide +kernel
theorem dX7_isRight_80 : decode cX7_isRight 80 = .ok (.if_icmp .eq 9, 3) := by decide +kernel
theorem dX7_isRight_83 : decode cX7_isRight 83 = .ok (.aload_n 0, 1) := by decide +kernel
theorem dX7_isRight_84 : decode cX7_isRight 84 = .ok (.iconst 1, 1) := by decide +kernel
theorem dX7_isRight_85 : decode cX7_isRight 85 = .ok (.invokevirtual 159, 3) := by decide +kernel
theorem dX7_isRight_88 : decode cX7_isRight 88 = .ok (.ireturn, 1) := by decide +kernel
theorem dX7_isRight_89 : decode cX7_isRight 89 = .ok (.iload_n 1, 1) := by decide +kernel
theorem dX7_isRight_90 : decode cX7_isRight 90 = .ok (.ifCond .eq 25, 3) := by decide +kernel
theorem dX7_isRight_93 : decode cX7_isRight 93 = .ok (.aload_n 0, 1) := by decide +kernel
theorem dX7_isRight_94 : decode cX7_isRight 94 = .ok (.getfield 150, 3) := by decide +kernel
theorem dX7_isRight_97 : decode cX7_isRight 97 = .ok (.aload_n 0, 1) := by decide +kernel
theorem dX7_isRight_98 : decode cX7_isRight 98 = .ok (.getfield 156, 3) := by decide +kernel
theorem dX7_isRight_101 : decode cX7_isRight 101 = .ok (.if_icmp .ne 24, 3) := by decide +kernel
theorem dX7_isRight_104 : decode cX7_isRight 104 = .ok (.aload_n 0, 1) := by decide +kernel
theorem dX7_isRight_105 : decode cX7_isRight 105 = .ok (.iconst 2, 1) := by decide +kernel
theorem dX7_isRight_106 : decode cX7_isRight 106 = .ok (.invokevirtual 159, 3) := by decide +kernel
theorem dX7_isRight_109 : decode cX7_isRight 109 = .ok (.ifCond .ne 16, 3) := by decide +kernel
theorem dX7_isRight_112 : decode cX7_isRight 112 = .ok (.goto 11, 3) := by decide +kernel
theorem dX7_isRight_115 : decode cX7_isRight 115 = .ok (.aload_n 0, 1) := by decide +kernel
theorem dX7_isRight_116 : decode cX7_isRight 116 = .ok (.iconst 0, 1) := by decide +kernel
theorem dX7_isRight_117 : decode cX7_isRight 117 = .ok (.invokevirtual 166, 3) := by decide +kernel
theorem dX7_isRight_120 : decode cX7_isRight 120 = .ok (.ifCond .ne 5, 3) := by decide +kernel
theorem dX7_isRight_123 : decode cX7_isRight 123 = .ok (.iconst 0, 1) := by decide +kernel
theorem dX7_isRight_124 : decode cX7_isRight 124 = .ok (.ireturn, 1) := by decide +kernel
theorem dX7_isRight_125 : decode cX7_isRight 125 = .ok (.aload_n 0, 1) := by decide +kernel
theorem dX7_isRight_126 : decode cX7_isRight 126 = .ok (.dup, 1) := by decide +kernel
theorem dX7_isRight_127 : decode cX7_isRight 127 = .ok (.getfield 141, 3) := by decide +kernel
theorem dX7_isRight_130 : decode cX7_isRight 130 = .ok (.iconst 1, 1) := by decide +kernel
theorem dX7_isRight_131 : decode cX7_isRight 131 = .ok (.iadd, 1) := by decide +kernel
theorem dX7_isRight_132 : decode cX7_isRight 132 = .ok (.putfield 141, 3) := by decide +kernel
theorem dX7_isRight_135 : decode cX7_isRight 135 = .ok (.goto (-114), 3) := by decide +kernel
theorem dX7_isRight_138 : decode cX7_isRight 138 = .ok (.aload_n 0, 1) := by decide +kernel
theorem dX7_isRight_139 : decode cX7_isRight 139 = .ok (.iconst 1, 1) := by decide +kernel
theorem dX7_isRight_140 : decode cX7_isRight 140 = .ok (.invokevirtual 159, 3) := by decide +kernel
theorem dX7_isRight_143 : decode cX7_isRight 143 = .ok (.ireturn, 1) := by decide +kernel
set_option maxRecDepth 20000 in
theorem ggX7_textFault_X7_in : GoodIn wsX7_textFault wsX7_in := goodIn_r _ [8] (by decide +kernel) (by decide +kernel)
set_option maxRecDepth 20000 in
theorem gX7_textFault_X7_in : GoodIn wsX7_textFault (va_wsS RX7 33 yX7_in wsX7_in) := goodIn_app (goodIn_of _ (by decide +kernel)) ggX7_textFault_X7_in
set_option maxRecDepth 20000 in
theorem ggX7_textFault_X7_isRight : GoodIn wsX7_textFault wsX7_isRight := goodIn_r _ [12, 3, 13, 14, 15, 16, 17, 18, 19, 20, 7, 21, 22, 23, 24, 25, 26, 5, 6, 8, 27, 28, 29, 30, 31, 32, 33, 34, 4, 35, 36, 37, 38, 39, 40, 41, 42, 43, 44, 45, 46, 47, 48, 49, 50] (by decide +kernel) (by decide +kernel)
set_option maxRecDepth 20000 in
theorem gX7_textFault_X7_isRight : GoodIn wsX7_textFault (wsV RX7 170 RX7 yX7_isRight wsX7_isRight) := goodIn_app (goodIn_of _ (by decide +kernel)) ggX7_textFault_X7_isRight
theorem dX7_textFault_0 : decode cX7_textFault 0 = .ok (.iload_n 1, 1) := by decide +kernel
theorem dX7_textFault_1 : decode cX7_textFault 1 = .ok (.iconst 0, 1) := by decide +kernel
theorem dX7_textFault_2 : decode cX7_textFault 2 = .ok (.iconst 1, 1) := by decide +kernel
theorem dX7_textFault_3 : decode cX7_textFault 3 = .ok (.invokestatic 33, 3) := by decide +kernel
theorem dX7_textFault_6 : decode cX7_textFault 6 = .ok (.ifCond .ne 6, 3) := by decide +kernel
theorem dX7_textFault_9 : decode cX7_textFault 9 = .ok (.ldc 37, 2) := by decide +kernel
theorem dX7_textFault_11 : decode cX7_textFault 11 = .ok (.ireturn, 1) := by decide +kernel
theorem dX7_textFault_12 : decode cX7_textFault 12 = .ok (.aload_n 0, 1) := by decide +kernel
theorem dX7_textFault_13 : decode cX7_textFault 13 = .ok (.invokevirtual 170, 3) := by decide +kernel
theorem dX7_textFault_16 : decode cX7_textFault 16 = .ok (.ifCond .eq 8, 3) := by decide +kernel
theorem dX7_textFault_19 : decode cX7_textFault 19 = .ok (.ldc 117, 2) := by decide +kernel
theorem dX7_textFault_21 : decode cX7_textFault 21 = .ok (.goto 18, 3) := by decide +kernel
theorem dX7_textFault_24 : decode cX7_textFault 24 = .ok (.iload_n 1, 1) := by decide +kernel
theorem dX7_textFault_25 : decode cX7_textFault 25 = .ok (.ifCond .ne 10, 3) := by decide +kernel
theorem dX7_textFault_28 : decode cX7_textFault 28 = .ok (.aload_n 0, 1) := by decide +kernel
theorem dX7_textFault_29 : decode cX7_textFault 29 = .ok (.getfield 141, 3) := by decide +kernel
theorem dX7_textFault_32 : decode cX7_textFault 32 = .ok (.goto 7, 3) := by decide +kernel
theorem dX7_textFault_35 : decode cX7_textFault 35 = .ok (.aload_n 0, 1) := by decide +kernel
theorem dX7_textFault_36 : decode cX7_textFault 36 = .ok (.getfield 153, 3) := by decide +kernel
theorem dX7_textFault_39 : decode cX7_textFault 39 = .ok (.ireturn, 1) := by decide +kernel
set_option maxRecDepth 20000 in
theorem ggX7_read_X7_in : GoodIn wsX7_read wsX7_in := goodIn_r _ [10] (by decide +kernel) (by decide +kernel)
set_option maxRecDepth 20000 in
theorem gX7_read_X7_in : GoodIn wsX7_read (va_wsS RX7 33 yX7_in wsX7_in) := goodIn_app (goodIn_of _ (by decide +kernel)) ggX7_read_X7_in
set_option maxRecDepth 20000 in
theorem ggX7_read_X7_isRight : GoodIn wsX7_read wsX7_isRight := goodIn_r _ [14, 15, 5, 4, 16, 17, 18, 19, 20, 21, 9, 22, 6, 23, 24, 25, 26, 7, 8, 10, 27, 28, 29, 30, 31, 32, 33, 34, 35, 46, 47, 48, 49, 50, 51, 52, 53, 54, 55, 56, 57, 58, 59, 60, 61] (by decide +kernel) (by decide +kernel)
set_option maxRecDepth 20000 in
theorem gX7_read_X7_isRight : GoodIn wsX7_read (wsV RX7 170 RX7 yX7_isRight wsX7_isRight) := goodIn_app (goodIn_of _ (by decide +kernel)) ggX7_read_X7_isRight
set_option maxRecDepth 20000 in
theorem ggX7_read_X7_changes : GoodIn wsX7_read wsX7_changes := goodIn_r _ [39, 40, 41, 2, 46, 47, 48, 49, 50, 51, 52, 53, 54, 55, 56, 57, 58, 59, 60, 61] (by decide +kernel) (by decide +kernel)
set_option maxRecDepth 20000 in
theorem gX7_read_X7_changes : GoodIn wsX7_read (wsV RX7 38 RX7 yX7_changes wsX7_changes) := goodIn_app (goodIn_of _ (by decide +kernel)) ggX7_read_X7_changes
set_option maxRecDepth 20000 in
theorem ggX7_read_X7_clears : GoodIn wsX7_read wsX7_clears := goodIn_r _ [45, 2, 46, 47, 48, 49, 50, 51, 52, 53, 54, 55, 56, 57, 58, 59, 60, 61] (by decide +kernel) (by decide +kernel)
set_option maxRecDepth 20000 in
theorem gX7_read_X7_clears : GoodIn wsX7_read (wsV RX7 41 RX7 yX7_clears wsX7_clears) := goodIn_app (goodIn_of _ (by decide +kernel)) ggX7_read_X7_clears
theorem dX7_read_0 : decode cX7_read 0 = .ok (.iload_n 1, 1) := by decide +kernel
theorem dX7_read_1 : decode cX7_read 1 = .ok (.iconst 0, 1) := by decide +kernel
theorem dX7_read_2 : decode cX7_read 2 = .ok (.iconst 1, 1) := by decide +kernel
theorem dX7_read_3 : decode cX7_read 3 = .ok (.invokestatic 33, 3) := by decide +kernel
theorem dX7_read_6 : decode cX7_read 6 = .ok (.ifCond .ne 6, 3) := by decide +kernel
theorem dX7_read_9 : decode cX7_read 9 = .ok (.ldc 37, 2) := by decide +kernel
theorem dX7_read_11 : decode cX7_read 11 = .ok (.ireturn, 1) := by decide +kernel
theorem dX7_read_12 : decode cX7_read 12 = .ok (.aload_n 0, 1) := by decide +kernel
theorem dX7_read_13 : decode cX7_read 13 = .ok (.getfield 7, 3) := by decide +kernel
theorem dX7_read_16 : decode cX7_read 16 = .ok (.iconst 5, 1) := by decide +kernel
theorem dX7_read_17 : decode cX7_read 17 = .ok (.iaload, 1) := by decide +kernel
theorem dX7_read_18 : decode cX7_read 18 = .ok (.iconst 1, 1) := by decide +kernel
theorem dX7_read_19 : decode cX7_read 19 = .ok (.if_icmp .eq 10, 3) := by decide +kernel
theorem dX7_read_22 : decode cX7_read 22 = .ok (.aload_n 0, 1) := by decide +kernel
theorem dX7_read_23 : decode cX7_read 23 = .ok (.invokevirtual 170, 3) := by decide +kernel
theorem dX7_read_26 : decode cX7_read 26 = .ok (.ifCond .ne 6, 3) := by decide +kernel
theorem dX7_read_29 : decode cX7_read 29 = .ok (.ldc 58, 2) := by decide +kernel
theorem dX7_read_31 : decode cX7_read 31 = .ok (.ireturn, 1) := by decide +kernel
theorem dX7_read_32 : decode cX7_read 32 = .ok (.aload_n 0, 1) := by decide +kernel
theorem dX7_read_33 : decode cX7_read 33 = .ok (.invokevirtual 38, 3) := by decide +kernel
theorem dX7_read_36 : decode cX7_read 36 = .ok (.iload_n 1, 1) := by decide +kernel
theorem dX7_read_37 : decode cX7_read 37 = .ok (.ifCond .ne 10, 3) := by decide +kernel
theorem dX7_read_40 : decode cX7_read 40 = .ok (.aload_n 0, 1) := by decide +kernel
theorem dX7_read_41 : decode cX7_read 41 = .ok (.getfield 156, 3) := by decide +kernel
theorem dX7_read_44 : decode cX7_read 44 = .ok (.goto 7, 3) := by decide +kernel
theorem dX7_read_47 : decode cX7_read 47 = .ok (.aload_n 0, 1) := by decide +kernel
theorem dX7_read_48 : decode cX7_read 48 = .ok (.getfield 147, 3) := by decide +kernel
theorem dX7_read_51 : decode cX7_read 51 = .ok (.istore_n 2, 1) := by decide +kernel
theorem dX7_read_52 : decode cX7_read 52 = .ok (.iload_n 2, 1) := by decide +kernel
theorem dX7_read_53 : decode cX7_read 53 = .ok (.aload_n 0, 1) := by decide +kernel
theorem dX7_read_54 : decode cX7_read 54 = .ok (.getfield 7, 3) := by decide +kernel
theorem dX7_read_57 : decode cX7_read 57 = .ok (.iconst 2, 1) := by decide +kernel
theorem dX7_read_58 : decode cX7_read 58 = .ok (.iaload, 1) := by decide +kernel
theorem dX7_read_59 : decode cX7_read 59 = .ok (.if_icmp .eq 16, 3) := by decide +kernel
theorem dX7_read_62 : decode cX7_read 62 = .ok (.aload_n 0, 1) := by decide +kernel
theorem dX7_read_63 : decode cX7_read 63 = .ok (.bipush 45, 2) := by decide +kernel
theorem dX7_read_65 : decode cX7_read 65 = .ok (.bipush 36, 2) := by decide +kernel
theorem dX7_read_67 : decode cX7_read 67 = .ok (.iload_n 1, 1) := by decide +kernel
theorem dX7_read_68 : decode cX7_read 68 = .ok (.imul, 1) := by decide +kernel
theorem dX7_read_69 : decode cX7_read 69 = .ok (.isub, 1) := by decide +kernel
theorem dX7_read_70 : decode cX7_read 70 = .ok (.bipush 36, 2) := by decide +kernel
theorem dX7_read_72 : decode cX7_read 72 = .ok (.invokevirtual 41, 3) := by decide +kernel
theorem dX7_read_75 : decode cX7_read 75 = .ok (.aload_n 0, 1) := by decide +kernel
theorem dX7_read_76 : decode cX7_read 76 = .ok (.getfield 7, 3) := by decide +kernel
theorem dX7_read_79 : decode cX7_read 79 = .ok (.iconst 2, 1) := by decide +kernel
theorem dX7_read_80 : decode cX7_read 80 = .ok (.iload_n 2, 1) := by decide +kernel
theorem dX7_read_81 : decode cX7_read 81 = .ok (.iastore, 1) := by decide +kernel
theorem dX7_read_82 : decode cX7_read 82 = .ok (.aload_n 0, 1) := by decide +kernel
theorem dX7_read_83 : decode cX7_read 83 = .ok (.getfield 7, 3) := by decide +kernel
theorem dX7_read_86 : decode cX7_read 86 = .ok (.iload_n 1, 1) := by decide +kernel
theorem dX7_read_87 : decode cX7_read 87 = .ok (.ifCond .ne 7, 3) := by decide +kernel
theorem dX7_read_90 : decode cX7_read 90 = .ok (.iconst 1, 1) := by decide +kernel
theorem dX7_read_91 : decode cX7_read 91 = .ok (.goto 4, 3) := by decide +kernel
theorem dX7_read_94 : decode cX7_read 94 = .ok (.iconst 3, 1) := by decide +kernel
theorem dX7_read_95 : decode cX7_read 95 = .ok (.iload_n 1, 1) := by decide +kernel
theorem dX7_read_96 : decode cX7_read 96 = .ok (.ifCond .ne 10, 3) := by decide +kernel
theorem dX7_read_99 : decode cX7_read 99 = .ok (.aload_n 0, 1) := by decide +kernel
theorem dX7_read_100 : decode cX7_read 100 = .ok (.getfield 147, 3) := by decide +kernel
theorem dX7_read_103 : decode cX7_read 103 = .ok (.goto 7, 3) := by decide +kernel
theorem dX7_read_106 : decode cX7_read 106 = .ok (.aload_n 0, 1) := by decide +kernel
theorem dX7_read_107 : decode cX7_read 107 = .ok (.getfield 156, 3) := by decide +kernel
theorem dX7_read_110 : decode cX7_read 110 = .ok (.iastore, 1) := by decide +kernel
theorem dX7_read_111 : decode cX7_read 111 = .ok (.aload_n 0, 1) := by decide +kernel
theorem dX7_read_112 : decode cX7_read 112 = .ok (.bipush 9, 2) := by decide +kernel
theorem dX7_read_114 : decode cX7_read 114 = .ok (.bipush 36, 2) := by decide +kernel
theorem dX7_read_116 : decode cX7_read 116 = .ok (.iload_n 1, 1) := by decide +kernel
theorem dX7_read_117 : decode cX7_read 117 = .ok (.imul, 1) := by decide +kernel
theorem dX7_read_118 : decode cX7_read 118 = .ok (.iadd, 1) := by decide +kernel
theorem dX7_read_119 : decode cX7_read 119 = .ok (.bipush 36, 2) := by decide +kernel
theorem dX7_read_121 : decode cX7_read 121 = .ok (.invokevirtual 41, 3) := by decide +kernel
theorem dX7_read_124 : decode cX7_read 124 = .ok (.iconst 0, 1) := by decide +kernel
theorem dX7_read_125 : decode cX7_read 125 = .ok (.istore_n 3, 1) := by decide +kernel
theorem dX7_read_126 : decode cX7_read 126 = .ok (.iload_n 3, 1) := by decide +kernel
theorem dX7_read_127 : decode cX7_read 127 = .ok (.aload_n 0, 1) := by decide +kernel
theorem dX7_read_128 : decode cX7_read 128 = .ok (.getfield 147, 3) := by decide +kernel
theorem dX7_read_131 : decode cX7_read 131 = .ok (.if_icmp .ge 59, 3) := by decide +kernel
theorem dX7_read_134 : decode cX7_read 134 = .ok (.iconst 0, 1) := by decide +kernel
theorem dX7_read_135 : decode cX7_read 135 = .ok (.istore 4, 2) := by decide +kernel
theorem dX7_read_137 : decode cX7_read 137 = .ok (.iload 4, 2) := by decide +kernel
theorem dX7_read_139 : decode cX7_read 139 = .ok (.aload_n 0, 1) := by decide +kernel
theorem dX7_read_140 : decode cX7_read 140 = .ok (.getfield 156, 3) := by decide +kernel
theorem dX7_read_143 : decode cX7_read 143 = .ok (.if_icmp .ge 41, 3) := by decide +kernel
theorem dX7_read_146 : decode cX7_read 146 = .ok (.aload_n 0, 1) := by decide +kernel
theorem dX7_read_147 : decode cX7_read 147 = .ok (.getfield 7, 3) := by decide +kernel
theorem dX7_read_150 : decode cX7_read 150 = .ok (.bipush 9, 2) := by decide +kernel
theorem dX7_read_152 : decode cX7_read 152 = .ok (.bipush 36, 2) := by decide +kernel
theorem dX7_read_154 : decode cX7_read 154 = .ok (.iload_n 1, 1) := by decide +kernel
theorem dX7_read_155 : decode cX7_read 155 = .ok (.imul, 1) := by decide +kernel
theorem dX7_read_156 : decode cX7_read 156 = .ok (.iadd, 1) := by decide +kernel
theorem dX7_read_157 : decode cX7_read 157 = .ok (.bipush 6, 2) := by decide +kernel
theorem dX7_read_159 : decode cX7_read 159 = .ok (.iload_n 3, 1) := by decide +kernel
theorem dX7_read_160 : decode cX7_read 160 = .ok (.imul, 1) := by decide +kernel
theorem dX7_read_161 : decode cX7_read 161 = .ok (.iadd, 1) := by decide +kernel
theorem dX7_read_162 : decode cX7_read 162 = .ok (.iload 4, 2) := by decide +kernel
theorem dX7_read_164 : decode cX7_read 164 = .ok (.iadd, 1) := by decide +kernel
theorem dX7_read_165 : decode cX7_read 165 = .ok (.aload_n 0, 1) := by decide +kernel
theorem dX7_read_166 : decode cX7_read 166 = .ok (.getfield 22, 3) := by decide +kernel
theorem dX7_read_169 : decode cX7_read 169 = .ok (.bipush 6, 2) := by decide +kernel
theorem dX7_read_171 : decode cX7_read 171 = .ok (.iload_n 3, 1) := by decide +kernel
theorem dX7_read_172 : decode cX7_read 172 = .ok (.imul, 1) := by decide +kernel
theorem dX7_read_173 : decode cX7_read 173 = .ok (.iload 4, 2) := by decide +kernel
theorem dX7_read_175 : decode cX7_read 175 = .ok (.iadd, 1) := by decide +kernel
theorem dX7_read_176 : decode cX7_read 176 = .ok (.iaload, 1) := by decide +kernel
theorem dX7_read_177 : decode cX7_read 177 = .ok (.iastore, 1) := by decide +kernel
theorem dX7_read_178 : decode cX7_read 178 = .ok (.iinc 4 1, 3) := by decide +kernel
theorem dX7_read_181 : decode cX7_read 181 = .ok (.goto (-44), 3) := by decide +kernel
theorem dX7_read_184 : decode cX7_read 184 = .ok (.iinc 3 1, 3) := by decide +kernel
theorem dX7_read_187 : decode cX7_read 187 = .ok (.goto (-61), 3) := by decide +kernel
theorem dX7_read_190 : decode cX7_read 190 = .ok (.aload_n 0, 1) := by decide +kernel
theorem dX7_read_191 : decode cX7_read 191 = .ok (.bipush 117, 2) := by decide +kernel
theorem dX7_read_193 : decode cX7_read 193 = .ok (.bipush 36, 2) := by decide +kernel
theorem dX7_read_195 : decode cX7_read 195 = .ok (.invokevirtual 41, 3) := by decide +kernel
theorem dX7_read_198 : decode cX7_read 198 = .ok (.aload_n 0, 1) := by decide +kernel
theorem dX7_read_199 : decode cX7_read 199 = .ok (.getfield 147, 3) := by decide +kernel
theorem dX7_read_202 : decode cX7_read 202 = .ok (.aload_n 0, 1) := by decide +kernel
theorem dX7_read_203 : decode cX7_read 203 = .ok (.getfield 156, 3) := by decide +kernel
theorem dX7_read_206 : decode cX7_read 206 = .ok (.imul, 1) := by decide +kernel
theorem dX7_read_207 : decode cX7_read 207 = .ok (.ireturn, 1) := by decide +kernel
end
section
set_option maxRecDepth 20000 in
theorem ggL_law_X6_init : GoodIn wsL_law wsX6_init := goodIn_r _ [8, 9, 10, 11, 12, 13, 14, 15, 16, 17, 18, 19, 20, 21, 22, 23, 24, 25, 26, 27, 28, 29, 30, 31, 32, 33, 34, 35, 36, 37, 38, 39, 40, 41, 42, 43, 44, 45, 46, 47, 48, 49, 50, 51, 52, 53, 54, 55, 56, 57, 58, 59, 60, 61, 62, 63, 64, 65, 66, 67, 68, 69, 70, 71, 72, 73, 74, 2, 75, 76, 77, 78, 79, 80, 81, 82, 83, 84, 85, 86, 87, 88, 89, 90, 91, 92, 93, 797, 798, 799, 800, 801, 777, 778, 779, 780, 802, 803, 804, 805, 806, 807, 808, 809, 810, 811, 812, 813, 814, 815, 816, 817, 818, 819, 820, 821, 822, 823, 824, 825, 826, 827, 828, 829, 830, 831] (by decide +kernel) (by decide +kernel)
set_option maxRecDepth 20000 in
theorem gL_law_X6_init : GoodIn wsL_law (wsX6_init) := ggL_law_X6_init
set_option maxRecDepth 20000 in
theorem ggL_law_X7_init : GoodIn wsL_law wsX7_init := goodIn_r _ [96, 97, 10, 11, 48, 98, 99, 100, 101, 102, 781, 782, 783, 784, 785, 786, 787, 788, 789, 790, 791, 792, 793, 794, 795, 796] (by decide +kernel) (by decide +kernel)
set_option maxRecDepth 20000 in
theorem gL_law_X7_init : GoodIn wsL_law (wsX7_init) := ggL_law_X7_init
set_option maxRecDepth 20000 in
theorem ggL_law_X6_side : GoodIn wsL_law wsX6_side := goodIn_r _ [106, 107, 20, 15, 108, 109, 110, 111, 112, 113, 114, 19, 115, 116, 85, 117, 118, 119, 120, 121, 122, 123, 14, 124, 32, 36, 37, 38, 42, 125, 126, 127, 31, 128, 46, 47, 49, 129, 130, 131, 132, 133, 134, 135, 35, 136, 53, 54, 55, 137, 138, 139, 140, 41, 141, 142, 143, 144, 145, 146, 147, 148, 59, 149, 60, 61, 62, 150, 151, 152, 153, 154, 77, 78, 79, 155, 64, 65, 66, 67, 68, 69, 70, 71, 72, 73, 74, 2, 75, 76, 777, 778, 779, 780, 797, 798, 799, 800, 801, 815, 816, 817, 821, 822, 823, 824, 825, 826, 827, 828, 829, 830, 831, 802, 803, 818, 819, 820] (by decide +kernel) (by decide +kernel)
set_option maxRecDepth 20000 in
theorem gL_law_X6_side : GoodIn wsL_law (wsV RL 13 RX6 yX6_side wsX6_side) := goodIn_app (goodIn_of _ (by decide +kernel)) ggL_law_X6_side
set_option maxRecDepth 20000 in
theorem ggL_law_X7_side : GoodIn wsL_law wsX7_side := goodIn_r _ [159, 160, 98, 161, 162, 5, 163, 164, 165, 166, 167, 168, 99, 169, 170, 171, 172, 781, 782, 783, 784, 785, 786, 787, 788, 789, 790, 791, 792, 793, 794, 795, 796] (by decide +kernel) (by decide +kernel)
set_option maxRecDepth 20000 in
theorem gL_law_X7_side : GoodIn wsL_law (wsV RL 17 RX7 yX7_side wsX7_side) := goodIn_app (goodIn_of _ (by decide +kernel)) ggL_law_X7_side
set_option maxRecDepth 20000 in
theorem ggL_law_X6_shape : GoodIn wsL_law wsX6_shape := goodIn_r _ [176, 107, 20, 15, 177, 178, 110, 111, 179, 74, 2, 75, 112, 113, 114, 19, 115, 116, 85, 117, 118, 119, 120, 121, 122, 123, 14, 124, 32, 36, 37, 38, 42, 125, 126, 127, 31, 128, 46, 47, 49, 129, 130, 131, 132, 133, 134, 135, 35, 136, 53, 54, 55, 137, 138, 139, 140, 41, 141, 142, 143, 144, 145, 146, 147, 148, 59, 149, 60, 61, 62, 180, 71, 72, 73, 76, 77, 78, 79, 155, 64, 65, 66, 67, 68, 69, 70, 181, 182, 183, 184, 185, 186, 187, 188, 189, 190, 191, 192, 193, 194, 195, 196, 197, 777, 778, 779, 780, 797, 798, 799, 800, 801, 821, 822, 823, 824, 825, 826, 827, 828, 829, 830, 831, 802, 803, 815, 816, 817, 818, 819, 820] (by decide +kernel) (by decide +kernel)
set_option maxRecDepth 20000 in
theorem gL_law_X6_shape : GoodIn wsL_law (wsV RL 18 RX6 yX6_shape wsX6_shape) := goodIn_app (goodIn_of _ (by decide +kernel)) ggL_law_X6_shape
set_option maxRecDepth 20000 in
theorem ggL_law_X7_shape : GoodIn wsL_law wsX7_shape := goodIn_r _ [201, 160, 98, 161, 162, 5, 163, 164, 165, 166, 167, 168, 99, 169, 170, 171, 172, 202, 203, 204, 205, 206, 207, 208, 209, 781, 782, 783, 784, 785, 786, 787, 788, 789, 790, 791, 792, 793, 794, 795, 796] (by decide +kernel) (by decide +kernel)
set_option maxRecDepth 20000 in
theorem gL_law_X7_shape : GoodIn wsL_law (wsV RL 22 RX7 yX7_shape wsX7_shape) := goodIn_app (goodIn_of _ (by decide +kernel)) ggL_law_X7_shape
set_option maxRecDepth 20000 in
theorem ggL_law_X6_left : GoodIn wsL_law wsX6_left := goodIn_r _ [213, 15, 177, 214, 215, 216, 2, 217, 107, 110, 111, 218, 20, 219, 220, 221, 35, 222, 53, 54, 112, 113, 114, 19, 115, 116, 85, 117, 118, 119, 120, 121, 122, 123, 14, 124, 32, 36, 37, 38, 42, 125, 126, 127, 31, 128, 46, 47, 49, 129, 130, 131, 132, 133, 134, 135, 136, 55, 137, 138, 139, 140, 41, 141, 142, 143, 144, 145, 146, 147, 148, 59, 149, 60, 61, 62, 223, 224, 225, 226, 227, 228, 229, 230, 231, 155, 64, 65, 66, 67, 68, 69, 70, 71, 72, 73, 74, 75, 76, 77, 78, 79, 777, 778, 779, 780, 797, 798, 799, 800, 801, 821, 822, 823, 824, 825, 826, 827, 828, 829, 830, 831, 818, 819, 820, 802, 803, 815, 816, 817] (by decide +kernel) (by decide +kernel)
set_option maxRecDepth 20000 in
theorem gL_law_X6_left : GoodIn wsL_law (wsV RL 23 RX6 yX6_left wsX6_left) := goodIn_app (goodIn_of _ (by decide +kernel)) ggL_law_X6_left
set_option maxRecDepth 20000 in
theorem ggL_law_X7_left : GoodIn wsL_law wsX7_left := goodIn_r _ [235, 236, 237, 238, 5, 239, 160, 98, 240, 241, 242, 243, 244, 161, 162, 163, 245, 246, 247, 248, 249, 250, 251, 252, 164, 165, 166, 167, 168, 99, 169, 170, 171, 172, 781, 782, 783, 784, 785, 786, 787, 788, 789, 790, 791, 792, 793, 794, 795, 796] (by decide +kernel) (by decide +kernel)
set_option maxRecDepth 20000 in
theorem gL_law_X7_left : GoodIn wsL_law (wsV RL 26 RX7 yX7_left wsX7_left) := goodIn_app (goodIn_of _ (by decide +kernel)) ggL_law_X7_left
set_option maxRecDepth 20000 in
theorem ggL_law_X6_right : GoodIn wsL_law wsX6_right := goodIn_r _ [256, 15, 178, 214, 215, 216, 2, 217, 107, 110, 111, 218, 20, 219, 220, 221, 35, 222, 53, 54, 112, 113, 114, 19, 115, 116, 85, 117, 118, 119, 120, 121, 122, 123, 14, 124, 32, 36, 37, 38, 42, 125, 126, 127, 31, 128, 46, 47, 49, 129, 130, 131, 132, 133, 134, 135, 136, 55, 137, 138, 139, 140, 41, 141, 142, 143, 144, 145, 146, 147, 148, 59, 149, 60, 61, 62, 223, 224, 225, 226, 227, 228, 229, 230, 231, 155, 64, 65, 66, 67, 68, 69, 70, 71, 72, 73, 74, 75, 76, 77, 78, 79, 777, 778, 779, 780, 797, 798, 799, 800, 801, 821, 822, 823, 824, 825, 826, 827, 828, 829, 830, 831, 818, 819, 820, 802, 803, 815, 816, 817] (by decide +kernel) (by decide +kernel)
set_option maxRecDepth 20000 in
theorem gL_law_X6_right : GoodIn wsL_law (wsV RL 27 RX6 yX6_right wsX6_right) := goodIn_app (goodIn_of _ (by decide +kernel)) ggL_law_X6_right
set_option maxRecDepth 20000 in
theorem ggL_law_X7_right : GoodIn wsL_law wsX7_right := goodIn_r _ [260, 236, 237, 238, 5, 239, 160, 98, 240, 241, 242, 243, 244, 161, 162, 163, 245, 246, 247, 248, 249, 250, 251, 252, 164, 165, 166, 167, 168, 99, 169, 170, 171, 172, 781, 782, 783, 784, 785, 786, 787, 788, 789, 790, 791, 792, 793, 794, 795, 796] (by decide +kernel) (by decide +kernel)
set_option maxRecDepth 20000 in
theorem gL_law_X7_right : GoodIn wsL_law (wsV RL 30 RX7 yX7_right wsX7_right) := goodIn_app (goodIn_of _ (by decide +kernel)) ggL_law_X7_right
set_option maxRecDepth 20000 in
theorem ggL_law_X6_fault : GoodIn wsL_law wsX6_fault := goodIn_r _ [264, 15, 108, 107, 110, 111, 218, 20, 265, 266, 267, 31, 268, 46, 112, 113, 114, 19, 115, 116, 85, 117, 118, 119, 120, 121, 122, 123, 14, 124, 32, 36, 37, 38, 42, 125, 126, 127, 128, 47, 49, 129, 130, 131, 132, 133, 134, 135, 35, 136, 53, 54, 55, 137, 138, 139, 140, 41, 141, 142, 143, 144, 145, 146, 147, 148, 59, 149, 60, 61, 62, 269, 270, 271, 272, 273, 274, 275, 276, 277, 777, 778, 779, 780, 797, 798, 799, 800, 801, 821, 822, 823, 824, 825, 826, 827, 828, 829, 830, 831, 815, 816, 817, 802, 803, 818, 819, 820] (by decide +kernel) (by decide +kernel)
set_option maxRecDepth 20000 in
theorem gL_law_X6_fault : GoodIn wsL_law (wsV RL 31 RX6 yX6_fault wsX6_fault) := goodIn_app (goodIn_of _ (by decide +kernel)) ggL_law_X6_fault
set_option maxRecDepth 20000 in
theorem ggL_law_X7_fault : GoodIn wsL_law wsX7_fault := goodIn_r _ [281, 98, 160, 240, 161, 162, 5, 163, 164, 165, 166, 167, 168, 99, 781, 782, 783, 784, 785, 786, 787, 788, 789, 790, 791, 792, 793, 794, 795, 796] (by decide +kernel) (by decide +kernel)
set_option maxRecDepth 20000 in
theorem gL_law_X7_fault : GoodIn wsL_law (wsV RL 34 RX7 yX7_fault wsX7_fault) := goodIn_app (goodIn_of _ (by decide +kernel)) ggL_law_X7_fault
set_option maxRecDepth 20000 in
theorem ggL_law_X6_leave : GoodIn wsL_law wsX6_leave := goodIn_r _ [285, 15, 108, 109, 107, 110, 111, 218, 20, 286, 112, 113, 114, 19, 115, 116, 85, 117, 118, 119, 120, 121, 122, 123, 14, 124, 32, 36, 37, 38, 42, 125, 126, 127, 31, 128, 46, 47, 49, 129, 130, 131, 132, 133, 134, 135, 35, 136, 53, 54, 55, 137, 138, 139, 140, 41, 141, 142, 143, 144, 145, 146, 147, 148, 59, 149, 60, 61, 62, 777, 778, 779, 780, 797, 798, 799, 800, 801, 815, 816, 817, 821, 822, 823, 824, 825, 826, 827, 828, 829, 830, 831, 802, 803, 818, 819, 820] (by decide +kernel) (by decide +kernel)
set_option maxRecDepth 20000 in
theorem gL_law_X6_leave : GoodIn wsL_law (wsV RL 35 RX6 yX6_leave wsX6_leave) := goodIn_app (goodIn_of _ (by decide +kernel)) ggL_law_X6_leave
set_option maxRecDepth 20000 in
theorem ggL_law_X7_leave : GoodIn wsL_law wsX7_leave := goodIn_r _ [290, 98, 160, 240, 161, 162, 5, 163, 164, 165, 166, 167, 168, 99, 781, 782, 783, 784, 785, 786, 787, 788, 789, 790, 791, 792, 793, 794, 795, 796] (by decide +kernel) (by decide +kernel)
set_option maxRecDepth 20000 in
theorem gL_law_X7_leave : GoodIn wsL_law (wsV RL 38 RX7 yX7_leave wsX7_leave) := goodIn_app (goodIn_of _ (by decide +kernel)) ggL_law_X7_leave
set_option maxRecDepth 20000 in
theorem ggL_law_X6_begin : GoodIn wsL_law wsX6_begin := goodIn_r _ [294, 15, 107, 110, 111, 218, 20, 295, 186, 187, 14, 188, 36, 67, 189, 190, 191, 192, 32, 193, 296, 195, 196, 197, 37, 68, 112, 113, 114, 19, 115, 116, 85, 117, 118, 119, 120, 121, 122, 123, 124, 38, 42, 125, 126, 127, 31, 128, 46, 47, 49, 129, 130, 131, 132, 133, 134, 135, 35, 136, 53, 54, 55, 137, 138, 139, 140, 41, 141, 142, 143, 144, 145, 146, 147, 148, 59, 149, 60, 61, 62, 297, 298, 299, 300, 301, 302, 303, 304, 305, 306, 307, 308, 309, 310, 311, 312, 313, 314, 315, 316, 77, 78, 79, 317, 318, 319, 320, 777, 778, 779, 780, 797, 798, 799, 800, 801, 821, 822, 823, 824, 825, 826, 827, 828, 829, 830, 831, 818, 819, 820, 815, 816, 817, 802, 803] (by decide +kernel) (by decide +kernel)
set_option maxRecDepth 20000 in
theorem gL_law_X6_begin : GoodIn wsL_law (wsV RL 39 RX6 yX6_begin wsX6_begin) := goodIn_app (goodIn_of _ (by decide +kernel)) ggL_law_X6_begin
set_option maxRecDepth 20000 in
theorem ggL_law_X7_begin : GoodIn wsL_law wsX7_begin := goodIn_r _ [324, 98, 160, 240, 206, 207, 208, 5, 209, 161, 162, 163, 164, 165, 166, 167, 168, 99, 325, 326, 327, 328, 169, 170, 171, 172, 329, 330, 331, 332, 333, 334, 335, 336, 337, 338, 339, 340, 781, 782, 783, 784, 785, 786, 787, 788, 789, 790, 791, 792, 793, 794, 795, 796] (by decide +kernel) (by decide +kernel)
set_option maxRecDepth 20000 in
theorem gL_law_X7_begin : GoodIn wsL_law (wsV RL 43 RX7 yX7_begin wsX7_begin) := goodIn_app (goodIn_of _ (by decide +kernel)) ggL_law_X7_begin
set_option maxRecDepth 20000 in
theorem ggL_law_X6_tick : GoodIn wsL_law wsX6_tick := goodIn_r _ [344, 107, 15, 110, 111, 218, 20, 317, 318, 319, 41, 320, 148, 147, 112, 113, 114, 19, 115, 116, 85, 117, 118, 119, 120, 121, 122, 123, 14, 124, 32, 36, 37, 38, 42, 125, 126, 127, 31, 128, 46, 47, 49, 129, 130, 131, 132, 133, 134, 135, 35, 136, 53, 54, 55, 137, 138, 139, 140, 141, 142, 143, 144, 145, 146, 59, 149, 60, 61, 62, 345, 346, 347, 348, 304, 305, 306, 307, 349, 350, 351, 352, 353, 308, 309, 354, 355, 356, 357, 358, 359, 270, 271, 272, 273, 266, 267, 268, 360, 361, 362, 363, 364, 365, 366, 302, 193, 69, 367, 368, 369, 370, 315, 371, 372, 373, 374, 220, 221, 222, 375, 224, 225, 226, 376, 377, 378, 379, 303, 380, 381, 382, 383, 384, 385, 386, 387, 388, 389, 390, 391, 392, 393, 777, 778, 779, 780, 797, 798, 799, 800, 801, 821, 822, 823, 824, 825, 826, 827, 828, 829, 830, 831, 802, 803, 815, 816, 817, 818, 819, 820] (by decide +kernel) (by decide +kernel)
set_option maxRecDepth 20000 in
theorem gL_law_X6_tick : GoodIn wsL_law (wsV RL 44 RX6 yX6_tick wsX6_tick) := goodIn_app (goodIn_of _ (by decide +kernel)) ggL_law_X6_tick
set_option maxRecDepth 20000 in
theorem ggL_law_X7_tick : GoodIn wsL_law wsX7_tick := goodIn_r _ [397, 160, 98, 240, 161, 162, 5, 163, 398, 399, 400, 401, 329, 330, 331, 332, 333, 334, 335, 336, 337, 338, 339, 340, 164, 165, 166, 167, 168, 99, 402, 403, 404, 405, 406, 407, 408, 409, 410, 411, 412, 413, 414, 415, 416, 417, 418, 419, 420, 421, 422, 423, 424, 781, 782, 783, 784, 785, 786, 787, 788, 789, 790, 791, 792, 793, 794, 795, 796] (by decide +kernel) (by decide +kernel)
set_option maxRecDepth 20000 in
theorem gL_law_X7_tick : GoodIn wsL_law (wsV RL 47 RX7 yX7_tick wsX7_tick) := goodIn_app (goodIn_of _ (by decide +kernel)) ggL_law_X7_tick
set_option maxRecDepth 20000 in
theorem ggL_law_X6_drain : GoodIn wsL_law wsX6_drain := goodIn_r _ [428, 15, 110, 111, 218, 20, 317, 318, 319, 41, 320, 148, 147, 112, 113, 114, 19, 115, 116, 85, 117, 118, 119, 120, 121, 122, 123, 14, 124, 32, 36, 37, 38, 42, 125, 126, 127, 31, 128, 46, 47, 49, 129, 130, 131, 132, 133, 134, 135, 35, 136, 53, 54, 55, 137, 138, 139, 140, 141, 142, 143, 144, 145, 146, 59, 149, 60, 61, 62, 429, 430, 431, 432, 302, 193, 303, 308, 309, 301, 360, 361, 362, 433, 434, 435, 436, 371, 372, 373, 437, 228, 229, 230, 231, 220, 221, 222, 438, 439, 440, 441, 67, 68, 69, 375, 224, 225, 226, 777, 778, 779, 780, 797, 798, 799, 800, 801, 821, 822, 823, 824, 825, 826, 827, 828, 829, 830, 831, 802, 803, 815, 816, 817, 818, 819, 820] (by decide +kernel) (by decide +kernel)
set_option maxRecDepth 20000 in
theorem gL_law_X6_drain : GoodIn wsL_law (wsV RL 48 RX6 yX6_drain wsX6_drain) := goodIn_app (goodIn_of _ (by decide +kernel)) ggL_law_X6_drain
set_option maxRecDepth 20000 in
theorem ggL_law_X7_drain : GoodIn wsL_law wsX7_drain := goodIn_r _ [445, 98, 240, 398, 399, 400, 5, 401, 329, 330, 331, 332, 333, 334, 335, 336, 337, 338, 339, 340, 164, 165, 166, 167, 168, 99, 446, 447, 448, 449, 414, 415, 416, 450, 451, 452, 453, 781, 782, 783, 784, 785, 786, 787, 788, 789, 790, 791, 792, 793, 794, 795, 796] (by decide +kernel) (by decide +kernel)
set_option maxRecDepth 20000 in
theorem gL_law_X7_drain : GoodIn wsL_law (wsV RL 52 RX7 yX7_drain wsX7_drain) := goodIn_app (goodIn_of _ (by decide +kernel)) ggL_law_X7_drain
set_option maxRecDepth 20000 in
theorem ggL_law_X6_all : GoodIn wsL_law wsX6_all := goodIn_r _ [457, 15, 110, 111, 218, 20, 112, 113, 114, 19, 115, 116, 85, 117, 118, 119, 120, 121, 122, 123, 14, 124, 32, 36, 37, 38, 42, 125, 126, 127, 31, 128, 46, 47, 49, 129, 130, 131, 132, 133, 134, 135, 35, 136, 53, 54, 55, 137, 138, 139, 140, 41, 141, 142, 143, 144, 145, 146, 147, 148, 59, 149, 60, 61, 62, 458, 459, 460, 461, 185, 186, 187, 188, 67, 189, 190, 191, 192, 193, 194, 195, 196, 197, 68, 462, 298, 299, 300, 301, 302, 303, 304, 305, 306, 307, 308, 309, 310, 311, 312, 313, 314, 315, 316, 77, 78, 79, 349, 318, 319, 320, 463, 346, 347, 348, 350, 351, 352, 353, 354, 355, 356, 357, 358, 359, 270, 271, 272, 273, 266, 267, 268, 360, 361, 362, 363, 364, 365, 366, 69, 367, 368, 369, 370, 371, 372, 373, 374, 220, 221, 222, 375, 224, 225, 226, 376, 377, 378, 379, 380, 381, 382, 383, 384, 385, 386, 387, 388, 389, 390, 391, 392, 393, 464, 430, 431, 432, 433, 434, 435, 436, 437, 228, 229, 230, 231, 777, 778, 779, 780, 797, 798, 799, 800, 801, 821, 822, 823, 824, 825, 826, 827, 828, 829, 830, 831, 802, 803, 815, 816, 817, 818, 819, 820] (by decide +kernel) (by decide +kernel)
set_option maxRecDepth 20000 in
theorem gL_law_X6_all : GoodIn wsL_law (wsV RL 53 RX6 yX6_all wsX6_all) := goodIn_app (goodIn_of _ (by decide +kernel)) ggL_law_X6_all
set_option maxRecDepth 20000 in
theorem ggL_law_X7_all : GoodIn wsL_law wsX7_all := goodIn_r _ [468, 98, 240, 164, 165, 166, 5, 167, 168, 99, 469, 470, 471, 472, 206, 207, 208, 209, 325, 326, 327, 328, 169, 170, 171, 172, 398, 399, 400, 401, 329, 330, 331, 332, 333, 334, 335, 336, 337, 338, 339, 340, 402, 403, 404, 405, 406, 407, 408, 409, 410, 411, 412, 413, 161, 162, 163, 414, 415, 416, 417, 418, 419, 420, 421, 422, 423, 424, 446, 447, 448, 449, 781, 782, 783, 784, 785, 786, 787, 788, 789, 790, 791, 792, 793, 794, 795, 796] (by decide +kernel) (by decide +kernel)
set_option maxRecDepth 20000 in
theorem gL_law_X7_all : GoodIn wsL_law (wsV RL 56 RX7 yX7_all wsX7_all) := goodIn_app (goodIn_of _ (by decide +kernel)) ggL_law_X7_all
set_option maxRecDepth 20000 in
theorem ggL_law_X6_entry : GoodIn wsL_law wsX6_entry := goodIn_r _ [476, 107, 15, 177, 178, 219, 220, 221, 35, 222, 53, 54, 223, 224, 225, 226, 55, 777, 778, 779, 780, 797, 798, 799, 800, 801, 818, 819, 820] (by decide +kernel) (by decide +kernel)
set_option maxRecDepth 20000 in
theorem gL_law_X6_entry : GoodIn wsL_law (wsV RL 57 RX6 yX6_entry wsX6_entry) := goodIn_app (goodIn_of _ (by decide +kernel)) ggL_law_X6_entry
set_option maxRecDepth 20000 in
theorem ggL_law_X7_entry : GoodIn wsL_law wsX7_entry := goodIn_r _ [480, 98, 160, 241, 242, 243, 5, 244, 161, 162, 163, 245, 246, 247, 248, 249, 250, 251, 252, 781, 782, 783, 784, 785, 786, 787, 788, 789, 790, 791, 792, 793, 794, 795, 796] (by decide +kernel) (by decide +kernel)
set_option maxRecDepth 20000 in
theorem gL_law_X7_entry : GoodIn wsL_law (wsV RL 60 RX7 yX7_entry wsX7_entry) := goodIn_app (goodIn_of _ (by decide +kernel)) ggL_law_X7_entry
set_option maxRecDepth 20000 in
theorem ggL_law_X6_cellOf : GoodIn wsL_law wsX6_cellOf := goodIn_r _ [484, 15, 108, 109, 107, 110, 111, 218, 485, 356, 357, 31, 358, 47, 269, 270, 271, 272, 49, 273, 266, 267, 268, 46, 486, 361, 41, 362, 487, 488, 489, 2, 490, 491, 434, 435, 436, 59, 371, 372, 373, 492, 368, 369, 370, 61, 315, 493, 494, 495, 496, 497, 498, 381, 382, 383, 62, 499, 500, 501, 502, 60, 777, 778, 779, 780, 797, 798, 799, 800, 801, 815, 816, 817, 821, 822, 823, 824, 825, 826, 827, 828, 829, 830, 831] (by decide +kernel) (by decide +kernel)
set_option maxRecDepth 20000 in
theorem gL_law_X6_cellOf : GoodIn wsL_law (wsV RL 61 RX6 yX6_cellOf wsX6_cellOf) := goodIn_app (goodIn_of _ (by decide +kernel)) ggL_law_X6_cellOf
set_option maxRecDepth 20000 in
theorem ggL_law_X7_cellOf : GoodIn wsL_law wsX7_cellOf := goodIn_r _ [506, 98, 160, 240, 507, 161, 162, 5, 163, 421, 422, 423, 424, 417, 418, 419, 420, 414, 415, 416, 781, 782, 783, 784, 785, 786, 787, 788, 789, 790, 791, 792, 793, 794, 795, 796] (by decide +kernel) (by decide +kernel)
set_option maxRecDepth 20000 in
theorem gL_law_X7_cellOf : GoodIn wsL_law (wsV RL 64 RX7 yX7_cellOf wsX7_cellOf) := goodIn_app (goodIn_of _ (by decide +kernel)) ggL_law_X7_cellOf
set_option maxRecDepth 20000 in
theorem ggL_law_X6_result : GoodIn wsL_law wsX6_result := goodIn_r _ [511, 15, 512, 107, 219, 220, 221, 35, 222, 53, 54, 513, 514, 515, 14, 516, 36, 68, 37, 375, 224, 225, 226, 55, 223, 493, 494, 2, 495, 496, 497, 777, 778, 779, 780, 797, 798, 799, 800, 801, 818, 819, 820] (by decide +kernel) (by decide +kernel)
set_option maxRecDepth 20000 in
theorem gL_law_X6_result : GoodIn wsL_law (wsV RL 65 RX6 yX6_result wsX6_result) := goodIn_app (goodIn_of _ (by decide +kernel)) ggL_law_X6_result
set_option maxRecDepth 20000 in
theorem ggL_law_X7_result : GoodIn wsL_law wsX7_result := goodIn_r _ [520, 98, 160, 507, 161, 162, 5, 163, 521, 522, 523, 524, 525, 526, 527, 528, 781, 782, 783, 784, 785, 786, 787, 788, 789, 790, 791, 792, 793, 794, 795, 796] (by decide +kernel) (by decide +kernel)
set_option maxRecDepth 20000 in
theorem gL_law_X7_result : GoodIn wsL_law (wsV RL 68 RX7 yX7_result wsX7_result) := goodIn_app (goodIn_of _ (by decide +kernel)) ggL_law_X7_result
set_option maxRecDepth 20000 in
theorem ggL_law_X6_count : GoodIn wsL_law wsX6_count := goodIn_r _ [532, 15, 108, 109, 177, 533, 534, 178, 286, 110, 111, 535, 497, 536, 537, 20, 538, 24, 539, 107, 181, 182, 183, 14, 184, 185, 186, 187, 188, 36, 67, 189, 190, 191, 192, 32, 193, 194, 195, 196, 197, 37, 68, 317, 318, 319, 41, 320, 148, 147, 438, 439, 440, 441, 38, 69, 375, 224, 225, 35, 226, 53, 54, 55, 540, 541, 542, 543, 544, 514, 515, 516, 545, 546, 547, 31, 548, 46, 549, 270, 271, 272, 49, 273, 266, 267, 268, 777, 778, 779, 780, 797, 798, 799, 800, 801, 815, 816, 817, 818, 819, 820, 821, 822, 823, 824, 825, 826, 827, 828, 829, 830, 831, 802, 803, 804, 805, 806, 807, 808, 809, 810, 811, 812, 813, 814] (by decide +kernel) (by decide +kernel)
set_option maxRecDepth 20000 in
theorem gL_law_X6_count : GoodIn wsL_law (wsV RL 69 RX6 yX6_count wsX6_count) := goodIn_app (goodIn_of _ (by decide +kernel)) ggL_law_X6_count
set_option maxRecDepth 20000 in
theorem ggL_law_X7_count : GoodIn wsL_law wsX7_count := goodIn_r _ [553, 98, 507, 168, 554, 160, 202, 203, 204, 5, 205, 206, 207, 208, 209, 329, 330, 331, 332, 333, 334, 335, 336, 337, 338, 339, 340, 450, 451, 452, 453, 555, 556, 557, 558, 525, 526, 527, 528, 521, 522, 523, 524, 559, 560, 561, 562, 781, 782, 783, 784, 785, 786, 787, 788, 789, 790, 791, 792, 793, 794, 795, 796] (by decide +kernel) (by decide +kernel)
set_option maxRecDepth 20000 in
theorem gL_law_X7_count : GoodIn wsL_law (wsV RL 72 RX7 yX7_count wsX7_count) := goodIn_app (goodIn_of _ (by decide +kernel)) ggL_law_X7_count
set_option maxRecDepth 20000 in
theorem ggL_law_X6_suspects : GoodIn wsL_law wsX6_suspects := goodIn_r _ [566, 107, 15, 567, 568, 569, 14, 570, 38, 67, 571, 572, 573, 35, 574, 54, 575, 576, 224, 225, 226, 53, 55, 577, 578, 579, 580, 581, 582, 583, 584, 36, 68, 37, 375, 585, 586, 587, 588, 589, 590, 591, 592, 593, 594, 595, 596, 597, 598, 599, 600, 777, 778, 779, 780, 797, 798, 799, 800, 801, 818, 819, 820] (by decide +kernel) (by decide +kernel)
set_option maxRecDepth 20000 in
theorem gL_law_X6_suspects : GoodIn wsL_law (wsV RL 73 RX6 yX6_suspects wsX6_suspects) := goodIn_app (goodIn_of _ (by decide +kernel)) ggL_law_X6_suspects
set_option maxRecDepth 20000 in
theorem ggL_law_X7_suspects : GoodIn wsL_law wsX7_suspects := goodIn_r _ [604, 160, 98, 161, 162, 5, 163, 605, 606, 607, 608, 525, 526, 527, 528, 521, 522, 523, 524, 781, 782, 783, 784, 785, 786, 787, 788, 789, 790, 791, 792, 793, 794, 795, 796] (by decide +kernel) (by decide +kernel)
set_option maxRecDepth 20000 in
theorem gL_law_X7_suspects : GoodIn wsL_law (wsV RL 76 RX7 yX7_suspects wsX7_suspects) := goodIn_app (goodIn_of _ (by decide +kernel)) ggL_law_X7_suspects
set_option maxRecDepth 20000 in
theorem ggL_law_X6_wouldBeWrong : GoodIn wsL_law wsX6_wouldBeWrong := goodIn_r _ [612, 15, 108, 109, 107, 613, 614, 615, 2, 616, 16, 286, 617, 122, 123, 14, 124, 32, 36, 37, 38, 42, 125, 126, 127, 31, 128, 46, 47, 49, 129, 130, 131, 132, 133, 134, 135, 35, 136, 53, 54, 55, 137, 138, 139, 140, 41, 141, 142, 143, 144, 145, 146, 147, 148, 59, 149, 60, 61, 62, 458, 459, 460, 461, 185, 186, 187, 188, 67, 189, 190, 191, 192, 193, 194, 195, 196, 197, 68, 462, 298, 299, 300, 301, 302, 303, 304, 305, 306, 307, 308, 309, 310, 311, 312, 313, 314, 315, 316, 77, 78, 79, 349, 318, 319, 320, 463, 346, 347, 348, 350, 351, 352, 353, 354, 355, 356, 357, 358, 359, 270, 271, 272, 273, 266, 267, 268, 360, 361, 362, 363, 364, 365, 366, 69, 367, 368, 369, 370, 371, 372, 373, 374, 220, 221, 222, 375, 224, 225, 226, 376, 377, 378, 379, 380, 381, 382, 383, 384, 385, 386, 387, 388, 389, 390, 391, 392, 393, 464, 430, 431, 432, 433, 434, 435, 436, 437, 228, 229, 230, 231, 540, 541, 542, 543, 544, 514, 515, 516, 777, 778, 779, 780, 797, 798, 799, 800, 801, 815, 816, 817, 818, 819, 820, 821, 822, 823, 824, 825, 826, 827, 828, 829, 830, 831] (by decide +kernel) (by decide +kernel)
set_option maxRecDepth 20000 in
theorem gL_law_X6_wouldBeWrong : GoodIn wsL_law (wsV RL 77 RX6 yX6_wouldBeWrong wsX6_wouldBeWrong) := goodIn_app (goodIn_of _ (by decide +kernel)) ggL_law_X6_wouldBeWrong
set_option maxRecDepth 20000 in
theorem ggL_law_X7_wouldBeWrong : GoodIn wsL_law wsX7_wouldBeWrong := goodIn_r _ [621, 98, 160, 161, 162, 5, 163, 622, 623, 624, 625, 100, 469, 470, 471, 472, 206, 207, 208, 209, 325, 326, 327, 328, 169, 170, 171, 172, 398, 399, 400, 401, 329, 330, 331, 332, 333, 334, 335, 336, 337, 338, 339, 340, 402, 403, 404, 405, 406, 407, 408, 409, 410, 411, 412, 413, 414, 415, 416, 417, 418, 419, 420, 421, 422, 423, 424, 446, 447, 448, 449, 555, 556, 557, 558, 525, 526, 527, 528, 521, 522, 523, 524, 781, 782, 783, 784, 785, 786, 787, 788, 789, 790, 791, 792, 793, 794, 795, 796] (by decide +kernel) (by decide +kernel)
set_option maxRecDepth 20000 in
theorem gL_law_X7_wouldBeWrong : GoodIn wsL_law (wsV RL 80 RX7 yX7_wouldBeWrong wsX7_wouldBeWrong) := goodIn_app (goodIn_of _ (by decide +kernel)) ggL_law_X7_wouldBeWrong
set_option maxRecDepth 20000 in
theorem ggL_law_X6_best : GoodIn wsL_law wsX6_best := goodIn_r _ [629, 15, 108, 109, 613, 614, 615, 2, 616, 16, 286, 617, 122, 123, 14, 124, 32, 36, 37, 38, 42, 125, 126, 127, 31, 128, 46, 47, 49, 129, 130, 131, 132, 133, 134, 135, 35, 136, 53, 54, 55, 137, 138, 139, 140, 41, 141, 142, 143, 144, 145, 146, 147, 148, 59, 149, 60, 61, 62, 458, 459, 460, 461, 185, 186, 187, 188, 67, 189, 190, 191, 192, 193, 194, 195, 196, 197, 68, 462, 298, 299, 300, 301, 302, 303, 304, 305, 306, 307, 308, 309, 310, 311, 312, 313, 314, 315, 316, 77, 78, 79, 349, 318, 319, 320, 463, 346, 347, 348, 350, 351, 352, 353, 354, 355, 356, 357, 358, 359, 270, 271, 272, 273, 266, 267, 268, 360, 361, 362, 363, 364, 365, 366, 69, 367, 368, 369, 370, 371, 372, 373, 374, 220, 221, 222, 375, 224, 225, 226, 376, 377, 378, 379, 380, 381, 382, 383, 384, 385, 386, 387, 388, 389, 390, 391, 392, 393, 464, 430, 431, 432, 433, 434, 435, 436, 437, 228, 229, 230, 231, 540, 541, 542, 543, 544, 514, 515, 516, 777, 778, 779, 780, 797, 798, 799, 800, 801, 815, 816, 817, 818, 819, 820, 821, 822, 823, 824, 825, 826, 827, 828, 829, 830, 831] (by decide +kernel) (by decide +kernel)
set_option maxRecDepth 20000 in
theorem gL_law_X6_best : GoodIn wsL_law (wsV RL 81 RX6 yX6_best wsX6_best) := goodIn_app (goodIn_of _ (by decide +kernel)) ggL_law_X6_best
set_option maxRecDepth 20000 in
theorem ggL_law_X7_best : GoodIn wsL_law wsX7_best := goodIn_r _ [633, 98, 622, 623, 624, 5, 625, 100, 469, 470, 471, 472, 206, 207, 208, 209, 325, 326, 327, 328, 169, 170, 171, 172, 398, 399, 400, 401, 329, 330, 331, 332, 333, 334, 335, 336, 337, 338, 339, 340, 402, 403, 404, 405, 406, 407, 408, 409, 410, 411, 412, 413, 161, 162, 163, 414, 415, 416, 417, 418, 419, 420, 421, 422, 423, 424, 446, 447, 448, 449, 555, 556, 557, 558, 525, 526, 527, 528, 521, 522, 523, 524, 781, 782, 783, 784, 785, 786, 787, 788, 789, 790, 791, 792, 793, 794, 795, 796] (by decide +kernel) (by decide +kernel)
set_option maxRecDepth 20000 in
theorem gL_law_X7_best : GoodIn wsL_law (wsV RL 84 RX7 yX7_best wsX7_best) := goodIn_app (goodIn_of _ (by decide +kernel)) ggL_law_X7_best
set_option maxRecDepth 20000 in
theorem ggL_law_X6_undo : GoodIn wsL_law wsX6_undo := goodIn_r _ [637, 20, 538, 218, 15, 638, 639, 640, 19, 641, 116, 85, 121, 122, 123, 14, 124, 32, 36, 37, 38, 42, 125, 126, 127, 31, 128, 46, 47, 49, 129, 130, 131, 132, 133, 134, 135, 35, 136, 53, 54, 55, 137, 138, 139, 140, 41, 141, 142, 143, 144, 145, 146, 147, 148, 59, 149, 60, 61, 62, 777, 778, 779, 780, 802, 803, 797, 798, 799, 800, 801, 815, 816, 817, 818, 819, 820, 821, 822, 823, 824, 825, 826, 827, 828, 829, 830, 831] (by decide +kernel) (by decide +kernel)
set_option maxRecDepth 20000 in
theorem gL_law_X6_undo : GoodIn wsL_law (wsV RL 85 RX6 yX6_undo wsX6_undo) := goodIn_app (goodIn_of _ (by decide +kernel)) ggL_law_X6_undo
set_option maxRecDepth 20000 in
theorem ggL_law_X7_undo : GoodIn wsL_law wsX7_undo := goodIn_r _ [645, 168, 240, 98, 99, 781, 782, 783, 784, 785, 786, 787, 788, 789, 790, 791, 792, 793, 794, 795, 796] (by decide +kernel) (by decide +kernel)
set_option maxRecDepth 20000 in
theorem gL_law_X7_undo : GoodIn wsL_law (wsV RL 88 RX7 yX7_undo wsX7_undo) := goodIn_app (goodIn_of _ (by decide +kernel)) ggL_law_X7_undo
set_option maxRecDepth 20000 in
theorem ggL_law_X6_type : GoodIn wsL_law wsX6_type := goodIn_r _ [649, 107, 24, 539, 650, 651, 652, 653, 23, 654, 655, 91, 777, 778, 779, 780, 804, 805, 806, 807, 808, 809, 810, 811, 812, 813, 814] (by decide +kernel) (by decide +kernel)
set_option maxRecDepth 20000 in
theorem gL_law_X6_type : GoodIn wsL_law (wsV RL 89 RX6 yX6_type wsX6_type) := goodIn_app (goodIn_of _ (by decide +kernel)) ggL_law_X6_type
set_option maxRecDepth 20000 in
theorem ggL_law_X7_type : GoodIn wsL_law wsX7_type := goodIn_r _ [659, 160, 554, 660, 101, 161, 162, 5, 163, 781, 782, 783, 784, 785, 786, 787, 788, 789, 790, 791, 792, 793, 794, 795, 796] (by decide +kernel) (by decide +kernel)
set_option maxRecDepth 20000 in
theorem gL_law_X7_type : GoodIn wsL_law (wsV RL 92 RX7 yX7_type wsX7_type) := goodIn_app (goodIn_of _ (by decide +kernel)) ggL_law_X7_type
set_option maxRecDepth 20000 in
theorem ggL_law_X6_clearText : GoodIn wsL_law wsX6_clearText := goodIn_r _ [664, 24, 539, 777, 778, 779, 780, 804, 805, 806, 807, 808, 809, 810, 811, 812, 813, 814] (by decide +kernel) (by decide +kernel)
set_option maxRecDepth 20000 in
theorem gL_law_X6_clearText : GoodIn wsL_law (wsV RL 93 RX6 yX6_clearText wsX6_clearText) := goodIn_app (goodIn_of _ (by decide +kernel)) ggL_law_X6_clearText
set_option maxRecDepth 20000 in
theorem ggL_law_X7_clearText : GoodIn wsL_law wsX7_clearText := goodIn_r _ [668, 554, 781, 782, 783, 784, 785, 786, 787, 788, 789, 790, 791, 792, 793, 794, 795, 796] (by decide +kernel) (by decide +kernel)
set_option maxRecDepth 20000 in
theorem gL_law_X7_clearText : GoodIn wsL_law (wsV RL 96 RX7 yX7_clearText wsX7_clearText) := goodIn_app (goodIn_of _ (by decide +kernel)) ggL_law_X7_clearText
set_option maxRecDepth 20000 in
theorem ggL_law_X6_textFault : GoodIn wsL_law wsX6_textFault := goodIn_r _ [672, 107, 24, 673, 497, 674, 675, 676, 677, 23, 678, 655, 91, 679, 680, 681, 682, 683, 93, 684, 685, 686, 687, 71, 72, 35, 73, 53, 54, 55, 74, 2, 75, 76, 77, 78, 79, 688, 689, 690, 691, 692, 693, 694, 695, 696, 697, 698, 699, 700, 701, 702, 703, 704, 705, 706, 707, 708, 709, 710, 711, 712, 228, 229, 230, 231, 220, 221, 222, 713, 714, 715, 716, 717, 718, 719, 720, 721, 722, 723, 724, 725, 726, 727, 728, 729, 730, 777, 778, 779, 780, 804, 805, 806, 807, 808, 809, 810, 811, 812, 813, 814, 818, 819, 820] (by decide +kernel) (by decide +kernel)
set_option maxRecDepth 20000 in
theorem gL_law_X6_textFault : GoodIn wsL_law (wsV RL 97 RX6 yX6_textFault wsX6_textFault) := goodIn_app (goodIn_of _ (by decide +kernel)) ggL_law_X6_textFault
set_option maxRecDepth 20000 in
theorem ggL_law_X7_textFault : GoodIn wsL_law wsX7_textFault := goodIn_r _ [734, 160, 507, 735, 736, 161, 162, 5, 163, 737, 738, 739, 740, 741, 742, 743, 554, 101, 744, 745, 746, 747, 102, 748, 749, 750, 751, 752, 753, 754, 755, 756, 757, 758, 759, 781, 782, 783, 784, 785, 786, 787, 788, 789, 790, 791, 792, 793, 794, 795, 796] (by decide +kernel) (by decide +kernel)
set_option maxRecDepth 20000 in
theorem gL_law_X7_textFault : GoodIn wsL_law (wsV RL 100 RX7 yX7_textFault wsX7_textFault) := goodIn_app (goodIn_of _ (by decide +kernel)) ggL_law_X7_textFault
set_option maxRecDepth 20000 in
theorem ggL_law_X6_read : GoodIn wsL_law wsX6_read := goodIn_r _ [763, 107, 15, 110, 111, 218, 24, 673, 20, 764, 533, 534, 675, 676, 677, 23, 678, 655, 91, 679, 680, 681, 682, 683, 93, 684, 685, 686, 687, 71, 72, 35, 73, 53, 54, 55, 74, 2, 75, 76, 77, 78, 79, 688, 689, 690, 691, 692, 693, 694, 695, 696, 697, 698, 699, 700, 701, 702, 703, 704, 705, 706, 707, 708, 709, 710, 711, 712, 228, 229, 230, 231, 220, 221, 222, 713, 714, 715, 716, 717, 718, 719, 720, 721, 722, 723, 724, 725, 726, 727, 728, 729, 730, 112, 113, 114, 19, 115, 116, 85, 117, 118, 119, 120, 121, 122, 123, 14, 124, 32, 36, 37, 38, 42, 125, 126, 127, 31, 128, 46, 47, 49, 129, 130, 131, 132, 133, 134, 135, 136, 137, 138, 139, 140, 41, 141, 142, 143, 144, 145, 146, 147, 148, 59, 149, 60, 61, 62, 765, 766, 767, 768, 67, 68, 70, 63, 64, 65, 66, 69, 769, 770, 771, 772, 777, 778, 779, 780, 797, 798, 799, 800, 801, 821, 822, 823, 824, 825, 826, 827, 828, 829, 830, 831, 804, 805, 806, 807, 808, 809, 810, 811, 812, 813, 814, 818, 819, 820, 802, 803, 815, 816, 817] (by decide +kernel) (by decide +kernel)
set_option maxRecDepth 20000 in
theorem gL_law_X6_read : GoodIn wsL_law (wsV RL 101 RX6 yX6_read wsX6_read) := goodIn_app (goodIn_of _ (by decide +kernel)) ggL_law_X6_read
set_option maxRecDepth 20000 in
theorem ggL_law_X7_read : GoodIn wsL_law wsX7_read := goodIn_r _ [776, 160, 98, 240, 742, 741, 102, 161, 162, 5, 163, 737, 738, 739, 740, 735, 743, 554, 101, 744, 745, 746, 747, 748, 749, 750, 751, 752, 753, 754, 755, 756, 757, 758, 759, 736, 164, 165, 166, 167, 168, 99, 169, 170, 171, 172, 781, 782, 783, 784, 785, 786, 787, 788, 789, 790, 791, 792, 793, 794, 795, 796] (by decide +kernel) (by decide +kernel)
set_option maxRecDepth 20000 in
theorem gL_law_X7_read : GoodIn wsL_law (wsV RL 104 RX7 yX7_read wsX7_read) := goodIn_app (goodIn_of _ (by decide +kernel)) ggL_law_X7_read
theorem dL_law_0 : decode cL_law 0 = .ok (.new 7, 3) := by decide +kernel
theorem dL_law_3 : decode cL_law 3 = .ok (.dup, 1) := by decide +kernel
theorem dL_law_4 : decode cL_law 4 = .ok (.invokespecial 9, 3) := by decide +kernel
theorem dL_law_7 : decode cL_law 7 = .ok (.astore_n 1, 1) := by decide +kernel
theorem dL_law_8 : decode cL_law 8 = .ok (.new 10, 3) := by decide +kernel
theorem dL_law_11 : decode cL_law 11 = .ok (.dup, 1) := by decide +kernel
theorem dL_law_12 : decode cL_law 12 = .ok (.invokespecial 12, 3) := by decide +kernel
theorem dL_law_15 : decode cL_law 15 = .ok (.astore_n 2, 1) := by decide +kernel
theorem dL_law_16 : decode cL_law 16 = .ok (.iconst 0, 1) := by decide +kernel
theorem dL_law_17 : decode cL_law 17 = .ok (.istore_n 3, 1) := by decide +kernel
theorem dL_law_18 : decode cL_law 18 = .ok (.iload_n 3, 1) := by decide +kernel
theorem dL_law_19 : decode cL_law 19 = .ok (.aload_n 0, 1) := by decide +kernel
theorem dL_law_20 : decode cL_law 20 = .ok (.arraylength, 1) := by decide +kernel
theorem dL_law_21 : decode cL_law 21 = .ok (.iconst 4, 1) := by decide +kernel
theorem dL_law_22 : decode cL_law 22 = .ok (.isub, 1) := by decide +kernel
theorem dL_law_23 : decode cL_law 23 = .ok (.if_icmp .gt 725, 3) := by decide +kernel
theorem dL_law_26 : decode cL_law 26 = .ok (.aload_n 0, 1) := by decide +kernel
theorem dL_law_27 : decode cL_law 27 = .ok (.iload_n 3, 1) := by decide +kernel
theorem dL_law_28 : decode cL_law 28 = .ok (.iaload, 1) := by decide +kernel
theorem dL_law_29 : decode cL_law 29 = .ok (.bipush 31, 2) := by decide +kernel
theorem dL_law_31 : decode cL_law 31 = .ok (.iand, 1) := by decide +kernel
theorem dL_law_32 : decode cL_law 32 = .ok (.tableswitch 710 0 21 #[104, 127, 170, 213, 256, 299, 322, 355, 378, 391, 404, 447, 490, 533, 556, 579, 602, 615, 628, 651, 664, 687], 104) := by decide +kernel
theorem dL_law_136 : decode cL_law 136 = .ok (.aload_n 1, 1) := by decide +kernel
theorem dL_law_137 : decode cL_law 137 = .ok (.aload_n 0, 1) := by decide +kernel
theorem dL_law_138 : decode cL_law 138 = .ok (.iload_n 3, 1) := by decide +kernel
theorem dL_law_139 : decode cL_law 139 = .ok (.iconst 1, 1) := by decide +kernel
theorem dL_law_140 : decode cL_law 140 = .ok (.iadd, 1) := by decide +kernel
theorem dL_law_141 : decode cL_law 141 = .ok (.iaload, 1) := by decide +kernel
theorem dL_law_142 : decode cL_law 142 = .ok (.invokevirtual 13, 3) := by decide +kernel
theorem dL_law_145 : decode cL_law 145 = .ok (.aload_n 2, 1) := by decide +kernel
theorem dL_law_146 : decode cL_law 146 = .ok (.aload_n 0, 1) := by decide +kernel
theorem dL_law_147 : decode cL_law 147 = .ok (.iload_n 3, 1) := by decide +kernel
theorem dL_law_148 : decode cL_law 148 = .ok (.iconst 1, 1) := by decide +kernel
theorem dL_law_149 : decode cL_law 149 = .ok (.iadd, 1) := by decide +kernel
theorem dL_law_150 : decode cL_law 150 = .ok (.iaload, 1) := by decide +kernel
theorem dL_law_151 : decode cL_law 151 = .ok (.invokevirtual 17, 3) := by decide +kernel
theorem dL_law_154 : decode cL_law 154 = .ok (.if_icmp .eq 588, 3) := by decide +kernel
theorem dL_law_157 : decode cL_law 157 = .ok (.iconst 0, 1) := by decide +kernel
theorem dL_law_158 : decode cL_law 158 = .ok (.ireturn, 1) := by decide +kernel
theorem dL_law_159 : decode cL_law 159 = .ok (.aload_n 1, 1) := by decide +kernel
theorem dL_law_160 : decode cL_law 160 = .ok (.aload_n 0, 1) := by decide +kernel
theorem dL_law_161 : decode cL_law 161 = .ok (.iload_n 3, 1) := by decide +kernel
theorem dL_law_162 : decode cL_law 162 = .ok (.iconst 1, 1) := by decide +kernel
theorem dL_law_163 : decode cL_law 163 = .ok (.iadd, 1) := by decide +kernel
theorem dL_law_164 : decode cL_law 164 = .ok (.iaload, 1) := by decide +kernel
theorem dL_law_165 : decode cL_law 165 = .ok (.aload_n 0, 1) := by decide +kernel
theorem dL_law_166 : decode cL_law 166 = .ok (.iload_n 3, 1) := by decide +kernel
theorem dL_law_167 : decode cL_law 167 = .ok (.iconst 2, 1) := by decide +kernel
theorem dL_law_168 : decode cL_law 168 = .ok (.iadd, 1) := by decide +kernel
theorem dL_law_169 : decode cL_law 169 = .ok (.iaload, 1) := by decide +kernel
theorem dL_law_170 : decode cL_law 170 = .ok (.aload_n 0, 1) := by decide +kernel
theorem dL_law_171 : decode cL_law 171 = .ok (.iload_n 3, 1) := by decide +kernel
theorem dL_law_172 : decode cL_law 172 = .ok (.iconst 3, 1) := by decide +kernel
theorem dL_law_173 : decode cL_law 173 = .ok (.iadd, 1) := by decide +kernel
theorem dL_law_174 : decode cL_law 174 = .ok (.iaload, 1) := by decide +kernel
theorem dL_law_175 : decode cL_law 175 = .ok (.invokevirtual 18, 3) := by decide +kernel
theorem dL_law_178 : decode cL_law 178 = .ok (.aload_n 2, 1) := by decide +kernel
theorem dL_law_179 : decode cL_law 179 = .ok (.aload_n 0, 1) := by decide +kernel
theorem dL_law_180 : decode cL_law 180 = .ok (.iload_n 3, 1) := by decide +kernel
theorem dL_law_181 : decode cL_law 181 = .ok (.iconst 1, 1) := by decide +kernel
theorem dL_law_182 : decode cL_law 182 = .ok (.iadd, 1) := by decide +kernel
theorem dL_law_183 : decode cL_law 183 = .ok (.iaload, 1) := by decide +kernel
theorem dL_law_184 : decode cL_law 184 = .ok (.aload_n 0, 1) := by decide +kernel
theorem dL_law_185 : decode cL_law 185 = .ok (.iload_n 3, 1) := by decide +kernel
theorem dL_law_186 : decode cL_law 186 = .ok (.iconst 2, 1) := by decide +kernel
theorem dL_law_187 : decode cL_law 187 = .ok (.iadd, 1) := by decide +kernel
theorem dL_law_188 : decode cL_law 188 = .ok (.iaload, 1) := by decide +kernel
theorem dL_law_189 : decode cL_law 189 = .ok (.aload_n 0, 1) := by decide +kernel
theorem dL_law_190 : decode cL_law 190 = .ok (.iload_n 3, 1) := by decide +kernel
theorem dL_law_191 : decode cL_law 191 = .ok (.iconst 3, 1) := by decide +kernel
theorem dL_law_192 : decode cL_law 192 = .ok (.iadd, 1) := by decide +kernel
theorem dL_law_193 : decode cL_law 193 = .ok (.iaload, 1) := by decide +kernel
theorem dL_law_194 : decode cL_law 194 = .ok (.invokevirtual 22, 3) := by decide +kernel
theorem dL_law_197 : decode cL_law 197 = .ok (.if_icmp .eq 545, 3) := by decide +kernel
theorem dL_law_200 : decode cL_law 200 = .ok (.iconst 0, 1) := by decide +kernel
theorem dL_law_201 : decode cL_law 201 = .ok (.ireturn, 1) := by decide +kernel
theorem dL_law_202 : decode cL_law 202 = .ok (.aload_n 1, 1) := by decide +kernel
theorem dL_law_203 : decode cL_law 203 = .ok (.aload_n 0, 1) := by decide +kernel
theorem dL_law_204 : decode cL_law 204 = .ok (.iload_n 3, 1) := by decide +kernel
theorem dL_law_205 : decode cL_law 205 = .ok (.iconst 1, 1) := by decide +kernel
theorem dL_law_206 : decode cL_law 206 = .ok (.iadd, 1) := by decide +kernel
theorem dL_law_207 : decode cL_law 207 = .ok (.iaload, 1) := by decide +kernel
theorem dL_law_208 : decode cL_law 208 = .ok (.aload_n 0, 1) := by decide +kernel
theorem dL_law_209 : decode cL_law 209 = .ok (.iload_n 3, 1) := by decide +kernel
theorem dL_law_210 : decode cL_law 210 = .ok (.iconst 2, 1) := by decide +kernel
theorem dL_law_211 : decode cL_law 211 = .ok (.iadd, 1) := by decide +kernel
theorem dL_law_212 : decode cL_law 212 = .ok (.iaload, 1) := by decide +kernel
theorem dL_law_213 : decode cL_law 213 = .ok (.aload_n 0, 1) := by decide +kernel
theorem dL_law_214 : decode cL_law 214 = .ok (.iload_n 3, 1) := by decide +kernel
theorem dL_law_215 : decode cL_law 215 = .ok (.iconst 3, 1) := by decide +kernel
theorem dL_law_216 : decode cL_law 216 = .ok (.iadd, 1) := by decide +kernel
theorem dL_law_217 : decode cL_law 217 = .ok (.iaload, 1) := by decide +kernel
theorem dL_law_218 : decode cL_law 218 = .ok (.invokevirtual 23, 3) := by decide +kernel
theorem dL_law_221 : decode cL_law 221 = .ok (.aload_n 2, 1) := by decide +kernel
theorem dL_law_222 : decode cL_law 222 = .ok (.aload_n 0, 1) := by decide +kernel
theorem dL_law_223 : decode cL_law 223 = .ok (.iload_n 3, 1) := by decide +kernel
theorem dL_law_224 : decode cL_law 224 = .ok (.iconst 1, 1) := by decide +kernel
theorem dL_law_225 : decode cL_law 225 = .ok (.iadd, 1) := by decide +kernel
theorem dL_law_226 : decode cL_law 226 = .ok (.iaload, 1) := by decide +kernel
theorem dL_law_227 : decode cL_law 227 = .ok (.aload_n 0, 1) := by decide +kernel
theorem dL_law_228 : decode cL_law 228 = .ok (.iload_n 3, 1) := by decide +kernel
theorem dL_law_229 : decode cL_law 229 = .ok (.iconst 2, 1) := by decide +kernel
theorem dL_law_230 : decode cL_law 230 = .ok (.iadd, 1) := by decide +kernel
theorem dL_law_231 : decode cL_law 231 = .ok (.iaload, 1) := by decide +kernel
theorem dL_law_232 : decode cL_law 232 = .ok (.aload_n 0, 1) := by decide +kernel
theorem dL_law_233 : decode cL_law 233 = .ok (.iload_n 3, 1) := by decide +kernel
theorem dL_law_234 : decode cL_law 234 = .ok (.iconst 3, 1) := by decide +kernel
theorem dL_law_235 : decode cL_law 235 = .ok (.iadd, 1) := by decide +kernel
theorem dL_law_236 : decode cL_law 236 = .ok (.iaload, 1) := by decide +kernel
theorem dL_law_237 : decode cL_law 237 = .ok (.invokevirtual 26, 3) := by decide +kernel
theorem dL_law_240 : decode cL_law 240 = .ok (.if_icmp .eq 502, 3) := by decide +kernel
theorem dL_law_243 : decode cL_law 243 = .ok (.iconst 0, 1) := by decide +kernel
theorem dL_law_244 : decode cL_law 244 = .ok (.ireturn, 1) := by decide +kernel
theorem dL_law_245 : decode cL_law 245 = .ok (.aload_n 1, 1) := by decide +kernel
theorem dL_law_246 : decode cL_law 246 = .ok (.aload_n 0, 1) := by decide +kernel
theorem dL_law_247 : decode cL_law 247 = .ok (.iload_n 3, 1) := by decide +kernel
theorem dL_law_248 : decode cL_law 248 = .ok (.iconst 1, 1) := by decide +kernel
theorem dL_law_249 : decode cL_law 249 = .ok (.iadd, 1) := by decide +kernel
theorem dL_law_250 : decode cL_law 250 = .ok (.iaload, 1) := by decide +kernel
theorem dL_law_251 : decode cL_law 251 = .ok (.aload_n 0, 1) := by decide +kernel
theorem dL_law_252 : decode cL_law 252 = .ok (.iload_n 3, 1) := by decide +kernel
theorem dL_law_253 : decode cL_law 253 = .ok (.iconst 2, 1) := by decide +kernel
theorem dL_law_254 : decode cL_law 254 = .ok (.iadd, 1) := by decide +kernel
theorem dL_law_255 : decode cL_law 255 = .ok (.iaload, 1) := by decide +kernel
theorem dL_law_256 : decode cL_law 256 = .ok (.aload_n 0, 1) := by decide +kernel
theorem dL_law_257 : decode cL_law 257 = .ok (.iload_n 3, 1) := by decide +kernel
theorem dL_law_258 : decode cL_law 258 = .ok (.iconst 3, 1) := by decide +kernel
theorem dL_law_259 : decode cL_law 259 = .ok (.iadd, 1) := by decide +kernel
theorem dL_law_260 : decode cL_law 260 = .ok (.iaload, 1) := by decide +kernel
theorem dL_law_261 : decode cL_law 261 = .ok (.invokevirtual 27, 3) := by decide +kernel
theorem dL_law_264 : decode cL_law 264 = .ok (.aload_n 2, 1) := by decide +kernel
theorem dL_law_265 : decode cL_law 265 = .ok (.aload_n 0, 1) := by decide +kernel
theorem dL_law_266 : decode cL_law 266 = .ok (.iload_n 3, 1) := by decide +kernel
theorem dL_law_267 : decode cL_law 267 = .ok (.iconst 1, 1) := by decide +kernel
theorem dL_law_268 : decode cL_law 268 = .ok (.iadd, 1) := by decide +kernel
theorem dL_law_269 : decode cL_law 269 = .ok (.iaload, 1) := by decide +kernel
theorem dL_law_270 : decode cL_law 270 = .ok (.aload_n 0, 1) := by decide +kernel
theorem dL_law_271 : decode cL_law 271 = .ok (.iload_n 3, 1) := by decide +kernel
theorem dL_law_272 : decode cL_law 272 = .ok (.iconst 2, 1) := by decide +kernel
theorem dL_law_273 : decode cL_law 273 = .ok (.iadd, 1) := by decide +kernel
theorem dL_law_274 : decode cL_law 274 = .ok (.iaload, 1) := by decide +kernel
theorem dL_law_275 : decode cL_law 275 = .ok (.aload_n 0, 1) := by decide +kernel
theorem dL_law_276 : decode cL_law 276 = .ok (.iload_n 3, 1) := by decide +kernel
theorem dL_law_277 : decode cL_law 277 = .ok (.iconst 3, 1) := by decide +kernel
theorem dL_law_278 : decode cL_law 278 = .ok (.iadd, 1) := by decide +kernel
theorem dL_law_279 : decode cL_law 279 = .ok (.iaload, 1) := by decide +kernel
theorem dL_law_280 : decode cL_law 280 = .ok (.invokevirtual 30, 3) := by decide +kernel
theorem dL_law_283 : decode cL_law 283 = .ok (.if_icmp .eq 459, 3) := by decide +kernel
theorem dL_law_286 : decode cL_law 286 = .ok (.iconst 0, 1) := by decide +kernel
theorem dL_law_287 : decode cL_law 287 = .ok (.ireturn, 1) := by decide +kernel
theorem dL_law_288 : decode cL_law 288 = .ok (.aload_n 1, 1) := by decide +kernel
theorem dL_law_289 : decode cL_law 289 = .ok (.aload_n 0, 1) := by decide +kernel
theorem dL_law_290 : decode cL_law 290 = .ok (.iload_n 3, 1) := by decide +kernel
theorem dL_law_291 : decode cL_law 291 = .ok (.iconst 1, 1) := by decide +kernel
theorem dL_law_292 : decode cL_law 292 = .ok (.iadd, 1) := by decide +kernel
theorem dL_law_293 : decode cL_law 293 = .ok (.iaload, 1) := by decide +kernel
theorem dL_law_294 : decode cL_law 294 = .ok (.aload_n 0, 1) := by decide +kernel
theorem dL_law_295 : decode cL_law 295 = .ok (.iload_n 3, 1) := by decide +kernel
theorem dL_law_296 : decode cL_law 296 = .ok (.iconst 2, 1) := by decide +kernel
theorem dL_law_297 : decode cL_law 297 = .ok (.iadd, 1) := by decide +kernel
theorem dL_law_298 : decode cL_law 298 = .ok (.iaload, 1) := by decide +kernel
theorem dL_law_299 : decode cL_law 299 = .ok (.aload_n 0, 1) := by decide +kernel
theorem dL_law_300 : decode cL_law 300 = .ok (.iload_n 3, 1) := by decide +kernel
theorem dL_law_301 : decode cL_law 301 = .ok (.iconst 3, 1) := by decide +kernel
theorem dL_law_302 : decode cL_law 302 = .ok (.iadd, 1) := by decide +kernel
theorem dL_law_303 : decode cL_law 303 = .ok (.iaload, 1) := by decide +kernel
theorem dL_law_304 : decode cL_law 304 = .ok (.invokevirtual 31, 3) := by decide +kernel
theorem dL_law_307 : decode cL_law 307 = .ok (.aload_n 2, 1) := by decide +kernel
theorem dL_law_308 : decode cL_law 308 = .ok (.aload_n 0, 1) := by decide +kernel
theorem dL_law_309 : decode cL_law 309 = .ok (.iload_n 3, 1) := by decide +kernel
theorem dL_law_310 : decode cL_law 310 = .ok (.iconst 1, 1) := by decide +kernel
theorem dL_law_311 : decode cL_law 311 = .ok (.iadd, 1) := by decide +kernel
theorem dL_law_312 : decode cL_law 312 = .ok (.iaload, 1) := by decide +kernel
theorem dL_law_313 : decode cL_law 313 = .ok (.aload_n 0, 1) := by decide +kernel
theorem dL_law_314 : decode cL_law 314 = .ok (.iload_n 3, 1) := by decide +kernel
theorem dL_law_315 : decode cL_law 315 = .ok (.iconst 2, 1) := by decide +kernel
theorem dL_law_316 : decode cL_law 316 = .ok (.iadd, 1) := by decide +kernel
theorem dL_law_317 : decode cL_law 317 = .ok (.iaload, 1) := by decide +kernel
theorem dL_law_318 : decode cL_law 318 = .ok (.aload_n 0, 1) := by decide +kernel
theorem dL_law_319 : decode cL_law 319 = .ok (.iload_n 3, 1) := by decide +kernel
theorem dL_law_320 : decode cL_law 320 = .ok (.iconst 3, 1) := by decide +kernel
theorem dL_law_321 : decode cL_law 321 = .ok (.iadd, 1) := by decide +kernel
theorem dL_law_322 : decode cL_law 322 = .ok (.iaload, 1) := by decide +kernel
theorem dL_law_323 : decode cL_law 323 = .ok (.invokevirtual 34, 3) := by decide +kernel
theorem dL_law_326 : decode cL_law 326 = .ok (.if_icmp .eq 416, 3) := by decide +kernel
theorem dL_law_329 : decode cL_law 329 = .ok (.iconst 0, 1) := by decide +kernel
theorem dL_law_330 : decode cL_law 330 = .ok (.ireturn, 1) := by decide +kernel
theorem dL_law_331 : decode cL_law 331 = .ok (.aload_n 1, 1) := by decide +kernel
theorem dL_law_332 : decode cL_law 332 = .ok (.aload_n 0, 1) := by decide +kernel
theorem dL_law_333 : decode cL_law 333 = .ok (.iload_n 3, 1) := by decide +kernel
theorem dL_law_334 : decode cL_law 334 = .ok (.iconst 1, 1) := by decide +kernel
theorem dL_law_335 : decode cL_law 335 = .ok (.iadd, 1) := by decide +kernel
theorem dL_law_336 : decode cL_law 336 = .ok (.iaload, 1) := by decide +kernel
theorem dL_law_337 : decode cL_law 337 = .ok (.invokevirtual 35, 3) := by decide +kernel
theorem dL_law_340 : decode cL_law 340 = .ok (.aload_n 2, 1) := by decide +kernel
theorem dL_law_341 : decode cL_law 341 = .ok (.aload_n 0, 1) := by decide +kernel
theorem dL_law_342 : decode cL_law 342 = .ok (.iload_n 3, 1) := by decide +kernel
theorem dL_law_343 : decode cL_law 343 = .ok (.iconst 1, 1) := by decide +kernel
theorem dL_law_344 : decode cL_law 344 = .ok (.iadd, 1) := by decide +kernel
theorem dL_law_345 : decode cL_law 345 = .ok (.iaload, 1) := by decide +kernel
theorem dL_law_346 : decode cL_law 346 = .ok (.invokevirtual 38, 3) := by decide +kernel
theorem dL_law_349 : decode cL_law 349 = .ok (.if_icmp .eq 393, 3) := by decide +kernel
theorem dL_law_352 : decode cL_law 352 = .ok (.iconst 0, 1) := by decide +kernel
theorem dL_law_353 : decode cL_law 353 = .ok (.ireturn, 1) := by decide +kernel
theorem dL_law_354 : decode cL_law 354 = .ok (.aload_n 1, 1) := by decide +kernel
theorem dL_law_355 : decode cL_law 355 = .ok (.aload_n 0, 1) := by decide +kernel
theorem dL_law_356 : decode cL_law 356 = .ok (.iload_n 3, 1) := by decide +kernel
theorem dL_law_357 : decode cL_law 357 = .ok (.iconst 1, 1) := by decide +kernel
theorem dL_law_358 : decode cL_law 358 = .ok (.iadd, 1) := by decide +kernel
theorem dL_law_359 : decode cL_law 359 = .ok (.iaload, 1) := by decide +kernel
theorem dL_law_360 : decode cL_law 360 = .ok (.aload_n 0, 1) := by decide +kernel
theorem dL_law_361 : decode cL_law 361 = .ok (.iload_n 3, 1) := by decide +kernel
theorem dL_law_362 : decode cL_law 362 = .ok (.iconst 2, 1) := by decide +kernel
theorem dL_law_363 : decode cL_law 363 = .ok (.iadd, 1) := by decide +kernel
theorem dL_law_364 : decode cL_law 364 = .ok (.iaload, 1) := by decide +kernel
theorem dL_law_365 : decode cL_law 365 = .ok (.invokevirtual 39, 3) := by decide +kernel
theorem dL_law_368 : decode cL_law 368 = .ok (.aload_n 2, 1) := by decide +kernel
theorem dL_law_369 : decode cL_law 369 = .ok (.aload_n 0, 1) := by decide +kernel
theorem dL_law_370 : decode cL_law 370 = .ok (.iload_n 3, 1) := by decide +kernel
theorem dL_law_371 : decode cL_law 371 = .ok (.iconst 1, 1) := by decide +kernel
theorem dL_law_372 : decode cL_law 372 = .ok (.iadd, 1) := by decide +kernel
theorem dL_law_373 : decode cL_law 373 = .ok (.iaload, 1) := by decide +kernel
theorem dL_law_374 : decode cL_law 374 = .ok (.aload_n 0, 1) := by decide +kernel
theorem dL_law_375 : decode cL_law 375 = .ok (.iload_n 3, 1) := by decide +kernel
theorem dL_law_376 : decode cL_law 376 = .ok (.iconst 2, 1) := by decide +kernel
theorem dL_law_377 : decode cL_law 377 = .ok (.iadd, 1) := by decide +kernel
theorem dL_law_378 : decode cL_law 378 = .ok (.iaload, 1) := by decide +kernel
theorem dL_law_379 : decode cL_law 379 = .ok (.invokevirtual 43, 3) := by decide +kernel
theorem dL_law_382 : decode cL_law 382 = .ok (.if_icmp .eq 360, 3) := by decide +kernel
theorem dL_law_385 : decode cL_law 385 = .ok (.iconst 0, 1) := by decide +kernel
theorem dL_law_386 : decode cL_law 386 = .ok (.ireturn, 1) := by decide +kernel
theorem dL_law_387 : decode cL_law 387 = .ok (.aload_n 1, 1) := by decide +kernel
theorem dL_law_388 : decode cL_law 388 = .ok (.aload_n 0, 1) := by decide +kernel
theorem dL_law_389 : decode cL_law 389 = .ok (.iload_n 3, 1) := by decide +kernel
theorem dL_law_390 : decode cL_law 390 = .ok (.iconst 1, 1) := by decide +kernel
theorem dL_law_391 : decode cL_law 391 = .ok (.iadd, 1) := by decide +kernel
theorem dL_law_392 : decode cL_law 392 = .ok (.iaload, 1) := by decide +kernel
theorem dL_law_393 : decode cL_law 393 = .ok (.invokevirtual 44, 3) := by decide +kernel
theorem dL_law_396 : decode cL_law 396 = .ok (.aload_n 2, 1) := by decide +kernel
theorem dL_law_397 : decode cL_law 397 = .ok (.aload_n 0, 1) := by decide +kernel
theorem dL_law_398 : decode cL_law 398 = .ok (.iload_n 3, 1) := by decide +kernel
theorem dL_law_399 : decode cL_law 399 = .ok (.iconst 1, 1) := by decide +kernel
theorem dL_law_400 : decode cL_law 400 = .ok (.iadd, 1) := by decide +kernel
theorem dL_law_401 : decode cL_law 401 = .ok (.iaload, 1) := by decide +kernel
theorem dL_law_402 : decode cL_law 402 = .ok (.invokevirtual 47, 3) := by decide +kernel
theorem dL_law_405 : decode cL_law 405 = .ok (.if_icmp .eq 337, 3) := by decide +kernel
theorem dL_law_408 : decode cL_law 408 = .ok (.iconst 0, 1) := by decide +kernel
theorem dL_law_409 : decode cL_law 409 = .ok (.ireturn, 1) := by decide +kernel
theorem dL_law_410 : decode cL_law 410 = .ok (.aload_n 1, 1) := by decide +kernel
theorem dL_law_411 : decode cL_law 411 = .ok (.invokevirtual 48, 3) := by decide +kernel
theorem dL_law_414 : decode cL_law 414 = .ok (.aload_n 2, 1) := by decide +kernel
theorem dL_law_415 : decode cL_law 415 = .ok (.invokevirtual 52, 3) := by decide +kernel
theorem dL_law_418 : decode cL_law 418 = .ok (.if_icmp .eq 324, 3) := by decide +kernel
theorem dL_law_421 : decode cL_law 421 = .ok (.iconst 0, 1) := by decide +kernel
theorem dL_law_422 : decode cL_law 422 = .ok (.ireturn, 1) := by decide +kernel
theorem dL_law_423 : decode cL_law 423 = .ok (.aload_n 1, 1) := by decide +kernel
theorem dL_law_424 : decode cL_law 424 = .ok (.invokevirtual 53, 3) := by decide +kernel
theorem dL_law_427 : decode cL_law 427 = .ok (.aload_n 2, 1) := by decide +kernel
theorem dL_law_428 : decode cL_law 428 = .ok (.invokevirtual 56, 3) := by decide +kernel
theorem dL_law_431 : decode cL_law 431 = .ok (.if_icmp .eq 311, 3) := by decide +kernel
theorem dL_law_434 : decode cL_law 434 = .ok (.iconst 0, 1) := by decide +kernel
theorem dL_law_435 : decode cL_law 435 = .ok (.ireturn, 1) := by decide +kernel
theorem dL_law_436 : decode cL_law 436 = .ok (.aload_n 1, 1) := by decide +kernel
theorem dL_law_437 : decode cL_law 437 = .ok (.aload_n 0, 1) := by decide +kernel
theorem dL_law_438 : decode cL_law 438 = .ok (.iload_n 3, 1) := by decide +kernel
theorem dL_law_439 : decode cL_law 439 = .ok (.iconst 1, 1) := by decide +kernel
theorem dL_law_440 : decode cL_law 440 = .ok (.iadd, 1) := by decide +kernel
theorem dL_law_441 : decode cL_law 441 = .ok (.iaload, 1) := by decide +kernel
theorem dL_law_442 : decode cL_law 442 = .ok (.aload_n 0, 1) := by decide +kernel
theorem dL_law_443 : decode cL_law 443 = .ok (.iload_n 3, 1) := by decide +kernel
theorem dL_law_444 : decode cL_law 444 = .ok (.iconst 2, 1) := by decide +kernel
theorem dL_law_445 : decode cL_law 445 = .ok (.iadd, 1) := by decide +kernel
theorem dL_law_446 : decode cL_law 446 = .ok (.iaload, 1) := by decide +kernel
theorem dL_law_447 : decode cL_law 447 = .ok (.aload_n 0, 1) := by decide +kernel
theorem dL_law_448 : decode cL_law 448 = .ok (.iload_n 3, 1) := by decide +kernel
theorem dL_law_449 : decode cL_law 449 = .ok (.iconst 3, 1) := by decide +kernel
theorem dL_law_450 : decode cL_law 450 = .ok (.iadd, 1) := by decide +kernel
theorem dL_law_451 : decode cL_law 451 = .ok (.iaload, 1) := by decide +kernel
theorem dL_law_452 : decode cL_law 452 = .ok (.invokevirtual 57, 3) := by decide +kernel
theorem dL_law_455 : decode cL_law 455 = .ok (.aload_n 2, 1) := by decide +kernel
theorem dL_law_456 : decode cL_law 456 = .ok (.aload_n 0, 1) := by decide +kernel
theorem dL_law_457 : decode cL_law 457 = .ok (.iload_n 3, 1) := by decide +kernel
theorem dL_law_458 : decode cL_law 458 = .ok (.iconst 1, 1) := by decide +kernel
theorem dL_law_459 : decode cL_law 459 = .ok (.iadd, 1) := by decide +kernel
theorem dL_law_460 : decode cL_law 460 = .ok (.iaload, 1) := by decide +kernel
theorem dL_law_461 : decode cL_law 461 = .ok (.aload_n 0, 1) := by decide +kernel
theorem dL_law_462 : decode cL_law 462 = .ok (.iload_n 3, 1) := by decide +kernel
theorem dL_law_463 : decode cL_law 463 = .ok (.iconst 2, 1) := by decide +kernel
theorem dL_law_464 : decode cL_law 464 = .ok (.iadd, 1) := by decide +kernel
theorem dL_law_465 : decode cL_law 465 = .ok (.iaload, 1) := by decide +kernel
theorem dL_law_466 : decode cL_law 466 = .ok (.aload_n 0, 1) := by decide +kernel
theorem dL_law_467 : decode cL_law 467 = .ok (.iload_n 3, 1) := by decide +kernel
theorem dL_law_468 : decode cL_law 468 = .ok (.iconst 3, 1) := by decide +kernel
theorem dL_law_469 : decode cL_law 469 = .ok (.iadd, 1) := by decide +kernel
theorem dL_law_470 : decode cL_law 470 = .ok (.iaload, 1) := by decide +kernel
theorem dL_law_471 : decode cL_law 471 = .ok (.invokevirtual 60, 3) := by decide +kernel
theorem dL_law_474 : decode cL_law 474 = .ok (.if_icmp .eq 268, 3) := by decide +kernel
theorem dL_law_477 : decode cL_law 477 = .ok (.iconst 0, 1) := by decide +kernel
theorem dL_law_478 : decode cL_law 478 = .ok (.ireturn, 1) := by decide +kernel
theorem dL_law_479 : decode cL_law 479 = .ok (.aload_n 1, 1) := by decide +kernel
theorem dL_law_480 : decode cL_law 480 = .ok (.aload_n 0, 1) := by decide +kernel
theorem dL_law_481 : decode cL_law 481 = .ok (.iload_n 3, 1) := by decide +kernel
theorem dL_law_482 : decode cL_law 482 = .ok (.iconst 1, 1) := by decide +kernel
theorem dL_law_483 : decode cL_law 483 = .ok (.iadd, 1) := by decide +kernel
theorem dL_law_484 : decode cL_law 484 = .ok (.iaload, 1) := by decide +kernel
theorem dL_law_485 : decode cL_law 485 = .ok (.aload_n 0, 1) := by decide +kernel
theorem dL_law_486 : decode cL_law 486 = .ok (.iload_n 3, 1) := by decide +kernel
theorem dL_law_487 : decode cL_law 487 = .ok (.iconst 2, 1) := by decide +kernel
theorem dL_law_488 : decode cL_law 488 = .ok (.iadd, 1) := by decide +kernel
theorem dL_law_489 : decode cL_law 489 = .ok (.iaload, 1) := by decide +kernel
theorem dL_law_490 : decode cL_law 490 = .ok (.aload_n 0, 1) := by decide +kernel
theorem dL_law_491 : decode cL_law 491 = .ok (.iload_n 3, 1) := by decide +kernel
theorem dL_law_492 : decode cL_law 492 = .ok (.iconst 3, 1) := by decide +kernel
theorem dL_law_493 : decode cL_law 493 = .ok (.iadd, 1) := by decide +kernel
theorem dL_law_494 : decode cL_law 494 = .ok (.iaload, 1) := by decide +kernel
theorem dL_law_495 : decode cL_law 495 = .ok (.invokevirtual 61, 3) := by decide +kernel
theorem dL_law_498 : decode cL_law 498 = .ok (.aload_n 2, 1) := by decide +kernel
theorem dL_law_499 : decode cL_law 499 = .ok (.aload_n 0, 1) := by decide +kernel
theorem dL_law_500 : decode cL_law 500 = .ok (.iload_n 3, 1) := by decide +kernel
theorem dL_law_501 : decode cL_law 501 = .ok (.iconst 1, 1) := by decide +kernel
theorem dL_law_502 : decode cL_law 502 = .ok (.iadd, 1) := by decide +kernel
theorem dL_law_503 : decode cL_law 503 = .ok (.iaload, 1) := by decide +kernel
theorem dL_law_504 : decode cL_law 504 = .ok (.aload_n 0, 1) := by decide +kernel
theorem dL_law_505 : decode cL_law 505 = .ok (.iload_n 3, 1) := by decide +kernel
theorem dL_law_506 : decode cL_law 506 = .ok (.iconst 2, 1) := by decide +kernel
theorem dL_law_507 : decode cL_law 507 = .ok (.iadd, 1) := by decide +kernel
theorem dL_law_508 : decode cL_law 508 = .ok (.iaload, 1) := by decide +kernel
theorem dL_law_509 : decode cL_law 509 = .ok (.aload_n 0, 1) := by decide +kernel
theorem dL_law_510 : decode cL_law 510 = .ok (.iload_n 3, 1) := by decide +kernel
theorem dL_law_511 : decode cL_law 511 = .ok (.iconst 3, 1) := by decide +kernel
theorem dL_law_512 : decode cL_law 512 = .ok (.iadd, 1) := by decide +kernel
theorem dL_law_513 : decode cL_law 513 = .ok (.iaload, 1) := by decide +kernel
theorem dL_law_514 : decode cL_law 514 = .ok (.invokevirtual 64, 3) := by decide +kernel
theorem dL_law_517 : decode cL_law 517 = .ok (.if_icmp .eq 225, 3) := by decide +kernel
theorem dL_law_520 : decode cL_law 520 = .ok (.iconst 0, 1) := by decide +kernel
theorem dL_law_521 : decode cL_law 521 = .ok (.ireturn, 1) := by decide +kernel
theorem dL_law_522 : decode cL_law 522 = .ok (.aload_n 1, 1) := by decide +kernel
theorem dL_law_523 : decode cL_law 523 = .ok (.aload_n 0, 1) := by decide +kernel
theorem dL_law_524 : decode cL_law 524 = .ok (.iload_n 3, 1) := by decide +kernel
theorem dL_law_525 : decode cL_law 525 = .ok (.iconst 1, 1) := by decide +kernel
theorem dL_law_526 : decode cL_law 526 = .ok (.iadd, 1) := by decide +kernel
theorem dL_law_527 : decode cL_law 527 = .ok (.iaload, 1) := by decide +kernel
theorem dL_law_528 : decode cL_law 528 = .ok (.aload_n 0, 1) := by decide +kernel
theorem dL_law_529 : decode cL_law 529 = .ok (.iload_n 3, 1) := by decide +kernel
theorem dL_law_530 : decode cL_law 530 = .ok (.iconst 2, 1) := by decide +kernel
theorem dL_law_531 : decode cL_law 531 = .ok (.iadd, 1) := by decide +kernel
theorem dL_law_532 : decode cL_law 532 = .ok (.iaload, 1) := by decide +kernel
theorem dL_law_533 : decode cL_law 533 = .ok (.aload_n 0, 1) := by decide +kernel
theorem dL_law_534 : decode cL_law 534 = .ok (.iload_n 3, 1) := by decide +kernel
theorem dL_law_535 : decode cL_law 535 = .ok (.iconst 3, 1) := by decide +kernel
theorem dL_law_536 : decode cL_law 536 = .ok (.iadd, 1) := by decide +kernel
theorem dL_law_537 : decode cL_law 537 = .ok (.iaload, 1) := by decide +kernel
theorem dL_law_538 : decode cL_law 538 = .ok (.invokevirtual 65, 3) := by decide +kernel
theorem dL_law_541 : decode cL_law 541 = .ok (.aload_n 2, 1) := by decide +kernel
theorem dL_law_542 : decode cL_law 542 = .ok (.aload_n 0, 1) := by decide +kernel
theorem dL_law_543 : decode cL_law 543 = .ok (.iload_n 3, 1) := by decide +kernel
theorem dL_law_544 : decode cL_law 544 = .ok (.iconst 1, 1) := by decide +kernel
theorem dL_law_545 : decode cL_law 545 = .ok (.iadd, 1) := by decide +kernel
theorem dL_law_546 : decode cL_law 546 = .ok (.iaload, 1) := by decide +kernel
theorem dL_law_547 : decode cL_law 547 = .ok (.aload_n 0, 1) := by decide +kernel
theorem dL_law_548 : decode cL_law 548 = .ok (.iload_n 3, 1) := by decide +kernel
theorem dL_law_549 : decode cL_law 549 = .ok (.iconst 2, 1) := by decide +kernel
theorem dL_law_550 : decode cL_law 550 = .ok (.iadd, 1) := by decide +kernel
theorem dL_law_551 : decode cL_law 551 = .ok (.iaload, 1) := by decide +kernel
theorem dL_law_552 : decode cL_law 552 = .ok (.aload_n 0, 1) := by decide +kernel
theorem dL_law_553 : decode cL_law 553 = .ok (.iload_n 3, 1) := by decide +kernel
theorem dL_law_554 : decode cL_law 554 = .ok (.iconst 3, 1) := by decide +kernel
theorem dL_law_555 : decode cL_law 555 = .ok (.iadd, 1) := by decide +kernel
theorem dL_law_556 : decode cL_law 556 = .ok (.iaload, 1) := by decide +kernel
theorem dL_law_557 : decode cL_law 557 = .ok (.invokevirtual 68, 3) := by decide +kernel
theorem dL_law_560 : decode cL_law 560 = .ok (.if_icmp .eq 182, 3) := by decide +kernel
theorem dL_law_563 : decode cL_law 563 = .ok (.iconst 0, 1) := by decide +kernel
theorem dL_law_564 : decode cL_law 564 = .ok (.ireturn, 1) := by decide +kernel
theorem dL_law_565 : decode cL_law 565 = .ok (.aload_n 1, 1) := by decide +kernel
theorem dL_law_566 : decode cL_law 566 = .ok (.aload_n 0, 1) := by decide +kernel
theorem dL_law_567 : decode cL_law 567 = .ok (.iload_n 3, 1) := by decide +kernel
theorem dL_law_568 : decode cL_law 568 = .ok (.iconst 1, 1) := by decide +kernel
theorem dL_law_569 : decode cL_law 569 = .ok (.iadd, 1) := by decide +kernel
theorem dL_law_570 : decode cL_law 570 = .ok (.iaload, 1) := by decide +kernel
theorem dL_law_571 : decode cL_law 571 = .ok (.invokevirtual 69, 3) := by decide +kernel
theorem dL_law_574 : decode cL_law 574 = .ok (.aload_n 2, 1) := by decide +kernel
theorem dL_law_575 : decode cL_law 575 = .ok (.aload_n 0, 1) := by decide +kernel
theorem dL_law_576 : decode cL_law 576 = .ok (.iload_n 3, 1) := by decide +kernel
theorem dL_law_577 : decode cL_law 577 = .ok (.iconst 1, 1) := by decide +kernel
theorem dL_law_578 : decode cL_law 578 = .ok (.iadd, 1) := by decide +kernel
theorem dL_law_579 : decode cL_law 579 = .ok (.iaload, 1) := by decide +kernel
theorem dL_law_580 : decode cL_law 580 = .ok (.invokevirtual 72, 3) := by decide +kernel
theorem dL_law_583 : decode cL_law 583 = .ok (.if_icmp .eq 159, 3) := by decide +kernel
theorem dL_law_586 : decode cL_law 586 = .ok (.iconst 0, 1) := by decide +kernel
theorem dL_law_587 : decode cL_law 587 = .ok (.ireturn, 1) := by decide +kernel
theorem dL_law_588 : decode cL_law 588 = .ok (.aload_n 1, 1) := by decide +kernel
theorem dL_law_589 : decode cL_law 589 = .ok (.aload_n 0, 1) := by decide +kernel
theorem dL_law_590 : decode cL_law 590 = .ok (.iload_n 3, 1) := by decide +kernel
theorem dL_law_591 : decode cL_law 591 = .ok (.iconst 1, 1) := by decide +kernel
theorem dL_law_592 : decode cL_law 592 = .ok (.iadd, 1) := by decide +kernel
theorem dL_law_593 : decode cL_law 593 = .ok (.iaload, 1) := by decide +kernel
theorem dL_law_594 : decode cL_law 594 = .ok (.invokevirtual 73, 3) := by decide +kernel
theorem dL_law_597 : decode cL_law 597 = .ok (.aload_n 2, 1) := by decide +kernel
theorem dL_law_598 : decode cL_law 598 = .ok (.aload_n 0, 1) := by decide +kernel
theorem dL_law_599 : decode cL_law 599 = .ok (.iload_n 3, 1) := by decide +kernel
theorem dL_law_600 : decode cL_law 600 = .ok (.iconst 1, 1) := by decide +kernel
theorem dL_law_601 : decode cL_law 601 = .ok (.iadd, 1) := by decide +kernel
theorem dL_law_602 : decode cL_law 602 = .ok (.iaload, 1) := by decide +kernel
theorem dL_law_603 : decode cL_law 603 = .ok (.invokevirtual 76, 3) := by decide +kernel
theorem dL_law_606 : decode cL_law 606 = .ok (.if_icmp .eq 136, 3) := by decide +kernel
theorem dL_law_609 : decode cL_law 609 = .ok (.iconst 0, 1) := by decide +kernel
theorem dL_law_610 : decode cL_law 610 = .ok (.ireturn, 1) := by decide +kernel
theorem dL_law_611 : decode cL_law 611 = .ok (.aload_n 1, 1) := by decide +kernel
theorem dL_law_612 : decode cL_law 612 = .ok (.aload_n 0, 1) := by decide +kernel
theorem dL_law_613 : decode cL_law 613 = .ok (.iload_n 3, 1) := by decide +kernel
theorem dL_law_614 : decode cL_law 614 = .ok (.iconst 1, 1) := by decide +kernel
theorem dL_law_615 : decode cL_law 615 = .ok (.iadd, 1) := by decide +kernel
theorem dL_law_616 : decode cL_law 616 = .ok (.iaload, 1) := by decide +kernel
theorem dL_law_617 : decode cL_law 617 = .ok (.invokevirtual 77, 3) := by decide +kernel
theorem dL_law_620 : decode cL_law 620 = .ok (.aload_n 2, 1) := by decide +kernel
theorem dL_law_621 : decode cL_law 621 = .ok (.aload_n 0, 1) := by decide +kernel
theorem dL_law_622 : decode cL_law 622 = .ok (.iload_n 3, 1) := by decide +kernel
theorem dL_law_623 : decode cL_law 623 = .ok (.iconst 1, 1) := by decide +kernel
theorem dL_law_624 : decode cL_law 624 = .ok (.iadd, 1) := by decide +kernel
theorem dL_law_625 : decode cL_law 625 = .ok (.iaload, 1) := by decide +kernel
theorem dL_law_626 : decode cL_law 626 = .ok (.invokevirtual 80, 3) := by decide +kernel
theorem dL_law_629 : decode cL_law 629 = .ok (.if_icmp .eq 113, 3) := by decide +kernel
theorem dL_law_632 : decode cL_law 632 = .ok (.iconst 0, 1) := by decide +kernel
theorem dL_law_633 : decode cL_law 633 = .ok (.ireturn, 1) := by decide +kernel
theorem dL_law_634 : decode cL_law 634 = .ok (.aload_n 1, 1) := by decide +kernel
theorem dL_law_635 : decode cL_law 635 = .ok (.invokevirtual 81, 3) := by decide +kernel
theorem dL_law_638 : decode cL_law 638 = .ok (.aload_n 2, 1) := by decide +kernel
theorem dL_law_639 : decode cL_law 639 = .ok (.invokevirtual 84, 3) := by decide +kernel
theorem dL_law_642 : decode cL_law 642 = .ok (.if_icmp .eq 100, 3) := by decide +kernel
theorem dL_law_645 : decode cL_law 645 = .ok (.iconst 0, 1) := by decide +kernel
theorem dL_law_646 : decode cL_law 646 = .ok (.ireturn, 1) := by decide +kernel
theorem dL_law_647 : decode cL_law 647 = .ok (.aload_n 1, 1) := by decide +kernel
theorem dL_law_648 : decode cL_law 648 = .ok (.invokevirtual 85, 3) := by decide +kernel
theorem dL_law_651 : decode cL_law 651 = .ok (.aload_n 2, 1) := by decide +kernel
theorem dL_law_652 : decode cL_law 652 = .ok (.invokevirtual 88, 3) := by decide +kernel
theorem dL_law_655 : decode cL_law 655 = .ok (.if_icmp .eq 87, 3) := by decide +kernel
theorem dL_law_658 : decode cL_law 658 = .ok (.iconst 0, 1) := by decide +kernel
theorem dL_law_659 : decode cL_law 659 = .ok (.ireturn, 1) := by decide +kernel
theorem dL_law_660 : decode cL_law 660 = .ok (.aload_n 1, 1) := by decide +kernel
theorem dL_law_661 : decode cL_law 661 = .ok (.aload_n 0, 1) := by decide +kernel
theorem dL_law_662 : decode cL_law 662 = .ok (.iload_n 3, 1) := by decide +kernel
theorem dL_law_663 : decode cL_law 663 = .ok (.iconst 1, 1) := by decide +kernel
theorem dL_law_664 : decode cL_law 664 = .ok (.iadd, 1) := by decide +kernel
theorem dL_law_665 : decode cL_law 665 = .ok (.iaload, 1) := by decide +kernel
theorem dL_law_666 : decode cL_law 666 = .ok (.invokevirtual 89, 3) := by decide +kernel
theorem dL_law_669 : decode cL_law 669 = .ok (.aload_n 2, 1) := by decide +kernel
theorem dL_law_670 : decode cL_law 670 = .ok (.aload_n 0, 1) := by decide +kernel
theorem dL_law_671 : decode cL_law 671 = .ok (.iload_n 3, 1) := by decide +kernel
theorem dL_law_672 : decode cL_law 672 = .ok (.iconst 1, 1) := by decide +kernel
theorem dL_law_673 : decode cL_law 673 = .ok (.iadd, 1) := by decide +kernel
theorem dL_law_674 : decode cL_law 674 = .ok (.iaload, 1) := by decide +kernel
theorem dL_law_675 : decode cL_law 675 = .ok (.invokevirtual 92, 3) := by decide +kernel
theorem dL_law_678 : decode cL_law 678 = .ok (.if_icmp .eq 64, 3) := by decide +kernel
theorem dL_law_681 : decode cL_law 681 = .ok (.iconst 0, 1) := by decide +kernel
theorem dL_law_682 : decode cL_law 682 = .ok (.ireturn, 1) := by decide +kernel
theorem dL_law_683 : decode cL_law 683 = .ok (.aload_n 1, 1) := by decide +kernel
theorem dL_law_684 : decode cL_law 684 = .ok (.invokevirtual 93, 3) := by decide +kernel
theorem dL_law_687 : decode cL_law 687 = .ok (.aload_n 2, 1) := by decide +kernel
theorem dL_law_688 : decode cL_law 688 = .ok (.invokevirtual 96, 3) := by decide +kernel
theorem dL_law_691 : decode cL_law 691 = .ok (.if_icmp .eq 51, 3) := by decide +kernel
theorem dL_law_694 : decode cL_law 694 = .ok (.iconst 0, 1) := by decide +kernel
theorem dL_law_695 : decode cL_law 695 = .ok (.ireturn, 1) := by decide +kernel
theorem dL_law_696 : decode cL_law 696 = .ok (.aload_n 1, 1) := by decide +kernel
theorem dL_law_697 : decode cL_law 697 = .ok (.aload_n 0, 1) := by decide +kernel
theorem dL_law_698 : decode cL_law 698 = .ok (.iload_n 3, 1) := by decide +kernel
theorem dL_law_699 : decode cL_law 699 = .ok (.iconst 1, 1) := by decide +kernel
theorem dL_law_700 : decode cL_law 700 = .ok (.iadd, 1) := by decide +kernel
theorem dL_law_701 : decode cL_law 701 = .ok (.iaload, 1) := by decide +kernel
theorem dL_law_702 : decode cL_law 702 = .ok (.invokevirtual 97, 3) := by decide +kernel
theorem dL_law_705 : decode cL_law 705 = .ok (.aload_n 2, 1) := by decide +kernel
theorem dL_law_706 : decode cL_law 706 = .ok (.aload_n 0, 1) := by decide +kernel
theorem dL_law_707 : decode cL_law 707 = .ok (.iload_n 3, 1) := by decide +kernel
theorem dL_law_708 : decode cL_law 708 = .ok (.iconst 1, 1) := by decide +kernel
theorem dL_law_709 : decode cL_law 709 = .ok (.iadd, 1) := by decide +kernel
theorem dL_law_710 : decode cL_law 710 = .ok (.iaload, 1) := by decide +kernel
theorem dL_law_711 : decode cL_law 711 = .ok (.invokevirtual 100, 3) := by decide +kernel
theorem dL_law_714 : decode cL_law 714 = .ok (.if_icmp .eq 28, 3) := by decide +kernel
theorem dL_law_717 : decode cL_law 717 = .ok (.iconst 0, 1) := by decide +kernel
theorem dL_law_718 : decode cL_law 718 = .ok (.ireturn, 1) := by decide +kernel
theorem dL_law_719 : decode cL_law 719 = .ok (.aload_n 1, 1) := by decide +kernel
theorem dL_law_720 : decode cL_law 720 = .ok (.aload_n 0, 1) := by decide +kernel
theorem dL_law_721 : decode cL_law 721 = .ok (.iload_n 3, 1) := by decide +kernel
theorem dL_law_722 : decode cL_law 722 = .ok (.iconst 1, 1) := by decide +kernel
theorem dL_law_723 : decode cL_law 723 = .ok (.iadd, 1) := by decide +kernel
theorem dL_law_724 : decode cL_law 724 = .ok (.iaload, 1) := by decide +kernel
theorem dL_law_725 : decode cL_law 725 = .ok (.invokevirtual 101, 3) := by decide +kernel
theorem dL_law_728 : decode cL_law 728 = .ok (.aload_n 2, 1) := by decide +kernel
theorem dL_law_729 : decode cL_law 729 = .ok (.aload_n 0, 1) := by decide +kernel
theorem dL_law_730 : decode cL_law 730 = .ok (.iload_n 3, 1) := by decide +kernel
theorem dL_law_731 : decode cL_law 731 = .ok (.iconst 1, 1) := by decide +kernel
theorem dL_law_732 : decode cL_law 732 = .ok (.iadd, 1) := by decide +kernel
theorem dL_law_733 : decode cL_law 733 = .ok (.iaload, 1) := by decide +kernel
theorem dL_law_734 : decode cL_law 734 = .ok (.invokevirtual 104, 3) := by decide +kernel
theorem dL_law_737 : decode cL_law 737 = .ok (.if_icmp .eq 5, 3) := by decide +kernel
theorem dL_law_740 : decode cL_law 740 = .ok (.iconst 0, 1) := by decide +kernel
theorem dL_law_741 : decode cL_law 741 = .ok (.ireturn, 1) := by decide +kernel
theorem dL_law_742 : decode cL_law 742 = .ok (.iinc 3 4, 3) := by decide +kernel
theorem dL_law_745 : decode cL_law 745 = .ok (.goto (-727), 3) := by decide +kernel
theorem dL_law_748 : decode cL_law 748 = .ok (.iconst 1, 1) := by decide +kernel
theorem dL_law_749 : decode cL_law 749 = .ok (.ireturn, 1) := by decide +kernel
end
section
set_option maxRecDepth 20000 in
theorem q_wsL_law_r1 : ∀ w ∈ wsL_law_r1, w ∈ lw_tbl := fun w h => (goodIn_p wsL_law_r1 [67, 70] (by decide +kernel) (by decide +kernel) w h).1
set_option maxRecDepth 20000 in
theorem q_wsL_law_r2 : ∀ w ∈ wsL_law_r2, w ∈ lw_tbl := fun w h => (goodIn_p wsL_law_r2 [75, 81] (by decide +kernel) (by decide +kernel) w h).1
set_option maxRecDepth 20000 in
theorem q_wsL_law_r3 : ∀ w ∈ wsL_law_r3, w ∈ lw_tbl := fun w h => (goodIn_p wsL_law_r3 [101, 123, 173] (by decide +kernel) (by decide +kernel) w h).1
set_option maxRecDepth 20000 in
theorem q_wsL_law_r4 : ∀ w ∈ wsL_law_r4, w ∈ lw_tbl := fun w h => (goodIn_p wsL_law_r4 [178, 181, 184, 210, 227] (by decide +kernel) (by decide +kernel) w h).1
set_option maxRecDepth 20000 in
theorem q_wsL_law_r5 : ∀ w ∈ wsL_law_r5, w ∈ lw_tbl := fun w h => (goodIn_p wsL_law_r5 [681, 286, 291] (by decide +kernel) (by decide +kernel) w h).1
set_option maxRecDepth 20000 in
theorem q_wsL_law_r6 : ∀ w ∈ wsL_law_r6, w ∈ lw_tbl := fun w h => (goodIn_p wsL_law_r6 [295, 299, 303, 310, 315] (by decide +kernel) (by decide +kernel) w h).1
set_option maxRecDepth 20000 in
theorem q_wsL_law_r7 : ∀ w ∈ wsL_law_r7, w ∈ lw_tbl := fun w h => (goodIn_p wsL_law_r7 [320, 735, 738, 743] (by decide +kernel) (by decide +kernel) w h).1
set_option maxRecDepth 20000 in
theorem q_wsL_law_r8 : ∀ w ∈ wsL_law_r8, w ∈ lw_tbl := fun w h => (goodIn_p wsL_law_r8 [747, 326, 332, 336] (by decide +kernel) (by decide +kernel) w h).1
set_option maxRecDepth 20000 in
theorem q_wsL_law_r9 : ∀ w ∈ wsL_law_r9, w ∈ lw_tbl := fun w h => (goodIn_p wsL_law_r9 [340, 344, 751, 755, 759, 348] (by decide +kernel) (by decide +kernel) w h).1
set_option maxRecDepth 20000 in
theorem q_wsL_law_r10 : ∀ w ∈ wsL_law_r10, w ∈ lw_tbl := fun w h => (goodIn_p wsL_law_r10 [352, 356, 361, 365, 763, 767] (by decide +kernel) (by decide +kernel) w h).1
set_option maxRecDepth 20000 in
theorem q_wsL_law_r11 : ∀ w ∈ wsL_law_r11, w ∈ lw_tbl := fun w h => (goodIn_p wsL_law_r11 [771, 775, 779, 370, 784] (by decide +kernel) (by decide +kernel) w h).1
set_option maxRecDepth 20000 in
theorem q_wsL_law_r12 : ∀ w ∈ wsL_law_r12, w ∈ lw_tbl := fun w h => (goodIn_p wsL_law_r12 [374, 378, 382, 387, 788, 391] (by decide +kernel) (by decide +kernel) w h).1
set_option maxRecDepth 20000 in
theorem q_wsL_law_r13 : ∀ w ∈ wsL_law_r13, w ∈ lw_tbl := fun w h => (goodIn_p wsL_law_r13 [792, 395, 401, 410] (by decide +kernel) (by decide +kernel) w h).1
set_option maxRecDepth 20000 in
theorem q_wsL_law_r14 : ∀ w ∈ wsL_law_r14, w ∈ lw_tbl := fun w h => (goodIn_p wsL_law_r14 [405, 414, 796, 800, 804] (by decide +kernel) (by decide +kernel) w h).1
set_option maxRecDepth 20000 in
theorem q_wsL_law_r15 : ∀ w ∈ wsL_law_r15, w ∈ lw_tbl := fun w h => (goodIn_p wsL_law_r15 [808, 812, 418, 422, 427, 431] (by decide +kernel) (by decide +kernel) w h).1
set_option maxRecDepth 20000 in
theorem q_wsL_law_r16 : ∀ w ∈ wsL_law_r16, w ∈ lw_tbl := fun w h => (goodIn_p wsL_law_r16 [435, 439, 443, 446, 452, 456] (by decide +kernel) (by decide +kernel) w h).1
set_option maxRecDepth 20000 in
theorem q_wsL_law_r17 : ∀ w ∈ wsL_law_r17, w ∈ lw_tbl := fun w h => (goodIn_p wsL_law_r17 [460, 463, 466, 816, 820, 824] (by decide +kernel) (by decide +kernel) w h).1
set_option maxRecDepth 20000 in
theorem q_wsL_law_r18 : ∀ w ∈ wsL_law_r18, w ∈ lw_tbl := fun w h => (goodIn_p wsL_law_r18 [828, 831, 835, 839, 470] (by decide +kernel) (by decide +kernel) w h).1
set_option maxRecDepth 20000 in
theorem q_wsL_law_r19 : ∀ w ∈ wsL_law_r19, w ∈ lw_tbl := fun w h => (goodIn_p wsL_law_r19 [474, 478, 483, 843, 847, 851] (by decide +kernel) (by decide +kernel) w h).1
set_option maxRecDepth 20000 in
theorem q_wsL_law_r20 : ∀ w ∈ wsL_law_r20, w ∈ lw_tbl := fun w h => (goodIn_p wsL_law_r20 [487, 491, 855, 859, 498] (by decide +kernel) (by decide +kernel) w h).1
set_option maxRecDepth 20000 in
theorem q_wsL_law_r21 : ∀ w ∈ wsL_law_r21, w ∈ lw_tbl := fun w h => (goodIn_p wsL_law_r21 [863, 502, 508, 513, 520] (by decide +kernel) (by decide +kernel) w h).1
set_option maxRecDepth 20000 in
theorem q_wsL_law_r22 : ∀ w ∈ wsL_law_r22, w ∈ lw_tbl := fun w h => (goodIn_p wsL_law_r22 [867, 524, 528, 872, 876] (by decide +kernel) (by decide +kernel) w h).1
set_option maxRecDepth 20000 in
theorem q_wsL_law_r23 : ∀ w ∈ wsL_law_r23, w ∈ lw_tbl := fun w h => (goodIn_p wsL_law_r23 [880, 532, 536, 541] (by decide +kernel) (by decide +kernel) w h).1
set_option maxRecDepth 20000 in
theorem q_wsL_law_r24 : ∀ w ∈ wsL_law_r24, w ∈ lw_tbl := fun w h => (goodIn_p wsL_law_r24 [884, 888, 892, 546, 550, 554] (by decide +kernel) (by decide +kernel) w h).1
set_option maxRecDepth 20000 in
theorem q_wsL_law_r25 : ∀ w ∈ wsL_law_r25, w ∈ lw_tbl := fun w h => (goodIn_p wsL_law_r25 [560, 564, 568, 572, 576] (by decide +kernel) (by decide +kernel) w h).1
set_option maxRecDepth 20000 in
theorem q_wsL_law_r26 : ∀ w ∈ wsL_law_r26, w ∈ lw_tbl := fun w h => (goodIn_p wsL_law_r26 [580, 896, 900, 584, 588, 904] (by decide +kernel) (by decide +kernel) w h).1
set_option maxRecDepth 20000 in
theorem q_wsL_law_r27 : ∀ w ∈ wsL_law_r27, w ∈ lw_tbl := fun w h => (goodIn_p wsL_law_r27 [908, 593, 912, 597, 601, 916] (by decide +kernel) (by decide +kernel) w h).1
set_option maxRecDepth 20000 in
theorem q_wsL_law_r28 : ∀ w ∈ wsL_law_r28, w ∈ lw_tbl := fun w h => (goodIn_p wsL_law_r28 [605, 610, 920, 614, 925] (by decide +kernel) (by decide +kernel) w h).1
set_option maxRecDepth 20000 in
theorem q_wsL_law_r29 : ∀ w ∈ wsL_law_r29, w ∈ lw_tbl := fun w h => (goodIn_p wsL_law_r29 [618, 622, 626, 631] (by decide +kernel) (by decide +kernel) w h).1
set_option maxRecDepth 20000 in
theorem q_wsL_law_r30 : ∀ w ∈ wsL_law_r30, w ∈ lw_tbl := fun w h => (goodIn_p wsL_law_r30 [635, 639, 643, 647, 652] (by decide +kernel) (by decide +kernel) w h).1
set_option maxRecDepth 20000 in
theorem q_wsL_law_r31 : ∀ w ∈ wsL_law_r31, w ∈ lw_tbl := fun w h => (goodIn_p wsL_law_r31 [656, 660, 664, 929, 933] (by decide +kernel) (by decide +kernel) w h).1
set_option maxRecDepth 20000 in
theorem q_wsL_law_r32 : ∀ w ∈ wsL_law_r32, w ∈ lw_tbl := fun w h => (goodIn_p wsL_law_r32 [937, 941, 945, 949, 668] (by decide +kernel) (by decide +kernel) w h).1
set_option maxRecDepth 20000 in
theorem q_wsL_law_r33 : ∀ w ∈ wsL_law_r33, w ∈ lw_tbl := fun w h => (goodIn_p wsL_law_r33 [672, 676, 953] (by decide +kernel) (by decide +kernel) w h).1
theorem q_wsX60 : ∀ w ∈ wsX60, w ∈ lw_tbl := by decide +kernel
theorem q_wsX70 : ∀ w ∈ wsX70, w ∈ lw_tbl := by decide +kernel
theorem q_wsX30 : ∀ w ∈ wsX30, w ∈ lw_tbl := by decide +kernel
theorem q_wsX00 : ∀ w ∈ wsX00, w ∈ lw_tbl := by decide +kernel
theorem q_wsX40 : ∀ w ∈ wsX40, w ∈ lw_tbl := by decide +kernel
theorem q_wsX20 : ∀ w ∈ wsX20, w ∈ lw_tbl := by decide +kernel
theorem q_wsX10 : ∀ w ∈ wsX10, w ∈ lw_tbl := by decide +kernel
theorem q_wsX50 : ∀ w ∈ wsX50, w ∈ lw_tbl := by decide +kernel
theorem wsL_law_in : ∀ w ∈ wsL_law, w ∈ lw_tbl := (List.forall_mem_append.mpr ⟨(List.forall_mem_append.mpr ⟨(List.forall_mem_append.mpr ⟨(List.forall_mem_append.mpr ⟨(List.forall_mem_append.mpr ⟨(List.forall_mem_append.mpr ⟨(List.forall_mem_append.mpr ⟨(List.forall_mem_append.mpr ⟨(List.forall_mem_append.mpr ⟨(List.forall_mem_append.mpr ⟨q_wsL_law_r1, (List.forall_mem_append.mpr ⟨q_wsL_law_r2, (List.forall_mem_append.mpr ⟨q_wsL_law_r3, (List.forall_mem_append.mpr ⟨q_wsL_law_r4, (List.forall_mem_append.mpr ⟨q_wsL_law_r5, (List.forall_mem_append.mpr ⟨q_wsL_law_r6, (List.forall_mem_append.mpr ⟨q_wsL_law_r7, (List.forall_mem_append.mpr ⟨q_wsL_law_r8, (List.forall_mem_append.mpr ⟨q_wsL_law_r9, (List.forall_mem_append.mpr ⟨q_wsL_law_r10, (List.forall_mem_append.mpr ⟨q_wsL_law_r11, (List.forall_mem_append.mpr ⟨q_wsL_law_r12, (List.forall_mem_append.mpr ⟨q_wsL_law_r13, (List.forall_mem_append.mpr ⟨q_wsL_law_r14, (List.forall_mem_append.mpr ⟨q_wsL_law_r15, (List.forall_mem_append.mpr ⟨q_wsL_law_r16, (List.forall_mem_append.mpr ⟨q_wsL_law_r17, (List.forall_mem_append.mpr ⟨q_wsL_law_r18, (List.forall_mem_append.mpr ⟨q_wsL_law_r19, (List.forall_mem_append.mpr ⟨q_wsL_law_r20, (List.forall_mem_append.mpr ⟨q_wsL_law_r21, (List.forall_mem_append.mpr ⟨q_wsL_law_r22, (List.forall_mem_append.mpr ⟨q_wsL_law_r23, (List.forall_mem_append.mpr ⟨q_wsL_law_r24, (List.forall_mem_append.mpr ⟨q_wsL_law_r25, (List.forall_mem_append.mpr ⟨q_wsL_law_r26, (List.forall_mem_append.mpr ⟨q_wsL_law_r27, (List.forall_mem_append.mpr ⟨q_wsL_law_r28, (List.forall_mem_append.mpr ⟨q_wsL_law_r29, (List.forall_mem_append.mpr ⟨q_wsL_law_r30, (List.forall_mem_append.mpr ⟨q_wsL_law_r31, (List.forall_mem_append.mpr ⟨q_wsL_law_r32, q_wsL_law_r33⟩)⟩)⟩)⟩)⟩)⟩)⟩)⟩)⟩)⟩)⟩)⟩)⟩)⟩)⟩)⟩)⟩)⟩)⟩)⟩)⟩)⟩)⟩)⟩)⟩)⟩)⟩)⟩)⟩)⟩)⟩)⟩), q_wsX60⟩), q_wsX70⟩), q_wsX30⟩), q_wsX00⟩), q_wsX40⟩), q_wsX20⟩), q_wsX10⟩), q_wsX50⟩), fun _ h => absurd h List.not_mem_nil⟩)
theorem inlX0 : ∀ w ∈ wsX00, w ∈ wsL_law := fun _ h => List.mem_append_left _ (List.mem_append_left _ (List.mem_append_left _ (List.mem_append_left _ (List.mem_append_left _ (List.mem_append_right _ h)))))
theorem inX0 : ∀ w ∈ wsX00, w ∈ lw_tbl := fun w h => wsL_law_in w (inlX0 w h)
theorem inlX1 : ∀ w ∈ wsX10, w ∈ wsL_law := fun _ h => List.mem_append_left _ (List.mem_append_left _ (List.mem_append_right _ h))
theorem inX1 : ∀ w ∈ wsX10, w ∈ lw_tbl := fun w h => wsL_law_in w (inlX1 w h)
theorem inlX2 : ∀ w ∈ wsX20, w ∈ wsL_law := fun _ h => List.mem_append_left _ (List.mem_append_left _ (List.mem_append_left _ (List.mem_append_right _ h)))
theorem inX2 : ∀ w ∈ wsX20, w ∈ lw_tbl := fun w h => wsL_law_in w (inlX2 w h)
theorem inlX3 : ∀ w ∈ wsX30, w ∈ wsL_law := fun _ h => List.mem_append_left _ (List.mem_append_left _ (List.mem_append_left _ (List.mem_append_left _ (List.mem_append_left _ (List.mem_append_left _ (List.mem_append_right _ h))))))
theorem inX3 : ∀ w ∈ wsX30, w ∈ lw_tbl := fun w h => wsL_law_in w (inlX3 w h)
theorem inlX4 : ∀ w ∈ wsX40, w ∈ wsL_law := fun _ h => List.mem_append_left _ (List.mem_append_left _ (List.mem_append_left _ (List.mem_append_left _ (List.mem_append_right _ h))))
theorem inX4 : ∀ w ∈ wsX40, w ∈ lw_tbl := fun w h => wsL_law_in w (inlX4 w h)
theorem inlX5 : ∀ w ∈ wsX50, w ∈ wsL_law := fun _ h => List.mem_append_left _ (List.mem_append_right _ h)
theorem inX5 : ∀ w ∈ wsX50, w ∈ lw_tbl := fun w h => wsL_law_in w (inlX5 w h)
theorem inlX6 : ∀ w ∈ wsX60, w ∈ wsL_law := fun _ h => List.mem_append_left _ (List.mem_append_left _ (List.mem_append_left _ (List.mem_append_left _ (List.mem_append_left _ (List.mem_append_left _ (List.mem_append_left _ (List.mem_append_left _ (List.mem_append_right _ h))))))))
theorem inX6 : ∀ w ∈ wsX60, w ∈ lw_tbl := fun w h => wsL_law_in w (inlX6 w h)
theorem inlX7 : ∀ w ∈ wsX70, w ∈ wsL_law := fun _ h => List.mem_append_left _ (List.mem_append_left _ (List.mem_append_left _ (List.mem_append_left _ (List.mem_append_left _ (List.mem_append_left _ (List.mem_append_left _ (List.mem_append_right _ h)))))))
theorem inX7 : ∀ w ∈ wsX70, w ∈ lw_tbl := fun w h => wsL_law_in w (inlX7 w h)
theorem inJ9 : ∀ w ∈ wsJ90, w ∈ lw_tbl := by decide +kernel
theorem inJ10 : ∀ w ∈ wsJ100, w ∈ lw_tbl := by decide +kernel
theorem inJ7 : ∀ w ∈ wsJ70, w ∈ lw_tbl := by decide +kernel
end
