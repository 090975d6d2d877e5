section
/-- a private method of a class that the tables say can be made, by its rows of tables_1 -/
def lw_okq (q : MethodName × Nat) : Prop := (q.1.cls ≠ "java/lang/invoke/MethodHandle" ∧ q.1.cls ≠ "java/lang/invoke/VarHandle") ∧ Cond.instantiable q.1.cls q.2 ∈ tables_1 ∧ Cond.privateMethod q.1 ∈ tables_1 ∧ Cond.instanceMethod q.1 ∈ tables_1
theorem lw_p0 : lw_okq (⟨"LentGrannies", "found", "(I)I"⟩, 13) := ⟨⟨by decide +kernel, by decide +kernel⟩, List.mem_of_getElem? (i := 13) (by decide +kernel), List.mem_of_getElem? (i := 281) (by decide +kernel), List.mem_of_getElem? (i := 282) (by decide +kernel)⟩
theorem lw_p1 : lw_okq (⟨"LentGrannies$Shelf", "isSpan", "(III)Z"⟩, 3) := ⟨⟨by decide +kernel, by decide +kernel⟩, List.mem_of_getElem? (i := 21) (by decide +kernel), List.mem_of_getElem? (i := 302) (by decide +kernel), List.mem_of_getElem? (i := 303) (by decide +kernel)⟩
theorem lw_p2 : lw_okq (⟨"LentGrannies$Reader", "readLaw", "()V"⟩, 6) := ⟨⟨by decide +kernel, by decide +kernel⟩, List.mem_of_getElem? (i := 40) (by decide +kernel), List.mem_of_getElem? (i := 351) (by decide +kernel), List.mem_of_getElem? (i := 352) (by decide +kernel)⟩
theorem lw_p3 : lw_okq (⟨"LentGrannies$Reader", "takeSign", "(I)V"⟩, 6) := ⟨⟨by decide +kernel, by decide +kernel⟩, List.mem_of_getElem? (i := 40) (by decide +kernel), List.mem_of_getElem? (i := 355) (by decide +kernel), List.mem_of_getElem? (i := 356) (by decide +kernel)⟩
theorem lw_p4 : lw_okq (⟨"LentGrannies$Reader", "nextByte", "()I"⟩, 6) := ⟨⟨by decide +kernel, by decide +kernel⟩, List.mem_of_getElem? (i := 40) (by decide +kernel), List.mem_of_getElem? (i := 359) (by decide +kernel), List.mem_of_getElem? (i := 360) (by decide +kernel)⟩
theorem lw_p5 : lw_okq (⟨"LentGrannies$Reader", "fail", "(I)V"⟩, 6) := ⟨⟨by decide +kernel, by decide +kernel⟩, List.mem_of_getElem? (i := 40) (by decide +kernel), List.mem_of_getElem? (i := 363) (by decide +kernel), List.mem_of_getElem? (i := 364) (by decide +kernel)⟩
theorem lw_p6 : lw_okq (⟨"LentGrannies$Reader", "takeNumber", "(II)I"⟩, 6) := ⟨⟨by decide +kernel, by decide +kernel⟩, List.mem_of_getElem? (i := 40) (by decide +kernel), List.mem_of_getElem? (i := 367) (by decide +kernel), List.mem_of_getElem? (i := 368) (by decide +kernel)⟩
theorem lw_p7 : lw_okq (⟨"LentGrannies$Reader", "readChildren", "()V"⟩, 6) := ⟨⟨by decide +kernel, by decide +kernel⟩, List.mem_of_getElem? (i := 40) (by decide +kernel), List.mem_of_getElem? (i := 372) (by decide +kernel), List.mem_of_getElem? (i := 373) (by decide +kernel)⟩
theorem lw_p8 : lw_okq (⟨"LentGrannies$Reader", "readGrans", "()V"⟩, 6) := ⟨⟨by decide +kernel, by decide +kernel⟩, List.mem_of_getElem? (i := 40) (by decide +kernel), List.mem_of_getElem? (i := 376) (by decide +kernel), List.mem_of_getElem? (i := 377) (by decide +kernel)⟩
theorem lw_p9 : lw_okq (⟨"LentGrannies$Reader", "takeSort", "()I"⟩, 6) := ⟨⟨by decide +kernel, by decide +kernel⟩, List.mem_of_getElem? (i := 40) (by decide +kernel), List.mem_of_getElem? (i := 380) (by decide +kernel), List.mem_of_getElem? (i := 381) (by decide +kernel)⟩
theorem lw_p10 : lw_okq (⟨"LentGrannies", "noTown", "()Z"⟩, 13) := ⟨⟨by decide +kernel, by decide +kernel⟩, List.mem_of_getElem? (i := 13) (by decide +kernel), List.mem_of_getElem? (i := 418) (by decide +kernel), List.mem_of_getElem? (i := 419) (by decide +kernel)⟩
theorem lw_p11 : lw_okq (⟨"LentGrannies$Town", "seat", "(I)V"⟩, 16) := ⟨⟨by decide +kernel, by decide +kernel⟩, List.mem_of_getElem? (i := 46) (by decide +kernel), List.mem_of_getElem? (i := 431) (by decide +kernel), List.mem_of_getElem? (i := 432) (by decide +kernel)⟩
theorem lw_p12 : lw_okq (⟨"LentGrannies$Town", "brings", "(I)Z"⟩, 16) := ⟨⟨by decide +kernel, by decide +kernel⟩, List.mem_of_getElem? (i := 46) (by decide +kernel), List.mem_of_getElem? (i := 440) (by decide +kernel), List.mem_of_getElem? (i := 441) (by decide +kernel)⟩
theorem lw_p13 : lw_okq (⟨"LentGrannies$Town", "visit", "(II)V"⟩, 16) := ⟨⟨by decide +kernel, by decide +kernel⟩, List.mem_of_getElem? (i := 46) (by decide +kernel), List.mem_of_getElem? (i := 444) (by decide +kernel), List.mem_of_getElem? (i := 445) (by decide +kernel)⟩
theorem lw_p14 : lw_okq (⟨"LentGrannies$Town", "addFed", "(II)V"⟩, 16) := ⟨⟨by decide +kernel, by decide +kernel⟩, List.mem_of_getElem? (i := 46) (by decide +kernel), List.mem_of_getElem? (i := 448) (by decide +kernel), List.mem_of_getElem? (i := 449) (by decide +kernel)⟩
theorem lw_p15 : lw_okq (⟨"LentGrannies", "openTrial", "()V"⟩, 13) := ⟨⟨by decide +kernel, by decide +kernel⟩, List.mem_of_getElem? (i := 13) (by decide +kernel), List.mem_of_getElem? (i := 512) (by decide +kernel), List.mem_of_getElem? (i := 513) (by decide +kernel)⟩
def lw_privs_1 : List (MethodName × Nat) := [(⟨"LentGrannies", "found", "(I)I"⟩, 13), (⟨"LentGrannies$Shelf", "isSpan", "(III)Z"⟩, 3), (⟨"LentGrannies$Reader", "readLaw", "()V"⟩, 6), (⟨"LentGrannies$Reader", "takeSign", "(I)V"⟩, 6), (⟨"LentGrannies$Reader", "nextByte", "()I"⟩, 6), (⟨"LentGrannies$Reader", "fail", "(I)V"⟩, 6), (⟨"LentGrannies$Reader", "takeNumber", "(II)I"⟩, 6), (⟨"LentGrannies$Reader", "readChildren", "()V"⟩, 6), (⟨"LentGrannies$Reader", "readGrans", "()V"⟩, 6), (⟨"LentGrannies$Reader", "takeSort", "()I"⟩, 6), (⟨"LentGrannies", "noTown", "()Z"⟩, 13), (⟨"LentGrannies$Town", "seat", "(I)V"⟩, 16), (⟨"LentGrannies$Town", "brings", "(I)Z"⟩, 16), (⟨"LentGrannies$Town", "visit", "(II)V"⟩, 16), (⟨"LentGrannies$Town", "addFed", "(II)V"⟩, 16), (⟨"LentGrannies", "openTrial", "()V"⟩, 13)]
theorem lw_r1 : ∀ q ∈ lw_privs_1, lw_okq q := List.forall_mem_cons.mpr ⟨lw_p0, List.forall_mem_cons.mpr ⟨lw_p1, List.forall_mem_cons.mpr ⟨lw_p2, List.forall_mem_cons.mpr ⟨lw_p3, List.forall_mem_cons.mpr ⟨lw_p4, List.forall_mem_cons.mpr ⟨lw_p5, List.forall_mem_cons.mpr ⟨lw_p6, List.forall_mem_cons.mpr ⟨lw_p7, List.forall_mem_cons.mpr ⟨lw_p8, List.forall_mem_cons.mpr ⟨lw_p9, List.forall_mem_cons.mpr ⟨lw_p10, List.forall_mem_cons.mpr ⟨lw_p11, List.forall_mem_cons.mpr ⟨lw_p12, List.forall_mem_cons.mpr ⟨lw_p13, List.forall_mem_cons.mpr ⟨lw_p14, List.forall_mem_cons.mpr ⟨lw_p15, fun _ h => absurd h List.not_mem_nil⟩⟩⟩⟩⟩⟩⟩⟩⟩⟩⟩⟩⟩⟩⟩⟩
theorem lw_p16 : lw_okq (⟨"LentGrannies$Rota", "longestIll", "()I"⟩, 6) := ⟨⟨by decide +kernel, by decide +kernel⟩, List.mem_of_getElem? (i := 204) (by decide +kernel), List.mem_of_getElem? (i := 562) (by decide +kernel), List.mem_of_getElem? (i := 563) (by decide +kernel)⟩
theorem lw_p17 : lw_okq (⟨"LentGrannies$Rota", "noteReach", "()V"⟩, 6) := ⟨⟨by decide +kernel, by decide +kernel⟩, List.mem_of_getElem? (i := 204) (by decide +kernel), List.mem_of_getElem? (i := 568) (by decide +kernel), List.mem_of_getElem? (i := 569) (by decide +kernel)⟩
theorem lw_p18 : lw_okq (⟨"LentGrannies$Rota", "visited", "(I)I"⟩, 6) := ⟨⟨by decide +kernel, by decide +kernel⟩, List.mem_of_getElem? (i := 204) (by decide +kernel), List.mem_of_getElem? (i := 572) (by decide +kernel), List.mem_of_getElem? (i := 573) (by decide +kernel)⟩
theorem lw_p19 : lw_okq (⟨"LentGrannies$Rota", "place", "(III)Z"⟩, 6) := ⟨⟨by decide +kernel, by decide +kernel⟩, List.mem_of_getElem? (i := 204) (by decide +kernel), List.mem_of_getElem? (i := 578) (by decide +kernel), List.mem_of_getElem? (i := 579) (by decide +kernel)⟩
theorem lw_p20 : lw_okq (⟨"LentGrannies", "isGoodSwap", "(III)Z"⟩, 13) := ⟨⟨by decide +kernel, by decide +kernel⟩, List.mem_of_getElem? (i := 13) (by decide +kernel), List.mem_of_getElem? (i := 602) (by decide +kernel), List.mem_of_getElem? (i := 603) (by decide +kernel)⟩
theorem lw_p21 : lw_okq (⟨"LentGrannies", "refusalOfTold", "(IIIII)I"⟩, 13) := ⟨⟨by decide +kernel, by decide +kernel⟩, List.mem_of_getElem? (i := 13) (by decide +kernel), List.mem_of_getElem? (i := 614) (by decide +kernel), List.mem_of_getElem? (i := 615) (by decide +kernel)⟩
theorem lw_p22 : lw_okq (⟨"LentGrannies", "isFedAsTold", "(IIII)Z"⟩, 13) := ⟨⟨by decide +kernel, by decide +kernel⟩, List.mem_of_getElem? (i := 13) (by decide +kernel), List.mem_of_getElem? (i := 618) (by decide +kernel), List.mem_of_getElem? (i := 619) (by decide +kernel)⟩
theorem lw_p23 : lw_okq (⟨"LentGrannies$Asker", "begin", "(I)V"⟩, 6) := ⟨⟨by decide +kernel, by decide +kernel⟩, List.mem_of_getElem? (i := 176) (by decide +kernel), List.mem_of_getElem? (i := 707) (by decide +kernel), List.mem_of_getElem? (i := 708) (by decide +kernel)⟩
theorem lw_p24 : lw_okq (⟨"LentGrannies$Asker", "sizeOfSoup", "()I"⟩, 6) := ⟨⟨by decide +kernel, by decide +kernel⟩, List.mem_of_getElem? (i := 176) (by decide +kernel), List.mem_of_getElem? (i := 711) (by decide +kernel), List.mem_of_getElem? (i := 712) (by decide +kernel)⟩
theorem lw_p25 : lw_okq (⟨"LentGrannies$Asker", "sizeLent", "()I"⟩, 6) := ⟨⟨by decide +kernel, by decide +kernel⟩, List.mem_of_getElem? (i := 176) (by decide +kernel), List.mem_of_getElem? (i := 715) (by decide +kernel), List.mem_of_getElem? (i := 716) (by decide +kernel)⟩
theorem lw_p26 : lw_okq (⟨"LentGrannies$Asker", "markOfSoup", "()I"⟩, 6) := ⟨⟨by decide +kernel, by decide +kernel⟩, List.mem_of_getElem? (i := 176) (by decide +kernel), List.mem_of_getElem? (i := 719) (by decide +kernel), List.mem_of_getElem? (i := 720) (by decide +kernel)⟩
theorem lw_p27 : lw_okq (⟨"LentGrannies$Asker", "markOfAnySoup", "()I"⟩, 6) := ⟨⟨by decide +kernel, by decide +kernel⟩, List.mem_of_getElem? (i := 176) (by decide +kernel), List.mem_of_getElem? (i := 723) (by decide +kernel), List.mem_of_getElem? (i := 724) (by decide +kernel)⟩
theorem lw_p28 : lw_okq (⟨"LentGrannies$Asker", "markLent", "()I"⟩, 6) := ⟨⟨by decide +kernel, by decide +kernel⟩, List.mem_of_getElem? (i := 176) (by decide +kernel), List.mem_of_getElem? (i := 727) (by decide +kernel), List.mem_of_getElem? (i := 728) (by decide +kernel)⟩
theorem lw_p29 : lw_okq (⟨"LentGrannies$Asker", "sizeOfStern", "()I"⟩, 6) := ⟨⟨by decide +kernel, by decide +kernel⟩, List.mem_of_getElem? (i := 176) (by decide +kernel), List.mem_of_getElem? (i := 732) (by decide +kernel), List.mem_of_getElem? (i := 733) (by decide +kernel)⟩
theorem lw_p30 : lw_okq (⟨"LentGrannies$Asker", "sizeOfAnyStern", "()I"⟩, 6) := ⟨⟨by decide +kernel, by decide +kernel⟩, List.mem_of_getElem? (i := 176) (by decide +kernel), List.mem_of_getElem? (i := 736) (by decide +kernel), List.mem_of_getElem? (i := 737) (by decide +kernel)⟩
theorem lw_p31 : lw_okq (⟨"LentGrannies$Asker", "markOfStern", "()I"⟩, 6) := ⟨⟨by decide +kernel, by decide +kernel⟩, List.mem_of_getElem? (i := 176) (by decide +kernel), List.mem_of_getElem? (i := 744) (by decide +kernel), List.mem_of_getElem? (i := 745) (by decide +kernel)⟩
def lw_privs_2 : List (MethodName × Nat) := [(⟨"LentGrannies$Rota", "longestIll", "()I"⟩, 6), (⟨"LentGrannies$Rota", "noteReach", "()V"⟩, 6), (⟨"LentGrannies$Rota", "visited", "(I)I"⟩, 6), (⟨"LentGrannies$Rota", "place", "(III)Z"⟩, 6), (⟨"LentGrannies", "isGoodSwap", "(III)Z"⟩, 13), (⟨"LentGrannies", "refusalOfTold", "(IIIII)I"⟩, 13), (⟨"LentGrannies", "isFedAsTold", "(IIII)Z"⟩, 13), (⟨"LentGrannies$Asker", "begin", "(I)V"⟩, 6), (⟨"LentGrannies$Asker", "sizeOfSoup", "()I"⟩, 6), (⟨"LentGrannies$Asker", "sizeLent", "()I"⟩, 6), (⟨"LentGrannies$Asker", "markOfSoup", "()I"⟩, 6), (⟨"LentGrannies$Asker", "markOfAnySoup", "()I"⟩, 6), (⟨"LentGrannies$Asker", "markLent", "()I"⟩, 6), (⟨"LentGrannies$Asker", "sizeOfStern", "()I"⟩, 6), (⟨"LentGrannies$Asker", "sizeOfAnyStern", "()I"⟩, 6), (⟨"LentGrannies$Asker", "markOfStern", "()I"⟩, 6)]
theorem lw_r2 : ∀ q ∈ lw_privs_2, lw_okq q := List.forall_mem_cons.mpr ⟨lw_p16, List.forall_mem_cons.mpr ⟨lw_p17, List.forall_mem_cons.mpr ⟨lw_p18, List.forall_mem_cons.mpr ⟨lw_p19, List.forall_mem_cons.mpr ⟨lw_p20, List.forall_mem_cons.mpr ⟨lw_p21, List.forall_mem_cons.mpr ⟨lw_p22, List.forall_mem_cons.mpr ⟨lw_p23, List.forall_mem_cons.mpr ⟨lw_p24, List.forall_mem_cons.mpr ⟨lw_p25, List.forall_mem_cons.mpr ⟨lw_p26, List.forall_mem_cons.mpr ⟨lw_p27, List.forall_mem_cons.mpr ⟨lw_p28, List.forall_mem_cons.mpr ⟨lw_p29, List.forall_mem_cons.mpr ⟨lw_p30, List.forall_mem_cons.mpr ⟨lw_p31, fun _ h => absurd h List.not_mem_nil⟩⟩⟩⟩⟩⟩⟩⟩⟩⟩⟩⟩⟩⟩⟩⟩
theorem lw_p32 : lw_okq (⟨"LentGranniesModel", "find", "(I)I"⟩, 19) := ⟨⟨by decide +kernel, by decide +kernel⟩, List.mem_of_getElem? (i := 764) (by decide +kernel), List.mem_of_getElem? (i := 841) (by decide +kernel), List.mem_of_getElem? (i := 842) (by decide +kernel)⟩
theorem lw_p33 : lw_okq (⟨"LentGranniesModel", "well", "(I)I"⟩, 19) := ⟨⟨by decide +kernel, by decide +kernel⟩, List.mem_of_getElem? (i := 764) (by decide +kernel), List.mem_of_getElem? (i := 846) (by decide +kernel), List.mem_of_getElem? (i := 847) (by decide +kernel)⟩
theorem lw_p34 : lw_okq (⟨"LentGranniesModel", "isSpan", "(III)Z"⟩, 19) := ⟨⟨by decide +kernel, by decide +kernel⟩, List.mem_of_getElem? (i := 764) (by decide +kernel), List.mem_of_getElem? (i := 861) (by decide +kernel), List.mem_of_getElem? (i := 862) (by decide +kernel)⟩
theorem lw_p35 : lw_okq (⟨"LentGranniesModel", "reads", "()Z"⟩, 19) := ⟨⟨by decide +kernel, by decide +kernel⟩, List.mem_of_getElem? (i := 764) (by decide +kernel), List.mem_of_getElem? (i := 879) (by decide +kernel), List.mem_of_getElem? (i := 880) (by decide +kernel)⟩
theorem lw_p36 : lw_okq (⟨"LentGranniesModel", "readsLaw", "()Z"⟩, 19) := ⟨⟨by decide +kernel, by decide +kernel⟩, List.mem_of_getElem? (i := 764) (by decide +kernel), List.mem_of_getElem? (i := 883) (by decide +kernel), List.mem_of_getElem? (i := 884) (by decide +kernel)⟩
theorem lw_p37 : lw_okq (⟨"LentGranniesModel", "sign", "(I)Z"⟩, 19) := ⟨⟨by decide +kernel, by decide +kernel⟩, List.mem_of_getElem? (i := 764) (by decide +kernel), List.mem_of_getElem? (i := 887) (by decide +kernel), List.mem_of_getElem? (i := 888) (by decide +kernel)⟩
theorem lw_p38 : lw_okq (⟨"LentGranniesModel", "isLetter", "(I)Z"⟩, 19) := ⟨⟨by decide +kernel, by decide +kernel⟩, List.mem_of_getElem? (i := 764) (by decide +kernel), List.mem_of_getElem? (i := 891) (by decide +kernel), List.mem_of_getElem? (i := 892) (by decide +kernel)⟩
theorem lw_p39 : lw_okq (⟨"LentGranniesModel", "refuse", "(I)Z"⟩, 19) := ⟨⟨by decide +kernel, by decide +kernel⟩, List.mem_of_getElem? (i := 764) (by decide +kernel), List.mem_of_getElem? (i := 895) (by decide +kernel), List.mem_of_getElem? (i := 896) (by decide +kernel)⟩
theorem lw_p40 : lw_okq (⟨"LentGranniesModel", "readsNumber", "(II)Z"⟩, 19) := ⟨⟨by decide +kernel, by decide +kernel⟩, List.mem_of_getElem? (i := 764) (by decide +kernel), List.mem_of_getElem? (i := 899) (by decide +kernel), List.mem_of_getElem? (i := 900) (by decide +kernel)⟩
theorem lw_p41 : lw_okq (⟨"LentGranniesModel", "isFigure", "(I)Z"⟩, 19) := ⟨⟨by decide +kernel, by decide +kernel⟩, List.mem_of_getElem? (i := 764) (by decide +kernel), List.mem_of_getElem? (i := 903) (by decide +kernel), List.mem_of_getElem? (i := 904) (by decide +kernel)⟩
theorem lw_p42 : lw_okq (⟨"LentGranniesModel", "readsChild", "()Z"⟩, 19) := ⟨⟨by decide +kernel, by decide +kernel⟩, List.mem_of_getElem? (i := 764) (by decide +kernel), List.mem_of_getElem? (i := 909) (by decide +kernel), List.mem_of_getElem? (i := 910) (by decide +kernel)⟩
theorem lw_p43 : lw_okq (⟨"LentGranniesModel", "isSort", "()Z"⟩, 19) := ⟨⟨by decide +kernel, by decide +kernel⟩, List.mem_of_getElem? (i := 764) (by decide +kernel), List.mem_of_getElem? (i := 913) (by decide +kernel), List.mem_of_getElem? (i := 914) (by decide +kernel)⟩
theorem lw_p44 : lw_okq (⟨"LentGranniesModel", "readsGran", "()Z"⟩, 19) := ⟨⟨by decide +kernel, by decide +kernel⟩, List.mem_of_getElem? (i := 764) (by decide +kernel), List.mem_of_getElem? (i := 920) (by decide +kernel), List.mem_of_getElem? (i := 921) (by decide +kernel)⟩
theorem lw_p45 : lw_okq (⟨"LentGranniesModel", "copyTown", "(II)V"⟩, 19) := ⟨⟨by decide +kernel, by decide +kernel⟩, List.mem_of_getElem? (i := 764) (by decide +kernel), List.mem_of_getElem? (i := 925) (by decide +kernel), List.mem_of_getElem? (i := 926) (by decide +kernel)⟩
theorem lw_p46 : lw_okq (⟨"LentGranniesModel", "keepPast", "()V"⟩, 19) := ⟨⟨by decide +kernel, by decide +kernel⟩, List.mem_of_getElem? (i := 764) (by decide +kernel), List.mem_of_getElem? (i := 943) (by decide +kernel), List.mem_of_getElem? (i := 944) (by decide +kernel)⟩
theorem lw_p47 : lw_okq (⟨"LentGranniesModel", "pass", "(I)V"⟩, 19) := ⟨⟨by decide +kernel, by decide +kernel⟩, List.mem_of_getElem? (i := 764) (by decide +kernel), List.mem_of_getElem? (i := 947) (by decide +kernel), List.mem_of_getElem? (i := 948) (by decide +kernel)⟩
def lw_privs_3 : List (MethodName × Nat) := [(⟨"LentGranniesModel", "find", "(I)I"⟩, 19), (⟨"LentGranniesModel", "well", "(I)I"⟩, 19), (⟨"LentGranniesModel", "isSpan", "(III)Z"⟩, 19), (⟨"LentGranniesModel", "reads", "()Z"⟩, 19), (⟨"LentGranniesModel", "readsLaw", "()Z"⟩, 19), (⟨"LentGranniesModel", "sign", "(I)Z"⟩, 19), (⟨"LentGranniesModel", "isLetter", "(I)Z"⟩, 19), (⟨"LentGranniesModel", "refuse", "(I)Z"⟩, 19), (⟨"LentGranniesModel", "readsNumber", "(II)Z"⟩, 19), (⟨"LentGranniesModel", "isFigure", "(I)Z"⟩, 19), (⟨"LentGranniesModel", "readsChild", "()Z"⟩, 19), (⟨"LentGranniesModel", "isSort", "()Z"⟩, 19), (⟨"LentGranniesModel", "readsGran", "()Z"⟩, 19), (⟨"LentGranniesModel", "copyTown", "(II)V"⟩, 19), (⟨"LentGranniesModel", "keepPast", "()V"⟩, 19), (⟨"LentGranniesModel", "pass", "(I)V"⟩, 19)]
theorem lw_r3 : ∀ q ∈ lw_privs_3, lw_okq q := List.forall_mem_cons.mpr ⟨lw_p32, List.forall_mem_cons.mpr ⟨lw_p33, List.forall_mem_cons.mpr ⟨lw_p34, List.forall_mem_cons.mpr ⟨lw_p35, List.forall_mem_cons.mpr ⟨lw_p36, List.forall_mem_cons.mpr ⟨lw_p37, List.forall_mem_cons.mpr ⟨lw_p38, List.forall_mem_cons.mpr ⟨lw_p39, List.forall_mem_cons.mpr ⟨lw_p40, List.forall_mem_cons.mpr ⟨lw_p41, List.forall_mem_cons.mpr ⟨lw_p42, List.forall_mem_cons.mpr ⟨lw_p43, List.forall_mem_cons.mpr ⟨lw_p44, List.forall_mem_cons.mpr ⟨lw_p45, List.forall_mem_cons.mpr ⟨lw_p46, List.forall_mem_cons.mpr ⟨lw_p47, fun _ h => absurd h List.not_mem_nil⟩⟩⟩⟩⟩⟩⟩⟩⟩⟩⟩⟩⟩⟩⟩⟩
theorem lw_p48 : lw_okq (⟨"LentGranniesModel", "withOf", "(II)I"⟩, 19) := ⟨⟨by decide +kernel, by decide +kernel⟩, List.mem_of_getElem? (i := 764) (by decide +kernel), List.mem_of_getElem? (i := 951) (by decide +kernel), List.mem_of_getElem? (i := 952) (by decide +kernel)⟩
theorem lw_p49 : lw_okq (⟨"LentGranniesModel", "isLost", "(II)Z"⟩, 19) := ⟨⟨by decide +kernel, by decide +kernel⟩, List.mem_of_getElem? (i := 764) (by decide +kernel), List.mem_of_getElem? (i := 956) (by decide +kernel), List.mem_of_getElem? (i := 957) (by decide +kernel)⟩
theorem lw_p50 : lw_okq (⟨"LentGranniesModel", "brings", "(III)V"⟩, 19) := ⟨⟨by decide +kernel, by decide +kernel⟩, List.mem_of_getElem? (i := 764) (by decide +kernel), List.mem_of_getElem? (i := 963) (by decide +kernel), List.mem_of_getElem? (i := 964) (by decide +kernel)⟩
theorem lw_p51 : lw_okq (⟨"LentGranniesModel", "feeds", "(III)V"⟩, 19) := ⟨⟨by decide +kernel, by decide +kernel⟩, List.mem_of_getElem? (i := 764) (by decide +kernel), List.mem_of_getElem? (i := 967) (by decide +kernel), List.mem_of_getElem? (i := 968) (by decide +kernel)⟩
theorem lw_p52 : lw_okq (⟨"LentGranniesModel", "spoils", "(III)V"⟩, 19) := ⟨⟨by decide +kernel, by decide +kernel⟩, List.mem_of_getElem? (i := 764) (by decide +kernel), List.mem_of_getElem? (i := 974) (by decide +kernel), List.mem_of_getElem? (i := 975) (by decide +kernel)⟩
theorem lw_p53 : lw_okq (⟨"LentGranniesModel", "isGran", "(I)Z"⟩, 19) := ⟨⟨by decide +kernel, by decide +kernel⟩, List.mem_of_getElem? (i := 764) (by decide +kernel), List.mem_of_getElem? (i := 982) (by decide +kernel), List.mem_of_getElem? (i := 983) (by decide +kernel)⟩
theorem lw_p54 : lw_okq (⟨"LentGranniesModel", "put", "(II)I"⟩, 19) := ⟨⟨by decide +kernel, by decide +kernel⟩, List.mem_of_getElem? (i := 764) (by decide +kernel), List.mem_of_getElem? (i := 987) (by decide +kernel), List.mem_of_getElem? (i := 988) (by decide +kernel)⟩
theorem lw_p55 : lw_okq (⟨"LentGranniesModel", "isChild", "(I)Z"⟩, 19) := ⟨⟨by decide +kernel, by decide +kernel⟩, List.mem_of_getElem? (i := 764) (by decide +kernel), List.mem_of_getElem? (i := 995) (by decide +kernel), List.mem_of_getElem? (i := 996) (by decide +kernel)⟩
theorem lw_p56 : lw_okq (⟨"LentGranniesModel", "areTwo", "(II)Z"⟩, 19) := ⟨⟨by decide +kernel, by decide +kernel⟩, List.mem_of_getElem? (i := 764) (by decide +kernel), List.mem_of_getElem? (i := 1008) (by decide +kernel), List.mem_of_getElem? (i := 1009) (by decide +kernel)⟩
theorem lw_p57 : lw_okq (⟨"LentGranniesModel", "visitors", "(I)I"⟩, 19) := ⟨⟨by decide +kernel, by decide +kernel⟩, List.mem_of_getElem? (i := 764) (by decide +kernel), List.mem_of_getElem? (i := 1025) (by decide +kernel), List.mem_of_getElem? (i := 1026) (by decide +kernel)⟩
theorem lw_p58 : lw_okq (⟨"LentGranniesModel", "layTried", "(I)V"⟩, 19) := ⟨⟨by decide +kernel, by decide +kernel⟩, List.mem_of_getElem? (i := 764) (by decide +kernel), List.mem_of_getElem? (i := 1033) (by decide +kernel), List.mem_of_getElem? (i := 1034) (by decide +kernel)⟩
theorem lw_p59 : lw_okq (⟨"LentGranniesModel", "wholeTried", "(I)I"⟩, 19) := ⟨⟨by decide +kernel, by decide +kernel⟩, List.mem_of_getElem? (i := 764) (by decide +kernel), List.mem_of_getElem? (i := 1045) (by decide +kernel), List.mem_of_getElem? (i := 1046) (by decide +kernel)⟩
theorem lw_p60 : lw_okq (⟨"LentGranniesModel", "allChildren", "()I"⟩, 19) := ⟨⟨by decide +kernel, by decide +kernel⟩, List.mem_of_getElem? (i := 764) (by decide +kernel), List.mem_of_getElem? (i := 1057) (by decide +kernel), List.mem_of_getElem? (i := 1058) (by decide +kernel)⟩
theorem lw_p61 : lw_okq (⟨"LentGranniesModel", "visitedTried", "(I)I"⟩, 19) := ⟨⟨by decide +kernel, by decide +kernel⟩, List.mem_of_getElem? (i := 764) (by decide +kernel), List.mem_of_getElem? (i := 1061) (by decide +kernel), List.mem_of_getElem? (i := 1062) (by decide +kernel)⟩
theorem lw_p62 : lw_okq (⟨"LentGranniesModel", "changes", "()I"⟩, 19) := ⟨⟨by decide +kernel, by decide +kernel⟩, List.mem_of_getElem? (i := 764) (by decide +kernel), List.mem_of_getElem? (i := 1070) (by decide +kernel), List.mem_of_getElem? (i := 1071) (by decide +kernel)⟩
theorem lw_p63 : lw_okq (⟨"LentGranniesModel", "servesAll", "(II)Z"⟩, 19) := ⟨⟨by decide +kernel, by decide +kernel⟩, List.mem_of_getElem? (i := 764) (by decide +kernel), List.mem_of_getElem? (i := 1074) (by decide +kernel), List.mem_of_getElem? (i := 1075) (by decide +kernel)⟩
def lw_privs_4 : List (MethodName × Nat) := [(⟨"LentGranniesModel", "withOf", "(II)I"⟩, 19), (⟨"LentGranniesModel", "isLost", "(II)Z"⟩, 19), (⟨"LentGranniesModel", "brings", "(III)V"⟩, 19), (⟨"LentGranniesModel", "feeds", "(III)V"⟩, 19), (⟨"LentGranniesModel", "spoils", "(III)V"⟩, 19), (⟨"LentGranniesModel", "isGran", "(I)Z"⟩, 19), (⟨"LentGranniesModel", "put", "(II)I"⟩, 19), (⟨"LentGranniesModel", "isChild", "(I)Z"⟩, 19), (⟨"LentGranniesModel", "areTwo", "(II)Z"⟩, 19), (⟨"LentGranniesModel", "visitors", "(I)I"⟩, 19), (⟨"LentGranniesModel", "layTried", "(I)V"⟩, 19), (⟨"LentGranniesModel", "wholeTried", "(I)I"⟩, 19), (⟨"LentGranniesModel", "allChildren", "()I"⟩, 19), (⟨"LentGranniesModel", "visitedTried", "(I)I"⟩, 19), (⟨"LentGranniesModel", "changes", "()I"⟩, 19), (⟨"LentGranniesModel", "servesAll", "(II)Z"⟩, 19)]
theorem lw_r4 : ∀ q ∈ lw_privs_4, lw_okq q := List.forall_mem_cons.mpr ⟨lw_p48, List.forall_mem_cons.mpr ⟨lw_p49, List.forall_mem_cons.mpr ⟨lw_p50, List.forall_mem_cons.mpr ⟨lw_p51, List.forall_mem_cons.mpr ⟨lw_p52, List.forall_mem_cons.mpr ⟨lw_p53, List.forall_mem_cons.mpr ⟨lw_p54, List.forall_mem_cons.mpr ⟨lw_p55, List.forall_mem_cons.mpr ⟨lw_p56, List.forall_mem_cons.mpr ⟨lw_p57, List.forall_mem_cons.mpr ⟨lw_p58, List.forall_mem_cons.mpr ⟨lw_p59, List.forall_mem_cons.mpr ⟨lw_p60, List.forall_mem_cons.mpr ⟨lw_p61, List.forall_mem_cons.mpr ⟨lw_p62, List.forall_mem_cons.mpr ⟨lw_p63, fun _ h => absurd h List.not_mem_nil⟩⟩⟩⟩⟩⟩⟩⟩⟩⟩⟩⟩⟩⟩⟩⟩
theorem lw_p64 : lw_okq (⟨"LentGranniesModel", "nextFirsts", "()Z"⟩, 19) := ⟨⟨by decide +kernel, by decide +kernel⟩, List.mem_of_getElem? (i := 764) (by decide +kernel), List.mem_of_getElem? (i := 1078) (by decide +kernel), List.mem_of_getElem? (i := 1079) (by decide +kernel)⟩
theorem lw_p65 : lw_okq (⟨"LentGranniesModel", "isBetter", "(III)Z"⟩, 19) := ⟨⟨by decide +kernel, by decide +kernel⟩, List.mem_of_getElem? (i := 764) (by decide +kernel), List.mem_of_getElem? (i := 1094) (by decide +kernel), List.mem_of_getElem? (i := 1095) (by decide +kernel)⟩
theorem lw_p66 : lw_okq (⟨"LentGranniesModel", "noItems", "(IIIII)I"⟩, 19) := ⟨⟨by decide +kernel, by decide +kernel⟩, List.mem_of_getElem? (i := 764) (by decide +kernel), List.mem_of_getElem? (i := 1106) (by decide +kernel), List.mem_of_getElem? (i := 1107) (by decide +kernel)⟩
theorem lw_p67 : lw_okq (⟨"LentGranniesModel", "isFedSo", "(IIIIII)Z"⟩, 19) := ⟨⟨by decide +kernel, by decide +kernel⟩, List.mem_of_getElem? (i := 764) (by decide +kernel), List.mem_of_getElem? (i := 1111) (by decide +kernel), List.mem_of_getElem? (i := 1112) (by decide +kernel)⟩
theorem lw_p68 : lw_okq (⟨"LentGranniesModel", "isVisited", "(I)Z"⟩, 19) := ⟨⟨by decide +kernel, by decide +kernel⟩, List.mem_of_getElem? (i := 764) (by decide +kernel), List.mem_of_getElem? (i := 1133) (by decide +kernel), List.mem_of_getElem? (i := 1134) (by decide +kernel)⟩
theorem lw_p69 : lw_okq (⟨"LentGranniesModel", "sumOf", "(I)I"⟩, 19) := ⟨⟨by decide +kernel, by decide +kernel⟩, List.mem_of_getElem? (i := 764) (by decide +kernel), List.mem_of_getElem? (i := 1145) (by decide +kernel), List.mem_of_getElem? (i := 1146) (by decide +kernel)⟩
theorem lw_p70 : lw_okq (⟨"LentGranniesModel", "isOf", "(II)Z"⟩, 19) := ⟨⟨by decide +kernel, by decide +kernel⟩, List.mem_of_getElem? (i := 764) (by decide +kernel), List.mem_of_getElem? (i := 1165) (by decide +kernel), List.mem_of_getElem? (i := 1166) (by decide +kernel)⟩
theorem lw_p71 : lw_okq (⟨"LentGranniesModel", "sizeOf", "(I)I"⟩, 19) := ⟨⟨by decide +kernel, by decide +kernel⟩, List.mem_of_getElem? (i := 764) (by decide +kernel), List.mem_of_getElem? (i := 1173) (by decide +kernel), List.mem_of_getElem? (i := 1174) (by decide +kernel)⟩
theorem lw_p72 : lw_okq (⟨"LentGranniesModel", "begin", "(I)V"⟩, 19) := ⟨⟨by decide +kernel, by decide +kernel⟩, List.mem_of_getElem? (i := 764) (by decide +kernel), List.mem_of_getElem? (i := 1177) (by decide +kernel), List.mem_of_getElem? (i := 1178) (by decide +kernel)⟩
theorem lw_p73 : lw_okq (⟨"LentGranniesModel", "soupsSize", "(I)I"⟩, 19) := ⟨⟨by decide +kernel, by decide +kernel⟩, List.mem_of_getElem? (i := 764) (by decide +kernel), List.mem_of_getElem? (i := 1181) (by decide +kernel), List.mem_of_getElem? (i := 1182) (by decide +kernel)⟩
theorem lw_p74 : lw_okq (⟨"LentGranniesModel", "lentSize", "(I)I"⟩, 19) := ⟨⟨by decide +kernel, by decide +kernel⟩, List.mem_of_getElem? (i := 764) (by decide +kernel), List.mem_of_getElem? (i := 1185) (by decide +kernel), List.mem_of_getElem? (i := 1186) (by decide +kernel)⟩
theorem lw_p75 : lw_okq (⟨"LentGranniesModel", "mark", "(I)I"⟩, 19) := ⟨⟨by decide +kernel, by decide +kernel⟩, List.mem_of_getElem? (i := 764) (by decide +kernel), List.mem_of_getElem? (i := 1189) (by decide +kernel), List.mem_of_getElem? (i := 1190) (by decide +kernel)⟩
theorem lw_p76 : lw_okq (⟨"LentGranniesModel", "soupsMark", "(I)I"⟩, 19) := ⟨⟨by decide +kernel, by decide +kernel⟩, List.mem_of_getElem? (i := 764) (by decide +kernel), List.mem_of_getElem? (i := 1193) (by decide +kernel), List.mem_of_getElem? (i := 1194) (by decide +kernel)⟩
theorem lw_p77 : lw_okq (⟨"LentGranniesModel", "lentMark", "(I)I"⟩, 19) := ⟨⟨by decide +kernel, by decide +kernel⟩, List.mem_of_getElem? (i := 764) (by decide +kernel), List.mem_of_getElem? (i := 1197) (by decide +kernel), List.mem_of_getElem? (i := 1198) (by decide +kernel)⟩
theorem lw_p78 : lw_okq (⟨"LentGranniesModel", "sternSize", "(I)I"⟩, 19) := ⟨⟨by decide +kernel, by decide +kernel⟩, List.mem_of_getElem? (i := 764) (by decide +kernel), List.mem_of_getElem? (i := 1201) (by decide +kernel), List.mem_of_getElem? (i := 1202) (by decide +kernel)⟩
theorem lw_p79 : lw_okq (⟨"LentGranniesModel", "sternMark", "(I)I"⟩, 19) := ⟨⟨by decide +kernel, by decide +kernel⟩, List.mem_of_getElem? (i := 764) (by decide +kernel), List.mem_of_getElem? (i := 1205) (by decide +kernel), List.mem_of_getElem? (i := 1206) (by decide +kernel)⟩
def lw_privs_5 : List (MethodName × Nat) := [(⟨"LentGranniesModel", "nextFirsts", "()Z"⟩, 19), (⟨"LentGranniesModel", "isBetter", "(III)Z"⟩, 19), (⟨"LentGranniesModel", "noItems", "(IIIII)I"⟩, 19), (⟨"LentGranniesModel", "isFedSo", "(IIIIII)Z"⟩, 19), (⟨"LentGranniesModel", "isVisited", "(I)Z"⟩, 19), (⟨"LentGranniesModel", "sumOf", "(I)I"⟩, 19), (⟨"LentGranniesModel", "isOf", "(II)Z"⟩, 19), (⟨"LentGranniesModel", "sizeOf", "(I)I"⟩, 19), (⟨"LentGranniesModel", "begin", "(I)V"⟩, 19), (⟨"LentGranniesModel", "soupsSize", "(I)I"⟩, 19), (⟨"LentGranniesModel", "lentSize", "(I)I"⟩, 19), (⟨"LentGranniesModel", "mark", "(I)I"⟩, 19), (⟨"LentGranniesModel", "soupsMark", "(I)I"⟩, 19), (⟨"LentGranniesModel", "lentMark", "(I)I"⟩, 19), (⟨"LentGranniesModel", "sternSize", "(I)I"⟩, 19), (⟨"LentGranniesModel", "sternMark", "(I)I"⟩, 19)]
theorem lw_r5 : ∀ q ∈ lw_privs_5, lw_okq q := List.forall_mem_cons.mpr ⟨lw_p64, List.forall_mem_cons.mpr ⟨lw_p65, List.forall_mem_cons.mpr ⟨lw_p66, List.forall_mem_cons.mpr ⟨lw_p67, List.forall_mem_cons.mpr ⟨lw_p68, List.forall_mem_cons.mpr ⟨lw_p69, List.forall_mem_cons.mpr ⟨lw_p70, List.forall_mem_cons.mpr ⟨lw_p71, List.forall_mem_cons.mpr ⟨lw_p72, List.forall_mem_cons.mpr ⟨lw_p73, List.forall_mem_cons.mpr ⟨lw_p74, List.forall_mem_cons.mpr ⟨lw_p75, List.forall_mem_cons.mpr ⟨lw_p76, List.forall_mem_cons.mpr ⟨lw_p77, List.forall_mem_cons.mpr ⟨lw_p78, List.forall_mem_cons.mpr ⟨lw_p79, fun _ h => absurd h List.not_mem_nil⟩⟩⟩⟩⟩⟩⟩⟩⟩⟩⟩⟩⟩⟩⟩⟩
def lw_privs : List (MethodName × Nat) := lw_privs_1 ++ (lw_privs_2 ++ (lw_privs_3 ++ (lw_privs_4 ++ (lw_privs_5))))
def lw_tbl : List Cond := k2_sels lw_privs ++ tables_1
theorem lw_privs_ok : ∀ q ∈ lw_privs, lw_okq q := by
  show ∀ q ∈ lw_privs_1 ++ (lw_privs_2 ++ (lw_privs_3 ++ (lw_privs_4 ++ (lw_privs_5)))), lw_okq q
  exact List.forall_mem_append.mpr ⟨lw_r1, List.forall_mem_append.mpr ⟨lw_r2, List.forall_mem_append.mpr ⟨lw_r3, List.forall_mem_append.mpr ⟨lw_r4, lw_r5⟩⟩⟩⟩
end
section
def RX0 : String := "LentGrannies$Acts"
def TX0 : u_T := fun k => match k with
  | 0 => ("LentGrannies$Acts", "before", "[[I", true)
  | 1 => ("LentGrannies$Acts", "oldest", "I", false)
  | _ => ("LentGrannies$Acts", "kept", "I", false)
def tyX0 : Nat → FieldType := fun k => match k with
  | 0 => .array (.array .int)
  | 1 => .int
  | _ => .int
abbrev wsX00 : List Cond := u_ws RX0 TX0 3
theorem nmX0 : ∀ a, a < 3 → ∀ b, b < 3 → a ≠ b → (TX0 a).2.1 ≠ (TX0 b).2.1 := by decide +kernel
theorem tyX0_ok : ∀ k, k < 3 → parseFieldDescriptor (TX0 k).2.2.1 = some (tyX0 k) := by decide +kernel
abbrev cX0_init : ByteArray := prog_2_method_1_code
def yX0_init : MethodName := ⟨RX0, "<init>", "()V"⟩
abbrev cX0_forget : ByteArray := prog_2_method_2_code
def yX0_forget : MethodName := ⟨RX0, "forget", "()V"⟩
abbrev cX0_keep : ByteArray := prog_2_method_3_code
def yX0_keep : MethodName := ⟨RX0, "keep", "(LLentGrannies$Town;)V"⟩
abbrev cX0_takeBack : ByteArray := prog_2_method_4_code
def yX0_takeBack : MethodName := ⟨RX0, "takeBack", "(LLentGrannies$Town;)Z"⟩
def RX1 : String := "LentGrannies$Asker"
def TX1 : u_T := fun k => match k with
  | 0 => ("LentGrannies$Asker", "bodies", "[I", true)
  | 1 => ("LentGrannies$Asker", "length", "I", false)
  | 2 => ("LentGrannies$Asker", "one", "I", false)
  | 3 => ("LentGrannies$Asker", "kind", "I", false)
  | 4 => ("LentGrannies$Asker", "art", "I", false)
  | _ => ("LentGrannies$Asker", "first", "I", false)
def tyX1 : Nat → FieldType := fun k => match k with
  | 0 => .array .int
  | 1 => .int
  | 2 => .int
  | 3 => .int
  | 4 => .int
  | _ => .int
abbrev wsX10 : List Cond := u_ws RX1 TX1 6
theorem nmX1 : ∀ a, a < 6 → ∀ b, b < 6 → a ≠ b → (TX1 a).2.1 ≠ (TX1 b).2.1 := by decide +kernel
theorem tyX1_ok : ∀ k, k < 6 → parseFieldDescriptor (TX1 k).2.2.1 = some (tyX1 k) := by decide +kernel
abbrev cX1_init : ByteArray := prog_3_method_1_code
def yX1_init : MethodName := ⟨RX1, "<init>", "()V"⟩
abbrev cX1_turnTo : ByteArray := prog_3_method_2_code
def yX1_turnTo : MethodName := ⟨RX1, "turnTo", "(ILLentGrannies$Town;)V"⟩
abbrev cX1_sizeAsked : ByteArray := prog_3_method_3_code
def yX1_sizeAsked : MethodName := ⟨RX1, "sizeAsked", "()I"⟩
abbrev cX1_markAsked : ByteArray := prog_3_method_4_code
def yX1_markAsked : MethodName := ⟨RX1, "markAsked", "()I"⟩
abbrev cX1_sizeOfSoup : ByteArray := prog_3_method_5_code
def yX1_sizeOfSoup : MethodName := ⟨RX1, "sizeOfSoup", "()I"⟩
abbrev cX1_sizeOfStern : ByteArray := prog_3_method_6_code
def yX1_sizeOfStern : MethodName := ⟨RX1, "sizeOfStern", "()I"⟩
abbrev cX1_sizeOfAnyStern : ByteArray := prog_3_method_7_code
def yX1_sizeOfAnyStern : MethodName := ⟨RX1, "sizeOfAnyStern", "()I"⟩
abbrev cX1_sizeLent : ByteArray := prog_3_method_8_code
def yX1_sizeLent : MethodName := ⟨RX1, "sizeLent", "()I"⟩
abbrev cX1_markOfSoup : ByteArray := prog_3_method_9_code
def yX1_markOfSoup : MethodName := ⟨RX1, "markOfSoup", "()I"⟩
abbrev cX1_markOfAnySoup : ByteArray := prog_3_method_10_code
def yX1_markOfAnySoup : MethodName := ⟨RX1, "markOfAnySoup", "()I"⟩
abbrev cX1_markOfStern : ByteArray := prog_3_method_11_code
def yX1_markOfStern : MethodName := ⟨RX1, "markOfStern", "()I"⟩
abbrev cX1_markLent : ByteArray := prog_3_method_12_code
def yX1_markLent : MethodName := ⟨RX1, "markLent", "()I"⟩
abbrev cX1_begin : ByteArray := prog_3_method_13_code
def yX1_begin : MethodName := ⟨RX1, "begin", "(I)V"⟩
def RX2 : String := "LentGrannies$Reader"
def TX2 : u_T := fun k => match k with
  | 0 => ("LentGrannies$Reader", "draft", "LLentGrannies$Town;", true)
  | 1 => ("LentGrannies$Reader", "length", "I", false)
  | 2 => ("LentGrannies$Reader", "place", "I", false)
  | 3 => ("LentGrannies$Reader", "tape", "[I", true)
  | 4 => ("LentGrannies$Reader", "at", "I", false)
  | _ => ("LentGrannies$Reader", "fault", "I", false)
def tyX2 : Nat → FieldType := fun k => match k with
  | 0 => .object "LentGrannies$Town"
  | 1 => .int
  | 2 => .int
  | 3 => .array .int
  | 4 => .int
  | _ => .int
abbrev wsX20 : List Cond := u_ws RX2 TX2 6
theorem nmX2 : ∀ a, a < 6 → ∀ b, b < 6 → a ≠ b → (TX2 a).2.1 ≠ (TX2 b).2.1 := by decide +kernel
theorem tyX2_ok : ∀ k, k < 6 → parseFieldDescriptor (TX2 k).2.2.1 = some (tyX2 k) := by decide +kernel
abbrev cX2_init : ByteArray := prog_4_method_1_code
def yX2_init : MethodName := ⟨RX2, "<init>", "()V"⟩
abbrev cX2_append : ByteArray := prog_4_method_2_code
def yX2_append : MethodName := ⟨RX2, "append", "(I)Z"⟩
abbrev cX2_readAll : ByteArray := prog_4_method_3_code
def yX2_readAll : MethodName := ⟨RX2, "readAll", "()I"⟩
abbrev cX2_readLaw : ByteArray := prog_4_method_4_code
def yX2_readLaw : MethodName := ⟨RX2, "readLaw", "()V"⟩
abbrev cX2_readChildren : ByteArray := prog_4_method_5_code
def yX2_readChildren : MethodName := ⟨RX2, "readChildren", "()V"⟩
abbrev cX2_readGrans : ByteArray := prog_4_method_6_code
def yX2_readGrans : MethodName := ⟨RX2, "readGrans", "()V"⟩
abbrev cX2_nextByte : ByteArray := prog_4_method_7_code
def yX2_nextByte : MethodName := ⟨RX2, "nextByte", "()I"⟩
abbrev cX2_fail : ByteArray := prog_4_method_8_code
def yX2_fail : MethodName := ⟨RX2, "fail", "(I)V"⟩
abbrev cX2_takeSign : ByteArray := prog_4_method_9_code
def yX2_takeSign : MethodName := ⟨RX2, "takeSign", "(I)V"⟩
abbrev cX2_takeSort : ByteArray := prog_4_method_10_code
def yX2_takeSort : MethodName := ⟨RX2, "takeSort", "()I"⟩
abbrev cX2_takeNumber : ByteArray := prog_4_method_11_code
def yX2_takeNumber : MethodName := ⟨RX2, "takeNumber", "(II)I"⟩
abbrev cX2_sortOf : ByteArray := prog_4_method_12_code
def yX2_sortOf : MethodName := ⟨RX2, "sortOf", "(I)I"⟩
def RX3 : String := "LentGrannies$Rota"
def TX3 : u_T := fun k => match k with
  | 0 => ("LentGrannies$Rota", "was", "[I", true)
  | 1 => ("LentGrannies$Rota", "reach", "[I", true)
  | 2 => ("LentGrannies$Rota", "reachFrom", "[I", true)
  | 3 => ("LentGrannies$Rota", "town", "LLentGrannies$Town;", true)
  | 4 => ("LentGrannies$Rota", "wanted", "I", false)
  | _ => ("LentGrannies$Rota", "span", "I", false)
def tyX3 : Nat → FieldType := fun k => match k with
  | 0 => .array .int
  | 1 => .array .int
  | 2 => .array .int
  | 3 => .object "LentGrannies$Town"
  | 4 => .int
  | _ => .int
abbrev wsX30 : List Cond := u_ws RX3 TX3 6
theorem nmX3 : ∀ a, a < 6 → ∀ b, b < 6 → a ≠ b → (TX3 a).2.1 ≠ (TX3 b).2.1 := by decide +kernel
theorem tyX3_ok : ∀ k, k < 6 → parseFieldDescriptor (TX3 k).2.2.1 = some (tyX3 k) := by decide +kernel
abbrev cX3_init : ByteArray := prog_5_method_1_code
def yX3_init : MethodName := ⟨RX3, "<init>", "(LLentGrannies$Town;)V"⟩
abbrev cX3_fewestChanges : ByteArray := prog_5_method_2_code
def yX3_fewestChanges : MethodName := ⟨RX3, "fewestChanges", "(II)I"⟩
abbrev cX3_longestIll : ByteArray := prog_5_method_3_code
def yX3_longestIll : MethodName := ⟨RX3, "longestIll", "()I"⟩
abbrev cX3_noteReach : ByteArray := prog_5_method_4_code
def yX3_noteReach : MethodName := ⟨RX3, "noteReach", "()V"⟩
abbrev cX3_visited : ByteArray := prog_5_method_5_code
def yX3_visited : MethodName := ⟨RX3, "visited", "(I)I"⟩
abbrev cX3_place : ByteArray := prog_5_method_6_code
def yX3_place : MethodName := ⟨RX3, "place", "(III)Z"⟩
def RX4 : String := "LentGrannies$Shelf"
def TX4 : u_T := fun k => match k with
  | 0 => ("LentGrannies$Shelf", "items", "[[I", true)
  | 1 => ("LentGrannies$Shelf", "lanes", "[I", true)
  | _ => ("LentGrannies$Shelf", "sizes", "[I", true)
def tyX4 : Nat → FieldType := fun k => match k with
  | 0 => .array (.array .int)
  | 1 => .array .int
  | _ => .array .int
abbrev wsX40 : List Cond := u_ws RX4 TX4 3
theorem nmX4 : ∀ a, a < 3 → ∀ b, b < 3 → a ≠ b → (TX4 a).2.1 ≠ (TX4 b).2.1 := by decide +kernel
theorem tyX4_ok : ∀ k, k < 3 → parseFieldDescriptor (TX4 k).2.2.1 = some (tyX4 k) := by decide +kernel
abbrev cX4_init : ByteArray := prog_6_method_1_code
def yX4_init : MethodName := ⟨RX4, "<init>", "()V"⟩
abbrev cX4_holds : ByteArray := prog_6_method_2_code
def yX4_holds : MethodName := ⟨RX4, "holds", "(I)Z"⟩
abbrev cX4_isMissing : ByteArray := prog_6_method_3_code
def yX4_isMissing : MethodName := ⟨RX4, "isMissing", "(I)Z"⟩
abbrev cX4_lay : ByteArray := prog_6_method_4_code
def yX4_lay : MethodName := ⟨RX4, "lay", "(III)V"⟩
abbrev cX4_takeAway : ByteArray := prog_6_method_5_code
def yX4_takeAway : MethodName := ⟨RX4, "takeAway", "(I)I"⟩
abbrev cX4_put : ByteArray := prog_6_method_6_code
def yX4_put : MethodName := ⟨RX4, "put", "(III)I"⟩
abbrev cX4_itemAt : ByteArray := prog_6_method_7_code
def yX4_itemAt : MethodName := ⟨RX4, "itemAt", "(II)I"⟩
abbrev cX4_findingOf : ByteArray := prog_6_method_8_code
def yX4_findingOf : MethodName := ⟨RX4, "findingOf", "(III)I"⟩
abbrev cX4_findingOfMove : ByteArray := prog_6_method_9_code
def yX4_findingOfMove : MethodName := ⟨RX4, "findingOfMove", "(IIIII)I"⟩
abbrev cX4_move : ByteArray := prog_6_method_10_code
def yX4_move : MethodName := ⟨RX4, "move", "(IIIII)V"⟩
abbrev cX4_rowsThere : ByteArray := prog_6_method_11_code
def yX4_rowsThere : MethodName := ⟨RX4, "rowsThere", "()I"⟩
abbrev cX4_isSpan : ByteArray := prog_6_method_12_code
def yX4_isSpan : MethodName := ⟨RX4, "isSpan", "(III)Z"⟩
def RX5 : String := "LentGrannies$Town"
def TX5 : u_T := fun k => match k with
  | 0 => ("LentGrannies$Town", "eats", "I", false)
  | 1 => ("LentGrannies$Town", "parts", "I", false)
  | 2 => ("LentGrannies$Town", "children", "I", false)
  | 3 => ("LentGrannies$Town", "grans", "I", false)
  | 4 => ("LentGrannies$Town", "day", "I", false)
  | 5 => ("LentGrannies$Town", "fed", "[I", true)
  | 6 => ("LentGrannies$Town", "spoilt", "[I", true)
  | 7 => ("LentGrannies$Town", "told", "[I", true)
  | 8 => ("LentGrannies$Town", "sort", "[I", true)
  | 9 => ("LentGrannies$Town", "art", "[I", true)
  | 10 => ("LentGrannies$Town", "first", "[I", true)
  | 11 => ("LentGrannies$Town", "step", "[I", true)
  | 12 => ("LentGrannies$Town", "ill", "[I", true)
  | 13 => ("LentGrannies$Town", "foes", "[I", true)
  | 14 => ("LentGrannies$Town", "host", "[I", true)
  | _ => ("LentGrannies$Town", "guests", "[I", true)
def tyX5 : Nat → FieldType := fun k => match k with
  | 0 => .int
  | 1 => .int
  | 2 => .int
  | 3 => .int
  | 4 => .int
  | 5 => .array .int
  | 6 => .array .int
  | 7 => .array .int
  | 8 => .array .int
  | 9 => .array .int
  | 10 => .array .int
  | 11 => .array .int
  | 12 => .array .int
  | 13 => .array .int
  | 14 => .array .int
  | _ => .array .int
abbrev wsX50 : List Cond := u_ws RX5 TX5 16
theorem nmX5 : ∀ a, a < 16 → ∀ b, b < 16 → a ≠ b → (TX5 a).2.1 ≠ (TX5 b).2.1 := by decide +kernel
theorem tyX5_ok : ∀ k, k < 16 → parseFieldDescriptor (TX5 k).2.2.1 = some (tyX5 k) := by decide +kernel
abbrev cX5_init : ByteArray := prog_7_method_1_code
def yX5_init : MethodName := ⟨RX5, "<init>", "()V"⟩
abbrev cX5_hasChild : ByteArray := prog_7_method_2_code
def yX5_hasChild : MethodName := ⟨RX5, "hasChild", "(I)Z"⟩
abbrev cX5_hasGran : ByteArray := prog_7_method_3_code
def yX5_hasGran : MethodName := ⟨RX5, "hasGran", "(I)Z"⟩
abbrev cX5_allChildren : ByteArray := prog_7_method_4_code
def yX5_allChildren : MethodName := ⟨RX5, "allChildren", "()I"⟩
abbrev cX5_save : ByteArray := prog_7_method_5_code
def yX5_save : MethodName := ⟨RX5, "save", "([I)V"⟩
abbrev cX5_load : ByteArray := prog_7_method_6_code
def yX5_load : MethodName := ⟨RX5, "load", "([I)V"⟩
abbrev cX5_hostOf : ByteArray := prog_7_method_7_code
def yX5_hostOf : MethodName := ⟨RX5, "hostOf", "(II)I"⟩
abbrev cX5_seat : ByteArray := prog_7_method_8_code
def yX5_seat : MethodName := ⟨RX5, "seat", "(I)V"⟩
abbrev cX5_brings : ByteArray := prog_7_method_9_code
def yX5_brings : MethodName := ⟨RX5, "brings", "(I)Z"⟩
abbrev cX5_guestsOf : ByteArray := prog_7_method_10_code
def yX5_guestsOf : MethodName := ⟨RX5, "guestsOf", "(I)I"⟩
abbrev cX5_lostOn : ByteArray := prog_7_method_11_code
def yX5_lostOn : MethodName := ⟨RX5, "lostOn", "(I)I"⟩
abbrev cX5_servedIn : ByteArray := prog_7_method_12_code
def yX5_servedIn : MethodName := ⟨RX5, "servedIn", "(I)I"⟩
abbrev cX5_servedOn : ByteArray := prog_7_method_13_code
def yX5_servedOn : MethodName := ⟨RX5, "servedOn", "(I)I"⟩
abbrev cX5_hasPeaceful : ByteArray := prog_7_method_14_code
def yX5_hasPeaceful : MethodName := ⟨RX5, "hasPeaceful", "(I)Z"⟩
abbrev cX5_passDays : ByteArray := prog_7_method_15_code
def yX5_passDays : MethodName := ⟨RX5, "passDays", "(I)V"⟩
abbrev cX5_passDay : ByteArray := prog_7_method_16_code
def yX5_passDay : MethodName := ⟨RX5, "passDay", "()V"⟩
abbrev cX5_visit : ByteArray := prog_7_method_17_code
def yX5_visit : MethodName := ⟨RX5, "visit", "(II)V"⟩
abbrev cX5_addFed : ByteArray := prog_7_method_18_code
def yX5_addFed : MethodName := ⟨RX5, "addFed", "(II)V"⟩
abbrev cX5_addSpoilt : ByteArray := prog_7_method_19_code
def yX5_addSpoilt : MethodName := ⟨RX5, "addSpoilt", "(II)V"⟩
abbrev cX5_daysToWhole : ByteArray := prog_7_method_20_code
def yX5_daysToWhole : MethodName := ⟨RX5, "daysToWhole", "(I)I"⟩
abbrev cX5_fallIll : ByteArray := prog_7_method_21_code
def yX5_fallIll : MethodName := ⟨RX5, "fallIll", "(J)V"⟩
abbrev cX5_sumOf : ByteArray := prog_7_method_22_code
def yX5_sumOf : MethodName := ⟨RX5, "sumOf", "([II)I"⟩
def RX6 : String := "LentGrannies"
def TX6 : u_T := fun k => match k with
  | 0 => ("LentGrannies", "shelf", "LLentGrannies$Shelf;", true)
  | 1 => ("LentGrannies", "reader", "LLentGrannies$Reader;", true)
  | 2 => ("LentGrannies", "now", "LLentGrannies$Town;", true)
  | 3 => ("LentGrannies", "trial", "LLentGrannies$Town;", true)
  | 4 => ("LentGrannies", "page", "[I", true)
  | 5 => ("LentGrannies", "fedUnswapped", "[I", true)
  | 6 => ("LentGrannies", "acts", "LLentGrannies$Acts;", true)
  | 7 => ("LentGrannies", "images", "[[I", true)
  | 8 => ("LentGrannies", "imageKept", "[Z", true)
  | 9 => ("LentGrannies", "asker", "LLentGrannies$Asker;", true)
  | 10 => ("LentGrannies", "search", "LLentGrannies$Rota;", true)
  | 11 => ("LentGrannies", "latestFault", "I", false)
  | _ => ("LentGrannies", "latestFinding", "I", false)
def tyX6 : Nat → FieldType := fun k => match k with
  | 0 => .object "LentGrannies$Shelf"
  | 1 => .object "LentGrannies$Reader"
  | 2 => .object "LentGrannies$Town"
  | 3 => .object "LentGrannies$Town"
  | 4 => .array .int
  | 5 => .array .int
  | 6 => .object "LentGrannies$Acts"
  | 7 => .array (.array .int)
  | 8 => .array .boolean
  | 9 => .object "LentGrannies$Asker"
  | 10 => .object "LentGrannies$Rota"
  | 11 => .int
  | _ => .int
abbrev wsX60 : List Cond := u_ws RX6 TX6 13
theorem nmX6 : ∀ a, a < 13 → ∀ b, b < 13 → a ≠ b → (TX6 a).2.1 ≠ (TX6 b).2.1 := by decide +kernel
theorem tyX6_ok : ∀ k, k < 13 → parseFieldDescriptor (TX6 k).2.2.1 = some (tyX6 k) := by decide +kernel
abbrev cX6_init : ByteArray := prog_1_method_1_code
def yX6_init : MethodName := ⟨RX6, "<init>", "()V"⟩
abbrev cX6_row : ByteArray := prog_1_method_2_code
def yX6_row : MethodName := ⟨RX6, "row", "(III)I"⟩
abbrev cX6_set : ByteArray := prog_1_method_3_code
def yX6_set : MethodName := ⟨RX6, "set", "(III)I"⟩
abbrev cX6_copy : ByteArray := prog_1_method_4_code
def yX6_copy : MethodName := ⟨RX6, "copy", "(IIIII)I"⟩
abbrev cX6_drop : ByteArray := prog_1_method_5_code
def yX6_drop : MethodName := ⟨RX6, "drop", "(I)I"⟩
abbrev cX6_feed : ByteArray := prog_1_method_6_code
def yX6_feed : MethodName := ⟨RX6, "feed", "(I)I"⟩
abbrev cX6_town : ByteArray := prog_1_method_7_code
def yX6_town : MethodName := ⟨RX6, "town", "()I"⟩
abbrev cX6_fault : ByteArray := prog_1_method_8_code
def yX6_fault : MethodName := ⟨RX6, "fault", "()I"⟩
abbrev cX6_undo : ByteArray := prog_1_method_9_code
def yX6_undo : MethodName := ⟨RX6, "undo", "()I"⟩
abbrev cX6_days : ByteArray := prog_1_method_10_code
def yX6_days : MethodName := ⟨RX6, "days", "(I)I"⟩
abbrev cX6_sick : ByteArray := prog_1_method_11_code
def yX6_sick : MethodName := ⟨RX6, "sick", "(II)I"⟩
abbrev cX6_swap : ByteArray := prog_1_method_12_code
def yX6_swap : MethodName := ⟨RX6, "swap", "(II)I"⟩
abbrev cX6_pace : ByteArray := prog_1_method_13_code
def yX6_pace : MethodName := ⟨RX6, "pace", "(II)I"⟩
abbrev cX6_quarrel : ByteArray := prog_1_method_14_code
def yX6_quarrel : MethodName := ⟨RX6, "quarrel", "(III)I"⟩
abbrev cX6_spoil : ByteArray := prog_1_method_15_code
def yX6_spoil : MethodName := ⟨RX6, "spoil", "(II)I"⟩
abbrev cX6_gran : ByteArray := prog_1_method_16_code
def yX6_gran : MethodName := ⟨RX6, "gran", "(II)I"⟩
abbrev cX6_child : ByteArray := prog_1_method_17_code
def yX6_child : MethodName := ⟨RX6, "child", "(II)I"⟩
abbrev cX6_ahead : ByteArray := prog_1_method_18_code
def yX6_ahead : MethodName := ⟨RX6, "ahead", "(III)I"⟩
abbrev cX6_withWhom : ByteArray := prog_1_method_19_code
def yX6_withWhom : MethodName := ⟨RX6, "withWhom", "(II)I"⟩
abbrev cX6_whole : ByteArray := prog_1_method_20_code
def yX6_whole : MethodName := ⟨RX6, "whole", "(I)I"⟩
abbrev cX6_hungry : ByteArray := prog_1_method_21_code
def yX6_hungry : MethodName := ⟨RX6, "hungry", "(I)I"⟩
abbrev cX6_without : ByteArray := prog_1_method_22_code
def yX6_without : MethodName := ⟨RX6, "without", "(I)I"⟩
abbrev cX6_rota : ByteArray := prog_1_method_23_code
def yX6_rota : MethodName := ⟨RX6, "rota", "(III)I"⟩
abbrev cX6_meets : ByteArray := prog_1_method_24_code
def yX6_meets : MethodName := ⟨RX6, "meets", "(II)I"⟩
abbrev cX6_lost : ByteArray := prog_1_method_25_code
def yX6_lost : MethodName := ⟨RX6, "lost", "(I)I"⟩
abbrev cX6_swaps : ByteArray := prog_1_method_26_code
def yX6_swaps : MethodName := ⟨RX6, "swaps", "(II)I"⟩
abbrev cX6_soon : ByteArray := prog_1_method_27_code
def yX6_soon : MethodName := ⟨RX6, "soon", "(II)I"⟩
abbrev cX6_who : ByteArray := prog_1_method_28_code
def yX6_who : MethodName := ⟨RX6, "who", "(IIIII)I"⟩
abbrev cX6_firsts : ByteArray := prog_1_method_29_code
def yX6_firsts : MethodName := ⟨RX6, "firsts", "(IIIII)I"⟩
abbrev cX6_steps : ByteArray := prog_1_method_30_code
def yX6_steps : MethodName := ⟨RX6, "steps", "(IIIII)I"⟩
abbrev cX6_even : ByteArray := prog_1_method_31_code
def yX6_even : MethodName := ⟨RX6, "even", "(I)I"⟩
abbrev cX6_fever : ByteArray := prog_1_method_32_code
def yX6_fever : MethodName := ⟨RX6, "fever", "(III)J"⟩
abbrev cX6_drawn : ByteArray := prog_1_method_33_code
def yX6_drawn : MethodName := ⟨RX6, "drawn", "(III)I"⟩
abbrev cX6_image : ByteArray := prog_1_method_34_code
def yX6_image : MethodName := ⟨RX6, "image", "(I)I"⟩
abbrev cX6_restore : ByteArray := prog_1_method_35_code
def yX6_restore : MethodName := ⟨RX6, "restore", "(I)I"⟩
abbrev cX6_kind : ByteArray := prog_1_method_36_code
def yX6_kind : MethodName := ⟨RX6, "kind", "(I)I"⟩
abbrev cX6_as : ByteArray := prog_1_method_37_code
def yX6_as : MethodName := ⟨RX6, "as", "(II)I"⟩
abbrev cX6_ask : ByteArray := prog_1_method_38_code
def yX6_ask : MethodName := ⟨RX6, "ask", "(II)I"⟩
abbrev cX6_trace : ByteArray := prog_1_method_39_code
def yX6_trace : MethodName := ⟨RX6, "trace", "(I)I"⟩
abbrev cX6_count : ByteArray := prog_1_method_40_code
def yX6_count : MethodName := ⟨RX6, "count", "(I)I"⟩
abbrev cX6_status : ByteArray := prog_1_method_41_code
def yX6_status : MethodName := ⟨RX6, "status", "()I"⟩
abbrev cX6_within : ByteArray := prog_1_method_42_code
def yX6_within : MethodName := ⟨RX6, "within", "(III)Z"⟩
abbrev cX6_found : ByteArray := prog_1_method_43_code
def yX6_found : MethodName := ⟨RX6, "found", "(I)I"⟩
abbrev cX6_noTown : ByteArray := prog_1_method_44_code
def yX6_noTown : MethodName := ⟨RX6, "noTown", "()Z"⟩
abbrev cX6_openTrial : ByteArray := prog_1_method_45_code
def yX6_openTrial : MethodName := ⟨RX6, "openTrial", "()V"⟩
abbrev cX6_isGoodSwap : ByteArray := prog_1_method_46_code
def yX6_isGoodSwap : MethodName := ⟨RX6, "isGoodSwap", "(III)Z"⟩
abbrev cX6_refusalOfTold : ByteArray := prog_1_method_47_code
def yX6_refusalOfTold : MethodName := ⟨RX6, "refusalOfTold", "(IIIII)I"⟩
abbrev cX6_isFedAsTold : ByteArray := prog_1_method_48_code
def yX6_isFedAsTold : MethodName := ⟨RX6, "isFedAsTold", "(IIII)Z"⟩
abbrev cX6_isOfKind : ByteArray := prog_1_method_49_code
def yX6_isOfKind : MethodName := ⟨RX6, "isOfKind", "(II)Z"⟩
abbrev cX6_power : ByteArray := prog_1_method_50_code
def yX6_power : MethodName := ⟨RX6, "power", "(II)J"⟩
abbrev cX6_commonDivisor : ByteArray := prog_1_method_51_code
def yX6_commonDivisor : MethodName := ⟨RX6, "commonDivisor", "(JJ)J"⟩
def RX7 : String := "LentGranniesModel"
def TX7 : u_T := fun k => match k with
  | 0 => ("LentGranniesModel", "row", "[I", true)
  | 1 => ("LentGranniesModel", "isTown", "Z", false)
  | 2 => ("LentGranniesModel", "undos", "I", false)
  | 3 => ("LentGranniesModel", "isKept", "[Z", true)
  | 4 => ("LentGranniesModel", "lanes", "[I", true)
  | 5 => ("LentGranniesModel", "sizes", "[I", true)
  | 6 => ("LentGranniesModel", "items", "[I", true)
  | 7 => ("LentGranniesModel", "tape", "[I", true)
  | 8 => ("LentGranniesModel", "length", "I", false)
  | 9 => ("LentGranniesModel", "fault", "I", false)
  | 10 => ("LentGranniesModel", "status", "I", false)
  | 11 => ("LentGranniesModel", "trace", "[I", true)
  | 12 => ("LentGranniesModel", "traced", "I", false)
  | 13 => ("LentGranniesModel", "at", "I", false)
  | 14 => ("LentGranniesModel", "wrong", "I", false)
  | 15 => ("LentGranniesModel", "number", "I", false)
  | 16 => ("LentGranniesModel", "tryFirsts", "[I", true)
  | 17 => ("LentGranniesModel", "bestFirsts", "[I", true)
  | _ => ("LentGranniesModel", "fedThen", "[I", true)
def tyX7 : Nat → FieldType := fun k => match k with
  | 0 => .array .int
  | 1 => .boolean
  | 2 => .int
  | 3 => .array .boolean
  | 4 => .array .int
  | 5 => .array .int
  | 6 => .array .int
  | 7 => .array .int
  | 8 => .int
  | 9 => .int
  | 10 => .int
  | 11 => .array .int
  | 12 => .int
  | 13 => .int
  | 14 => .int
  | 15 => .int
  | 16 => .array .int
  | 17 => .array .int
  | _ => .array .int
abbrev wsX70 : List Cond := u_ws RX7 TX7 19
theorem nmX7 : ∀ a, a < 19 → ∀ b, b < 19 → a ≠ b → (TX7 a).2.1 ≠ (TX7 b).2.1 := by decide +kernel
theorem tyX7_ok : ∀ k, k < 19 → parseFieldDescriptor (TX7 k).2.2.1 = some (tyX7 k) := by decide +kernel
abbrev cX7_init : ByteArray := prog_9_method_1_code
def yX7_init : MethodName := ⟨RX7, "<init>", "()V"⟩
abbrev cX7_in : ByteArray := prog_9_method_2_code
def yX7_in : MethodName := ⟨RX7, "in", "(JJJ)Z"⟩
abbrev cX7_has : ByteArray := prog_9_method_3_code
def yX7_has : MethodName := ⟨RX7, "has", "(II)Z"⟩
abbrev cX7_between : ByteArray := prog_9_method_4_code
def yX7_between : MethodName := ⟨RX7, "between", "(II)I"⟩
abbrev cX7_find : ByteArray := prog_9_method_5_code
def yX7_find : MethodName := ⟨RX7, "find", "(I)I"⟩
abbrev cX7_well : ByteArray := prog_9_method_6_code
def yX7_well : MethodName := ⟨RX7, "well", "(I)I"⟩
abbrev cX7_isRow : ByteArray := prog_9_method_7_code
def yX7_isRow : MethodName := ⟨RX7, "isRow", "(I)Z"⟩
abbrev cX7_row : ByteArray := prog_9_method_8_code
def yX7_row : MethodName := ⟨RX7, "row", "(III)I"⟩
abbrev cX7_narrow : ByteArray := prog_9_method_9_code
def yX7_narrow : MethodName := ⟨RX7, "narrow", "(II)I"⟩
abbrev cX7_set : ByteArray := prog_9_method_10_code
def yX7_set : MethodName := ⟨RX7, "set", "(III)I"⟩
abbrev cX7_isSpan : ByteArray := prog_9_method_11_code
def yX7_isSpan : MethodName := ⟨RX7, "isSpan", "(III)Z"⟩
abbrev cX7_copy : ByteArray := prog_9_method_12_code
def yX7_copy : MethodName := ⟨RX7, "copy", "(IIIII)I"⟩
abbrev cX7_drop : ByteArray := prog_9_method_13_code
def yX7_drop : MethodName := ⟨RX7, "drop", "(I)I"⟩
abbrev cX7_feed : ByteArray := prog_9_method_14_code
def yX7_feed : MethodName := ⟨RX7, "feed", "(I)I"⟩
abbrev cX7_isLetter : ByteArray := prog_9_method_15_code
def yX7_isLetter : MethodName := ⟨RX7, "isLetter", "(I)Z"⟩
abbrev cX7_isFigure : ByteArray := prog_9_method_16_code
def yX7_isFigure : MethodName := ⟨RX7, "isFigure", "(I)Z"⟩
abbrev cX7_refuse : ByteArray := prog_9_method_17_code
def yX7_refuse : MethodName := ⟨RX7, "refuse", "(I)Z"⟩
abbrev cX7_sign : ByteArray := prog_9_method_18_code
def yX7_sign : MethodName := ⟨RX7, "sign", "(I)Z"⟩
abbrev cX7_readsNumber : ByteArray := prog_9_method_19_code
def yX7_readsNumber : MethodName := ⟨RX7, "readsNumber", "(II)Z"⟩
abbrev cX7_readsLaw : ByteArray := prog_9_method_20_code
def yX7_readsLaw : MethodName := ⟨RX7, "readsLaw", "()Z"⟩
abbrev cX7_readsChild : ByteArray := prog_9_method_21_code
def yX7_readsChild : MethodName := ⟨RX7, "readsChild", "()Z"⟩
abbrev cX7_kindOfLetter : ByteArray := prog_9_method_22_code
def yX7_kindOfLetter : MethodName := ⟨RX7, "kindOfLetter", "(I)I"⟩
abbrev cX7_readsGran : ByteArray := prog_9_method_23_code
def yX7_readsGran : MethodName := ⟨RX7, "readsGran", "()Z"⟩
abbrev cX7_isSort : ByteArray := prog_9_method_24_code
def yX7_isSort : MethodName := ⟨RX7, "isSort", "()Z"⟩
abbrev cX7_reads : ByteArray := prog_9_method_25_code
def yX7_reads : MethodName := ⟨RX7, "reads", "()Z"⟩
abbrev cX7_town : ByteArray := prog_9_method_26_code
def yX7_town : MethodName := ⟨RX7, "town", "()I"⟩
abbrev cX7_fault : ByteArray := prog_9_method_27_code
def yX7_fault : MethodName := ⟨RX7, "fault", "()I"⟩
abbrev cX7_copyTown : ByteArray := prog_9_method_28_code
def yX7_copyTown : MethodName := ⟨RX7, "copyTown", "(II)V"⟩
abbrev cX7_keepPast : ByteArray := prog_9_method_29_code
def yX7_keepPast : MethodName := ⟨RX7, "keepPast", "()V"⟩
abbrev cX7_undo : ByteArray := prog_9_method_30_code
def yX7_undo : MethodName := ⟨RX7, "undo", "()I"⟩
abbrev cX7_isChild : ByteArray := prog_9_method_31_code
def yX7_isChild : MethodName := ⟨RX7, "isChild", "(I)Z"⟩
abbrev cX7_isGran : ByteArray := prog_9_method_32_code
def yX7_isGran : MethodName := ⟨RX7, "isGran", "(I)Z"⟩
abbrev cX7_withOf : ByteArray := prog_9_method_33_code
def yX7_withOf : MethodName := ⟨RX7, "withOf", "(II)I"⟩
abbrev cX7_isLost : ByteArray := prog_9_method_34_code
def yX7_isLost : MethodName := ⟨RX7, "isLost", "(II)Z"⟩
abbrev cX7_feeds : ByteArray := prog_9_method_35_code
def yX7_feeds : MethodName := ⟨RX7, "feeds", "(III)V"⟩
abbrev cX7_spoils : ByteArray := prog_9_method_36_code
def yX7_spoils : MethodName := ⟨RX7, "spoils", "(III)V"⟩
abbrev cX7_brings : ByteArray := prog_9_method_37_code
def yX7_brings : MethodName := ⟨RX7, "brings", "(III)V"⟩
abbrev cX7_pass : ByteArray := prog_9_method_38_code
def yX7_pass : MethodName := ⟨RX7, "pass", "(I)V"⟩
abbrev cX7_days : ByteArray := prog_9_method_39_code
def yX7_days : MethodName := ⟨RX7, "days", "(I)I"⟩
abbrev cX7_put : ByteArray := prog_9_method_40_code
def yX7_put : MethodName := ⟨RX7, "put", "(II)I"⟩
abbrev cX7_sick : ByteArray := prog_9_method_41_code
def yX7_sick : MethodName := ⟨RX7, "sick", "(II)I"⟩
abbrev cX7_swap : ByteArray := prog_9_method_42_code
def yX7_swap : MethodName := ⟨RX7, "swap", "(II)I"⟩
abbrev cX7_pace : ByteArray := prog_9_method_43_code
def yX7_pace : MethodName := ⟨RX7, "pace", "(II)I"⟩
abbrev cX7_areTwo : ByteArray := prog_9_method_44_code
def yX7_areTwo : MethodName := ⟨RX7, "areTwo", "(II)Z"⟩
abbrev cX7_quarrel : ByteArray := prog_9_method_45_code
def yX7_quarrel : MethodName := ⟨RX7, "quarrel", "(III)I"⟩
abbrev cX7_spoil : ByteArray := prog_9_method_46_code
def yX7_spoil : MethodName := ⟨RX7, "spoil", "(II)I"⟩
abbrev cX7_gran : ByteArray := prog_9_method_47_code
def yX7_gran : MethodName := ⟨RX7, "gran", "(II)I"⟩
abbrev cX7_visitors : ByteArray := prog_9_method_48_code
def yX7_visitors : MethodName := ⟨RX7, "visitors", "(I)I"⟩
abbrev cX7_child : ByteArray := prog_9_method_49_code
def yX7_child : MethodName := ⟨RX7, "child", "(II)I"⟩
abbrev cX7_layTried : ByteArray := prog_9_method_50_code
def yX7_layTried : MethodName := ⟨RX7, "layTried", "(I)V"⟩
abbrev cX7_ahead : ByteArray := prog_9_method_51_code
def yX7_ahead : MethodName := ⟨RX7, "ahead", "(III)I"⟩
abbrev cX7_withWhom : ByteArray := prog_9_method_52_code
def yX7_withWhom : MethodName := ⟨RX7, "withWhom", "(II)I"⟩
abbrev cX7_wholeTried : ByteArray := prog_9_method_53_code
def yX7_wholeTried : MethodName := ⟨RX7, "wholeTried", "(I)I"⟩
abbrev cX7_whole : ByteArray := prog_9_method_54_code
def yX7_whole : MethodName := ⟨RX7, "whole", "(I)I"⟩
abbrev cX7_hungry : ByteArray := prog_9_method_55_code
def yX7_hungry : MethodName := ⟨RX7, "hungry", "(I)I"⟩
abbrev cX7_visitedTried : ByteArray := prog_9_method_56_code
def yX7_visitedTried : MethodName := ⟨RX7, "visitedTried", "(I)I"⟩
abbrev cX7_allChildren : ByteArray := prog_9_method_57_code
def yX7_allChildren : MethodName := ⟨RX7, "allChildren", "()I"⟩
abbrev cX7_without : ByteArray := prog_9_method_58_code
def yX7_without : MethodName := ⟨RX7, "without", "(I)I"⟩
abbrev cX7_nextFirsts : ByteArray := prog_9_method_59_code
def yX7_nextFirsts : MethodName := ⟨RX7, "nextFirsts", "()Z"⟩
abbrev cX7_changes : ByteArray := prog_9_method_60_code
def yX7_changes : MethodName := ⟨RX7, "changes", "()I"⟩
abbrev cX7_servesAll : ByteArray := prog_9_method_61_code
def yX7_servesAll : MethodName := ⟨RX7, "servesAll", "(II)Z"⟩
abbrev cX7_rota : ByteArray := prog_9_method_62_code
def yX7_rota : MethodName := ⟨RX7, "rota", "(III)I"⟩
abbrev cX7_meets : ByteArray := prog_9_method_63_code
def yX7_meets : MethodName := ⟨RX7, "meets", "(II)I"⟩
abbrev cX7_lost : ByteArray := prog_9_method_64_code
def yX7_lost : MethodName := ⟨RX7, "lost", "(I)I"⟩
abbrev cX7_isBetter : ByteArray := prog_9_method_65_code
def yX7_isBetter : MethodName := ⟨RX7, "isBetter", "(III)Z"⟩
abbrev cX7_swaps : ByteArray := prog_9_method_66_code
def yX7_swaps : MethodName := ⟨RX7, "swaps", "(II)I"⟩
abbrev cX7_soon : ByteArray := prog_9_method_67_code
def yX7_soon : MethodName := ⟨RX7, "soon", "(II)I"⟩
abbrev cX7_noItems : ByteArray := prog_9_method_68_code
def yX7_noItems : MethodName := ⟨RX7, "noItems", "(IIIII)I"⟩
abbrev cX7_isFedSo : ByteArray := prog_9_method_69_code
def yX7_isFedSo : MethodName := ⟨RX7, "isFedSo", "(IIIIII)Z"⟩
abbrev cX7_who : ByteArray := prog_9_method_70_code
def yX7_who : MethodName := ⟨RX7, "who", "(IIIII)I"⟩
abbrev cX7_firsts : ByteArray := prog_9_method_71_code
def yX7_firsts : MethodName := ⟨RX7, "firsts", "(IIIII)I"⟩
abbrev cX7_steps : ByteArray := prog_9_method_72_code
def yX7_steps : MethodName := ⟨RX7, "steps", "(IIIII)I"⟩
abbrev cX7_even : ByteArray := prog_9_method_73_code
def yX7_even : MethodName := ⟨RX7, "even", "(I)I"⟩
abbrev cX7_isVisited : ByteArray := prog_9_method_74_code
def yX7_isVisited : MethodName := ⟨RX7, "isVisited", "(I)Z"⟩
abbrev cX7_fever : ByteArray := prog_9_method_75_code
def yX7_fever : MethodName := ⟨RX7, "fever", "(III)J"⟩
abbrev cX7_sumOf : ByteArray := prog_9_method_76_code
def yX7_sumOf : MethodName := ⟨RX7, "sumOf", "(I)I"⟩
abbrev cX7_drawn : ByteArray := prog_9_method_77_code
def yX7_drawn : MethodName := ⟨RX7, "drawn", "(III)I"⟩
abbrev cX7_image : ByteArray := prog_9_method_78_code
def yX7_image : MethodName := ⟨RX7, "image", "(I)I"⟩
abbrev cX7_restore : ByteArray := prog_9_method_79_code
def yX7_restore : MethodName := ⟨RX7, "restore", "(I)I"⟩
abbrev cX7_kind : ByteArray := prog_9_method_80_code
def yX7_kind : MethodName := ⟨RX7, "kind", "(I)I"⟩
abbrev cX7_isOf : ByteArray := prog_9_method_81_code
def yX7_isOf : MethodName := ⟨RX7, "isOf", "(II)Z"⟩
abbrev cX7_as : ByteArray := prog_9_method_82_code
def yX7_as : MethodName := ⟨RX7, "as", "(II)I"⟩
abbrev cX7_begin : ByteArray := prog_9_method_83_code
def yX7_begin : MethodName := ⟨RX7, "begin", "(I)V"⟩
abbrev cX7_lentSize : ByteArray := prog_9_method_84_code
def yX7_lentSize : MethodName := ⟨RX7, "lentSize", "(I)I"⟩
abbrev cX7_soupsSize : ByteArray := prog_9_method_85_code
def yX7_soupsSize : MethodName := ⟨RX7, "soupsSize", "(I)I"⟩
abbrev cX7_sternSize : ByteArray := prog_9_method_86_code
def yX7_sternSize : MethodName := ⟨RX7, "sternSize", "(I)I"⟩
abbrev cX7_sizeOf : ByteArray := prog_9_method_87_code
def yX7_sizeOf : MethodName := ⟨RX7, "sizeOf", "(I)I"⟩
abbrev cX7_lentMark : ByteArray := prog_9_method_88_code
def yX7_lentMark : MethodName := ⟨RX7, "lentMark", "(I)I"⟩
abbrev cX7_soupsMark : ByteArray := prog_9_method_89_code
def yX7_soupsMark : MethodName := ⟨RX7, "soupsMark", "(I)I"⟩
abbrev cX7_mark : ByteArray := prog_9_method_90_code
def yX7_mark : MethodName := ⟨RX7, "mark", "(I)I"⟩
abbrev cX7_sternMark : ByteArray := prog_9_method_91_code
def yX7_sternMark : MethodName := ⟨RX7, "sternMark", "(I)I"⟩
abbrev cX7_ask : ByteArray := prog_9_method_92_code
def yX7_ask : MethodName := ⟨RX7, "ask", "(II)I"⟩
abbrev cX7_trace : ByteArray := prog_9_method_93_code
def yX7_trace : MethodName := ⟨RX7, "trace", "(I)I"⟩
abbrev cX7_count : ByteArray := prog_9_method_94_code
def yX7_count : MethodName := ⟨RX7, "count", "(I)I"⟩
abbrev cX7_status : ByteArray := prog_9_method_95_code
def yX7_status : MethodName := ⟨RX7, "status", "()I"⟩
def RJ6 : String := "java/lang/Integer"
def TJ6 : u_T := fun k => match k with
  | _ => ("", "", "", false)
def tyJ6 : Nat → FieldType := fun k => match k with
  | _ => .int
abbrev cJ6_bitCount_0f7a4 : ByteArray := prog_10_method_49_code
def yJ6_bitCount_0f7a4 : MethodName := ⟨RJ6, "bitCount", "(I)I"⟩
def RJ9 : String := "java/lang/Math"
def TJ9 : u_T := fun k => match k with
  | _ => ("", "", "", false)
def tyJ9 : Nat → FieldType := fun k => match k with
  | _ => .int
abbrev cJ9_max_7cf53 : ByteArray := prog_11_method_65_code
def yJ9_max_7cf53 : MethodName := ⟨RJ9, "max", "(II)I"⟩
abbrev cJ9_max_f86c9 : ByteArray := prog_11_method_66_code
def yJ9_max_f86c9 : MethodName := ⟨RJ9, "max", "(JJ)J"⟩
abbrev cJ9_min_7cf53 : ByteArray := prog_11_method_69_code
def yJ9_min_7cf53 : MethodName := ⟨RJ9, "min", "(II)I"⟩
def RJ10 : String := "java/lang/System"
def TJ10 : u_T := fun k => match k with
  | _ => ("", "", "", false)
def tyJ10 : Nat → FieldType := fun k => match k with
  | _ => .int
def RL : String := "LentGranniesLaw"
abbrev cL_law : ByteArray := code
def yL_law : MethodName := ⟨RL, "law", "([I)Z"⟩
abbrev vwCl : List vw_C := [(RX0, TX0, 3), (RX1, TX1, 6), (RX2, TX2, 6), (RX3, TX3, 6), (RX4, TX4, 3), (RX5, TX5, 16), (RX6, TX6, 13), (RX7, TX7, 19)]
def va_AOA (t : FieldType) (U : State) : Prop := (Cond.arrayOver (.array t)).before #[] U = true
theorem va_AOA.of {t : FieldType} {A : Array Value} {U : State} (h : (Cond.arrayOver (.array t)).before A U = true) : va_AOA t U := h
theorem va_AOA.use {t : FieldType} {A : Array Value} {U : State} (h : va_AOA t U) : (Cond.arrayOver (.array t)).before A U = true := h
/-- f, but v at every address of l -/
def vr_up {α : Type} (f : Nat → α) (l : List Nat) (v : α) : Nat → α := fun a => if a ∈ l then v else f a
theorem vr_up_in {α : Type} {f : Nat → α} {l : List Nat} {v : α} {a : Nat} (h : a ∈ l) : vr_up f l v a = v := if_pos h
theorem vr_up_ne {α : Type} {f : Nat → α} {l : List Nat} {v : α} {a : Nat} (h : a ∉ l) : vr_up f l v a = f a := if_neg h
theorem vr_rows {L l : List Nat} {f : Nat → va_E} {e : va_E} (h : ∀ a, a ∈ l → a ∉ L) : va_pl L f ++ l.map (fun a => (a, e)) = va_pl (L ++ l) (vr_up f l e) := by
  unfold va_pl
  rw [List.map_append]
  congr 1
  · apply List.map_congr_left
    intro a ha
    rw [vr_up_ne (fun q => h a q ha)]
  · apply List.map_congr_left
    intro a ha
    rw [vr_up_in ha]
theorem vr_lay {X rows : va_W} {x : Nat × va_E} {pl : va_W} {D : va_G} {cl : List vw_C} {H : Heap} (hP : va_P D cl (((X ++ pl) ++ [x]) ++ rows) H) : va_P D cl ((X ++ [x]) ++ (pl ++ rows)) H := by
  rw [List.append_assoc (X ++ pl)] at hP
  have h := va_P.swap hP
  rw [← List.append_assoc X] at h
  have h2 := va_P.swap h
  rw [List.append_assoc (X ++ [x])] at h2
  exact h2
theorem vr_layD {X rows : va_W} {x : Nat × va_E} {pl : va_W} {A : Nat → Prop} (hD : va_D A (((X ++ pl) ++ [x]) ++ rows)) : va_D A ((X ++ [x]) ++ (pl ++ rows)) := by
  rw [List.append_assoc (X ++ pl)] at hD
  have h := va_D.swap hD
  rw [← List.append_assoc X] at h
  have h2 := va_D.swap h
  rw [List.append_assoc (X ++ [x])] at h2
  exact h2
theorem vr_outer (c : ClassId) (N h0 : Nat) : ∀ i : Nat, Jvm.Free.Multi.outerC c N h0 i = arrV c N (fun j => va_rf (if j < i then some (h0 + 1 + j) else none))
  | 0 => by
    show ({ cls := c, slots := Array.replicate N .null, vm := .none } : Cell) = _
    rw [arrV_new]
    refine congrArg (arrV c N) (funext fun j => ?_)
    simp [va_rf]
  | i + 1 => by
    show (Jvm.Free.Multi.outerC c N h0 i).setSlot i (.ref (h0 + 1 + i)) = _
    rw [vr_outer c N h0 i, arrV_store]
    refine congrArg (arrV c N) (funext fun j => ?_)
    by_cases e : j = i
    · subst e
      simp [updV, va_rf]
    · by_cases h : j < i
      · simp [updV, e, h, Nat.lt_succ_of_lt h]
      · simp [updV, e, h, show ¬ j < i + 1 by omega]
section VGM
variable {p : Program} {l : Launch} {e : Env} {R : Room} {s : State} {m : MethodId} {args : Array Value} {below : List Frame} {meth : Method} {c : Code} {H : Heap} {locs : List Loc} {cells slots : Nat} {Q : State → Prop}
variable {cc : ByteArray} {pc : Nat} {ls : Array Slot} {rest : List Value} {D : va_G} {cl : List vw_C} {A : Nat → Prop} {a : Nat} {tys : List (ClassId × FieldType)} {ws : va_W} {H0 : Heap}
theorem va_mna {X : va_W} {L : List Nat} {f : Nat → va_E} {cc : ByteArray} (hexec : p.tables.exec = Jvm.exec) (hb : c.code = cc) {own : String} {index : Nat} {ty : FieldType} {cy : ClassId} (hown : s.vm.findClass own = some m.cls) (hclink : (Cond.classLink own index ("[" ++ (FieldType.array ty).toString)).before args s = true) (hover : va_AOA ty s) (harr : (Cond.arrayClass ty).before args s = true) (hcy : s.vm.findClass (FieldType.array ty).toString = some cy)
    (hK : va_K D cl tys s) (hP : va_P D cl (X ++ va_pl L f) H) (hD : va_D A (X ++ va_pl L f)) (hS : va_S A H0 H locs) (hA : ∀ q, H0.size ≤ q → A q) {n k : Int32} {N' K' : Nat} {z : vp_A} (hn : ¬ n < 0) (hk : ¬ k < 0) (hN : n.toNatClampNeg = N') (hM : k.toNatClampNeg = K')
    (hb1 : N' * 4 ≤ 536870912) (hb2 : K' * componentBytes ty ≤ 536870912) (hb3 : K' ≤ 536870912) (hdf : fits ty (defaultValue ty) = true) (hdd : (defaultValue ty).isDefault = true) (hcells : cells + (1 + N') ≤ R.cells) (hslots : slots + (N' + N' * K') ≤ R.slots) (hz : ∀ c : ClassId, Jvm.Free.Multi.innerC c K' (defaultValue ty) = vp_cell c z) (hdg : decode cc pc = .ok (.multianewarray index 2, 4))
    (kk : ∀ (q : Nat) (r : Nat → Nat) (cA : ClassId) (H1 : Heap), (∀ i j : Nat, i < N' → j < N' → r i = r j → i = j) → (∀ i : Nat, i < N' → r i ∉ L) → va_K D cl (tys ++ [(cA, .array ty)]) s →
      va_P D cl ((X ++ [(q, .inl (cA, N', .inr (.inr (.inr (.inr (fun i => if i < N' then some (r i) else none))))))]) ++ va_pl (L ++ (List.range N').map r) (vr_up f ((List.range N').map r) (.inl (cy, z)))) H1 → va_D A ((X ++ [(q, .inl (cA, N', .inr (.inr (.inr (.inr (fun i => if i < N' then some (r i) else none))))))]) ++ va_pl (L ++ (List.range N').map r) (vr_up f ((List.range N').map r) (.inl (cy, z)))) → va_S A H0 H1 locs →
      W p l e R s m args below meth c H1 locs (cells + 1 + N') (slots + N' + N' * K') Q (F0 m (pc + 4) ls (.ref q :: rest))) : W p l e R s m args below meth c H locs cells slots Q (F0 m pc ls (.int k :: .int n :: rest)) := by
  subst hN
  subst hM
  intro T hT Xs
  obtain ⟨vm₁, cA, comp, -, fA, fC, hO, -, X', step⟩ := Xs.multianewarray2F hexec hown hclink (va_AOA.use hover) harr (g := F0 m pc ls (.int k :: .int n :: rest)) rfl (by rw [hb]; exact hdg) rfl hn hk hb1 hb2 hb3 hdf hdd hcells hslots
  have ec : some cy = some comp := hcy.symm.trans fC
  cases ec
  generalize hF : Jvm.Free.Multi.fill (T.setVm vm₁) cA cy n.toNatClampNeg k.toNatClampNeg (defaultValue ty) n.toNatClampNeg = F at X' step
  have hTh : (T.setVm vm₁).heap = H := hT
  obtain ⟨f1, f2, -, -⟩ := Jvm.Free.Multi.fill_facts (T.setVm vm₁) cA cy n.toNatClampNeg k.toNatClampNeg (defaultValue ty) n.toNatClampNeg
  rw [hF, hTh] at f1 f2
  have hold : ∀ x : Nat, x < H.size → F.heap[x]? = H[x]? := fun x hx => by
    have := Jvm.Free.Multi.fill_old (T.setVm vm₁) cA cy n.toNatClampNeg k.toNatClampNeg (defaultValue ty) (a := x) (by rw [hTh]; exact hx) n.toNatClampNeg
    rw [hF, hTh] at this
    exact this
  have hrow : ∀ j : Nat, j < n.toNatClampNeg → F.heap[H.size + 1 + j]? = some (vp_cell cy z) := fun j hj => by
    have := Jvm.Free.Multi.fill_inner (T.setVm vm₁) cA cy n.toNatClampNeg k.toNatClampNeg (defaultValue ty) n.toNatClampNeg j hj
    rw [hF, hTh, hz] at this
    exact this
  have hout : Jvm.Free.Multi.outerC cA n.toNatClampNeg H.size n.toNatClampNeg = vp_cell cA (n.toNatClampNeg, .inr (.inr (.inr (.inr (fun i => if i < n.toNatClampNeg then some (H.size + 1 + i) else none))))) := by
    rw [vp_cell_q]
    exact vr_outer cA n.toNatClampNeg H.size n.toNatClampNeg
  rw [hout] at f2
  have hlt : ∀ a, a ∈ L → a < H.size := fun a ha => by
    obtain ⟨k9, hk9⟩ := va_pl_get (X := X) (f := f) ha
    exact (hP k9 _ hk9).lt
  have hnl : ∀ i : Nat, i < n.toNatClampNeg → H.size + 1 + i ∉ L := fun i _ h => by
    have := hlt _ h
    omega
  have hnm : ∀ a, a ∈ (List.range n.toNatClampNeg).map (fun i => H.size + 1 + i) → a ∉ L := fun a ha h => by
    obtain ⟨i, -, rfl⟩ := List.mem_map.mp ha
    have := hlt _ h
    omega
  have hP0 : va_P D cl (X ++ va_pl L f) F.heap := hP.kept (fun k9 x hx => hold x.1 ((hP k9 x hx).lt))
  have hP1 : va_P D cl ((X ++ va_pl L f) ++ [(H.size, .inl (cA, n.toNatClampNeg, .inr (.inr (.inr (.inr (fun i => if i < n.toNatClampNeg then some (H.size + 1 + i) else none))))))]) F.heap := hP0.app (fun k9 x hx => by
    have h0 : k9 < 1 := (List.getElem?_eq_some_iff.mp hx).1
    rw [show k9 = 0 by omega] at hx
    cases hx
    exact f2)
  have hP2 : va_P D cl (((X ++ va_pl L f) ++ [(H.size, .inl (cA, n.toNatClampNeg, .inr (.inr (.inr (.inr (fun i => if i < n.toNatClampNeg then some (H.size + 1 + i) else none))))))]) ++ ((List.range n.toNatClampNeg).map (fun i => H.size + 1 + i)).map (fun a => (a, .inl (cy, z)))) F.heap := hP1.app (fun k9 x hx => by
    obtain ⟨a, ha, rfl⟩ := List.mem_map.mp (List.mem_of_getElem? hx)
    obtain ⟨i, hi, rfl⟩ := List.mem_map.mp ha
    exact hrow i (List.mem_range.mp hi))
  have hD2 : va_D A (((X ++ va_pl L f) ++ [(H.size, .inl (cA, n.toNatClampNeg, .inr (.inr (.inr (.inr (fun i => if i < n.toNatClampNeg then some (H.size + 1 + i) else none))))))]) ++ ((List.range n.toNatClampNeg).map (fun i => H.size + 1 + i)).map (fun a => (a, .inl (cy, z)))) := by
    have hD1 := hD.push (e := .inl (cA, n.toNatClampNeg, .inr (.inr (.inr (.inr (fun i => if i < n.toNatClampNeg then some (H.size + 1 + i) else none)))))) hP rfl (hA _ hS.1)
    generalize hW1 : (X ++ va_pl L f) ++ [(H.size, .inl (cA, n.toNatClampNeg, .inr (.inr (.inr (.inr (fun i => if i < n.toNatClampNeg then some (H.size + 1 + i) else none))))))] = W1 at hD1 hP1 ⊢
    have hle : ∀ (k9 : Nat) (x : Nat × va_E), W1[k9]? = some x → x.1 ≤ H.size := fun k9 x hx => by
      rw [← hW1] at hx
      by_cases hl : k9 < (X ++ va_pl L f).length
      · rw [List.getElem?_append_left hl] at hx
        exact Nat.le_of_lt ((hP k9 x hx).lt)
      · rw [List.getElem?_append_right (by omega)] at hx
        have h0 : k9 - (X ++ va_pl L f).length < 1 := (List.getElem?_eq_some_iff.mp hx).1
        rw [show k9 - (X ++ va_pl L f).length = 0 by omega] at hx
        cases hx
        exact Nat.le_refl _
    have hr : ∀ (k9 : Nat) (x : Nat × va_E), (((List.range n.toNatClampNeg).map (fun i => H.size + 1 + i)).map (fun a => ((a, .inl (cy, z)) : Nat × va_E)))[k9]? = some x → x.1 = H.size + 1 + k9 := fun k9 x hx => by
      rw [List.getElem?_map, List.getElem?_map] at hx
      by_cases h9 : k9 < n.toNatClampNeg
      · rw [List.getElem?_range h9] at hx
        cases hx
        rfl
      · have hn0 : (List.range n.toNatClampNeg)[k9]? = none := List.getElem?_eq_none (by rw [List.length_range]; omega)
        rw [hn0] at hx
        cases hx
    refine ⟨fun i j x y hi hj hxy => ?_, fun k9 x hx => ?_⟩
    · by_cases h1 : i < W1.length <;> by_cases h2 : j < W1.length
      · rw [List.getElem?_append_left h1] at hi
        rw [List.getElem?_append_left h2] at hj
        exact hD1.1 i j x y hi hj hxy
      · rw [List.getElem?_append_left h1] at hi
        rw [List.getElem?_append_right (by omega)] at hj
        have := hle _ _ hi
        have := hr _ _ hj
        omega
      · rw [List.getElem?_append_right (by omega)] at hi
        rw [List.getElem?_append_left h2] at hj
        have := hle _ _ hj
        have := hr _ _ hi
        omega
      · rw [List.getElem?_append_right (by omega)] at hi hj
        have := hr _ _ hi
        have := hr _ _ hj
        omega
    · by_cases h1 : k9 < W1.length
      · rw [List.getElem?_append_left h1] at hx
        exact hD1.2 k9 x hx
      · rw [List.getElem?_append_right (by omega)] at hx
        have := hr _ _ hx
        exact hA _ (by have := hS.1; omega)
  have hAr : ArrOfT s cA (.array ty) := fun N9 z9 => by
    obtain ⟨-, k9, hk9, cm9, hkk9⟩ := (hO 0 0 0).1
    exact ⟨(fun q hq => by cases hq), k9, hk9, cm9, hkk9⟩
  have hK2 : va_K D cl (tys ++ [(cA, .array ty)]) s := ⟨hK.1, fun k9 x hx => by
    by_cases hl : k9 < tys.length
    · rw [List.getElem?_append_left hl] at hx
      exact hK.2 k9 x hx
    · rw [List.getElem?_append_right (by omega)] at hx
      have h0 : k9 - tys.length < 1 := (List.getElem?_eq_some_iff.mp hx).1
      rw [show k9 - tys.length = 0 by omega] at hx
      cases hx
      exact ⟨hAr, fA⟩⟩
  obtain ⟨t, a1, b1⟩ := kk H.size (fun i => H.size + 1 + i) cA F.heap (fun i j _ _ h => by have h9 : H.size + 1 + i = H.size + 1 + j := h; omega) hnl hK2 (by rw [← vr_rows hnm]; exact vr_lay hP2) (by rw [← vr_rows hnm]; exact vr_layD hD2) ⟨by rw [f1]; have := hS.1; omega, fun x h1 h2 => (hold x (Nat.lt_of_lt_of_le h1 hS.1)).trans (hS.2.1 x h1 h2), hS.2.2⟩ F rfl X'
  refine ⟨t, step t ?_, b1⟩
  have e : T.heap.size = H.size := by rw [hT]
  rw [e]
  exact a1
end VGM
end
section
theorem dX0_init_0 : decode cX0_init 0 = .ok (.aload_n 0, 1) := by decide +kernel
theorem dX0_init_1 : decode cX0_init 1 = .ok (.invokespecial 3, 3) := by decide +kernel
theorem dX0_init_4 : decode cX0_init 4 = .ok (.aload_n 0, 1) := by decide +kernel
theorem dX0_init_5 : decode cX0_init 5 = .ok (.bipush 24, 2) := by decide +kernel
theorem dX0_init_7 : decode cX0_init 7 = .ok (.bipush 56, 2) := by decide +kernel
theorem dX0_init_9 : decode cX0_init 9 = .ok (.multianewarray 11 2, 4) := by decide +kernel
theorem dX0_init_13 : decode cX0_init 13 = .ok (.putfield 13, 3) := by decide +kernel
theorem dX0_init_16 : decode cX0_init 16 = .ok (.return_, 1) := by decide +kernel
theorem dX0_forget_0 : decode cX0_forget 0 = .ok (.aload_n 0, 1) := by decide +kernel
theorem dX0_forget_1 : decode cX0_forget 1 = .ok (.iconst 0, 1) := by decide +kernel
theorem dX0_forget_2 : decode cX0_forget 2 = .ok (.putfield 18, 3) := by decide +kernel
theorem dX0_forget_5 : decode cX0_forget 5 = .ok (.return_, 1) := by decide +kernel
theorem dX0_keep_0 : decode cX0_keep 0 = .ok (.aload_n 1, 1) := by decide +kernel
theorem dX0_keep_1 : decode cX0_keep 1 = .ok (.aload_n 0, 1) := by decide +kernel
theorem dX0_keep_2 : decode cX0_keep 2 = .ok (.getfield 13, 3) := by decide +kernel
theorem dX0_keep_5 : decode cX0_keep 5 = .ok (.aload_n 0, 1) := by decide +kernel
theorem dX0_keep_6 : decode cX0_keep 6 = .ok (.getfield 22, 3) := by decide +kernel
theorem dX0_keep_9 : decode cX0_keep 9 = .ok (.aload_n 0, 1) := by decide +kernel
theorem dX0_keep_10 : decode cX0_keep 10 = .ok (.getfield 18, 3) := by decide +kernel
theorem dX0_keep_13 : decode cX0_keep 13 = .ok (.iadd, 1) := by decide +kernel
theorem dX0_keep_14 : decode cX0_keep 14 = .ok (.bipush 24, 2) := by decide +kernel
theorem dX0_keep_16 : decode cX0_keep 16 = .ok (.irem, 1) := by decide +kernel
theorem dX0_keep_17 : decode cX0_keep 17 = .ok (.aaload, 1) := by decide +kernel
theorem dX0_keep_18 : decode cX0_keep 18 = .ok (.invokevirtual 25, 3) := by decide +kernel
theorem dX0_keep_21 : decode cX0_keep 21 = .ok (.aload_n 0, 1) := by decide +kernel
theorem dX0_keep_22 : decode cX0_keep 22 = .ok (.getfield 18, 3) := by decide +kernel
theorem dX0_keep_25 : decode cX0_keep 25 = .ok (.bipush 24, 2) := by decide +kernel
theorem dX0_keep_27 : decode cX0_keep 27 = .ok (.if_icmp .ge 16, 3) := by decide +kernel
theorem dX0_keep_30 : decode cX0_keep 30 = .ok (.aload_n 0, 1) := by decide +kernel
theorem dX0_keep_31 : decode cX0_keep 31 = .ok (.dup, 1) := by decide +kernel
theorem dX0_keep_32 : decode cX0_keep 32 = .ok (.getfield 18, 3) := by decide +kernel
theorem dX0_keep_35 : decode cX0_keep 35 = .ok (.iconst 1, 1) := by decide +kernel
theorem dX0_keep_36 : decode cX0_keep 36 = .ok (.iadd, 1) := by decide +kernel
theorem dX0_keep_37 : decode cX0_keep 37 = .ok (.putfield 18, 3) := by decide +kernel
theorem dX0_keep_40 : decode cX0_keep 40 = .ok (.goto 16, 3) := by decide +kernel
theorem dX0_keep_43 : decode cX0_keep 43 = .ok (.aload_n 0, 1) := by decide +kernel
theorem dX0_keep_44 : decode cX0_keep 44 = .ok (.aload_n 0, 1) := by decide +kernel
theorem dX0_keep_45 : decode cX0_keep 45 = .ok (.getfield 22, 3) := by decide +kernel
theorem dX0_keep_48 : decode cX0_keep 48 = .ok (.iconst 1, 1) := by decide +kernel
theorem dX0_keep_49 : decode cX0_keep 49 = .ok (.iadd, 1) := by decide +kernel
theorem dX0_keep_50 : decode cX0_keep 50 = .ok (.bipush 24, 2) := by decide +kernel
theorem dX0_keep_52 : decode cX0_keep 52 = .ok (.irem, 1) := by decide +kernel
theorem dX0_keep_53 : decode cX0_keep 53 = .ok (.putfield 22, 3) := by decide +kernel
theorem dX0_keep_56 : decode cX0_keep 56 = .ok (.return_, 1) := by decide +kernel
theorem dX0_takeBack_0 : decode cX0_takeBack 0 = .ok (.aload_n 0, 1) := by decide +kernel
theorem dX0_takeBack_1 : decode cX0_takeBack 1 = .ok (.getfield 18, 3) := by decide +kernel
theorem dX0_takeBack_4 : decode cX0_takeBack 4 = .ok (.ifCond .ne 5, 3) := by decide +kernel
theorem dX0_takeBack_7 : decode cX0_takeBack 7 = .ok (.iconst 0, 1) := by decide +kernel
theorem dX0_takeBack_8 : decode cX0_takeBack 8 = .ok (.ireturn, 1) := by decide +kernel
theorem dX0_takeBack_9 : decode cX0_takeBack 9 = .ok (.aload_n 0, 1) := by decide +kernel
theorem dX0_takeBack_10 : decode cX0_takeBack 10 = .ok (.dup, 1) := by decide +kernel
theorem dX0_takeBack_11 : decode cX0_takeBack 11 = .ok (.getfield 18, 3) := by decide +kernel
theorem dX0_takeBack_14 : decode cX0_takeBack 14 = .ok (.iconst 1, 1) := by decide +kernel
theorem dX0_takeBack_15 : decode cX0_takeBack 15 = .ok (.isub, 1) := by decide +kernel
theorem dX0_takeBack_16 : decode cX0_takeBack 16 = .ok (.putfield 18, 3) := by decide +kernel
theorem dX0_takeBack_19 : decode cX0_takeBack 19 = .ok (.aload_n 1, 1) := by decide +kernel
theorem dX0_takeBack_20 : decode cX0_takeBack 20 = .ok (.aload_n 0, 1) := by decide +kernel
theorem dX0_takeBack_21 : decode cX0_takeBack 21 = .ok (.getfield 13, 3) := by decide +kernel
theorem dX0_takeBack_24 : decode cX0_takeBack 24 = .ok (.aload_n 0, 1) := by decide +kernel
theorem dX0_takeBack_25 : decode cX0_takeBack 25 = .ok (.getfield 22, 3) := by decide +kernel
theorem dX0_takeBack_28 : decode cX0_takeBack 28 = .ok (.aload_n 0, 1) := by decide +kernel
theorem dX0_takeBack_29 : decode cX0_takeBack 29 = .ok (.getfield 18, 3) := by decide +kernel
theorem dX0_takeBack_32 : decode cX0_takeBack 32 = .ok (.iadd, 1) := by decide +kernel
theorem dX0_takeBack_33 : decode cX0_takeBack 33 = .ok (.bipush 24, 2) := by decide +kernel
theorem dX0_takeBack_35 : decode cX0_takeBack 35 = .ok (.irem, 1) := by decide +kernel
theorem dX0_takeBack_36 : decode cX0_takeBack 36 = .ok (.aaload, 1) := by decide +kernel
theorem dX0_takeBack_37 : decode cX0_takeBack 37 = .ok (.invokevirtual 29, 3) := by decide +kernel
theorem dX0_takeBack_40 : decode cX0_takeBack 40 = .ok (.iconst 1, 1) := by decide +kernel
theorem dX0_takeBack_41 : decode cX0_takeBack 41 = .ok (.ireturn, 1) := by decide +kernel
theorem dX1_init_0 : decode cX1_init 0 = .ok (.aload_n 0, 1) := by decide +kernel
theorem dX1_init_1 : decode cX1_init 1 = .ok (.invokespecial 3, 3) := by decide +kernel
theorem dX1_init_4 : decode cX1_init 4 = .ok (.aload_n 0, 1) := by decide +kernel
theorem dX1_init_5 : decode cX1_init 5 = .ok (.bipush 16, 2) := by decide +kernel
theorem dX1_init_7 : decode cX1_init 7 = .ok (.newarray .int, 2) := by decide +kernel
theorem dX1_init_9 : decode cX1_init 9 = .ok (.putfield 9, 3) := by decide +kernel
theorem dX1_init_12 : decode cX1_init 12 = .ok (.return_, 1) := by decide +kernel
theorem dX1_turnTo_0 : decode cX1_turnTo 0 = .ok (.aload_n 0, 1) := by decide +kernel
theorem dX1_turnTo_1 : decode cX1_turnTo 1 = .ok (.iconst 0, 1) := by decide +kernel
theorem dX1_turnTo_2 : decode cX1_turnTo 2 = .ok (.putfield 15, 3) := by decide +kernel
theorem dX1_turnTo_5 : decode cX1_turnTo 5 = .ok (.aload_n 0, 1) := by decide +kernel
theorem dX1_turnTo_6 : decode cX1_turnTo 6 = .ok (.iload_n 1, 1) := by decide +kernel
theorem dX1_turnTo_7 : decode cX1_turnTo 7 = .ok (.putfield 19, 3) := by decide +kernel
theorem dX1_turnTo_10 : decode cX1_turnTo 10 = .ok (.aload_n 0, 1) := by decide +kernel
theorem dX1_turnTo_11 : decode cX1_turnTo 11 = .ok (.aload_n 2, 1) := by decide +kernel
theorem dX1_turnTo_12 : decode cX1_turnTo 12 = .ok (.getfield 22, 3) := by decide +kernel
theorem dX1_turnTo_15 : decode cX1_turnTo 15 = .ok (.iload_n 1, 1) := by decide +kernel
theorem dX1_turnTo_16 : decode cX1_turnTo 16 = .ok (.iaload, 1) := by decide +kernel
theorem dX1_turnTo_17 : decode cX1_turnTo 17 = .ok (.putfield 27, 3) := by decide +kernel
theorem dX1_turnTo_20 : decode cX1_turnTo 20 = .ok (.aload_n 0, 1) := by decide +kernel
theorem dX1_turnTo_21 : decode cX1_turnTo 21 = .ok (.aload_n 2, 1) := by decide +kernel
theorem dX1_turnTo_22 : decode cX1_turnTo 22 = .ok (.getfield 30, 3) := by decide +kernel
theorem dX1_turnTo_25 : decode cX1_turnTo 25 = .ok (.iload_n 1, 1) := by decide +kernel
theorem dX1_turnTo_26 : decode cX1_turnTo 26 = .ok (.iaload, 1) := by decide +kernel
theorem dX1_turnTo_27 : decode cX1_turnTo 27 = .ok (.putfield 33, 3) := by decide +kernel
theorem dX1_turnTo_30 : decode cX1_turnTo 30 = .ok (.aload_n 0, 1) := by decide +kernel
theorem dX1_turnTo_31 : decode cX1_turnTo 31 = .ok (.aload_n 2, 1) := by decide +kernel
theorem dX1_turnTo_32 : decode cX1_turnTo 32 = .ok (.getfield 35, 3) := by decide +kernel
theorem dX1_turnTo_35 : decode cX1_turnTo 35 = .ok (.iload_n 1, 1) := by decide +kernel
theorem dX1_turnTo_36 : decode cX1_turnTo 36 = .ok (.iaload, 1) := by decide +kernel
theorem dX1_turnTo_37 : decode cX1_turnTo 37 = .ok (.putfield 38, 3) := by decide +kernel
theorem dX1_turnTo_40 : decode cX1_turnTo 40 = .ok (.return_, 1) := by decide +kernel
theorem dX1_sizeAsked_0 : decode cX1_sizeAsked 0 = .ok (.aload_n 0, 1) := by decide +kernel
theorem dX1_sizeAsked_1 : decode cX1_sizeAsked 1 = .ok (.getfield 27, 3) := by decide +kernel
theorem dX1_sizeAsked_4 : decode cX1_sizeAsked 4 = .ok (.iconst 2, 1) := by decide +kernel
theorem dX1_sizeAsked_5 : decode cX1_sizeAsked 5 = .ok (.if_icmp .ne 15, 3) := by decide +kernel
theorem dX1_sizeAsked_8 : decode cX1_sizeAsked 8 = .ok (.aload_n 0, 1) := by decide +kernel
theorem dX1_sizeAsked_9 : decode cX1_sizeAsked 9 = .ok (.bipush 12, 2) := by decide +kernel
theorem dX1_sizeAsked_11 : decode cX1_sizeAsked 11 = .ok (.invokevirtual 40, 3) := by decide +kernel
theorem dX1_sizeAsked_14 : decode cX1_sizeAsked 14 = .ok (.aload_n 0, 1) := by decide +kernel
theorem dX1_sizeAsked_15 : decode cX1_sizeAsked 15 = .ok (.invokevirtual 44, 3) := by decide +kernel
theorem dX1_sizeAsked_18 : decode cX1_sizeAsked 18 = .ok (.ineg, 1) := by decide +kernel
theorem dX1_sizeAsked_19 : decode cX1_sizeAsked 19 = .ok (.ireturn, 1) := by decide +kernel
theorem dX1_sizeAsked_20 : decode cX1_sizeAsked 20 = .ok (.aload_n 0, 1) := by decide +kernel
theorem dX1_sizeAsked_21 : decode cX1_sizeAsked 21 = .ok (.getfield 27, 3) := by decide +kernel
theorem dX1_sizeAsked_24 : decode cX1_sizeAsked 24 = .ok (.iconst 1, 1) := by decide +kernel
theorem dX1_sizeAsked_25 : decode cX1_sizeAsked 25 = .ok (.invokestatic 48, 3) := by decide +kernel
theorem dX1_sizeAsked_28 : decode cX1_sizeAsked 28 = .ok (.ifCond .eq 10, 3) := by decide +kernel
theorem dX1_sizeAsked_31 : decode cX1_sizeAsked 31 = .ok (.aload_n 0, 1) := by decide +kernel
theorem dX1_sizeAsked_32 : decode cX1_sizeAsked 32 = .ok (.invokevirtual 44, 3) := by decide +kernel
theorem dX1_sizeAsked_35 : decode cX1_sizeAsked 35 = .ok (.goto 7, 3) := by decide +kernel
theorem dX1_sizeAsked_38 : decode cX1_sizeAsked 38 = .ok (.aload_n 0, 1) := by decide +kernel
theorem dX1_sizeAsked_39 : decode cX1_sizeAsked 39 = .ok (.invokevirtual 52, 3) := by decide +kernel
theorem dX1_sizeAsked_42 : decode cX1_sizeAsked 42 = .ok (.ireturn, 1) := by decide +kernel
theorem dX1_markAsked_0 : decode cX1_markAsked 0 = .ok (.aload_n 0, 1) := by decide +kernel
theorem dX1_markAsked_1 : decode cX1_markAsked 1 = .ok (.getfield 27, 3) := by decide +kernel
theorem dX1_markAsked_4 : decode cX1_markAsked 4 = .ok (.iconst 1, 1) := by decide +kernel
theorem dX1_markAsked_5 : decode cX1_markAsked 5 = .ok (.invokestatic 48, 3) := by decide +kernel
theorem dX1_markAsked_8 : decode cX1_markAsked 8 = .ok (.ifCond .eq 10, 3) := by decide +kernel
theorem dX1_markAsked_11 : decode cX1_markAsked 11 = .ok (.aload_n 0, 1) := by decide +kernel
theorem dX1_markAsked_12 : decode cX1_markAsked 12 = .ok (.invokevirtual 55, 3) := by decide +kernel
theorem dX1_markAsked_15 : decode cX1_markAsked 15 = .ok (.goto 7, 3) := by decide +kernel
theorem dX1_markAsked_18 : decode cX1_markAsked 18 = .ok (.aload_n 0, 1) := by decide +kernel
theorem dX1_markAsked_19 : decode cX1_markAsked 19 = .ok (.invokevirtual 58, 3) := by decide +kernel
theorem dX1_markAsked_22 : decode cX1_markAsked 22 = .ok (.ireturn, 1) := by decide +kernel
theorem dX1_sizeOfSoup_0 : decode cX1_sizeOfSoup 0 = .ok (.aload_n 0, 1) := by decide +kernel
theorem dX1_sizeOfSoup_1 : decode cX1_sizeOfSoup 1 = .ok (.bipush 11, 2) := by decide +kernel
theorem dX1_sizeOfSoup_3 : decode cX1_sizeOfSoup 3 = .ok (.invokevirtual 40, 3) := by decide +kernel
theorem dX1_sizeOfSoup_6 : decode cX1_sizeOfSoup 6 = .ok (.aload_n 0, 1) := by decide +kernel
theorem dX1_sizeOfSoup_7 : decode cX1_sizeOfSoup 7 = .ok (.invokevirtual 61, 3) := by decide +kernel
theorem dX1_sizeOfSoup_10 : decode cX1_sizeOfSoup 10 = .ok (.aload_n 0, 1) := by decide +kernel
theorem dX1_sizeOfSoup_11 : decode cX1_sizeOfSoup 11 = .ok (.invokevirtual 55, 3) := by decide +kernel
theorem dX1_sizeOfSoup_14 : decode cX1_sizeOfSoup 14 = .ok (.iadd, 1) := by decide +kernel
theorem dX1_sizeOfSoup_15 : decode cX1_sizeOfSoup 15 = .ok (.ireturn, 1) := by decide +kernel
theorem dX1_sizeOfStern_0 : decode cX1_sizeOfStern 0 = .ok (.aload_n 0, 1) := by decide +kernel
theorem dX1_sizeOfStern_1 : decode cX1_sizeOfStern 1 = .ok (.getfield 27, 3) := by decide +kernel
theorem dX1_sizeOfStern_4 : decode cX1_sizeOfStern 4 = .ok (.iconst 5, 1) := by decide +kernel
theorem dX1_sizeOfStern_5 : decode cX1_sizeOfStern 5 = .ok (.if_icmp .ne 16, 3) := by decide +kernel
theorem dX1_sizeOfStern_8 : decode cX1_sizeOfStern 8 = .ok (.aload_n 0, 1) := by decide +kernel
theorem dX1_sizeOfStern_9 : decode cX1_sizeOfStern 9 = .ok (.bipush 14, 2) := by decide +kernel
theorem dX1_sizeOfStern_11 : decode cX1_sizeOfStern 11 = .ok (.invokevirtual 40, 3) := by decide +kernel
theorem dX1_sizeOfStern_14 : decode cX1_sizeOfStern 14 = .ok (.iconst 2, 1) := by decide +kernel
theorem dX1_sizeOfStern_15 : decode cX1_sizeOfStern 15 = .ok (.aload_n 0, 1) := by decide +kernel
theorem dX1_sizeOfStern_16 : decode cX1_sizeOfStern 16 = .ok (.invokevirtual 64, 3) := by decide +kernel
theorem dX1_sizeOfStern_19 : decode cX1_sizeOfStern 19 = .ok (.imul, 1) := by decide +kernel
theorem dX1_sizeOfStern_20 : decode cX1_sizeOfStern 20 = .ok (.ireturn, 1) := by decide +kernel
theorem dX1_sizeOfStern_21 : decode cX1_sizeOfStern 21 = .ok (.aload_n 0, 1) := by decide +kernel
theorem dX1_sizeOfStern_22 : decode cX1_sizeOfStern 22 = .ok (.invokevirtual 64, 3) := by decide +kernel
theorem dX1_sizeOfStern_25 : decode cX1_sizeOfStern 25 = .ok (.ireturn, 1) := by decide +kernel
theorem dX1_sizeOfAnyStern_0 : decode cX1_sizeOfAnyStern 0 = .ok (.aload_n 0, 1) := by decide +kernel
theorem dX1_sizeOfAnyStern_1 : decode cX1_sizeOfAnyStern 1 = .ok (.bipush 13, 2) := by decide +kernel
theorem dX1_sizeOfAnyStern_3 : decode cX1_sizeOfAnyStern 3 = .ok (.invokevirtual 40, 3) := by decide +kernel
theorem dX1_sizeOfAnyStern_6 : decode cX1_sizeOfAnyStern 6 = .ok (.aload_n 0, 1) := by decide +kernel
theorem dX1_sizeOfAnyStern_7 : decode cX1_sizeOfAnyStern 7 = .ok (.invokevirtual 61, 3) := by decide +kernel
theorem dX1_sizeOfAnyStern_10 : decode cX1_sizeOfAnyStern 10 = .ok (.bipush 100, 2) := by decide +kernel
theorem dX1_sizeOfAnyStern_12 : decode cX1_sizeOfAnyStern 12 = .ok (.isub, 1) := by decide +kernel
theorem dX1_sizeOfAnyStern_13 : decode cX1_sizeOfAnyStern 13 = .ok (.ireturn, 1) := by decide +kernel
theorem dX1_sizeLent_0 : decode cX1_sizeLent 0 = .ok (.aload_n 0, 1) := by decide +kernel
theorem dX1_sizeLent_1 : decode cX1_sizeLent 1 = .ok (.bipush 10, 2) := by decide +kernel
theorem dX1_sizeLent_3 : decode cX1_sizeLent 3 = .ok (.invokevirtual 40, 3) := by decide +kernel
theorem dX1_sizeLent_6 : decode cX1_sizeLent 6 = .ok (.aload_n 0, 1) := by decide +kernel
theorem dX1_sizeLent_7 : decode cX1_sizeLent 7 = .ok (.getfield 33, 3) := by decide +kernel
theorem dX1_sizeLent_10 : decode cX1_sizeLent 10 = .ok (.ireturn, 1) := by decide +kernel
theorem dX1_markOfSoup_0 : decode cX1_markOfSoup 0 = .ok (.aload_n 0, 1) := by decide +kernel
theorem dX1_markOfSoup_1 : decode cX1_markOfSoup 1 = .ok (.getfield 27, 3) := by decide +kernel
theorem dX1_markOfSoup_4 : decode cX1_markOfSoup 4 = .ok (.iconst 3, 1) := by decide +kernel
theorem dX1_markOfSoup_5 : decode cX1_markOfSoup 5 = .ok (.if_icmp .ne 18, 3) := by decide +kernel
theorem dX1_markOfSoup_8 : decode cX1_markOfSoup 8 = .ok (.aload_n 0, 1) := by decide +kernel
theorem dX1_markOfSoup_9 : decode cX1_markOfSoup 9 = .ok (.bipush 22, 2) := by decide +kernel
theorem dX1_markOfSoup_11 : decode cX1_markOfSoup 11 = .ok (.invokevirtual 40, 3) := by decide +kernel
theorem dX1_markOfSoup_14 : decode cX1_markOfSoup 14 = .ok (.aload_n 0, 1) := by decide +kernel
theorem dX1_markOfSoup_15 : decode cX1_markOfSoup 15 = .ok (.invokevirtual 67, 3) := by decide +kernel
theorem dX1_markOfSoup_18 : decode cX1_markOfSoup 18 = .ok (.sipush 1000, 3) := by decide +kernel
theorem dX1_markOfSoup_21 : decode cX1_markOfSoup 21 = .ok (.isub, 1) := by decide +kernel
theorem dX1_markOfSoup_22 : decode cX1_markOfSoup 22 = .ok (.ireturn, 1) := by decide +kernel
theorem dX1_markOfSoup_23 : decode cX1_markOfSoup 23 = .ok (.aload_n 0, 1) := by decide +kernel
theorem dX1_markOfSoup_24 : decode cX1_markOfSoup 24 = .ok (.getfield 27, 3) := by decide +kernel
theorem dX1_markOfSoup_27 : decode cX1_markOfSoup 27 = .ok (.iconst 2, 1) := by decide +kernel
theorem dX1_markOfSoup_28 : decode cX1_markOfSoup 28 = .ok (.if_icmp .ne 16, 3) := by decide +kernel
theorem dX1_markOfSoup_31 : decode cX1_markOfSoup 31 = .ok (.aload_n 0, 1) := by decide +kernel
theorem dX1_markOfSoup_32 : decode cX1_markOfSoup 32 = .ok (.bipush 24, 2) := by decide +kernel
theorem dX1_markOfSoup_34 : decode cX1_markOfSoup 34 = .ok (.invokevirtual 40, 3) := by decide +kernel
theorem dX1_markOfSoup_37 : decode cX1_markOfSoup 37 = .ok (.iconst 2, 1) := by decide +kernel
theorem dX1_markOfSoup_38 : decode cX1_markOfSoup 38 = .ok (.aload_n 0, 1) := by decide +kernel
theorem dX1_markOfSoup_39 : decode cX1_markOfSoup 39 = .ok (.invokevirtual 67, 3) := by decide +kernel
theorem dX1_markOfSoup_42 : decode cX1_markOfSoup 42 = .ok (.imul, 1) := by decide +kernel
theorem dX1_markOfSoup_43 : decode cX1_markOfSoup 43 = .ok (.ireturn, 1) := by decide +kernel
theorem dX1_markOfSoup_44 : decode cX1_markOfSoup 44 = .ok (.aload_n 0, 1) := by decide +kernel
theorem dX1_markOfSoup_45 : decode cX1_markOfSoup 45 = .ok (.invokevirtual 67, 3) := by decide +kernel
theorem dX1_markOfSoup_48 : decode cX1_markOfSoup 48 = .ok (.ireturn, 1) := by decide +kernel
theorem dX1_markOfAnySoup_0 : decode cX1_markOfAnySoup 0 = .ok (.aload_n 0, 1) := by decide +kernel
theorem dX1_markOfAnySoup_1 : decode cX1_markOfAnySoup 1 = .ok (.bipush 21, 2) := by decide +kernel
theorem dX1_markOfAnySoup_3 : decode cX1_markOfAnySoup 3 = .ok (.invokevirtual 40, 3) := by decide +kernel
theorem dX1_markOfAnySoup_6 : decode cX1_markOfAnySoup 6 = .ok (.aload_n 0, 1) := by decide +kernel
theorem dX1_markOfAnySoup_7 : decode cX1_markOfAnySoup 7 = .ok (.invokevirtual 70, 3) := by decide +kernel
theorem dX1_markOfAnySoup_10 : decode cX1_markOfAnySoup 10 = .ok (.aload_n 0, 1) := by decide +kernel
theorem dX1_markOfAnySoup_11 : decode cX1_markOfAnySoup 11 = .ok (.getfield 38, 3) := by decide +kernel
theorem dX1_markOfAnySoup_14 : decode cX1_markOfAnySoup 14 = .ok (.iadd, 1) := by decide +kernel
theorem dX1_markOfAnySoup_15 : decode cX1_markOfAnySoup 15 = .ok (.ireturn, 1) := by decide +kernel
theorem dX1_markOfStern_0 : decode cX1_markOfStern 0 = .ok (.aload_n 0, 1) := by decide +kernel
theorem dX1_markOfStern_1 : decode cX1_markOfStern 1 = .ok (.bipush 23, 2) := by decide +kernel
theorem dX1_markOfStern_3 : decode cX1_markOfStern 3 = .ok (.invokevirtual 40, 3) := by decide +kernel
theorem dX1_markOfStern_6 : decode cX1_markOfStern 6 = .ok (.aload_n 0, 1) := by decide +kernel
theorem dX1_markOfStern_7 : decode cX1_markOfStern 7 = .ok (.invokevirtual 70, 3) := by decide +kernel
theorem dX1_markOfStern_10 : decode cX1_markOfStern 10 = .ok (.aload_n 0, 1) := by decide +kernel
theorem dX1_markOfStern_11 : decode cX1_markOfStern 11 = .ok (.invokevirtual 52, 3) := by decide +kernel
theorem dX1_markOfStern_14 : decode cX1_markOfStern 14 = .ok (.isub, 1) := by decide +kernel
theorem dX1_markOfStern_15 : decode cX1_markOfStern 15 = .ok (.ireturn, 1) := by decide +kernel
theorem dX1_markLent_0 : decode cX1_markLent 0 = .ok (.aload_n 0, 1) := by decide +kernel
theorem dX1_markLent_1 : decode cX1_markLent 1 = .ok (.bipush 20, 2) := by decide +kernel
theorem dX1_markLent_3 : decode cX1_markLent 3 = .ok (.invokevirtual 40, 3) := by decide +kernel
theorem dX1_markLent_6 : decode cX1_markLent 6 = .ok (.aload_n 0, 1) := by decide +kernel
theorem dX1_markLent_7 : decode cX1_markLent 7 = .ok (.getfield 19, 3) := by decide +kernel
theorem dX1_markLent_10 : decode cX1_markLent 10 = .ok (.ireturn, 1) := by decide +kernel
theorem dX1_begin_0 : decode cX1_begin 0 = .ok (.aload_n 0, 1) := by decide +kernel
theorem dX1_begin_1 : decode cX1_begin 1 = .ok (.getfield 15, 3) := by decide +kernel
theorem dX1_begin_4 : decode cX1_begin 4 = .ok (.bipush 16, 2) := by decide +kernel
theorem dX1_begin_6 : decode cX1_begin 6 = .ok (.if_icmp .ge 20, 3) := by decide +kernel
theorem dX1_begin_9 : decode cX1_begin 9 = .ok (.aload_n 0, 1) := by decide +kernel
theorem dX1_begin_10 : decode cX1_begin 10 = .ok (.getfield 9, 3) := by decide +kernel
theorem dX1_begin_13 : decode cX1_begin 13 = .ok (.aload_n 0, 1) := by decide +kernel
theorem dX1_begin_14 : decode cX1_begin 14 = .ok (.dup, 1) := by decide +kernel
theorem dX1_begin_15 : decode cX1_begin 15 = .ok (.getfield 15, 3) := by decide +kernel
theorem dX1_begin_18 : decode cX1_begin 18 = .ok (.dup_x1, 1) := by decide +kernel
theorem dX1_begin_19 : decode cX1_begin 19 = .ok (.iconst 1, 1) := by decide +kernel
theorem dX1_begin_20 : decode cX1_begin 20 = .ok (.iadd, 1) := by decide +kernel
theorem dX1_begin_21 : decode cX1_begin 21 = .ok (.putfield 15, 3) := by decide +kernel
theorem dX1_begin_24 : decode cX1_begin 24 = .ok (.iload_n 1, 1) := by decide +kernel
theorem dX1_begin_25 : decode cX1_begin 25 = .ok (.iastore, 1) := by decide +kernel
theorem dX1_begin_26 : decode cX1_begin 26 = .ok (.return_, 1) := by decide +kernel
theorem dX2_init_0 : decode cX2_init 0 = .ok (.aload_n 0, 1) := by decide +kernel
theorem dX2_init_1 : decode cX2_init 1 = .ok (.invokespecial 3, 3) := by decide +kernel
theorem dX2_init_4 : decode cX2_init 4 = .ok (.aload_n 0, 1) := by decide +kernel
theorem dX2_init_5 : decode cX2_init 5 = .ok (.new 9, 3) := by decide +kernel
theorem dX2_init_8 : decode cX2_init 8 = .ok (.dup, 1) := by decide +kernel
theorem dX2_init_9 : decode cX2_init 9 = .ok (.invokespecial 11, 3) := by decide +kernel
theorem dX2_init_12 : decode cX2_init 12 = .ok (.putfield 12, 3) := by decide +kernel
theorem dX2_init_15 : decode cX2_init 15 = .ok (.aload_n 0, 1) := by decide +kernel
theorem dX2_init_16 : decode cX2_init 16 = .ok (.bipush 100, 2) := by decide +kernel
theorem dX2_init_18 : decode cX2_init 18 = .ok (.newarray .int, 2) := by decide +kernel
theorem dX2_init_20 : decode cX2_init 20 = .ok (.putfield 18, 3) := by decide +kernel
theorem dX2_init_23 : decode cX2_init 23 = .ok (.return_, 1) := by decide +kernel
theorem dX2_append_0 : decode cX2_append 0 = .ok (.aload_n 0, 1) := by decide +kernel
theorem dX2_append_1 : decode cX2_append 1 = .ok (.getfield 22, 3) := by decide +kernel
theorem dX2_append_4 : decode cX2_append 4 = .ok (.bipush 100, 2) := by decide +kernel
theorem dX2_append_6 : decode cX2_append 6 = .ok (.if_icmp .lt 5, 3) := by decide +kernel
theorem dX2_append_9 : decode cX2_append 9 = .ok (.iconst 0, 1) := by decide +kernel
theorem dX2_append_10 : decode cX2_append 10 = .ok (.ireturn, 1) := by decide +kernel
theorem dX2_append_11 : decode cX2_append 11 = .ok (.aload_n 0, 1) := by decide +kernel
theorem dX2_append_12 : decode cX2_append 12 = .ok (.getfield 18, 3) := by decide +kernel
theorem dX2_append_15 : decode cX2_append 15 = .ok (.aload_n 0, 1) := by decide +kernel
theorem dX2_append_16 : decode cX2_append 16 = .ok (.dup, 1) := by decide +kernel
theorem dX2_append_17 : decode cX2_append 17 = .ok (.getfield 22, 3) := by decide +kernel
theorem dX2_append_20 : decode cX2_append 20 = .ok (.dup_x1, 1) := by decide +kernel
theorem dX2_append_21 : decode cX2_append 21 = .ok (.iconst 1, 1) := by decide +kernel
theorem dX2_append_22 : decode cX2_append 22 = .ok (.iadd, 1) := by decide +kernel
theorem dX2_append_23 : decode cX2_append 23 = .ok (.putfield 22, 3) := by decide +kernel
theorem dX2_append_26 : decode cX2_append 26 = .ok (.iload_n 1, 1) := by decide +kernel
theorem dX2_append_27 : decode cX2_append 27 = .ok (.iastore, 1) := by decide +kernel
theorem dX2_append_28 : decode cX2_append 28 = .ok (.iconst 1, 1) := by decide +kernel
theorem dX2_append_29 : decode cX2_append 29 = .ok (.ireturn, 1) := by decide +kernel
theorem dX2_readAll_0 : decode cX2_readAll 0 = .ok (.aload_n 0, 1) := by decide +kernel
theorem dX2_readAll_1 : decode cX2_readAll 1 = .ok (.iconst 0, 1) := by decide +kernel
theorem dX2_readAll_2 : decode cX2_readAll 2 = .ok (.putfield 26, 3) := by decide +kernel
theorem dX2_readAll_5 : decode cX2_readAll 5 = .ok (.aload_n 0, 1) := by decide +kernel
theorem dX2_readAll_6 : decode cX2_readAll 6 = .ok (.iconst 0, 1) := by decide +kernel
theorem dX2_readAll_7 : decode cX2_readAll 7 = .ok (.putfield 29, 3) := by decide +kernel
theorem dX2_readAll_10 : decode cX2_readAll 10 = .ok (.aload_n 0, 1) := by decide +kernel
theorem dX2_readAll_11 : decode cX2_readAll 11 = .ok (.iconst 0, 1) := by decide +kernel
theorem dX2_readAll_12 : decode cX2_readAll 12 = .ok (.putfield 32, 3) := by decide +kernel
theorem dX2_readAll_15 : decode cX2_readAll 15 = .ok (.aload_n 0, 1) := by decide +kernel
theorem dX2_readAll_16 : decode cX2_readAll 16 = .ok (.getfield 12, 3) := by decide +kernel
theorem dX2_readAll_19 : decode cX2_readAll 19 = .ok (.iconst 0, 1) := by decide +kernel
theorem dX2_readAll_20 : decode cX2_readAll 20 = .ok (.putfield 35, 3) := by decide +kernel
theorem dX2_readAll_23 : decode cX2_readAll 23 = .ok (.aload_n 0, 1) := by decide +kernel
theorem dX2_readAll_24 : decode cX2_readAll 24 = .ok (.getfield 12, 3) := by decide +kernel
theorem dX2_readAll_27 : decode cX2_readAll 27 = .ok (.iconst 0, 1) := by decide +kernel
theorem dX2_readAll_28 : decode cX2_readAll 28 = .ok (.putfield 38, 3) := by decide +kernel
theorem dX2_readAll_31 : decode cX2_readAll 31 = .ok (.aload_n 0, 1) := by decide +kernel
theorem dX2_readAll_32 : decode cX2_readAll 32 = .ok (.invokevirtual 41, 3) := by decide +kernel
theorem dX2_readAll_35 : decode cX2_readAll 35 = .ok (.aload_n 0, 1) := by decide +kernel
theorem dX2_readAll_36 : decode cX2_readAll 36 = .ok (.invokevirtual 44, 3) := by decide +kernel
theorem dX2_readAll_39 : decode cX2_readAll 39 = .ok (.aload_n 0, 1) := by decide +kernel
theorem dX2_readAll_40 : decode cX2_readAll 40 = .ok (.invokevirtual 47, 3) := by decide +kernel
theorem dX2_readAll_43 : decode cX2_readAll 43 = .ok (.aload_n 0, 1) := by decide +kernel
theorem dX2_readAll_44 : decode cX2_readAll 44 = .ok (.iconst 0, 1) := by decide +kernel
theorem dX2_readAll_45 : decode cX2_readAll 45 = .ok (.putfield 22, 3) := by decide +kernel
theorem dX2_readAll_48 : decode cX2_readAll 48 = .ok (.aload_n 0, 1) := by decide +kernel
theorem dX2_readAll_49 : decode cX2_readAll 49 = .ok (.getfield 29, 3) := by decide +kernel
theorem dX2_readAll_52 : decode cX2_readAll 52 = .ok (.ireturn, 1) := by decide +kernel
theorem dX2_readLaw_0 : decode cX2_readLaw 0 = .ok (.aload_n 0, 1) := by decide +kernel
theorem dX2_readLaw_1 : decode cX2_readLaw 1 = .ok (.bipush 108, 2) := by decide +kernel
theorem dX2_readLaw_3 : decode cX2_readLaw 3 = .ok (.invokevirtual 50, 3) := by decide +kernel
theorem dX2_readLaw_6 : decode cX2_readLaw 6 = .ok (.aload_n 0, 1) := by decide +kernel
theorem dX2_readLaw_7 : decode cX2_readLaw 7 = .ok (.getfield 12, 3) := by decide +kernel
theorem dX2_readLaw_10 : decode cX2_readLaw 10 = .ok (.aload_n 0, 1) := by decide +kernel
theorem dX2_readLaw_11 : decode cX2_readLaw 11 = .ok (.iconst 0, 1) := by decide +kernel
theorem dX2_readLaw_12 : decode cX2_readLaw 12 = .ok (.bipush 9, 2) := by decide +kernel
theorem dX2_readLaw_14 : decode cX2_readLaw 14 = .ok (.invokevirtual 54, 3) := by decide +kernel
theorem dX2_readLaw_17 : decode cX2_readLaw 17 = .ok (.putfield 58, 3) := by decide +kernel
theorem dX2_readLaw_20 : decode cX2_readLaw 20 = .ok (.aload_n 0, 1) := by decide +kernel
theorem dX2_readLaw_21 : decode cX2_readLaw 21 = .ok (.bipush 44, 2) := by decide +kernel
theorem dX2_readLaw_23 : decode cX2_readLaw 23 = .ok (.invokevirtual 50, 3) := by decide +kernel
theorem dX2_readLaw_26 : decode cX2_readLaw 26 = .ok (.aload_n 0, 1) := by decide +kernel
theorem dX2_readLaw_27 : decode cX2_readLaw 27 = .ok (.getfield 12, 3) := by decide +kernel
theorem dX2_readLaw_30 : decode cX2_readLaw 30 = .ok (.aload_n 0, 1) := by decide +kernel
theorem dX2_readLaw_31 : decode cX2_readLaw 31 = .ok (.iconst 1, 1) := by decide +kernel
theorem dX2_readLaw_32 : decode cX2_readLaw 32 = .ok (.bipush 6, 2) := by decide +kernel
theorem dX2_readLaw_34 : decode cX2_readLaw 34 = .ok (.invokevirtual 54, 3) := by decide +kernel
theorem dX2_readLaw_37 : decode cX2_readLaw 37 = .ok (.putfield 61, 3) := by decide +kernel
theorem dX2_readLaw_40 : decode cX2_readLaw 40 = .ok (.aload_n 0, 1) := by decide +kernel
theorem dX2_readLaw_41 : decode cX2_readLaw 41 = .ok (.bipush 59, 2) := by decide +kernel
theorem dX2_readLaw_43 : decode cX2_readLaw 43 = .ok (.invokevirtual 50, 3) := by decide +kernel
theorem dX2_readLaw_46 : decode cX2_readLaw 46 = .ok (.return_, 1) := by decide +kernel
theorem dX2_readChildren_0 : decode cX2_readChildren 0 = .ok (.iconst 0, 1) := by decide +kernel
theorem dX2_readChildren_1 : decode cX2_readChildren 1 = .ok (.istore_n 1, 1) := by decide +kernel
theorem dX2_readChildren_2 : decode cX2_readChildren 2 = .ok (.iload_n 1, 1) := by decide +kernel
theorem dX2_readChildren_3 : decode cX2_readChildren 3 = .ok (.iconst 5, 1) := by decide +kernel
theorem dX2_readChildren_4 : decode cX2_readChildren 4 = .ok (.if_icmp .ge 99, 3) := by decide +kernel
theorem dX2_readChildren_7 : decode cX2_readChildren 7 = .ok (.aload_n 0, 1) := by decide +kernel
theorem dX2_readChildren_8 : decode cX2_readChildren 8 = .ok (.getfield 29, 3) := by decide +kernel
theorem dX2_readChildren_11 : decode cX2_readChildren 11 = .ok (.ifCond .ne 92, 3) := by decide +kernel
theorem dX2_readChildren_14 : decode cX2_readChildren 14 = .ok (.iload_n 1, 1) := by decide +kernel
theorem dX2_readChildren_15 : decode cX2_readChildren 15 = .ok (.ifCond .eq 12, 3) := by decide +kernel
theorem dX2_readChildren_18 : decode cX2_readChildren 18 = .ok (.aload_n 0, 1) := by decide +kernel
theorem dX2_readChildren_19 : decode cX2_readChildren 19 = .ok (.invokevirtual 64, 3) := by decide +kernel
theorem dX2_readChildren_22 : decode cX2_readChildren 22 = .ok (.bipush 99, 2) := by decide +kernel
theorem dX2_readChildren_24 : decode cX2_readChildren 24 = .ok (.if_icmp .ne 79, 3) := by decide +kernel
theorem dX2_readChildren_27 : decode cX2_readChildren 27 = .ok (.aload_n 0, 1) := by decide +kernel
theorem dX2_readChildren_28 : decode cX2_readChildren 28 = .ok (.bipush 99, 2) := by decide +kernel
theorem dX2_readChildren_30 : decode cX2_readChildren 30 = .ok (.invokevirtual 50, 3) := by decide +kernel
theorem dX2_readChildren_33 : decode cX2_readChildren 33 = .ok (.aload_n 0, 1) := by decide +kernel
theorem dX2_readChildren_34 : decode cX2_readChildren 34 = .ok (.getfield 12, 3) := by decide +kernel
theorem dX2_readChildren_37 : decode cX2_readChildren 37 = .ok (.getfield 68, 3) := by decide +kernel
theorem dX2_readChildren_40 : decode cX2_readChildren 40 = .ok (.iload_n 1, 1) := by decide +kernel
theorem dX2_readChildren_41 : decode cX2_readChildren 41 = .ok (.aload_n 0, 1) := by decide +kernel
theorem dX2_readChildren_42 : decode cX2_readChildren 42 = .ok (.iconst 0, 1) := by decide +kernel
theorem dX2_readChildren_43 : decode cX2_readChildren 43 = .ok (.bipush 60, 2) := by decide +kernel
theorem dX2_readChildren_45 : decode cX2_readChildren 45 = .ok (.invokevirtual 54, 3) := by decide +kernel
theorem dX2_readChildren_48 : decode cX2_readChildren 48 = .ok (.iastore, 1) := by decide +kernel
theorem dX2_readChildren_49 : decode cX2_readChildren 49 = .ok (.aload_n 0, 1) := by decide +kernel
theorem dX2_readChildren_50 : decode cX2_readChildren 50 = .ok (.bipush 44, 2) := by decide +kernel
theorem dX2_readChildren_52 : decode cX2_readChildren 52 = .ok (.invokevirtual 50, 3) := by decide +kernel
theorem dX2_readChildren_55 : decode cX2_readChildren 55 = .ok (.aload_n 0, 1) := by decide +kernel
theorem dX2_readChildren_56 : decode cX2_readChildren 56 = .ok (.getfield 12, 3) := by decide +kernel
theorem dX2_readChildren_59 : decode cX2_readChildren 59 = .ok (.getfield 71, 3) := by decide +kernel
theorem dX2_readChildren_62 : decode cX2_readChildren 62 = .ok (.iload_n 1, 1) := by decide +kernel
theorem dX2_readChildren_63 : decode cX2_readChildren 63 = .ok (.aload_n 0, 1) := by decide +kernel
theorem dX2_readChildren_64 : decode cX2_readChildren 64 = .ok (.iconst 0, 1) := by decide +kernel
theorem dX2_readChildren_65 : decode cX2_readChildren 65 = .ok (.bipush 20, 2) := by decide +kernel
theorem dX2_readChildren_67 : decode cX2_readChildren 67 = .ok (.invokevirtual 54, 3) := by decide +kernel
theorem dX2_readChildren_70 : decode cX2_readChildren 70 = .ok (.iastore, 1) := by decide +kernel
theorem dX2_readChildren_71 : decode cX2_readChildren 71 = .ok (.aload_n 0, 1) := by decide +kernel
theorem dX2_readChildren_72 : decode cX2_readChildren 72 = .ok (.bipush 59, 2) := by decide +kernel
theorem dX2_readChildren_74 : decode cX2_readChildren 74 = .ok (.invokevirtual 50, 3) := by decide +kernel
theorem dX2_readChildren_77 : decode cX2_readChildren 77 = .ok (.aload_n 0, 1) := by decide +kernel
theorem dX2_readChildren_78 : decode cX2_readChildren 78 = .ok (.getfield 12, 3) := by decide +kernel
theorem dX2_readChildren_81 : decode cX2_readChildren 81 = .ok (.getfield 74, 3) := by decide +kernel
theorem dX2_readChildren_84 : decode cX2_readChildren 84 = .ok (.iload_n 1, 1) := by decide +kernel
theorem dX2_readChildren_85 : decode cX2_readChildren 85 = .ok (.iconst 0, 1) := by decide +kernel
theorem dX2_readChildren_86 : decode cX2_readChildren 86 = .ok (.iastore, 1) := by decide +kernel
theorem dX2_readChildren_87 : decode cX2_readChildren 87 = .ok (.aload_n 0, 1) := by decide +kernel
theorem dX2_readChildren_88 : decode cX2_readChildren 88 = .ok (.getfield 12, 3) := by decide +kernel
theorem dX2_readChildren_91 : decode cX2_readChildren 91 = .ok (.iload_n 1, 1) := by decide +kernel
theorem dX2_readChildren_92 : decode cX2_readChildren 92 = .ok (.iconst 1, 1) := by decide +kernel
theorem dX2_readChildren_93 : decode cX2_readChildren 93 = .ok (.iadd, 1) := by decide +kernel
theorem dX2_readChildren_94 : decode cX2_readChildren 94 = .ok (.putfield 35, 3) := by decide +kernel
theorem dX2_readChildren_97 : decode cX2_readChildren 97 = .ok (.iinc 1 1, 3) := by decide +kernel
theorem dX2_readChildren_100 : decode cX2_readChildren 100 = .ok (.goto (-98), 3) := by decide +kernel
theorem dX2_readChildren_103 : decode cX2_readChildren 103 = .ok (.aload_n 0, 1) := by decide +kernel
theorem dX2_readChildren_104 : decode cX2_readChildren 104 = .ok (.getfield 12, 3) := by decide +kernel
theorem dX2_readChildren_107 : decode cX2_readChildren 107 = .ok (.getfield 35, 3) := by decide +kernel
theorem dX2_readChildren_110 : decode cX2_readChildren 110 = .ok (.iconst 5, 1) := by decide +kernel
theorem dX2_readChildren_111 : decode cX2_readChildren 111 = .ok (.if_icmp .ne 17, 3) := by decide +kernel
theorem dX2_readChildren_114 : decode cX2_readChildren 114 = .ok (.aload_n 0, 1) := by decide +kernel
theorem dX2_readChildren_115 : decode cX2_readChildren 115 = .ok (.invokevirtual 64, 3) := by decide +kernel
theorem dX2_readChildren_118 : decode cX2_readChildren 118 = .ok (.bipush 99, 2) := by decide +kernel
theorem dX2_readChildren_120 : decode cX2_readChildren 120 = .ok (.if_icmp .ne 8, 3) := by decide +kernel
theorem dX2_readChildren_123 : decode cX2_readChildren 123 = .ok (.aload_n 0, 1) := by decide +kernel
theorem dX2_readChildren_124 : decode cX2_readChildren 124 = .ok (.iconst 3, 1) := by decide +kernel
theorem dX2_readChildren_125 : decode cX2_readChildren 125 = .ok (.invokevirtual 77, 3) := by decide +kernel
theorem dX2_readChildren_128 : decode cX2_readChildren 128 = .ok (.return_, 1) := by decide +kernel
theorem dX2_readGrans_0 : decode cX2_readGrans 0 = .ok (.iconst 0, 1) := by decide +kernel
theorem dX2_readGrans_1 : decode cX2_readGrans 1 = .ok (.istore_n 1, 1) := by decide +kernel
theorem dX2_readGrans_2 : decode cX2_readGrans 2 = .ok (.iload_n 1, 1) := by decide +kernel
theorem dX2_readGrans_3 : decode cX2_readGrans 3 = .ok (.bipush 6, 2) := by decide +kernel
theorem dX2_readGrans_5 : decode cX2_readGrans 5 = .ok (.if_icmp .ge 146, 3) := by decide +kernel
theorem dX2_readGrans_8 : decode cX2_readGrans 8 = .ok (.aload_n 0, 1) := by decide +kernel
theorem dX2_readGrans_9 : decode cX2_readGrans 9 = .ok (.getfield 29, 3) := by decide +kernel
theorem dX2_readGrans_12 : decode cX2_readGrans 12 = .ok (.ifCond .ne 139, 3) := by decide +kernel
theorem dX2_readGrans_15 : decode cX2_readGrans 15 = .ok (.iload_n 1, 1) := by decide +kernel
theorem dX2_readGrans_16 : decode cX2_readGrans 16 = .ok (.ifCond .eq 14, 3) := by decide +kernel
theorem dX2_readGrans_19 : decode cX2_readGrans 19 = .ok (.aload_n 0, 1) := by decide +kernel
theorem dX2_readGrans_20 : decode cX2_readGrans 20 = .ok (.getfield 26, 3) := by decide +kernel
theorem dX2_readGrans_23 : decode cX2_readGrans 23 = .ok (.aload_n 0, 1) := by decide +kernel
theorem dX2_readGrans_24 : decode cX2_readGrans 24 = .ok (.getfield 22, 3) := by decide +kernel
theorem dX2_readGrans_27 : decode cX2_readGrans 27 = .ok (.if_icmp .ge 124, 3) := by decide +kernel
theorem dX2_readGrans_30 : decode cX2_readGrans 30 = .ok (.aload_n 0, 1) := by decide +kernel
theorem dX2_readGrans_31 : decode cX2_readGrans 31 = .ok (.getfield 12, 3) := by decide +kernel
theorem dX2_readGrans_34 : decode cX2_readGrans 34 = .ok (.getfield 80, 3) := by decide +kernel
theorem dX2_readGrans_37 : decode cX2_readGrans 37 = .ok (.iload_n 1, 1) := by decide +kernel
theorem dX2_readGrans_38 : decode cX2_readGrans 38 = .ok (.aload_n 0, 1) := by decide +kernel
theorem dX2_readGrans_39 : decode cX2_readGrans 39 = .ok (.invokevirtual 83, 3) := by decide +kernel
theorem dX2_readGrans_42 : decode cX2_readGrans 42 = .ok (.iastore, 1) := by decide +kernel
theorem dX2_readGrans_43 : decode cX2_readGrans 43 = .ok (.aload_n 0, 1) := by decide +kernel
theorem dX2_readGrans_44 : decode cX2_readGrans 44 = .ok (.getfield 12, 3) := by decide +kernel
theorem dX2_readGrans_47 : decode cX2_readGrans 47 = .ok (.getfield 86, 3) := by decide +kernel
theorem dX2_readGrans_50 : decode cX2_readGrans 50 = .ok (.iload_n 1, 1) := by decide +kernel
theorem dX2_readGrans_51 : decode cX2_readGrans 51 = .ok (.aload_n 0, 1) := by decide +kernel
theorem dX2_readGrans_52 : decode cX2_readGrans 52 = .ok (.iconst 1, 1) := by decide +kernel
theorem dX2_readGrans_53 : decode cX2_readGrans 53 = .ok (.bipush 9, 2) := by decide +kernel
theorem dX2_readGrans_55 : decode cX2_readGrans 55 = .ok (.invokevirtual 54, 3) := by decide +kernel
theorem dX2_readGrans_58 : decode cX2_readGrans 58 = .ok (.iastore, 1) := by decide +kernel
theorem dX2_readGrans_59 : decode cX2_readGrans 59 = .ok (.aload_n 0, 1) := by decide +kernel
theorem dX2_readGrans_60 : decode cX2_readGrans 60 = .ok (.bipush 44, 2) := by decide +kernel
theorem dX2_readGrans_62 : decode cX2_readGrans 62 = .ok (.invokevirtual 50, 3) := by decide +kernel
theorem dX2_readGrans_65 : decode cX2_readGrans 65 = .ok (.aload_n 0, 1) := by decide +kernel
theorem dX2_readGrans_66 : decode cX2_readGrans 66 = .ok (.getfield 12, 3) := by decide +kernel
theorem dX2_readGrans_69 : decode cX2_readGrans 69 = .ok (.getfield 89, 3) := by decide +kernel
theorem dX2_readGrans_72 : decode cX2_readGrans 72 = .ok (.iload_n 1, 1) := by decide +kernel
theorem dX2_readGrans_73 : decode cX2_readGrans 73 = .ok (.aload_n 0, 1) := by decide +kernel
theorem dX2_readGrans_74 : decode cX2_readGrans 74 = .ok (.iconst 0, 1) := by decide +kernel
theorem dX2_readGrans_75 : decode cX2_readGrans 75 = .ok (.aload_n 0, 1) := by decide +kernel
theorem dX2_readGrans_76 : decode cX2_readGrans 76 = .ok (.getfield 12, 3) := by decide +kernel
theorem dX2_readGrans_79 : decode cX2_readGrans 79 = .ok (.getfield 35, 3) := by decide +kernel
theorem dX2_readGrans_82 : decode cX2_readGrans 82 = .ok (.iconst 1, 1) := by decide +kernel
theorem dX2_readGrans_83 : decode cX2_readGrans 83 = .ok (.isub, 1) := by decide +kernel
theorem dX2_readGrans_84 : decode cX2_readGrans 84 = .ok (.invokevirtual 54, 3) := by decide +kernel
theorem dX2_readGrans_87 : decode cX2_readGrans 87 = .ok (.iastore, 1) := by decide +kernel
theorem dX2_readGrans_88 : decode cX2_readGrans 88 = .ok (.aload_n 0, 1) := by decide +kernel
theorem dX2_readGrans_89 : decode cX2_readGrans 89 = .ok (.bipush 44, 2) := by decide +kernel
theorem dX2_readGrans_91 : decode cX2_readGrans 91 = .ok (.invokevirtual 50, 3) := by decide +kernel
theorem dX2_readGrans_94 : decode cX2_readGrans 94 = .ok (.aload_n 0, 1) := by decide +kernel
theorem dX2_readGrans_95 : decode cX2_readGrans 95 = .ok (.getfield 12, 3) := by decide +kernel
theorem dX2_readGrans_98 : decode cX2_readGrans 98 = .ok (.getfield 92, 3) := by decide +kernel
theorem dX2_readGrans_101 : decode cX2_readGrans 101 = .ok (.iload_n 1, 1) := by decide +kernel
theorem dX2_readGrans_102 : decode cX2_readGrans 102 = .ok (.aload_n 0, 1) := by decide +kernel
theorem dX2_readGrans_103 : decode cX2_readGrans 103 = .ok (.iconst 0, 1) := by decide +kernel
theorem dX2_readGrans_104 : decode cX2_readGrans 104 = .ok (.iconst 4, 1) := by decide +kernel
theorem dX2_readGrans_105 : decode cX2_readGrans 105 = .ok (.invokevirtual 54, 3) := by decide +kernel
theorem dX2_readGrans_108 : decode cX2_readGrans 108 = .ok (.iastore, 1) := by decide +kernel
theorem dX2_readGrans_109 : decode cX2_readGrans 109 = .ok (.aload_n 0, 1) := by decide +kernel
theorem dX2_readGrans_110 : decode cX2_readGrans 110 = .ok (.bipush 59, 2) := by decide +kernel
theorem dX2_readGrans_112 : decode cX2_readGrans 112 = .ok (.invokevirtual 50, 3) := by decide +kernel
theorem dX2_readGrans_115 : decode cX2_readGrans 115 = .ok (.aload_n 0, 1) := by decide +kernel
theorem dX2_readGrans_116 : decode cX2_readGrans 116 = .ok (.getfield 12, 3) := by decide +kernel
theorem dX2_readGrans_119 : decode cX2_readGrans 119 = .ok (.getfield 95, 3) := by decide +kernel
theorem dX2_readGrans_122 : decode cX2_readGrans 122 = .ok (.iload_n 1, 1) := by decide +kernel
theorem dX2_readGrans_123 : decode cX2_readGrans 123 = .ok (.iconst 0, 1) := by decide +kernel
theorem dX2_readGrans_124 : decode cX2_readGrans 124 = .ok (.iastore, 1) := by decide +kernel
theorem dX2_readGrans_125 : decode cX2_readGrans 125 = .ok (.aload_n 0, 1) := by decide +kernel
theorem dX2_readGrans_126 : decode cX2_readGrans 126 = .ok (.getfield 12, 3) := by decide +kernel
theorem dX2_readGrans_129 : decode cX2_readGrans 129 = .ok (.getfield 98, 3) := by decide +kernel
theorem dX2_readGrans_132 : decode cX2_readGrans 132 = .ok (.iload_n 1, 1) := by decide +kernel
theorem dX2_readGrans_133 : decode cX2_readGrans 133 = .ok (.iconst 0, 1) := by decide +kernel
theorem dX2_readGrans_134 : decode cX2_readGrans 134 = .ok (.iastore, 1) := by decide +kernel
theorem dX2_readGrans_135 : decode cX2_readGrans 135 = .ok (.aload_n 0, 1) := by decide +kernel
theorem dX2_readGrans_136 : decode cX2_readGrans 136 = .ok (.getfield 12, 3) := by decide +kernel
theorem dX2_readGrans_139 : decode cX2_readGrans 139 = .ok (.iload_n 1, 1) := by decide +kernel
theorem dX2_readGrans_140 : decode cX2_readGrans 140 = .ok (.iconst 1, 1) := by decide +kernel
theorem dX2_readGrans_141 : decode cX2_readGrans 141 = .ok (.iadd, 1) := by decide +kernel
theorem dX2_readGrans_142 : decode cX2_readGrans 142 = .ok (.putfield 38, 3) := by decide +kernel
theorem dX2_readGrans_145 : decode cX2_readGrans 145 = .ok (.iinc 1 1, 3) := by decide +kernel
theorem dX2_readGrans_148 : decode cX2_readGrans 148 = .ok (.goto (-146), 3) := by decide +kernel
theorem dX2_readGrans_151 : decode cX2_readGrans 151 = .ok (.aload_n 0, 1) := by decide +kernel
theorem dX2_readGrans_152 : decode cX2_readGrans 152 = .ok (.getfield 26, 3) := by decide +kernel
theorem dX2_readGrans_155 : decode cX2_readGrans 155 = .ok (.aload_n 0, 1) := by decide +kernel
theorem dX2_readGrans_156 : decode cX2_readGrans 156 = .ok (.getfield 22, 3) := by decide +kernel
theorem dX2_readGrans_159 : decode cX2_readGrans 159 = .ok (.if_icmp .ge 22, 3) := by decide +kernel
theorem dX2_readGrans_162 : decode cX2_readGrans 162 = .ok (.aload_n 0, 1) := by decide +kernel
theorem dX2_readGrans_163 : decode cX2_readGrans 163 = .ok (.aload_n 0, 1) := by decide +kernel
theorem dX2_readGrans_164 : decode cX2_readGrans 164 = .ok (.invokevirtual 64, 3) := by decide +kernel
theorem dX2_readGrans_167 : decode cX2_readGrans 167 = .ok (.invokestatic 101, 3) := by decide +kernel
theorem dX2_readGrans_170 : decode cX2_readGrans 170 = .ok (.ifCond .ne 7, 3) := by decide +kernel
theorem dX2_readGrans_173 : decode cX2_readGrans 173 = .ok (.iconst 1, 1) := by decide +kernel
theorem dX2_readGrans_174 : decode cX2_readGrans 174 = .ok (.goto 4, 3) := by decide +kernel
theorem dX2_readGrans_177 : decode cX2_readGrans 177 = .ok (.iconst 3, 1) := by decide +kernel
theorem dX2_readGrans_178 : decode cX2_readGrans 178 = .ok (.invokevirtual 77, 3) := by decide +kernel
theorem dX2_readGrans_181 : decode cX2_readGrans 181 = .ok (.return_, 1) := by decide +kernel
theorem dX2_nextByte_0 : decode cX2_nextByte 0 = .ok (.aload_n 0, 1) := by decide +kernel
theorem dX2_nextByte_1 : decode cX2_nextByte 1 = .ok (.getfield 26, 3) := by decide +kernel
theorem dX2_nextByte_4 : decode cX2_nextByte 4 = .ok (.aload_n 0, 1) := by decide +kernel
theorem dX2_nextByte_5 : decode cX2_nextByte 5 = .ok (.getfield 22, 3) := by decide +kernel
theorem dX2_nextByte_8 : decode cX2_nextByte 8 = .ok (.if_icmp .ge 15, 3) := by decide +kernel
theorem dX2_nextByte_11 : decode cX2_nextByte 11 = .ok (.aload_n 0, 1) := by decide +kernel
theorem dX2_nextByte_12 : decode cX2_nextByte 12 = .ok (.getfield 18, 3) := by decide +kernel
theorem dX2_nextByte_15 : decode cX2_nextByte 15 = .ok (.aload_n 0, 1) := by decide +kernel
theorem dX2_nextByte_16 : decode cX2_nextByte 16 = .ok (.getfield 26, 3) := by decide +kernel
theorem dX2_nextByte_19 : decode cX2_nextByte 19 = .ok (.iaload, 1) := by decide +kernel
theorem dX2_nextByte_20 : decode cX2_nextByte 20 = .ok (.goto 4, 3) := by decide +kernel
theorem dX2_nextByte_23 : decode cX2_nextByte 23 = .ok (.iconst (-1), 1) := by decide +kernel
theorem dX2_nextByte_24 : decode cX2_nextByte 24 = .ok (.ireturn, 1) := by decide +kernel
theorem dX2_fail_0 : decode cX2_fail 0 = .ok (.aload_n 0, 1) := by decide +kernel
theorem dX2_fail_1 : decode cX2_fail 1 = .ok (.getfield 29, 3) := by decide +kernel
theorem dX2_fail_4 : decode cX2_fail 4 = .ok (.ifCond .ne 16, 3) := by decide +kernel
theorem dX2_fail_7 : decode cX2_fail 7 = .ok (.aload_n 0, 1) := by decide +kernel
theorem dX2_fail_8 : decode cX2_fail 8 = .ok (.iload_n 1, 1) := by decide +kernel
theorem dX2_fail_9 : decode cX2_fail 9 = .ok (.putfield 29, 3) := by decide +kernel
theorem dX2_fail_12 : decode cX2_fail 12 = .ok (.aload_n 0, 1) := by decide +kernel
theorem dX2_fail_13 : decode cX2_fail 13 = .ok (.aload_n 0, 1) := by decide +kernel
theorem dX2_fail_14 : decode cX2_fail 14 = .ok (.getfield 26, 3) := by decide +kernel
theorem dX2_fail_17 : decode cX2_fail 17 = .ok (.putfield 32, 3) := by decide +kernel
theorem dX2_fail_20 : decode cX2_fail 20 = .ok (.return_, 1) := by decide +kernel
theorem dX2_takeSign_0 : decode cX2_takeSign 0 = .ok (.aload_n 0, 1) := by decide +kernel
theorem dX2_takeSign_1 : decode cX2_takeSign 1 = .ok (.invokevirtual 64, 3) := by decide +kernel
theorem dX2_takeSign_4 : decode cX2_takeSign 4 = .ok (.iload_n 1, 1) := by decide +kernel
theorem dX2_takeSign_5 : decode cX2_takeSign 5 = .ok (.if_icmp .eq 11, 3) := by decide +kernel
theorem dX2_takeSign_8 : decode cX2_takeSign 8 = .ok (.aload_n 0, 1) := by decide +kernel
theorem dX2_takeSign_9 : decode cX2_takeSign 9 = .ok (.iconst 1, 1) := by decide +kernel
theorem dX2_takeSign_10 : decode cX2_takeSign 10 = .ok (.invokevirtual 77, 3) := by decide +kernel
theorem dX2_takeSign_13 : decode cX2_takeSign 13 = .ok (.goto 20, 3) := by decide +kernel
theorem dX2_takeSign_16 : decode cX2_takeSign 16 = .ok (.aload_n 0, 1) := by decide +kernel
theorem dX2_takeSign_17 : decode cX2_takeSign 17 = .ok (.getfield 29, 3) := by decide +kernel
theorem dX2_takeSign_20 : decode cX2_takeSign 20 = .ok (.ifCond .ne 13, 3) := by decide +kernel
theorem dX2_takeSign_23 : decode cX2_takeSign 23 = .ok (.aload_n 0, 1) := by decide +kernel
theorem dX2_takeSign_24 : decode cX2_takeSign 24 = .ok (.dup, 1) := by decide +kernel
theorem dX2_takeSign_25 : decode cX2_takeSign 25 = .ok (.getfield 26, 3) := by decide +kernel
theorem dX2_takeSign_28 : decode cX2_takeSign 28 = .ok (.iconst 1, 1) := by decide +kernel
theorem dX2_takeSign_29 : decode cX2_takeSign 29 = .ok (.iadd, 1) := by decide +kernel
theorem dX2_takeSign_30 : decode cX2_takeSign 30 = .ok (.putfield 26, 3) := by decide +kernel
theorem dX2_takeSign_33 : decode cX2_takeSign 33 = .ok (.return_, 1) := by decide +kernel
theorem dX2_takeSort_0 : decode cX2_takeSort 0 = .ok (.aload_n 0, 1) := by decide +kernel
theorem dX2_takeSort_1 : decode cX2_takeSort 1 = .ok (.invokevirtual 64, 3) := by decide +kernel
theorem dX2_takeSort_4 : decode cX2_takeSort 4 = .ok (.invokestatic 101, 3) := by decide +kernel
theorem dX2_takeSort_7 : decode cX2_takeSort 7 = .ok (.istore_n 1, 1) := by decide +kernel
theorem dX2_takeSort_8 : decode cX2_takeSort 8 = .ok (.iload_n 1, 1) := by decide +kernel
theorem dX2_takeSort_9 : decode cX2_takeSort 9 = .ok (.ifCond .ne 11, 3) := by decide +kernel
theorem dX2_takeSort_12 : decode cX2_takeSort 12 = .ok (.aload_n 0, 1) := by decide +kernel
theorem dX2_takeSort_13 : decode cX2_takeSort 13 = .ok (.iconst 1, 1) := by decide +kernel
theorem dX2_takeSort_14 : decode cX2_takeSort 14 = .ok (.invokevirtual 77, 3) := by decide +kernel
theorem dX2_takeSort_17 : decode cX2_takeSort 17 = .ok (.goto 20, 3) := by decide +kernel
theorem dX2_takeSort_20 : decode cX2_takeSort 20 = .ok (.aload_n 0, 1) := by decide +kernel
theorem dX2_takeSort_21 : decode cX2_takeSort 21 = .ok (.getfield 29, 3) := by decide +kernel
theorem dX2_takeSort_24 : decode cX2_takeSort 24 = .ok (.ifCond .ne 13, 3) := by decide +kernel
theorem dX2_takeSort_27 : decode cX2_takeSort 27 = .ok (.aload_n 0, 1) := by decide +kernel
theorem dX2_takeSort_28 : decode cX2_takeSort 28 = .ok (.dup, 1) := by decide +kernel
theorem dX2_takeSort_29 : decode cX2_takeSort 29 = .ok (.getfield 26, 3) := by decide +kernel
theorem dX2_takeSort_32 : decode cX2_takeSort 32 = .ok (.iconst 1, 1) := by decide +kernel
theorem dX2_takeSort_33 : decode cX2_takeSort 33 = .ok (.iadd, 1) := by decide +kernel
theorem dX2_takeSort_34 : decode cX2_takeSort 34 = .ok (.putfield 26, 3) := by decide +kernel
theorem dX2_takeSort_37 : decode cX2_takeSort 37 = .ok (.iload_n 1, 1) := by decide +kernel
theorem dX2_takeSort_38 : decode cX2_takeSort 38 = .ok (.ireturn, 1) := by decide +kernel
theorem dX2_takeNumber_0 : decode cX2_takeNumber 0 = .ok (.iconst 0, 1) := by decide +kernel
theorem dX2_takeNumber_1 : decode cX2_takeNumber 1 = .ok (.istore_n 3, 1) := by decide +kernel
theorem dX2_takeNumber_2 : decode cX2_takeNumber 2 = .ok (.iconst 0, 1) := by decide +kernel
theorem dX2_takeNumber_3 : decode cX2_takeNumber 3 = .ok (.istore 4, 2) := by decide +kernel
theorem dX2_takeNumber_5 : decode cX2_takeNumber 5 = .ok (.aload_n 0, 1) := by decide +kernel
theorem dX2_takeNumber_6 : decode cX2_takeNumber 6 = .ok (.getfield 26, 3) := by decide +kernel
theorem dX2_takeNumber_9 : decode cX2_takeNumber 9 = .ok (.istore 5, 2) := by decide +kernel
theorem dX2_takeNumber_11 : decode cX2_takeNumber 11 = .ok (.iload 5, 2) := by decide +kernel
theorem dX2_takeNumber_13 : decode cX2_takeNumber 13 = .ok (.aload_n 0, 1) := by decide +kernel
theorem dX2_takeNumber_14 : decode cX2_takeNumber 14 = .ok (.getfield 22, 3) := by decide +kernel
theorem dX2_takeNumber_17 : decode cX2_takeNumber 17 = .ok (.if_icmp .ge 55, 3) := by decide +kernel
theorem dX2_takeNumber_20 : decode cX2_takeNumber 20 = .ok (.aload_n 0, 1) := by decide +kernel
theorem dX2_takeNumber_21 : decode cX2_takeNumber 21 = .ok (.getfield 18, 3) := by decide +kernel
theorem dX2_takeNumber_24 : decode cX2_takeNumber 24 = .ok (.iload 5, 2) := by decide +kernel
theorem dX2_takeNumber_26 : decode cX2_takeNumber 26 = .ok (.iaload, 1) := by decide +kernel
theorem dX2_takeNumber_27 : decode cX2_takeNumber 27 = .ok (.bipush 48, 2) := by decide +kernel
theorem dX2_takeNumber_29 : decode cX2_takeNumber 29 = .ok (.bipush 57, 2) := by decide +kernel
theorem dX2_takeNumber_31 : decode cX2_takeNumber 31 = .ok (.invokestatic 105, 3) := by decide +kernel
theorem dX2_takeNumber_34 : decode cX2_takeNumber 34 = .ok (.ifCond .eq 38, 3) := by decide +kernel
theorem dX2_takeNumber_37 : decode cX2_takeNumber 37 = .ok (.iload 4, 2) := by decide +kernel
theorem dX2_takeNumber_39 : decode cX2_takeNumber 39 = .ok (.iconst 2, 1) := by decide +kernel
theorem dX2_takeNumber_40 : decode cX2_takeNumber 40 = .ok (.if_icmp .ge 21, 3) := by decide +kernel
theorem dX2_takeNumber_43 : decode cX2_takeNumber 43 = .ok (.bipush 10, 2) := by decide +kernel
theorem dX2_takeNumber_45 : decode cX2_takeNumber 45 = .ok (.iload_n 3, 1) := by decide +kernel
theorem dX2_takeNumber_46 : decode cX2_takeNumber 46 = .ok (.imul, 1) := by decide +kernel
theorem dX2_takeNumber_47 : decode cX2_takeNumber 47 = .ok (.aload_n 0, 1) := by decide +kernel
theorem dX2_takeNumber_48 : decode cX2_takeNumber 48 = .ok (.getfield 18, 3) := by decide +kernel
theorem dX2_takeNumber_51 : decode cX2_takeNumber 51 = .ok (.iload 5, 2) := by decide +kernel
theorem dX2_takeNumber_53 : decode cX2_takeNumber 53 = .ok (.iaload, 1) := by decide +kernel
theorem dX2_takeNumber_54 : decode cX2_takeNumber 54 = .ok (.iadd, 1) := by decide +kernel
theorem dX2_takeNumber_55 : decode cX2_takeNumber 55 = .ok (.bipush 48, 2) := by decide +kernel
theorem dX2_takeNumber_57 : decode cX2_takeNumber 57 = .ok (.isub, 1) := by decide +kernel
theorem dX2_takeNumber_58 : decode cX2_takeNumber 58 = .ok (.goto 4, 3) := by decide +kernel
theorem dX2_takeNumber_61 : decode cX2_takeNumber 61 = .ok (.iload_n 3, 1) := by decide +kernel
theorem dX2_takeNumber_62 : decode cX2_takeNumber 62 = .ok (.istore_n 3, 1) := by decide +kernel
theorem dX2_takeNumber_63 : decode cX2_takeNumber 63 = .ok (.iinc 4 1, 3) := by decide +kernel
theorem dX2_takeNumber_66 : decode cX2_takeNumber 66 = .ok (.iinc 5 1, 3) := by decide +kernel
theorem dX2_takeNumber_69 : decode cX2_takeNumber 69 = .ok (.goto (-58), 3) := by decide +kernel
theorem dX2_takeNumber_72 : decode cX2_takeNumber 72 = .ok (.iload 4, 2) := by decide +kernel
theorem dX2_takeNumber_74 : decode cX2_takeNumber 74 = .ok (.iconst 1, 1) := by decide +kernel
theorem dX2_takeNumber_75 : decode cX2_takeNumber 75 = .ok (.if_icmp .lt 9, 3) := by decide +kernel
theorem dX2_takeNumber_78 : decode cX2_takeNumber 78 = .ok (.iload 4, 2) := by decide +kernel
theorem dX2_takeNumber_80 : decode cX2_takeNumber 80 = .ok (.iconst 2, 1) := by decide +kernel
theorem dX2_takeNumber_81 : decode cX2_takeNumber 81 = .ok (.if_icmp .le 11, 3) := by decide +kernel
theorem dX2_takeNumber_84 : decode cX2_takeNumber 84 = .ok (.aload_n 0, 1) := by decide +kernel
theorem dX2_takeNumber_85 : decode cX2_takeNumber 85 = .ok (.iconst 1, 1) := by decide +kernel
theorem dX2_takeNumber_86 : decode cX2_takeNumber 86 = .ok (.invokevirtual 77, 3) := by decide +kernel
theorem dX2_takeNumber_89 : decode cX2_takeNumber 89 = .ok (.goto 38, 3) := by decide +kernel
theorem dX2_takeNumber_92 : decode cX2_takeNumber 92 = .ok (.iload_n 3, 1) := by decide +kernel
theorem dX2_takeNumber_93 : decode cX2_takeNumber 93 = .ok (.iload_n 1, 1) := by decide +kernel
theorem dX2_takeNumber_94 : decode cX2_takeNumber 94 = .ok (.iload_n 2, 1) := by decide +kernel
theorem dX2_takeNumber_95 : decode cX2_takeNumber 95 = .ok (.invokestatic 105, 3) := by decide +kernel
theorem dX2_takeNumber_98 : decode cX2_takeNumber 98 = .ok (.ifCond .ne 11, 3) := by decide +kernel
theorem dX2_takeNumber_101 : decode cX2_takeNumber 101 = .ok (.aload_n 0, 1) := by decide +kernel
theorem dX2_takeNumber_102 : decode cX2_takeNumber 102 = .ok (.iconst 2, 1) := by decide +kernel
theorem dX2_takeNumber_103 : decode cX2_takeNumber 103 = .ok (.invokevirtual 77, 3) := by decide +kernel
theorem dX2_takeNumber_106 : decode cX2_takeNumber 106 = .ok (.goto 21, 3) := by decide +kernel
theorem dX2_takeNumber_109 : decode cX2_takeNumber 109 = .ok (.aload_n 0, 1) := by decide +kernel
theorem dX2_takeNumber_110 : decode cX2_takeNumber 110 = .ok (.getfield 29, 3) := by decide +kernel
theorem dX2_takeNumber_113 : decode cX2_takeNumber 113 = .ok (.ifCond .ne 14, 3) := by decide +kernel
theorem dX2_takeNumber_116 : decode cX2_takeNumber 116 = .ok (.aload_n 0, 1) := by decide +kernel
theorem dX2_takeNumber_117 : decode cX2_takeNumber 117 = .ok (.dup, 1) := by decide +kernel
theorem dX2_takeNumber_118 : decode cX2_takeNumber 118 = .ok (.getfield 26, 3) := by decide +kernel
theorem dX2_takeNumber_121 : decode cX2_takeNumber 121 = .ok (.iload 4, 2) := by decide +kernel
theorem dX2_takeNumber_123 : decode cX2_takeNumber 123 = .ok (.iadd, 1) := by decide +kernel
theorem dX2_takeNumber_124 : decode cX2_takeNumber 124 = .ok (.putfield 26, 3) := by decide +kernel
theorem dX2_takeNumber_127 : decode cX2_takeNumber 127 = .ok (.iload_n 3, 1) := by decide +kernel
theorem dX2_takeNumber_128 : decode cX2_takeNumber 128 = .ok (.ireturn, 1) := by decide +kernel
theorem dX2_sortOf_0 : decode cX2_sortOf 0 = .ok (.iload_n 0, 1) := by decide +kernel
theorem dX2_sortOf_1 : decode cX2_sortOf 1 = .ok (.tableswitch 65 110 119 #[61, 57, 65, 65, 65, 55, 59, 65, 65, 63], 55) := by decide +kernel
theorem dX2_sortOf_56 : decode cX2_sortOf 56 = .ok (.iconst 1, 1) := by decide +kernel
theorem dX2_sortOf_57 : decode cX2_sortOf 57 = .ok (.ireturn, 1) := by decide +kernel
theorem dX2_sortOf_58 : decode cX2_sortOf 58 = .ok (.iconst 2, 1) := by decide +kernel
theorem dX2_sortOf_59 : decode cX2_sortOf 59 = .ok (.ireturn, 1) := by decide +kernel
theorem dX2_sortOf_60 : decode cX2_sortOf 60 = .ok (.iconst 3, 1) := by decide +kernel
theorem dX2_sortOf_61 : decode cX2_sortOf 61 = .ok (.ireturn, 1) := by decide +kernel
theorem dX2_sortOf_62 : decode cX2_sortOf 62 = .ok (.iconst 4, 1) := by decide +kernel
theorem dX2_sortOf_63 : decode cX2_sortOf 63 = .ok (.ireturn, 1) := by decide +kernel
theorem dX2_sortOf_64 : decode cX2_sortOf 64 = .ok (.iconst 5, 1) := by decide +kernel
theorem dX2_sortOf_65 : decode cX2_sortOf 65 = .ok (.ireturn, 1) := by decide +kernel
theorem dX2_sortOf_66 : decode cX2_sortOf 66 = .ok (.iconst 0, 1) := by decide +kernel
theorem dX2_sortOf_67 : decode cX2_sortOf 67 = .ok (.ireturn, 1) := by decide +kernel
theorem dX3_init_0 : decode cX3_init 0 = .ok (.aload_n 0, 1) := by decide +kernel
theorem dX3_init_1 : decode cX3_init 1 = .ok (.invokespecial 3, 3) := by decide +kernel
theorem dX3_init_4 : decode cX3_init 4 = .ok (.aload_n 0, 1) := by decide +kernel
theorem dX3_init_5 : decode cX3_init 5 = .ok (.bipush 6, 2) := by decide +kernel
theorem dX3_init_7 : decode cX3_init 7 = .ok (.newarray .int, 2) := by decide +kernel
theorem dX3_init_9 : decode cX3_init 9 = .ok (.putfield 9, 3) := by decide +kernel
theorem dX3_init_12 : decode cX3_init 12 = .ok (.aload_n 0, 1) := by decide +kernel
theorem dX3_init_13 : decode cX3_init 13 = .ok (.bipush 30, 2) := by decide +kernel
theorem dX3_init_15 : decode cX3_init 15 = .ok (.newarray .int, 2) := by decide +kernel
theorem dX3_init_17 : decode cX3_init 17 = .ok (.putfield 15, 3) := by decide +kernel
theorem dX3_init_20 : decode cX3_init 20 = .ok (.aload_n 0, 1) := by decide +kernel
theorem dX3_init_21 : decode cX3_init 21 = .ok (.bipush 7, 2) := by decide +kernel
theorem dX3_init_23 : decode cX3_init 23 = .ok (.newarray .int, 2) := by decide +kernel
theorem dX3_init_25 : decode cX3_init 25 = .ok (.putfield 18, 3) := by decide +kernel
theorem dX3_init_28 : decode cX3_init 28 = .ok (.aload_n 0, 1) := by decide +kernel
theorem dX3_init_29 : decode cX3_init 29 = .ok (.aload_n 1, 1) := by decide +kernel
theorem dX3_init_30 : decode cX3_init 30 = .ok (.putfield 21, 3) := by decide +kernel
theorem dX3_init_33 : decode cX3_init 33 = .ok (.return_, 1) := by decide +kernel
theorem dX3_fewestChanges_0 : decode cX3_fewestChanges 0 = .ok (.aload_n 0, 1) := by decide +kernel
theorem dX3_fewestChanges_1 : decode cX3_fewestChanges 1 = .ok (.iload_n 1, 1) := by decide +kernel
theorem dX3_fewestChanges_2 : decode cX3_fewestChanges 2 = .ok (.putfield 25, 3) := by decide +kernel
theorem dX3_fewestChanges_5 : decode cX3_fewestChanges 5 = .ok (.aload_n 0, 1) := by decide +kernel
theorem dX3_fewestChanges_6 : decode cX3_fewestChanges 6 = .ok (.iload_n 2, 1) := by decide +kernel
theorem dX3_fewestChanges_7 : decode cX3_fewestChanges 7 = .ok (.aload_n 0, 1) := by decide +kernel
theorem dX3_fewestChanges_8 : decode cX3_fewestChanges 8 = .ok (.invokevirtual 29, 3) := by decide +kernel
theorem dX3_fewestChanges_11 : decode cX3_fewestChanges 11 = .ok (.aload_n 0, 1) := by decide +kernel
theorem dX3_fewestChanges_12 : decode cX3_fewestChanges 12 = .ok (.getfield 21, 3) := by decide +kernel
theorem dX3_fewestChanges_15 : decode cX3_fewestChanges 15 = .ok (.getfield 33, 3) := by decide +kernel
theorem dX3_fewestChanges_18 : decode cX3_fewestChanges 18 = .ok (.iadd, 1) := by decide +kernel
theorem dX3_fewestChanges_19 : decode cX3_fewestChanges 19 = .ok (.invokestatic 38, 3) := by decide +kernel
theorem dX3_fewestChanges_22 : decode cX3_fewestChanges 22 = .ok (.putfield 44, 3) := by decide +kernel
theorem dX3_fewestChanges_25 : decode cX3_fewestChanges 25 = .ok (.aload_n 0, 1) := by decide +kernel
theorem dX3_fewestChanges_26 : decode cX3_fewestChanges 26 = .ok (.invokevirtual 47, 3) := by decide +kernel
theorem dX3_fewestChanges_29 : decode cX3_fewestChanges 29 = .ok (.iconst 0, 1) := by decide +kernel
theorem dX3_fewestChanges_30 : decode cX3_fewestChanges 30 = .ok (.istore_n 3, 1) := by decide +kernel
theorem dX3_fewestChanges_31 : decode cX3_fewestChanges 31 = .ok (.iload_n 3, 1) := by decide +kernel
theorem dX3_fewestChanges_32 : decode cX3_fewestChanges 32 = .ok (.aload_n 0, 1) := by decide +kernel
theorem dX3_fewestChanges_33 : decode cX3_fewestChanges 33 = .ok (.getfield 21, 3) := by decide +kernel
theorem dX3_fewestChanges_36 : decode cX3_fewestChanges 36 = .ok (.getfield 50, 3) := by decide +kernel
theorem dX3_fewestChanges_39 : decode cX3_fewestChanges 39 = .ok (.if_icmp .gt 21, 3) := by decide +kernel
theorem dX3_fewestChanges_42 : decode cX3_fewestChanges 42 = .ok (.aload_n 0, 1) := by decide +kernel
theorem dX3_fewestChanges_43 : decode cX3_fewestChanges 43 = .ok (.iconst 0, 1) := by decide +kernel
theorem dX3_fewestChanges_44 : decode cX3_fewestChanges 44 = .ok (.iload_n 3, 1) := by decide +kernel
theorem dX3_fewestChanges_45 : decode cX3_fewestChanges 45 = .ok (.iconst 0, 1) := by decide +kernel
theorem dX3_fewestChanges_46 : decode cX3_fewestChanges 46 = .ok (.invokevirtual 53, 3) := by decide +kernel
theorem dX3_fewestChanges_49 : decode cX3_fewestChanges 49 = .ok (.ifCond .eq 5, 3) := by decide +kernel
theorem dX3_fewestChanges_52 : decode cX3_fewestChanges 52 = .ok (.iload_n 3, 1) := by decide +kernel
theorem dX3_fewestChanges_53 : decode cX3_fewestChanges 53 = .ok (.ireturn, 1) := by decide +kernel
theorem dX3_fewestChanges_54 : decode cX3_fewestChanges 54 = .ok (.iinc 3 1, 3) := by decide +kernel
theorem dX3_fewestChanges_57 : decode cX3_fewestChanges 57 = .ok (.goto (-26), 3) := by decide +kernel
theorem dX3_fewestChanges_60 : decode cX3_fewestChanges 60 = .ok (.ldc 57, 2) := by decide +kernel
theorem dX3_fewestChanges_62 : decode cX3_fewestChanges 62 = .ok (.ireturn, 1) := by decide +kernel
theorem dX3_longestIll_0 : decode cX3_longestIll 0 = .ok (.iconst 0, 1) := by decide +kernel
theorem dX3_longestIll_1 : decode cX3_longestIll 1 = .ok (.istore_n 1, 1) := by decide +kernel
theorem dX3_longestIll_2 : decode cX3_longestIll 2 = .ok (.iconst 0, 1) := by decide +kernel
theorem dX3_longestIll_3 : decode cX3_longestIll 3 = .ok (.istore_n 2, 1) := by decide +kernel
theorem dX3_longestIll_4 : decode cX3_longestIll 4 = .ok (.iload_n 2, 1) := by decide +kernel
theorem dX3_longestIll_5 : decode cX3_longestIll 5 = .ok (.aload_n 0, 1) := by decide +kernel
theorem dX3_longestIll_6 : decode cX3_longestIll 6 = .ok (.getfield 21, 3) := by decide +kernel
theorem dX3_longestIll_9 : decode cX3_longestIll 9 = .ok (.getfield 50, 3) := by decide +kernel
theorem dX3_longestIll_12 : decode cX3_longestIll 12 = .ok (.if_icmp .ge 23, 3) := by decide +kernel
theorem dX3_longestIll_15 : decode cX3_longestIll 15 = .ok (.iload_n 1, 1) := by decide +kernel
theorem dX3_longestIll_16 : decode cX3_longestIll 16 = .ok (.aload_n 0, 1) := by decide +kernel
theorem dX3_longestIll_17 : decode cX3_longestIll 17 = .ok (.getfield 21, 3) := by decide +kernel
theorem dX3_longestIll_20 : decode cX3_longestIll 20 = .ok (.getfield 58, 3) := by decide +kernel
theorem dX3_longestIll_23 : decode cX3_longestIll 23 = .ok (.iload_n 2, 1) := by decide +kernel
theorem dX3_longestIll_24 : decode cX3_longestIll 24 = .ok (.iaload, 1) := by decide +kernel
theorem dX3_longestIll_25 : decode cX3_longestIll 25 = .ok (.invokestatic 61, 3) := by decide +kernel
theorem dX3_longestIll_28 : decode cX3_longestIll 28 = .ok (.istore_n 1, 1) := by decide +kernel
theorem dX3_longestIll_29 : decode cX3_longestIll 29 = .ok (.iinc 2 1, 3) := by decide +kernel
theorem dX3_longestIll_32 : decode cX3_longestIll 32 = .ok (.goto (-28), 3) := by decide +kernel
theorem dX3_longestIll_35 : decode cX3_longestIll 35 = .ok (.iload_n 1, 1) := by decide +kernel
theorem dX3_longestIll_36 : decode cX3_longestIll 36 = .ok (.ireturn, 1) := by decide +kernel
theorem dX3_noteReach_0 : decode cX3_noteReach 0 = .ok (.aload_n 0, 1) := by decide +kernel
theorem dX3_noteReach_1 : decode cX3_noteReach 1 = .ok (.getfield 18, 3) := by decide +kernel
theorem dX3_noteReach_4 : decode cX3_noteReach 4 = .ok (.aload_n 0, 1) := by decide +kernel
theorem dX3_noteReach_5 : decode cX3_noteReach 5 = .ok (.getfield 21, 3) := by decide +kernel
theorem dX3_noteReach_8 : decode cX3_noteReach 8 = .ok (.getfield 50, 3) := by decide +kernel
theorem dX3_noteReach_11 : decode cX3_noteReach 11 = .ok (.iconst 0, 1) := by decide +kernel
theorem dX3_noteReach_12 : decode cX3_noteReach 12 = .ok (.iastore, 1) := by decide +kernel
theorem dX3_noteReach_13 : decode cX3_noteReach 13 = .ok (.aload_n 0, 1) := by decide +kernel
theorem dX3_noteReach_14 : decode cX3_noteReach 14 = .ok (.getfield 21, 3) := by decide +kernel
theorem dX3_noteReach_17 : decode cX3_noteReach 17 = .ok (.getfield 50, 3) := by decide +kernel
theorem dX3_noteReach_20 : decode cX3_noteReach 20 = .ok (.iconst 1, 1) := by decide +kernel
theorem dX3_noteReach_21 : decode cX3_noteReach 21 = .ok (.isub, 1) := by decide +kernel
theorem dX3_noteReach_22 : decode cX3_noteReach 22 = .ok (.istore_n 1, 1) := by decide +kernel
theorem dX3_noteReach_23 : decode cX3_noteReach 23 = .ok (.iload_n 1, 1) := by decide +kernel
theorem dX3_noteReach_24 : decode cX3_noteReach 24 = .ok (.ifCond .lt 116, 3) := by decide +kernel
theorem dX3_noteReach_27 : decode cX3_noteReach 27 = .ok (.aload_n 0, 1) := by decide +kernel
theorem dX3_noteReach_28 : decode cX3_noteReach 28 = .ok (.getfield 9, 3) := by decide +kernel
theorem dX3_noteReach_31 : decode cX3_noteReach 31 = .ok (.iload_n 1, 1) := by decide +kernel
theorem dX3_noteReach_32 : decode cX3_noteReach 32 = .ok (.aload_n 0, 1) := by decide +kernel
theorem dX3_noteReach_33 : decode cX3_noteReach 33 = .ok (.getfield 21, 3) := by decide +kernel
theorem dX3_noteReach_36 : decode cX3_noteReach 36 = .ok (.getfield 64, 3) := by decide +kernel
theorem dX3_noteReach_39 : decode cX3_noteReach 39 = .ok (.iload_n 1, 1) := by decide +kernel
theorem dX3_noteReach_40 : decode cX3_noteReach 40 = .ok (.iaload, 1) := by decide +kernel
theorem dX3_noteReach_41 : decode cX3_noteReach 41 = .ok (.iastore, 1) := by decide +kernel
theorem dX3_noteReach_42 : decode cX3_noteReach 42 = .ok (.aload_n 0, 1) := by decide +kernel
theorem dX3_noteReach_43 : decode cX3_noteReach 43 = .ok (.getfield 18, 3) := by decide +kernel
theorem dX3_noteReach_46 : decode cX3_noteReach 46 = .ok (.iload_n 1, 1) := by decide +kernel
theorem dX3_noteReach_47 : decode cX3_noteReach 47 = .ok (.aload_n 0, 1) := by decide +kernel
theorem dX3_noteReach_48 : decode cX3_noteReach 48 = .ok (.getfield 18, 3) := by decide +kernel
theorem dX3_noteReach_51 : decode cX3_noteReach 51 = .ok (.iload_n 1, 1) := by decide +kernel
theorem dX3_noteReach_52 : decode cX3_noteReach 52 = .ok (.iconst 1, 1) := by decide +kernel
theorem dX3_noteReach_53 : decode cX3_noteReach 53 = .ok (.iadd, 1) := by decide +kernel
theorem dX3_noteReach_54 : decode cX3_noteReach 54 = .ok (.iaload, 1) := by decide +kernel
theorem dX3_noteReach_55 : decode cX3_noteReach 55 = .ok (.iastore, 1) := by decide +kernel
theorem dX3_noteReach_56 : decode cX3_noteReach 56 = .ok (.iconst 0, 1) := by decide +kernel
theorem dX3_noteReach_57 : decode cX3_noteReach 57 = .ok (.istore_n 2, 1) := by decide +kernel
theorem dX3_noteReach_58 : decode cX3_noteReach 58 = .ok (.iload_n 2, 1) := by decide +kernel
theorem dX3_noteReach_59 : decode cX3_noteReach 59 = .ok (.aload_n 0, 1) := by decide +kernel
theorem dX3_noteReach_60 : decode cX3_noteReach 60 = .ok (.getfield 21, 3) := by decide +kernel
theorem dX3_noteReach_63 : decode cX3_noteReach 63 = .ok (.getfield 33, 3) := by decide +kernel
theorem dX3_noteReach_66 : decode cX3_noteReach 66 = .ok (.if_icmp .ge 53, 3) := by decide +kernel
theorem dX3_noteReach_69 : decode cX3_noteReach 69 = .ok (.aload_n 0, 1) := by decide +kernel
theorem dX3_noteReach_70 : decode cX3_noteReach 70 = .ok (.getfield 21, 3) := by decide +kernel
theorem dX3_noteReach_73 : decode cX3_noteReach 73 = .ok (.getfield 64, 3) := by decide +kernel
theorem dX3_noteReach_76 : decode cX3_noteReach 76 = .ok (.iload_n 1, 1) := by decide +kernel
theorem dX3_noteReach_77 : decode cX3_noteReach 77 = .ok (.iload_n 2, 1) := by decide +kernel
theorem dX3_noteReach_78 : decode cX3_noteReach 78 = .ok (.iastore, 1) := by decide +kernel
theorem dX3_noteReach_79 : decode cX3_noteReach 79 = .ok (.aload_n 0, 1) := by decide +kernel
theorem dX3_noteReach_80 : decode cX3_noteReach 80 = .ok (.getfield 15, 3) := by decide +kernel
theorem dX3_noteReach_83 : decode cX3_noteReach 83 = .ok (.iload_n 1, 1) := by decide +kernel
theorem dX3_noteReach_84 : decode cX3_noteReach 84 = .ok (.iconst 5, 1) := by decide +kernel
theorem dX3_noteReach_85 : decode cX3_noteReach 85 = .ok (.imul, 1) := by decide +kernel
theorem dX3_noteReach_86 : decode cX3_noteReach 86 = .ok (.iload_n 2, 1) := by decide +kernel
theorem dX3_noteReach_87 : decode cX3_noteReach 87 = .ok (.iadd, 1) := by decide +kernel
theorem dX3_noteReach_88 : decode cX3_noteReach 88 = .ok (.aload_n 0, 1) := by decide +kernel
theorem dX3_noteReach_89 : decode cX3_noteReach 89 = .ok (.iload_n 1, 1) := by decide +kernel
theorem dX3_noteReach_90 : decode cX3_noteReach 90 = .ok (.invokevirtual 67, 3) := by decide +kernel
theorem dX3_noteReach_93 : decode cX3_noteReach 93 = .ok (.iastore, 1) := by decide +kernel
theorem dX3_noteReach_94 : decode cX3_noteReach 94 = .ok (.aload_n 0, 1) := by decide +kernel
theorem dX3_noteReach_95 : decode cX3_noteReach 95 = .ok (.getfield 18, 3) := by decide +kernel
theorem dX3_noteReach_98 : decode cX3_noteReach 98 = .ok (.iload_n 1, 1) := by decide +kernel
theorem dX3_noteReach_99 : decode cX3_noteReach 99 = .ok (.dup2, 1) := by decide +kernel
theorem dX3_noteReach_100 : decode cX3_noteReach 100 = .ok (.iaload, 1) := by decide +kernel
theorem dX3_noteReach_101 : decode cX3_noteReach 101 = .ok (.aload_n 0, 1) := by decide +kernel
theorem dX3_noteReach_102 : decode cX3_noteReach 102 = .ok (.getfield 15, 3) := by decide +kernel
theorem dX3_noteReach_105 : decode cX3_noteReach 105 = .ok (.iload_n 1, 1) := by decide +kernel
theorem dX3_noteReach_106 : decode cX3_noteReach 106 = .ok (.iconst 5, 1) := by decide +kernel
theorem dX3_noteReach_107 : decode cX3_noteReach 107 = .ok (.imul, 1) := by decide +kernel
theorem dX3_noteReach_108 : decode cX3_noteReach 108 = .ok (.iload_n 2, 1) := by decide +kernel
theorem dX3_noteReach_109 : decode cX3_noteReach 109 = .ok (.iadd, 1) := by decide +kernel
theorem dX3_noteReach_110 : decode cX3_noteReach 110 = .ok (.iaload, 1) := by decide +kernel
theorem dX3_noteReach_111 : decode cX3_noteReach 111 = .ok (.ior, 1) := by decide +kernel
theorem dX3_noteReach_112 : decode cX3_noteReach 112 = .ok (.iastore, 1) := by decide +kernel
theorem dX3_noteReach_113 : decode cX3_noteReach 113 = .ok (.iinc 2 1, 3) := by decide +kernel
theorem dX3_noteReach_116 : decode cX3_noteReach 116 = .ok (.goto (-58), 3) := by decide +kernel
theorem dX3_noteReach_119 : decode cX3_noteReach 119 = .ok (.aload_n 0, 1) := by decide +kernel
theorem dX3_noteReach_120 : decode cX3_noteReach 120 = .ok (.getfield 21, 3) := by decide +kernel
theorem dX3_noteReach_123 : decode cX3_noteReach 123 = .ok (.getfield 64, 3) := by decide +kernel
theorem dX3_noteReach_126 : decode cX3_noteReach 126 = .ok (.iload_n 1, 1) := by decide +kernel
theorem dX3_noteReach_127 : decode cX3_noteReach 127 = .ok (.aload_n 0, 1) := by decide +kernel
theorem dX3_noteReach_128 : decode cX3_noteReach 128 = .ok (.getfield 9, 3) := by decide +kernel
theorem dX3_noteReach_131 : decode cX3_noteReach 131 = .ok (.iload_n 1, 1) := by decide +kernel
theorem dX3_noteReach_132 : decode cX3_noteReach 132 = .ok (.iaload, 1) := by decide +kernel
theorem dX3_noteReach_133 : decode cX3_noteReach 133 = .ok (.iastore, 1) := by decide +kernel
theorem dX3_noteReach_134 : decode cX3_noteReach 134 = .ok (.iinc 1 (-1), 3) := by decide +kernel
theorem dX3_noteReach_137 : decode cX3_noteReach 137 = .ok (.goto (-114), 3) := by decide +kernel
theorem dX3_noteReach_140 : decode cX3_noteReach 140 = .ok (.return_, 1) := by decide +kernel
theorem dX3_visited_0 : decode cX3_visited 0 = .ok (.iconst 0, 1) := by decide +kernel
theorem dX3_visited_1 : decode cX3_visited 1 = .ok (.istore_n 2, 1) := by decide +kernel
theorem dX3_visited_2 : decode cX3_visited 2 = .ok (.iconst 0, 1) := by decide +kernel
theorem dX3_visited_3 : decode cX3_visited 3 = .ok (.istore_n 3, 1) := by decide +kernel
theorem dX3_visited_4 : decode cX3_visited 4 = .ok (.iload_n 3, 1) := by decide +kernel
theorem dX3_visited_5 : decode cX3_visited 5 = .ok (.aload_n 0, 1) := by decide +kernel
theorem dX3_visited_6 : decode cX3_visited 6 = .ok (.getfield 44, 3) := by decide +kernel
theorem dX3_visited_9 : decode cX3_visited 9 = .ok (.if_icmp .ge 38, 3) := by decide +kernel
theorem dX3_visited_12 : decode cX3_visited 12 = .ok (.aload_n 0, 1) := by decide +kernel
theorem dX3_visited_13 : decode cX3_visited 13 = .ok (.getfield 21, 3) := by decide +kernel
theorem dX3_visited_16 : decode cX3_visited 16 = .ok (.iload_n 1, 1) := by decide +kernel
theorem dX3_visited_17 : decode cX3_visited 17 = .ok (.iload_n 3, 1) := by decide +kernel
theorem dX3_visited_18 : decode cX3_visited 18 = .ok (.invokevirtual 71, 3) := by decide +kernel
theorem dX3_visited_21 : decode cX3_visited 21 = .ok (.istore 4, 2) := by decide +kernel
theorem dX3_visited_23 : decode cX3_visited 23 = .ok (.iload_n 2, 1) := by decide +kernel
theorem dX3_visited_24 : decode cX3_visited 24 = .ok (.iload 4, 2) := by decide +kernel
theorem dX3_visited_26 : decode cX3_visited 26 = .ok (.ldc 57, 2) := by decide +kernel
theorem dX3_visited_28 : decode cX3_visited 28 = .ok (.if_icmp .ne 7, 3) := by decide +kernel
theorem dX3_visited_31 : decode cX3_visited 31 = .ok (.iconst 0, 1) := by decide +kernel
theorem dX3_visited_32 : decode cX3_visited 32 = .ok (.goto 7, 3) := by decide +kernel
theorem dX3_visited_35 : decode cX3_visited 35 = .ok (.iconst 1, 1) := by decide +kernel
theorem dX3_visited_36 : decode cX3_visited 36 = .ok (.iload 4, 2) := by decide +kernel
theorem dX3_visited_38 : decode cX3_visited 38 = .ok (.ishl, 1) := by decide +kernel
theorem dX3_visited_39 : decode cX3_visited 39 = .ok (.ior, 1) := by decide +kernel
theorem dX3_visited_40 : decode cX3_visited 40 = .ok (.istore_n 2, 1) := by decide +kernel
theorem dX3_visited_41 : decode cX3_visited 41 = .ok (.iinc 3 1, 3) := by decide +kernel
theorem dX3_visited_44 : decode cX3_visited 44 = .ok (.goto (-40), 3) := by decide +kernel
theorem dX3_visited_47 : decode cX3_visited 47 = .ok (.iload_n 2, 1) := by decide +kernel
theorem dX3_visited_48 : decode cX3_visited 48 = .ok (.ireturn, 1) := by decide +kernel
theorem dX3_place_0 : decode cX3_place 0 = .ok (.iload_n 2, 1) := by decide +kernel
theorem dX3_place_1 : decode cX3_place 1 = .ok (.aload_n 0, 1) := by decide +kernel
theorem dX3_place_2 : decode cX3_place 2 = .ok (.getfield 21, 3) := by decide +kernel
theorem dX3_place_5 : decode cX3_place 5 = .ok (.getfield 50, 3) := by decide +kernel
theorem dX3_place_8 : decode cX3_place 8 = .ok (.iload_n 1, 1) := by decide +kernel
theorem dX3_place_9 : decode cX3_place 9 = .ok (.isub, 1) := by decide +kernel
theorem dX3_place_10 : decode cX3_place 10 = .ok (.if_icmp .gt 21, 3) := by decide +kernel
theorem dX3_place_13 : decode cX3_place 13 = .ok (.aload_n 0, 1) := by decide +kernel
theorem dX3_place_14 : decode cX3_place 14 = .ok (.getfield 25, 3) := by decide +kernel
theorem dX3_place_17 : decode cX3_place 17 = .ok (.iload_n 3, 1) := by decide +kernel
theorem dX3_place_18 : decode cX3_place 18 = .ok (.aload_n 0, 1) := by decide +kernel
theorem dX3_place_19 : decode cX3_place 19 = .ok (.getfield 18, 3) := by decide +kernel
theorem dX3_place_22 : decode cX3_place 22 = .ok (.iload_n 1, 1) := by decide +kernel
theorem dX3_place_23 : decode cX3_place 23 = .ok (.iaload, 1) := by decide +kernel
theorem dX3_place_24 : decode cX3_place 24 = .ok (.ior, 1) := by decide +kernel
theorem dX3_place_25 : decode cX3_place 25 = .ok (.iconst (-1), 1) := by decide +kernel
theorem dX3_place_26 : decode cX3_place 26 = .ok (.ixor, 1) := by decide +kernel
theorem dX3_place_27 : decode cX3_place 27 = .ok (.iand, 1) := by decide +kernel
theorem dX3_place_28 : decode cX3_place 28 = .ok (.ifCond .eq 5, 3) := by decide +kernel
theorem dX3_place_31 : decode cX3_place 31 = .ok (.iconst 0, 1) := by decide +kernel
theorem dX3_place_32 : decode cX3_place 32 = .ok (.ireturn, 1) := by decide +kernel
theorem dX3_place_33 : decode cX3_place 33 = .ok (.iload_n 1, 1) := by decide +kernel
theorem dX3_place_34 : decode cX3_place 34 = .ok (.aload_n 0, 1) := by decide +kernel
theorem dX3_place_35 : decode cX3_place 35 = .ok (.getfield 21, 3) := by decide +kernel
theorem dX3_place_38 : decode cX3_place 38 = .ok (.getfield 50, 3) := by decide +kernel
theorem dX3_place_41 : decode cX3_place 41 = .ok (.if_icmp .lt 30, 3) := by decide +kernel
theorem dX3_place_44 : decode cX3_place 44 = .ok (.aload_n 0, 1) := by decide +kernel
theorem dX3_place_45 : decode cX3_place 45 = .ok (.getfield 25, 3) := by decide +kernel
theorem dX3_place_48 : decode cX3_place 48 = .ok (.aload_n 0, 1) := by decide +kernel
theorem dX3_place_49 : decode cX3_place 49 = .ok (.getfield 21, 3) := by decide +kernel
theorem dX3_place_52 : decode cX3_place 52 = .ok (.aload_n 0, 1) := by decide +kernel
theorem dX3_place_53 : decode cX3_place 53 = .ok (.getfield 44, 3) := by decide +kernel
theorem dX3_place_56 : decode cX3_place 56 = .ok (.invokevirtual 74, 3) := by decide +kernel
theorem dX3_place_59 : decode cX3_place 59 = .ok (.iconst (-1), 1) := by decide +kernel
theorem dX3_place_60 : decode cX3_place 60 = .ok (.ixor, 1) := by decide +kernel
theorem dX3_place_61 : decode cX3_place 61 = .ok (.iand, 1) := by decide +kernel
theorem dX3_place_62 : decode cX3_place 62 = .ok (.ifCond .ne 7, 3) := by decide +kernel
theorem dX3_place_65 : decode cX3_place 65 = .ok (.iconst 1, 1) := by decide +kernel
theorem dX3_place_66 : decode cX3_place 66 = .ok (.goto 4, 3) := by decide +kernel
theorem dX3_place_69 : decode cX3_place 69 = .ok (.iconst 0, 1) := by decide +kernel
theorem dX3_place_70 : decode cX3_place 70 = .ok (.ireturn, 1) := by decide +kernel
theorem dX3_place_71 : decode cX3_place 71 = .ok (.iconst 0, 1) := by decide +kernel
theorem dX3_place_72 : decode cX3_place 72 = .ok (.istore 4, 2) := by decide +kernel
theorem dX3_place_74 : decode cX3_place 74 = .ok (.iload 4, 2) := by decide +kernel
theorem dX3_place_76 : decode cX3_place 76 = .ok (.aload_n 0, 1) := by decide +kernel
theorem dX3_place_77 : decode cX3_place 77 = .ok (.getfield 21, 3) := by decide +kernel
theorem dX3_place_80 : decode cX3_place 80 = .ok (.getfield 33, 3) := by decide +kernel
theorem dX3_place_83 : decode cX3_place 83 = .ok (.if_icmp .ge 73, 3) := by decide +kernel
theorem dX3_place_86 : decode cX3_place 86 = .ok (.iload 4, 2) := by decide +kernel
theorem dX3_place_88 : decode cX3_place 88 = .ok (.aload_n 0, 1) := by decide +kernel
theorem dX3_place_89 : decode cX3_place 89 = .ok (.getfield 9, 3) := by decide +kernel
theorem dX3_place_92 : decode cX3_place 92 = .ok (.iload_n 1, 1) := by decide +kernel
theorem dX3_place_93 : decode cX3_place 93 = .ok (.iaload, 1) := by decide +kernel
theorem dX3_place_94 : decode cX3_place 94 = .ok (.if_icmp .ne 7, 3) := by decide +kernel
theorem dX3_place_97 : decode cX3_place 97 = .ok (.iconst 0, 1) := by decide +kernel
theorem dX3_place_98 : decode cX3_place 98 = .ok (.goto 4, 3) := by decide +kernel
theorem dX3_place_101 : decode cX3_place 101 = .ok (.iconst 1, 1) := by decide +kernel
theorem dX3_place_102 : decode cX3_place 102 = .ok (.istore 5, 2) := by decide +kernel
theorem dX3_place_104 : decode cX3_place 104 = .ok (.aload_n 0, 1) := by decide +kernel
theorem dX3_place_105 : decode cX3_place 105 = .ok (.getfield 21, 3) := by decide +kernel
theorem dX3_place_108 : decode cX3_place 108 = .ok (.getfield 64, 3) := by decide +kernel
theorem dX3_place_111 : decode cX3_place 111 = .ok (.iload_n 1, 1) := by decide +kernel
theorem dX3_place_112 : decode cX3_place 112 = .ok (.iload 4, 2) := by decide +kernel
theorem dX3_place_114 : decode cX3_place 114 = .ok (.iastore, 1) := by decide +kernel
theorem dX3_place_115 : decode cX3_place 115 = .ok (.iload 5, 2) := by decide +kernel
theorem dX3_place_117 : decode cX3_place 117 = .ok (.iload_n 2, 1) := by decide +kernel
theorem dX3_place_118 : decode cX3_place 118 = .ok (.if_icmp .gt 32, 3) := by decide +kernel
theorem dX3_place_121 : decode cX3_place 121 = .ok (.aload_n 0, 1) := by decide +kernel
theorem dX3_place_122 : decode cX3_place 122 = .ok (.iload_n 1, 1) := by decide +kernel
theorem dX3_place_123 : decode cX3_place 123 = .ok (.iconst 1, 1) := by decide +kernel
theorem dX3_place_124 : decode cX3_place 124 = .ok (.iadd, 1) := by decide +kernel
theorem dX3_place_125 : decode cX3_place 125 = .ok (.iload_n 2, 1) := by decide +kernel
theorem dX3_place_126 : decode cX3_place 126 = .ok (.iload 5, 2) := by decide +kernel
theorem dX3_place_128 : decode cX3_place 128 = .ok (.isub, 1) := by decide +kernel
theorem dX3_place_129 : decode cX3_place 129 = .ok (.iload_n 3, 1) := by decide +kernel
theorem dX3_place_130 : decode cX3_place 130 = .ok (.aload_n 0, 1) := by decide +kernel
theorem dX3_place_131 : decode cX3_place 131 = .ok (.getfield 15, 3) := by decide +kernel
theorem dX3_place_134 : decode cX3_place 134 = .ok (.iload_n 1, 1) := by decide +kernel
theorem dX3_place_135 : decode cX3_place 135 = .ok (.iconst 5, 1) := by decide +kernel
theorem dX3_place_136 : decode cX3_place 136 = .ok (.imul, 1) := by decide +kernel
theorem dX3_place_137 : decode cX3_place 137 = .ok (.iload 4, 2) := by decide +kernel
theorem dX3_place_139 : decode cX3_place 139 = .ok (.iadd, 1) := by decide +kernel
theorem dX3_place_140 : decode cX3_place 140 = .ok (.iaload, 1) := by decide +kernel
theorem dX3_place_141 : decode cX3_place 141 = .ok (.ior, 1) := by decide +kernel
theorem dX3_place_142 : decode cX3_place 142 = .ok (.invokevirtual 53, 3) := by decide +kernel
theorem dX3_place_145 : decode cX3_place 145 = .ok (.ifCond .eq 5, 3) := by decide +kernel
theorem dX3_place_148 : decode cX3_place 148 = .ok (.iconst 1, 1) := by decide +kernel
theorem dX3_place_149 : decode cX3_place 149 = .ok (.ireturn, 1) := by decide +kernel
theorem dX3_place_150 : decode cX3_place 150 = .ok (.iinc 4 1, 3) := by decide +kernel
theorem dX3_place_153 : decode cX3_place 153 = .ok (.goto (-79), 3) := by decide +kernel
theorem dX3_place_156 : decode cX3_place 156 = .ok (.aload_n 0, 1) := by decide +kernel
theorem dX3_place_157 : decode cX3_place 157 = .ok (.getfield 21, 3) := by decide +kernel
theorem dX3_place_160 : decode cX3_place 160 = .ok (.getfield 64, 3) := by decide +kernel
theorem dX3_place_163 : decode cX3_place 163 = .ok (.iload_n 1, 1) := by decide +kernel
theorem dX3_place_164 : decode cX3_place 164 = .ok (.aload_n 0, 1) := by decide +kernel
theorem dX3_place_165 : decode cX3_place 165 = .ok (.getfield 9, 3) := by decide +kernel
theorem dX3_place_168 : decode cX3_place 168 = .ok (.iload_n 1, 1) := by decide +kernel
theorem dX3_place_169 : decode cX3_place 169 = .ok (.iaload, 1) := by decide +kernel
theorem dX3_place_170 : decode cX3_place 170 = .ok (.iastore, 1) := by decide +kernel
theorem dX3_place_171 : decode cX3_place 171 = .ok (.iconst 0, 1) := by decide +kernel
theorem dX3_place_172 : decode cX3_place 172 = .ok (.ireturn, 1) := by decide +kernel
theorem dX4_init_0 : decode cX4_init 0 = .ok (.aload_n 0, 1) := by decide +kernel
theorem dX4_init_1 : decode cX4_init 1 = .ok (.invokespecial 3, 3) := by decide +kernel
theorem dX4_init_4 : decode cX4_init 4 = .ok (.aload_n 0, 1) := by decide +kernel
theorem dX4_init_5 : decode cX4_init 5 = .ok (.bipush 8, 2) := by decide +kernel
theorem dX4_init_7 : decode cX4_init 7 = .ok (.bipush 40, 2) := by decide +kernel
theorem dX4_init_9 : decode cX4_init 9 = .ok (.multianewarray 9 2, 4) := by decide +kernel
theorem dX4_init_13 : decode cX4_init 13 = .ok (.putfield 11, 3) := by decide +kernel
theorem dX4_init_16 : decode cX4_init 16 = .ok (.aload_n 0, 1) := by decide +kernel
theorem dX4_init_17 : decode cX4_init 17 = .ok (.bipush 8, 2) := by decide +kernel
theorem dX4_init_19 : decode cX4_init 19 = .ok (.newarray .int, 2) := by decide +kernel
theorem dX4_init_21 : decode cX4_init 21 = .ok (.putfield 16, 3) := by decide +kernel
theorem dX4_init_24 : decode cX4_init 24 = .ok (.aload_n 0, 1) := by decide +kernel
theorem dX4_init_25 : decode cX4_init 25 = .ok (.bipush 8, 2) := by decide +kernel
theorem dX4_init_27 : decode cX4_init 27 = .ok (.newarray .int, 2) := by decide +kernel
theorem dX4_init_29 : decode cX4_init 29 = .ok (.putfield 20, 3) := by decide +kernel
theorem dX4_init_32 : decode cX4_init 32 = .ok (.iconst 0, 1) := by decide +kernel
theorem dX4_init_33 : decode cX4_init 33 = .ok (.istore_n 1, 1) := by decide +kernel
theorem dX4_init_34 : decode cX4_init 34 = .ok (.iload_n 1, 1) := by decide +kernel
theorem dX4_init_35 : decode cX4_init 35 = .ok (.bipush 8, 2) := by decide +kernel
theorem dX4_init_37 : decode cX4_init 37 = .ok (.if_icmp .ge 16, 3) := by decide +kernel
theorem dX4_init_40 : decode cX4_init 40 = .ok (.aload_n 0, 1) := by decide +kernel
theorem dX4_init_41 : decode cX4_init 41 = .ok (.getfield 20, 3) := by decide +kernel
theorem dX4_init_44 : decode cX4_init 44 = .ok (.iload_n 1, 1) := by decide +kernel
theorem dX4_init_45 : decode cX4_init 45 = .ok (.iconst (-1), 1) := by decide +kernel
theorem dX4_init_46 : decode cX4_init 46 = .ok (.iastore, 1) := by decide +kernel
theorem dX4_init_47 : decode cX4_init 47 = .ok (.iinc 1 1, 3) := by decide +kernel
theorem dX4_init_50 : decode cX4_init 50 = .ok (.goto (-16), 3) := by decide +kernel
theorem dX4_init_53 : decode cX4_init 53 = .ok (.return_, 1) := by decide +kernel
theorem dX4_holds_0 : decode cX4_holds 0 = .ok (.iload_n 0, 1) := by decide +kernel
theorem dX4_holds_1 : decode cX4_holds 1 = .ok (.iconst 0, 1) := by decide +kernel
theorem dX4_holds_2 : decode cX4_holds 2 = .ok (.bipush 7, 2) := by decide +kernel
theorem dX4_holds_4 : decode cX4_holds 4 = .ok (.invokestatic 23, 3) := by decide +kernel
theorem dX4_holds_7 : decode cX4_holds 7 = .ok (.ireturn, 1) := by decide +kernel
theorem dX4_isMissing_0 : decode cX4_isMissing 0 = .ok (.aload_n 0, 1) := by decide +kernel
theorem dX4_isMissing_1 : decode cX4_isMissing 1 = .ok (.getfield 20, 3) := by decide +kernel
theorem dX4_isMissing_4 : decode cX4_isMissing 4 = .ok (.iload_n 1, 1) := by decide +kernel
theorem dX4_isMissing_5 : decode cX4_isMissing 5 = .ok (.iaload, 1) := by decide +kernel
theorem dX4_isMissing_6 : decode cX4_isMissing 6 = .ok (.iconst (-1), 1) := by decide +kernel
theorem dX4_isMissing_7 : decode cX4_isMissing 7 = .ok (.if_icmp .ne 7, 3) := by decide +kernel
theorem dX4_isMissing_10 : decode cX4_isMissing 10 = .ok (.iconst 1, 1) := by decide +kernel
theorem dX4_isMissing_11 : decode cX4_isMissing 11 = .ok (.goto 4, 3) := by decide +kernel
theorem dX4_isMissing_14 : decode cX4_isMissing 14 = .ok (.iconst 0, 1) := by decide +kernel
theorem dX4_isMissing_15 : decode cX4_isMissing 15 = .ok (.ireturn, 1) := by decide +kernel
theorem dX4_lay_0 : decode cX4_lay 0 = .ok (.aload_n 0, 1) := by decide +kernel
theorem dX4_lay_1 : decode cX4_lay 1 = .ok (.getfield 16, 3) := by decide +kernel
theorem dX4_lay_4 : decode cX4_lay 4 = .ok (.iload_n 1, 1) := by decide +kernel
theorem dX4_lay_5 : decode cX4_lay 5 = .ok (.iload_n 2, 1) := by decide +kernel
theorem dX4_lay_6 : decode cX4_lay 6 = .ok (.iastore, 1) := by decide +kernel
theorem dX4_lay_7 : decode cX4_lay 7 = .ok (.aload_n 0, 1) := by decide +kernel
theorem dX4_lay_8 : decode cX4_lay 8 = .ok (.getfield 20, 3) := by decide +kernel
theorem dX4_lay_11 : decode cX4_lay 11 = .ok (.iload_n 1, 1) := by decide +kernel
theorem dX4_lay_12 : decode cX4_lay 12 = .ok (.iload_n 3, 1) := by decide +kernel
theorem dX4_lay_13 : decode cX4_lay 13 = .ok (.iastore, 1) := by decide +kernel
theorem dX4_lay_14 : decode cX4_lay 14 = .ok (.iconst 0, 1) := by decide +kernel
theorem dX4_lay_15 : decode cX4_lay 15 = .ok (.istore 4, 2) := by decide +kernel
theorem dX4_lay_17 : decode cX4_lay 17 = .ok (.iload 4, 2) := by decide +kernel
theorem dX4_lay_19 : decode cX4_lay 19 = .ok (.iload_n 3, 1) := by decide +kernel
theorem dX4_lay_20 : decode cX4_lay 20 = .ok (.if_icmp .ge 19, 3) := by decide +kernel
theorem dX4_lay_23 : decode cX4_lay 23 = .ok (.aload_n 0, 1) := by decide +kernel
theorem dX4_lay_24 : decode cX4_lay 24 = .ok (.getfield 11, 3) := by decide +kernel
theorem dX4_lay_27 : decode cX4_lay 27 = .ok (.iload_n 1, 1) := by decide +kernel
theorem dX4_lay_28 : decode cX4_lay 28 = .ok (.aaload, 1) := by decide +kernel
theorem dX4_lay_29 : decode cX4_lay 29 = .ok (.iload 4, 2) := by decide +kernel
theorem dX4_lay_31 : decode cX4_lay 31 = .ok (.iconst 0, 1) := by decide +kernel
theorem dX4_lay_32 : decode cX4_lay 32 = .ok (.iastore, 1) := by decide +kernel
theorem dX4_lay_33 : decode cX4_lay 33 = .ok (.iinc 4 1, 3) := by decide +kernel
theorem dX4_lay_36 : decode cX4_lay 36 = .ok (.goto (-19), 3) := by decide +kernel
theorem dX4_lay_39 : decode cX4_lay 39 = .ok (.return_, 1) := by decide +kernel
theorem dX4_takeAway_0 : decode cX4_takeAway 0 = .ok (.aload_n 0, 1) := by decide +kernel
theorem dX4_takeAway_1 : decode cX4_takeAway 1 = .ok (.getfield 20, 3) := by decide +kernel
theorem dX4_takeAway_4 : decode cX4_takeAway 4 = .ok (.iload_n 1, 1) := by decide +kernel
theorem dX4_takeAway_5 : decode cX4_takeAway 5 = .ok (.iaload, 1) := by decide +kernel
theorem dX4_takeAway_6 : decode cX4_takeAway 6 = .ok (.istore_n 2, 1) := by decide +kernel
theorem dX4_takeAway_7 : decode cX4_takeAway 7 = .ok (.aload_n 0, 1) := by decide +kernel
theorem dX4_takeAway_8 : decode cX4_takeAway 8 = .ok (.getfield 20, 3) := by decide +kernel
theorem dX4_takeAway_11 : decode cX4_takeAway 11 = .ok (.iload_n 1, 1) := by decide +kernel
theorem dX4_takeAway_12 : decode cX4_takeAway 12 = .ok (.iconst (-1), 1) := by decide +kernel
theorem dX4_takeAway_13 : decode cX4_takeAway 13 = .ok (.iastore, 1) := by decide +kernel
theorem dX4_takeAway_14 : decode cX4_takeAway 14 = .ok (.iload_n 2, 1) := by decide +kernel
theorem dX4_takeAway_15 : decode cX4_takeAway 15 = .ok (.ireturn, 1) := by decide +kernel
theorem dX4_put_0 : decode cX4_put 0 = .ok (.aload_n 0, 1) := by decide +kernel
theorem dX4_put_1 : decode cX4_put 1 = .ok (.getfield 16, 3) := by decide +kernel
theorem dX4_put_4 : decode cX4_put 4 = .ok (.iload_n 1, 1) := by decide +kernel
theorem dX4_put_5 : decode cX4_put 5 = .ok (.iaload, 1) := by decide +kernel
theorem dX4_put_6 : decode cX4_put 6 = .ok (.ifCond .ne 16, 3) := by decide +kernel
theorem dX4_put_9 : decode cX4_put 9 = .ok (.aload_n 0, 1) := by decide +kernel
theorem dX4_put_10 : decode cX4_put 10 = .ok (.getfield 11, 3) := by decide +kernel
theorem dX4_put_13 : decode cX4_put 13 = .ok (.iload_n 1, 1) := by decide +kernel
theorem dX4_put_14 : decode cX4_put 14 = .ok (.aaload, 1) := by decide +kernel
theorem dX4_put_15 : decode cX4_put 15 = .ok (.iload_n 2, 1) := by decide +kernel
theorem dX4_put_16 : decode cX4_put 16 = .ok (.iload_n 3, 1) := by decide +kernel
theorem dX4_put_17 : decode cX4_put 17 = .ok (.i2b, 1) := by decide +kernel
theorem dX4_put_18 : decode cX4_put 18 = .ok (.iastore, 1) := by decide +kernel
theorem dX4_put_19 : decode cX4_put 19 = .ok (.goto 27, 3) := by decide +kernel
theorem dX4_put_22 : decode cX4_put 22 = .ok (.aload_n 0, 1) := by decide +kernel
theorem dX4_put_23 : decode cX4_put 23 = .ok (.getfield 11, 3) := by decide +kernel
theorem dX4_put_26 : decode cX4_put 26 = .ok (.iload_n 1, 1) := by decide +kernel
theorem dX4_put_27 : decode cX4_put 27 = .ok (.aaload, 1) := by decide +kernel
theorem dX4_put_28 : decode cX4_put 28 = .ok (.iload_n 2, 1) := by decide +kernel
theorem dX4_put_29 : decode cX4_put 29 = .ok (.aload_n 0, 1) := by decide +kernel
theorem dX4_put_30 : decode cX4_put 30 = .ok (.getfield 16, 3) := by decide +kernel
theorem dX4_put_33 : decode cX4_put 33 = .ok (.iload_n 1, 1) := by decide +kernel
theorem dX4_put_34 : decode cX4_put 34 = .ok (.iaload, 1) := by decide +kernel
theorem dX4_put_35 : decode cX4_put 35 = .ok (.iconst 1, 1) := by decide +kernel
theorem dX4_put_36 : decode cX4_put 36 = .ok (.if_icmp .ne 8, 3) := by decide +kernel
theorem dX4_put_39 : decode cX4_put 39 = .ok (.iload_n 3, 1) := by decide +kernel
theorem dX4_put_40 : decode cX4_put 40 = .ok (.i2s, 1) := by decide +kernel
theorem dX4_put_41 : decode cX4_put 41 = .ok (.goto 4, 3) := by decide +kernel
theorem dX4_put_44 : decode cX4_put 44 = .ok (.iload_n 3, 1) := by decide +kernel
theorem dX4_put_45 : decode cX4_put 45 = .ok (.iastore, 1) := by decide +kernel
theorem dX4_put_46 : decode cX4_put 46 = .ok (.aload_n 0, 1) := by decide +kernel
theorem dX4_put_47 : decode cX4_put 47 = .ok (.getfield 11, 3) := by decide +kernel
theorem dX4_put_50 : decode cX4_put 50 = .ok (.iload_n 1, 1) := by decide +kernel
theorem dX4_put_51 : decode cX4_put 51 = .ok (.aaload, 1) := by decide +kernel
theorem dX4_put_52 : decode cX4_put 52 = .ok (.iload_n 2, 1) := by decide +kernel
theorem dX4_put_53 : decode cX4_put 53 = .ok (.iaload, 1) := by decide +kernel
theorem dX4_put_54 : decode cX4_put 54 = .ok (.ireturn, 1) := by decide +kernel
theorem dX4_itemAt_0 : decode cX4_itemAt 0 = .ok (.aload_n 0, 1) := by decide +kernel
theorem dX4_itemAt_1 : decode cX4_itemAt 1 = .ok (.getfield 11, 3) := by decide +kernel
theorem dX4_itemAt_4 : decode cX4_itemAt 4 = .ok (.iload_n 1, 1) := by decide +kernel
theorem dX4_itemAt_5 : decode cX4_itemAt 5 = .ok (.aaload, 1) := by decide +kernel
theorem dX4_itemAt_6 : decode cX4_itemAt 6 = .ok (.iload_n 2, 1) := by decide +kernel
theorem dX4_itemAt_7 : decode cX4_itemAt 7 = .ok (.iaload, 1) := by decide +kernel
theorem dX4_itemAt_8 : decode cX4_itemAt 8 = .ok (.ireturn, 1) := by decide +kernel
theorem dX4_findingOf_0 : decode cX4_findingOf 0 = .ok (.aload_n 0, 1) := by decide +kernel
theorem dX4_findingOf_1 : decode cX4_findingOf 1 = .ok (.iload_n 1, 1) := by decide +kernel
theorem dX4_findingOf_2 : decode cX4_findingOf 2 = .ok (.invokevirtual 27, 3) := by decide +kernel
theorem dX4_findingOf_5 : decode cX4_findingOf 5 = .ok (.ifCond .eq 5, 3) := by decide +kernel
theorem dX4_findingOf_8 : decode cX4_findingOf 8 = .ok (.iconst 1, 1) := by decide +kernel
theorem dX4_findingOf_9 : decode cX4_findingOf 9 = .ok (.ireturn, 1) := by decide +kernel
theorem dX4_findingOf_10 : decode cX4_findingOf 10 = .ok (.aload_n 0, 1) := by decide +kernel
theorem dX4_findingOf_11 : decode cX4_findingOf 11 = .ok (.iload_n 1, 1) := by decide +kernel
theorem dX4_findingOf_12 : decode cX4_findingOf 12 = .ok (.iload_n 2, 1) := by decide +kernel
theorem dX4_findingOf_13 : decode cX4_findingOf 13 = .ok (.iload_n 3, 1) := by decide +kernel
theorem dX4_findingOf_14 : decode cX4_findingOf 14 = .ok (.invokevirtual 31, 3) := by decide +kernel
theorem dX4_findingOf_17 : decode cX4_findingOf 17 = .ok (.ifCond .eq 7, 3) := by decide +kernel
theorem dX4_findingOf_20 : decode cX4_findingOf 20 = .ok (.iconst 0, 1) := by decide +kernel
theorem dX4_findingOf_21 : decode cX4_findingOf 21 = .ok (.goto 4, 3) := by decide +kernel
theorem dX4_findingOf_24 : decode cX4_findingOf 24 = .ok (.iconst 2, 1) := by decide +kernel
theorem dX4_findingOf_25 : decode cX4_findingOf 25 = .ok (.ireturn, 1) := by decide +kernel
theorem dX4_findingOfMove_0 : decode cX4_findingOfMove 0 = .ok (.aload_n 0, 1) := by decide +kernel
theorem dX4_findingOfMove_1 : decode cX4_findingOfMove 1 = .ok (.iload_n 1, 1) := by decide +kernel
theorem dX4_findingOfMove_2 : decode cX4_findingOfMove 2 = .ok (.invokevirtual 27, 3) := by decide +kernel
theorem dX4_findingOfMove_5 : decode cX4_findingOfMove 5 = .ok (.ifCond .ne 11, 3) := by decide +kernel
theorem dX4_findingOfMove_8 : decode cX4_findingOfMove 8 = .ok (.aload_n 0, 1) := by decide +kernel
theorem dX4_findingOfMove_9 : decode cX4_findingOfMove 9 = .ok (.iload_n 3, 1) := by decide +kernel
theorem dX4_findingOfMove_10 : decode cX4_findingOfMove 10 = .ok (.invokevirtual 27, 3) := by decide +kernel
theorem dX4_findingOfMove_13 : decode cX4_findingOfMove 13 = .ok (.ifCond .eq 5, 3) := by decide +kernel
theorem dX4_findingOfMove_16 : decode cX4_findingOfMove 16 = .ok (.iconst 1, 1) := by decide +kernel
theorem dX4_findingOfMove_17 : decode cX4_findingOfMove 17 = .ok (.ireturn, 1) := by decide +kernel
theorem dX4_findingOfMove_18 : decode cX4_findingOfMove 18 = .ok (.aload_n 0, 1) := by decide +kernel
theorem dX4_findingOfMove_19 : decode cX4_findingOfMove 19 = .ok (.getfield 16, 3) := by decide +kernel
theorem dX4_findingOfMove_22 : decode cX4_findingOfMove 22 = .ok (.iload_n 1, 1) := by decide +kernel
theorem dX4_findingOfMove_23 : decode cX4_findingOfMove 23 = .ok (.iaload, 1) := by decide +kernel
theorem dX4_findingOfMove_24 : decode cX4_findingOfMove 24 = .ok (.aload_n 0, 1) := by decide +kernel
theorem dX4_findingOfMove_25 : decode cX4_findingOfMove 25 = .ok (.getfield 16, 3) := by decide +kernel
theorem dX4_findingOfMove_28 : decode cX4_findingOfMove 28 = .ok (.iload_n 3, 1) := by decide +kernel
theorem dX4_findingOfMove_29 : decode cX4_findingOfMove 29 = .ok (.iaload, 1) := by decide +kernel
theorem dX4_findingOfMove_30 : decode cX4_findingOfMove 30 = .ok (.if_icmp .eq 5, 3) := by decide +kernel
theorem dX4_findingOfMove_33 : decode cX4_findingOfMove 33 = .ok (.iconst 5, 1) := by decide +kernel
theorem dX4_findingOfMove_34 : decode cX4_findingOfMove 34 = .ok (.ireturn, 1) := by decide +kernel
theorem dX4_findingOfMove_35 : decode cX4_findingOfMove 35 = .ok (.aload_n 0, 1) := by decide +kernel
theorem dX4_findingOfMove_36 : decode cX4_findingOfMove 36 = .ok (.iload_n 1, 1) := by decide +kernel
theorem dX4_findingOfMove_37 : decode cX4_findingOfMove 37 = .ok (.iload_n 2, 1) := by decide +kernel
theorem dX4_findingOfMove_38 : decode cX4_findingOfMove 38 = .ok (.iload 5, 2) := by decide +kernel
theorem dX4_findingOfMove_40 : decode cX4_findingOfMove 40 = .ok (.invokevirtual 31, 3) := by decide +kernel
theorem dX4_findingOfMove_43 : decode cX4_findingOfMove 43 = .ok (.ifCond .eq 19, 3) := by decide +kernel
theorem dX4_findingOfMove_46 : decode cX4_findingOfMove 46 = .ok (.aload_n 0, 1) := by decide +kernel
theorem dX4_findingOfMove_47 : decode cX4_findingOfMove 47 = .ok (.iload_n 3, 1) := by decide +kernel
theorem dX4_findingOfMove_48 : decode cX4_findingOfMove 48 = .ok (.iload 4, 2) := by decide +kernel
theorem dX4_findingOfMove_50 : decode cX4_findingOfMove 50 = .ok (.iload 5, 2) := by decide +kernel
theorem dX4_findingOfMove_52 : decode cX4_findingOfMove 52 = .ok (.invokevirtual 31, 3) := by decide +kernel
theorem dX4_findingOfMove_55 : decode cX4_findingOfMove 55 = .ok (.ifCond .eq 7, 3) := by decide +kernel
theorem dX4_findingOfMove_58 : decode cX4_findingOfMove 58 = .ok (.iconst 0, 1) := by decide +kernel
theorem dX4_findingOfMove_59 : decode cX4_findingOfMove 59 = .ok (.goto 4, 3) := by decide +kernel
theorem dX4_findingOfMove_62 : decode cX4_findingOfMove 62 = .ok (.iconst 2, 1) := by decide +kernel
theorem dX4_findingOfMove_63 : decode cX4_findingOfMove 63 = .ok (.ireturn, 1) := by decide +kernel
theorem dX4_move_0 : decode cX4_move 0 = .ok (.aload_n 0, 1) := by decide +kernel
theorem dX4_move_1 : decode cX4_move 1 = .ok (.getfield 11, 3) := by decide +kernel
theorem dX4_move_4 : decode cX4_move 4 = .ok (.iload_n 1, 1) := by decide +kernel
theorem dX4_move_5 : decode cX4_move 5 = .ok (.aaload, 1) := by decide +kernel
theorem dX4_move_6 : decode cX4_move 6 = .ok (.iload_n 2, 1) := by decide +kernel
theorem dX4_move_7 : decode cX4_move 7 = .ok (.aload_n 0, 1) := by decide +kernel
theorem dX4_move_8 : decode cX4_move 8 = .ok (.getfield 11, 3) := by decide +kernel
theorem dX4_move_11 : decode cX4_move 11 = .ok (.iload_n 3, 1) := by decide +kernel
theorem dX4_move_12 : decode cX4_move 12 = .ok (.aaload, 1) := by decide +kernel
theorem dX4_move_13 : decode cX4_move 13 = .ok (.iload 4, 2) := by decide +kernel
theorem dX4_move_15 : decode cX4_move 15 = .ok (.iload 5, 2) := by decide +kernel
theorem dX4_move_17 : decode cX4_move 17 = .ok (.invokestatic 34, 3) := by decide +kernel
theorem dX4_move_20 : decode cX4_move 20 = .ok (.return_, 1) := by decide +kernel
theorem dX4_rowsThere_0 : decode cX4_rowsThere 0 = .ok (.iconst 0, 1) := by decide +kernel
theorem dX4_rowsThere_1 : decode cX4_rowsThere 1 = .ok (.istore_n 1, 1) := by decide +kernel
theorem dX4_rowsThere_2 : decode cX4_rowsThere 2 = .ok (.iconst 0, 1) := by decide +kernel
theorem dX4_rowsThere_3 : decode cX4_rowsThere 3 = .ok (.istore_n 2, 1) := by decide +kernel
theorem dX4_rowsThere_4 : decode cX4_rowsThere 4 = .ok (.iload_n 2, 1) := by decide +kernel
theorem dX4_rowsThere_5 : decode cX4_rowsThere 5 = .ok (.bipush 8, 2) := by decide +kernel
theorem dX4_rowsThere_7 : decode cX4_rowsThere 7 = .ok (.if_icmp .ge 25, 3) := by decide +kernel
theorem dX4_rowsThere_10 : decode cX4_rowsThere 10 = .ok (.iload_n 1, 1) := by decide +kernel
theorem dX4_rowsThere_11 : decode cX4_rowsThere 11 = .ok (.aload_n 0, 1) := by decide +kernel
theorem dX4_rowsThere_12 : decode cX4_rowsThere 12 = .ok (.iload_n 2, 1) := by decide +kernel
theorem dX4_rowsThere_13 : decode cX4_rowsThere 13 = .ok (.invokevirtual 27, 3) := by decide +kernel
theorem dX4_rowsThere_16 : decode cX4_rowsThere 16 = .ok (.ifCond .eq 7, 3) := by decide +kernel
theorem dX4_rowsThere_19 : decode cX4_rowsThere 19 = .ok (.iconst 0, 1) := by decide +kernel
theorem dX4_rowsThere_20 : decode cX4_rowsThere 20 = .ok (.goto 4, 3) := by decide +kernel
theorem dX4_rowsThere_23 : decode cX4_rowsThere 23 = .ok (.iconst 1, 1) := by decide +kernel
theorem dX4_rowsThere_24 : decode cX4_rowsThere 24 = .ok (.iadd, 1) := by decide +kernel
theorem dX4_rowsThere_25 : decode cX4_rowsThere 25 = .ok (.istore_n 1, 1) := by decide +kernel
theorem dX4_rowsThere_26 : decode cX4_rowsThere 26 = .ok (.iinc 2 1, 3) := by decide +kernel
theorem dX4_rowsThere_29 : decode cX4_rowsThere 29 = .ok (.goto (-25), 3) := by decide +kernel
theorem dX4_rowsThere_32 : decode cX4_rowsThere 32 = .ok (.iload_n 1, 1) := by decide +kernel
theorem dX4_rowsThere_33 : decode cX4_rowsThere 33 = .ok (.ireturn, 1) := by decide +kernel
theorem dX4_isSpan_0 : decode cX4_isSpan 0 = .ok (.iload_n 2, 1) := by decide +kernel
theorem dX4_isSpan_1 : decode cX4_isSpan 1 = .ok (.ifCond .lt 33, 3) := by decide +kernel
theorem dX4_isSpan_4 : decode cX4_isSpan 4 = .ok (.iload_n 3, 1) := by decide +kernel
theorem dX4_isSpan_5 : decode cX4_isSpan 5 = .ok (.ifCond .lt 29, 3) := by decide +kernel
theorem dX4_isSpan_8 : decode cX4_isSpan 8 = .ok (.iload_n 2, 1) := by decide +kernel
theorem dX4_isSpan_9 : decode cX4_isSpan 9 = .ok (.aload_n 0, 1) := by decide +kernel
theorem dX4_isSpan_10 : decode cX4_isSpan 10 = .ok (.getfield 20, 3) := by decide +kernel
theorem dX4_isSpan_13 : decode cX4_isSpan 13 = .ok (.iload_n 1, 1) := by decide +kernel
theorem dX4_isSpan_14 : decode cX4_isSpan 14 = .ok (.iaload, 1) := by decide +kernel
theorem dX4_isSpan_15 : decode cX4_isSpan 15 = .ok (.if_icmp .gt 19, 3) := by decide +kernel
theorem dX4_isSpan_18 : decode cX4_isSpan 18 = .ok (.iload_n 3, 1) := by decide +kernel
theorem dX4_isSpan_19 : decode cX4_isSpan 19 = .ok (.aload_n 0, 1) := by decide +kernel
theorem dX4_isSpan_20 : decode cX4_isSpan 20 = .ok (.getfield 20, 3) := by decide +kernel
theorem dX4_isSpan_23 : decode cX4_isSpan 23 = .ok (.iload_n 1, 1) := by decide +kernel
theorem dX4_isSpan_24 : decode cX4_isSpan 24 = .ok (.iaload, 1) := by decide +kernel
theorem dX4_isSpan_25 : decode cX4_isSpan 25 = .ok (.iload_n 2, 1) := by decide +kernel
theorem dX4_isSpan_26 : decode cX4_isSpan 26 = .ok (.isub, 1) := by decide +kernel
theorem dX4_isSpan_27 : decode cX4_isSpan 27 = .ok (.if_icmp .gt 7, 3) := by decide +kernel
theorem dX4_isSpan_30 : decode cX4_isSpan 30 = .ok (.iconst 1, 1) := by decide +kernel
theorem dX4_isSpan_31 : decode cX4_isSpan 31 = .ok (.goto 4, 3) := by decide +kernel
theorem dX4_isSpan_34 : decode cX4_isSpan 34 = .ok (.iconst 0, 1) := by decide +kernel
theorem dX4_isSpan_35 : decode cX4_isSpan 35 = .ok (.ireturn, 1) := by decide +kernel
theorem dX5_init_0 : decode cX5_init 0 = .ok (.aload_n 0, 1) := by decide +kernel
theorem dX5_init_1 : decode cX5_init 1 = .ok (.invokespecial 3, 3) := by decide +kernel
theorem dX5_init_4 : decode cX5_init 4 = .ok (.aload_n 0, 1) := by decide +kernel
theorem dX5_init_5 : decode cX5_init 5 = .ok (.iconst 5, 1) := by decide +kernel
theorem dX5_init_6 : decode cX5_init 6 = .ok (.newarray .int, 2) := by decide +kernel
theorem dX5_init_8 : decode cX5_init 8 = .ok (.putfield 9, 3) := by decide +kernel
theorem dX5_init_11 : decode cX5_init 11 = .ok (.aload_n 0, 1) := by decide +kernel
theorem dX5_init_12 : decode cX5_init 12 = .ok (.iconst 5, 1) := by decide +kernel
theorem dX5_init_13 : decode cX5_init 13 = .ok (.newarray .int, 2) := by decide +kernel
theorem dX5_init_15 : decode cX5_init 15 = .ok (.putfield 15, 3) := by decide +kernel
theorem dX5_init_18 : decode cX5_init 18 = .ok (.aload_n 0, 1) := by decide +kernel
theorem dX5_init_19 : decode cX5_init 19 = .ok (.iconst 5, 1) := by decide +kernel
theorem dX5_init_20 : decode cX5_init 20 = .ok (.newarray .int, 2) := by decide +kernel
theorem dX5_init_22 : decode cX5_init 22 = .ok (.putfield 18, 3) := by decide +kernel
theorem dX5_init_25 : decode cX5_init 25 = .ok (.aload_n 0, 1) := by decide +kernel
theorem dX5_init_26 : decode cX5_init 26 = .ok (.bipush 6, 2) := by decide +kernel
theorem dX5_init_28 : decode cX5_init 28 = .ok (.newarray .int, 2) := by decide +kernel
theorem dX5_init_30 : decode cX5_init 30 = .ok (.putfield 21, 3) := by decide +kernel
theorem dX5_init_33 : decode cX5_init 33 = .ok (.aload_n 0, 1) := by decide +kernel
theorem dX5_init_34 : decode cX5_init 34 = .ok (.bipush 6, 2) := by decide +kernel
theorem dX5_init_36 : decode cX5_init 36 = .ok (.newarray .int, 2) := by decide +kernel
theorem dX5_init_38 : decode cX5_init 38 = .ok (.putfield 24, 3) := by decide +kernel
theorem dX5_init_41 : decode cX5_init 41 = .ok (.aload_n 0, 1) := by decide +kernel
theorem dX5_init_42 : decode cX5_init 42 = .ok (.bipush 6, 2) := by decide +kernel
theorem dX5_init_44 : decode cX5_init 44 = .ok (.newarray .int, 2) := by decide +kernel
theorem dX5_init_46 : decode cX5_init 46 = .ok (.putfield 27, 3) := by decide +kernel
theorem dX5_init_49 : decode cX5_init 49 = .ok (.aload_n 0, 1) := by decide +kernel
theorem dX5_init_50 : decode cX5_init 50 = .ok (.bipush 6, 2) := by decide +kernel
theorem dX5_init_52 : decode cX5_init 52 = .ok (.newarray .int, 2) := by decide +kernel
theorem dX5_init_54 : decode cX5_init 54 = .ok (.putfield 30, 3) := by decide +kernel
theorem dX5_init_57 : decode cX5_init 57 = .ok (.aload_n 0, 1) := by decide +kernel
theorem dX5_init_58 : decode cX5_init 58 = .ok (.bipush 6, 2) := by decide +kernel
theorem dX5_init_60 : decode cX5_init 60 = .ok (.newarray .int, 2) := by decide +kernel
theorem dX5_init_62 : decode cX5_init 62 = .ok (.putfield 33, 3) := by decide +kernel
theorem dX5_init_65 : decode cX5_init 65 = .ok (.aload_n 0, 1) := by decide +kernel
theorem dX5_init_66 : decode cX5_init 66 = .ok (.bipush 6, 2) := by decide +kernel
theorem dX5_init_68 : decode cX5_init 68 = .ok (.newarray .int, 2) := by decide +kernel
theorem dX5_init_70 : decode cX5_init 70 = .ok (.putfield 36, 3) := by decide +kernel
theorem dX5_init_73 : decode cX5_init 73 = .ok (.aload_n 0, 1) := by decide +kernel
theorem dX5_init_74 : decode cX5_init 74 = .ok (.bipush 6, 2) := by decide +kernel
theorem dX5_init_76 : decode cX5_init 76 = .ok (.newarray .int, 2) := by decide +kernel
theorem dX5_init_78 : decode cX5_init 78 = .ok (.putfield 39, 3) := by decide +kernel
theorem dX5_init_81 : decode cX5_init 81 = .ok (.aload_n 0, 1) := by decide +kernel
theorem dX5_init_82 : decode cX5_init 82 = .ok (.iconst 5, 1) := by decide +kernel
theorem dX5_init_83 : decode cX5_init 83 = .ok (.newarray .int, 2) := by decide +kernel
theorem dX5_init_85 : decode cX5_init 85 = .ok (.putfield 42, 3) := by decide +kernel
theorem dX5_init_88 : decode cX5_init 88 = .ok (.return_, 1) := by decide +kernel
theorem dX5_hasChild_0 : decode cX5_hasChild 0 = .ok (.iload_n 1, 1) := by decide +kernel
theorem dX5_hasChild_1 : decode cX5_hasChild 1 = .ok (.ifCond .lt 15, 3) := by decide +kernel
theorem dX5_hasChild_4 : decode cX5_hasChild 4 = .ok (.iload_n 1, 1) := by decide +kernel
theorem dX5_hasChild_5 : decode cX5_hasChild 5 = .ok (.aload_n 0, 1) := by decide +kernel
theorem dX5_hasChild_6 : decode cX5_hasChild 6 = .ok (.getfield 45, 3) := by decide +kernel
theorem dX5_hasChild_9 : decode cX5_hasChild 9 = .ok (.if_icmp .ge 7, 3) := by decide +kernel
theorem dX5_hasChild_12 : decode cX5_hasChild 12 = .ok (.iconst 1, 1) := by decide +kernel
theorem dX5_hasChild_13 : decode cX5_hasChild 13 = .ok (.goto 4, 3) := by decide +kernel
theorem dX5_hasChild_16 : decode cX5_hasChild 16 = .ok (.iconst 0, 1) := by decide +kernel
theorem dX5_hasChild_17 : decode cX5_hasChild 17 = .ok (.ireturn, 1) := by decide +kernel
theorem dX5_hasGran_0 : decode cX5_hasGran 0 = .ok (.iload_n 1, 1) := by decide +kernel
theorem dX5_hasGran_1 : decode cX5_hasGran 1 = .ok (.ifCond .lt 15, 3) := by decide +kernel
theorem dX5_hasGran_4 : decode cX5_hasGran 4 = .ok (.iload_n 1, 1) := by decide +kernel
theorem dX5_hasGran_5 : decode cX5_hasGran 5 = .ok (.aload_n 0, 1) := by decide +kernel
theorem dX5_hasGran_6 : decode cX5_hasGran 6 = .ok (.getfield 49, 3) := by decide +kernel
theorem dX5_hasGran_9 : decode cX5_hasGran 9 = .ok (.if_icmp .ge 7, 3) := by decide +kernel
theorem dX5_hasGran_12 : decode cX5_hasGran 12 = .ok (.iconst 1, 1) := by decide +kernel
theorem dX5_hasGran_13 : decode cX5_hasGran 13 = .ok (.goto 4, 3) := by decide +kernel
theorem dX5_hasGran_16 : decode cX5_hasGran 16 = .ok (.iconst 0, 1) := by decide +kernel
theorem dX5_hasGran_17 : decode cX5_hasGran 17 = .ok (.ireturn, 1) := by decide +kernel
theorem dX5_allChildren_0 : decode cX5_allChildren 0 = .ok (.iconst 1, 1) := by decide +kernel
theorem dX5_allChildren_1 : decode cX5_allChildren 1 = .ok (.aload_n 0, 1) := by decide +kernel
theorem dX5_allChildren_2 : decode cX5_allChildren 2 = .ok (.getfield 45, 3) := by decide +kernel
theorem dX5_allChildren_5 : decode cX5_allChildren 5 = .ok (.ishl, 1) := by decide +kernel
theorem dX5_allChildren_6 : decode cX5_allChildren 6 = .ok (.iconst 1, 1) := by decide +kernel
theorem dX5_allChildren_7 : decode cX5_allChildren 7 = .ok (.isub, 1) := by decide +kernel
theorem dX5_allChildren_8 : decode cX5_allChildren 8 = .ok (.ireturn, 1) := by decide +kernel
theorem dX5_save_0 : decode cX5_save 0 = .ok (.aload_n 1, 1) := by decide +kernel
theorem dX5_save_1 : decode cX5_save 1 = .ok (.iconst 0, 1) := by decide +kernel
theorem dX5_save_2 : decode cX5_save 2 = .ok (.aload_n 0, 1) := by decide +kernel
theorem dX5_save_3 : decode cX5_save 3 = .ok (.getfield 52, 3) := by decide +kernel
theorem dX5_save_6 : decode cX5_save 6 = .ok (.iastore, 1) := by decide +kernel
theorem dX5_save_7 : decode cX5_save 7 = .ok (.aload_n 1, 1) := by decide +kernel
theorem dX5_save_8 : decode cX5_save 8 = .ok (.iconst 1, 1) := by decide +kernel
theorem dX5_save_9 : decode cX5_save 9 = .ok (.aload_n 0, 1) := by decide +kernel
theorem dX5_save_10 : decode cX5_save 10 = .ok (.getfield 55, 3) := by decide +kernel
theorem dX5_save_13 : decode cX5_save 13 = .ok (.iastore, 1) := by decide +kernel
theorem dX5_save_14 : decode cX5_save 14 = .ok (.aload_n 1, 1) := by decide +kernel
theorem dX5_save_15 : decode cX5_save 15 = .ok (.iconst 2, 1) := by decide +kernel
theorem dX5_save_16 : decode cX5_save 16 = .ok (.aload_n 0, 1) := by decide +kernel
theorem dX5_save_17 : decode cX5_save 17 = .ok (.getfield 45, 3) := by decide +kernel
theorem dX5_save_20 : decode cX5_save 20 = .ok (.iastore, 1) := by decide +kernel
theorem dX5_save_21 : decode cX5_save 21 = .ok (.aload_n 1, 1) := by decide +kernel
theorem dX5_save_22 : decode cX5_save 22 = .ok (.iconst 3, 1) := by decide +kernel
theorem dX5_save_23 : decode cX5_save 23 = .ok (.aload_n 0, 1) := by decide +kernel
theorem dX5_save_24 : decode cX5_save 24 = .ok (.getfield 49, 3) := by decide +kernel
theorem dX5_save_27 : decode cX5_save 27 = .ok (.iastore, 1) := by decide +kernel
theorem dX5_save_28 : decode cX5_save 28 = .ok (.aload_n 1, 1) := by decide +kernel
theorem dX5_save_29 : decode cX5_save 29 = .ok (.iconst 4, 1) := by decide +kernel
theorem dX5_save_30 : decode cX5_save 30 = .ok (.aload_n 0, 1) := by decide +kernel
theorem dX5_save_31 : decode cX5_save 31 = .ok (.getfield 58, 3) := by decide +kernel
theorem dX5_save_34 : decode cX5_save 34 = .ok (.iastore, 1) := by decide +kernel
theorem dX5_save_35 : decode cX5_save 35 = .ok (.iconst 5, 1) := by decide +kernel
theorem dX5_save_36 : decode cX5_save 36 = .ok (.istore_n 2, 1) := by decide +kernel
theorem dX5_save_37 : decode cX5_save 37 = .ok (.iconst 0, 1) := by decide +kernel
theorem dX5_save_38 : decode cX5_save 38 = .ok (.istore_n 3, 1) := by decide +kernel
theorem dX5_save_39 : decode cX5_save 39 = .ok (.iload_n 3, 1) := by decide +kernel
theorem dX5_save_40 : decode cX5_save 40 = .ok (.iconst 5, 1) := by decide +kernel
theorem dX5_save_41 : decode cX5_save 41 = .ok (.if_icmp .ge 45, 3) := by decide +kernel
theorem dX5_save_44 : decode cX5_save 44 = .ok (.aload_n 1, 1) := by decide +kernel
theorem dX5_save_45 : decode cX5_save 45 = .ok (.iload_n 2, 1) := by decide +kernel
theorem dX5_save_46 : decode cX5_save 46 = .ok (.iinc 2 1, 3) := by decide +kernel
theorem dX5_save_49 : decode cX5_save 49 = .ok (.aload_n 0, 1) := by decide +kernel
theorem dX5_save_50 : decode cX5_save 50 = .ok (.getfield 9, 3) := by decide +kernel
theorem dX5_save_53 : decode cX5_save 53 = .ok (.iload_n 3, 1) := by decide +kernel
theorem dX5_save_54 : decode cX5_save 54 = .ok (.iaload, 1) := by decide +kernel
theorem dX5_save_55 : decode cX5_save 55 = .ok (.iastore, 1) := by decide +kernel
theorem dX5_save_56 : decode cX5_save 56 = .ok (.aload_n 1, 1) := by decide +kernel
theorem dX5_save_57 : decode cX5_save 57 = .ok (.iload_n 2, 1) := by decide +kernel
theorem dX5_save_58 : decode cX5_save 58 = .ok (.iinc 2 1, 3) := by decide +kernel
theorem dX5_save_61 : decode cX5_save 61 = .ok (.aload_n 0, 1) := by decide +kernel
theorem dX5_save_62 : decode cX5_save 62 = .ok (.getfield 15, 3) := by decide +kernel
theorem dX5_save_65 : decode cX5_save 65 = .ok (.iload_n 3, 1) := by decide +kernel
theorem dX5_save_66 : decode cX5_save 66 = .ok (.iaload, 1) := by decide +kernel
theorem dX5_save_67 : decode cX5_save 67 = .ok (.iastore, 1) := by decide +kernel
theorem dX5_save_68 : decode cX5_save 68 = .ok (.aload_n 1, 1) := by decide +kernel
theorem dX5_save_69 : decode cX5_save 69 = .ok (.iload_n 2, 1) := by decide +kernel
theorem dX5_save_70 : decode cX5_save 70 = .ok (.iinc 2 1, 3) := by decide +kernel
theorem dX5_save_73 : decode cX5_save 73 = .ok (.aload_n 0, 1) := by decide +kernel
theorem dX5_save_74 : decode cX5_save 74 = .ok (.getfield 18, 3) := by decide +kernel
theorem dX5_save_77 : decode cX5_save 77 = .ok (.iload_n 3, 1) := by decide +kernel
theorem dX5_save_78 : decode cX5_save 78 = .ok (.iaload, 1) := by decide +kernel
theorem dX5_save_79 : decode cX5_save 79 = .ok (.iastore, 1) := by decide +kernel
theorem dX5_save_80 : decode cX5_save 80 = .ok (.iinc 3 1, 3) := by decide +kernel
theorem dX5_save_83 : decode cX5_save 83 = .ok (.goto (-44), 3) := by decide +kernel
theorem dX5_save_86 : decode cX5_save 86 = .ok (.iconst 0, 1) := by decide +kernel
theorem dX5_save_87 : decode cX5_save 87 = .ok (.istore_n 3, 1) := by decide +kernel
theorem dX5_save_88 : decode cX5_save 88 = .ok (.iload_n 3, 1) := by decide +kernel
theorem dX5_save_89 : decode cX5_save 89 = .ok (.bipush 6, 2) := by decide +kernel
theorem dX5_save_91 : decode cX5_save 91 = .ok (.if_icmp .ge 81, 3) := by decide +kernel
theorem dX5_save_94 : decode cX5_save 94 = .ok (.aload_n 1, 1) := by decide +kernel
theorem dX5_save_95 : decode cX5_save 95 = .ok (.iload_n 2, 1) := by decide +kernel
theorem dX5_save_96 : decode cX5_save 96 = .ok (.iinc 2 1, 3) := by decide +kernel
theorem dX5_save_99 : decode cX5_save 99 = .ok (.aload_n 0, 1) := by decide +kernel
theorem dX5_save_100 : decode cX5_save 100 = .ok (.getfield 21, 3) := by decide +kernel
theorem dX5_save_103 : decode cX5_save 103 = .ok (.iload_n 3, 1) := by decide +kernel
theorem dX5_save_104 : decode cX5_save 104 = .ok (.iaload, 1) := by decide +kernel
theorem dX5_save_105 : decode cX5_save 105 = .ok (.iastore, 1) := by decide +kernel
theorem dX5_save_106 : decode cX5_save 106 = .ok (.aload_n 1, 1) := by decide +kernel
theorem dX5_save_107 : decode cX5_save 107 = .ok (.iload_n 2, 1) := by decide +kernel
theorem dX5_save_108 : decode cX5_save 108 = .ok (.iinc 2 1, 3) := by decide +kernel
theorem dX5_save_111 : decode cX5_save 111 = .ok (.aload_n 0, 1) := by decide +kernel
theorem dX5_save_112 : decode cX5_save 112 = .ok (.getfield 24, 3) := by decide +kernel
theorem dX5_save_115 : decode cX5_save 115 = .ok (.iload_n 3, 1) := by decide +kernel
theorem dX5_save_116 : decode cX5_save 116 = .ok (.iaload, 1) := by decide +kernel
theorem dX5_save_117 : decode cX5_save 117 = .ok (.iastore, 1) := by decide +kernel
theorem dX5_save_118 : decode cX5_save 118 = .ok (.aload_n 1, 1) := by decide +kernel
theorem dX5_save_119 : decode cX5_save 119 = .ok (.iload_n 2, 1) := by decide +kernel
theorem dX5_save_120 : decode cX5_save 120 = .ok (.iinc 2 1, 3) := by decide +kernel
theorem dX5_save_123 : decode cX5_save 123 = .ok (.aload_n 0, 1) := by decide +kernel
theorem dX5_save_124 : decode cX5_save 124 = .ok (.getfield 27, 3) := by decide +kernel
theorem dX5_save_127 : decode cX5_save 127 = .ok (.iload_n 3, 1) := by decide +kernel
theorem dX5_save_128 : decode cX5_save 128 = .ok (.iaload, 1) := by decide +kernel
theorem dX5_save_129 : decode cX5_save 129 = .ok (.iastore, 1) := by decide +kernel
theorem dX5_save_130 : decode cX5_save 130 = .ok (.aload_n 1, 1) := by decide +kernel
theorem dX5_save_131 : decode cX5_save 131 = .ok (.iload_n 2, 1) := by decide +kernel
theorem dX5_save_132 : decode cX5_save 132 = .ok (.iinc 2 1, 3) := by decide +kernel
theorem dX5_save_135 : decode cX5_save 135 = .ok (.aload_n 0, 1) := by decide +kernel
theorem dX5_save_136 : decode cX5_save 136 = .ok (.getfield 30, 3) := by decide +kernel
theorem dX5_save_139 : decode cX5_save 139 = .ok (.iload_n 3, 1) := by decide +kernel
theorem dX5_save_140 : decode cX5_save 140 = .ok (.iaload, 1) := by decide +kernel
theorem dX5_save_141 : decode cX5_save 141 = .ok (.iastore, 1) := by decide +kernel
theorem dX5_save_142 : decode cX5_save 142 = .ok (.aload_n 1, 1) := by decide +kernel
theorem dX5_save_143 : decode cX5_save 143 = .ok (.iload_n 2, 1) := by decide +kernel
theorem dX5_save_144 : decode cX5_save 144 = .ok (.iinc 2 1, 3) := by decide +kernel
theorem dX5_save_147 : decode cX5_save 147 = .ok (.aload_n 0, 1) := by decide +kernel
theorem dX5_save_148 : decode cX5_save 148 = .ok (.getfield 33, 3) := by decide +kernel
theorem dX5_save_151 : decode cX5_save 151 = .ok (.iload_n 3, 1) := by decide +kernel
theorem dX5_save_152 : decode cX5_save 152 = .ok (.iaload, 1) := by decide +kernel
theorem dX5_save_153 : decode cX5_save 153 = .ok (.iastore, 1) := by decide +kernel
theorem dX5_save_154 : decode cX5_save 154 = .ok (.aload_n 1, 1) := by decide +kernel
theorem dX5_save_155 : decode cX5_save 155 = .ok (.iload_n 2, 1) := by decide +kernel
theorem dX5_save_156 : decode cX5_save 156 = .ok (.iinc 2 1, 3) := by decide +kernel
theorem dX5_save_159 : decode cX5_save 159 = .ok (.aload_n 0, 1) := by decide +kernel
theorem dX5_save_160 : decode cX5_save 160 = .ok (.getfield 36, 3) := by decide +kernel
theorem dX5_save_163 : decode cX5_save 163 = .ok (.iload_n 3, 1) := by decide +kernel
theorem dX5_save_164 : decode cX5_save 164 = .ok (.iaload, 1) := by decide +kernel
theorem dX5_save_165 : decode cX5_save 165 = .ok (.iastore, 1) := by decide +kernel
theorem dX5_save_166 : decode cX5_save 166 = .ok (.iinc 3 1, 3) := by decide +kernel
theorem dX5_save_169 : decode cX5_save 169 = .ok (.goto (-81), 3) := by decide +kernel
theorem dX5_save_172 : decode cX5_save 172 = .ok (.return_, 1) := by decide +kernel
theorem dX5_load_0 : decode cX5_load 0 = .ok (.aload_n 0, 1) := by decide +kernel
theorem dX5_load_1 : decode cX5_load 1 = .ok (.aload_n 1, 1) := by decide +kernel
theorem dX5_load_2 : decode cX5_load 2 = .ok (.iconst 0, 1) := by decide +kernel
theorem dX5_load_3 : decode cX5_load 3 = .ok (.iaload, 1) := by decide +kernel
theorem dX5_load_4 : decode cX5_load 4 = .ok (.putfield 52, 3) := by decide +kernel
theorem dX5_load_7 : decode cX5_load 7 = .ok (.aload_n 0, 1) := by decide +kernel
theorem dX5_load_8 : decode cX5_load 8 = .ok (.aload_n 1, 1) := by decide +kernel
theorem dX5_load_9 : decode cX5_load 9 = .ok (.iconst 1, 1) := by decide +kernel
theorem dX5_load_10 : decode cX5_load 10 = .ok (.iaload, 1) := by decide +kernel
theorem dX5_load_11 : decode cX5_load 11 = .ok (.putfield 55, 3) := by decide +kernel
theorem dX5_load_14 : decode cX5_load 14 = .ok (.aload_n 0, 1) := by decide +kernel
theorem dX5_load_15 : decode cX5_load 15 = .ok (.aload_n 1, 1) := by decide +kernel
theorem dX5_load_16 : decode cX5_load 16 = .ok (.iconst 2, 1) := by decide +kernel
theorem dX5_load_17 : decode cX5_load 17 = .ok (.iaload, 1) := by decide +kernel
theorem dX5_load_18 : decode cX5_load 18 = .ok (.putfield 45, 3) := by decide +kernel
theorem dX5_load_21 : decode cX5_load 21 = .ok (.aload_n 0, 1) := by decide +kernel
theorem dX5_load_22 : decode cX5_load 22 = .ok (.aload_n 1, 1) := by decide +kernel
theorem dX5_load_23 : decode cX5_load 23 = .ok (.iconst 3, 1) := by decide +kernel
theorem dX5_load_24 : decode cX5_load 24 = .ok (.iaload, 1) := by decide +kernel
theorem dX5_load_25 : decode cX5_load 25 = .ok (.putfield 49, 3) := by decide +kernel
theorem dX5_load_28 : decode cX5_load 28 = .ok (.aload_n 0, 1) := by decide +kernel
theorem dX5_load_29 : decode cX5_load 29 = .ok (.aload_n 1, 1) := by decide +kernel
theorem dX5_load_30 : decode cX5_load 30 = .ok (.iconst 4, 1) := by decide +kernel
theorem dX5_load_31 : decode cX5_load 31 = .ok (.iaload, 1) := by decide +kernel
theorem dX5_load_32 : decode cX5_load 32 = .ok (.putfield 58, 3) := by decide +kernel
theorem dX5_load_35 : decode cX5_load 35 = .ok (.iconst 5, 1) := by decide +kernel
theorem dX5_load_36 : decode cX5_load 36 = .ok (.istore_n 2, 1) := by decide +kernel
theorem dX5_load_37 : decode cX5_load 37 = .ok (.iconst 0, 1) := by decide +kernel
theorem dX5_load_38 : decode cX5_load 38 = .ok (.istore_n 3, 1) := by decide +kernel
theorem dX5_load_39 : decode cX5_load 39 = .ok (.iload_n 3, 1) := by decide +kernel
theorem dX5_load_40 : decode cX5_load 40 = .ok (.iconst 5, 1) := by decide +kernel
theorem dX5_load_41 : decode cX5_load 41 = .ok (.if_icmp .ge 45, 3) := by decide +kernel
theorem dX5_load_44 : decode cX5_load 44 = .ok (.aload_n 0, 1) := by decide +kernel
theorem dX5_load_45 : decode cX5_load 45 = .ok (.getfield 9, 3) := by decide +kernel
theorem dX5_load_48 : decode cX5_load 48 = .ok (.iload_n 3, 1) := by decide +kernel
theorem dX5_load_49 : decode cX5_load 49 = .ok (.aload_n 1, 1) := by decide +kernel
theorem dX5_load_50 : decode cX5_load 50 = .ok (.iload_n 2, 1) := by decide +kernel
theorem dX5_load_51 : decode cX5_load 51 = .ok (.iinc 2 1, 3) := by decide +kernel
theorem dX5_load_54 : decode cX5_load 54 = .ok (.iaload, 1) := by decide +kernel
theorem dX5_load_55 : decode cX5_load 55 = .ok (.iastore, 1) := by decide +kernel
theorem dX5_load_56 : decode cX5_load 56 = .ok (.aload_n 0, 1) := by decide +kernel
theorem dX5_load_57 : decode cX5_load 57 = .ok (.getfield 15, 3) := by decide +kernel
theorem dX5_load_60 : decode cX5_load 60 = .ok (.iload_n 3, 1) := by decide +kernel
theorem dX5_load_61 : decode cX5_load 61 = .ok (.aload_n 1, 1) := by decide +kernel
theorem dX5_load_62 : decode cX5_load 62 = .ok (.iload_n 2, 1) := by decide +kernel
theorem dX5_load_63 : decode cX5_load 63 = .ok (.iinc 2 1, 3) := by decide +kernel
theorem dX5_load_66 : decode cX5_load 66 = .ok (.iaload, 1) := by decide +kernel
theorem dX5_load_67 : decode cX5_load 67 = .ok (.iastore, 1) := by decide +kernel
theorem dX5_load_68 : decode cX5_load 68 = .ok (.aload_n 0, 1) := by decide +kernel
theorem dX5_load_69 : decode cX5_load 69 = .ok (.getfield 18, 3) := by decide +kernel
theorem dX5_load_72 : decode cX5_load 72 = .ok (.iload_n 3, 1) := by decide +kernel
theorem dX5_load_73 : decode cX5_load 73 = .ok (.aload_n 1, 1) := by decide +kernel
theorem dX5_load_74 : decode cX5_load 74 = .ok (.iload_n 2, 1) := by decide +kernel
theorem dX5_load_75 : decode cX5_load 75 = .ok (.iinc 2 1, 3) := by decide +kernel
theorem dX5_load_78 : decode cX5_load 78 = .ok (.iaload, 1) := by decide +kernel
theorem dX5_load_79 : decode cX5_load 79 = .ok (.iastore, 1) := by decide +kernel
theorem dX5_load_80 : decode cX5_load 80 = .ok (.iinc 3 1, 3) := by decide +kernel
theorem dX5_load_83 : decode cX5_load 83 = .ok (.goto (-44), 3) := by decide +kernel
theorem dX5_load_86 : decode cX5_load 86 = .ok (.iconst 0, 1) := by decide +kernel
theorem dX5_load_87 : decode cX5_load 87 = .ok (.istore_n 3, 1) := by decide +kernel
theorem dX5_load_88 : decode cX5_load 88 = .ok (.iload_n 3, 1) := by decide +kernel
theorem dX5_load_89 : decode cX5_load 89 = .ok (.bipush 6, 2) := by decide +kernel
theorem dX5_load_91 : decode cX5_load 91 = .ok (.if_icmp .ge 81, 3) := by decide +kernel
theorem dX5_load_94 : decode cX5_load 94 = .ok (.aload_n 0, 1) := by decide +kernel
theorem dX5_load_95 : decode cX5_load 95 = .ok (.getfield 21, 3) := by decide +kernel
theorem dX5_load_98 : decode cX5_load 98 = .ok (.iload_n 3, 1) := by decide +kernel
theorem dX5_load_99 : decode cX5_load 99 = .ok (.aload_n 1, 1) := by decide +kernel
theorem dX5_load_100 : decode cX5_load 100 = .ok (.iload_n 2, 1) := by decide +kernel
theorem dX5_load_101 : decode cX5_load 101 = .ok (.iinc 2 1, 3) := by decide +kernel
theorem dX5_load_104 : decode cX5_load 104 = .ok (.iaload, 1) := by decide +kernel
theorem dX5_load_105 : decode cX5_load 105 = .ok (.iastore, 1) := by decide +kernel
theorem dX5_load_106 : decode cX5_load 106 = .ok (.aload_n 0, 1) := by decide +kernel
theorem dX5_load_107 : decode cX5_load 107 = .ok (.getfield 24, 3) := by decide +kernel
theorem dX5_load_110 : decode cX5_load 110 = .ok (.iload_n 3, 1) := by decide +kernel
theorem dX5_load_111 : decode cX5_load 111 = .ok (.aload_n 1, 1) := by decide +kernel
theorem dX5_load_112 : decode cX5_load 112 = .ok (.iload_n 2, 1) := by decide +kernel
theorem dX5_load_113 : decode cX5_load 113 = .ok (.iinc 2 1, 3) := by decide +kernel
theorem dX5_load_116 : decode cX5_load 116 = .ok (.iaload, 1) := by decide +kernel
theorem dX5_load_117 : decode cX5_load 117 = .ok (.iastore, 1) := by decide +kernel
theorem dX5_load_118 : decode cX5_load 118 = .ok (.aload_n 0, 1) := by decide +kernel
theorem dX5_load_119 : decode cX5_load 119 = .ok (.getfield 27, 3) := by decide +kernel
theorem dX5_load_122 : decode cX5_load 122 = .ok (.iload_n 3, 1) := by decide +kernel
theorem dX5_load_123 : decode cX5_load 123 = .ok (.aload_n 1, 1) := by decide +kernel
theorem dX5_load_124 : decode cX5_load 124 = .ok (.iload_n 2, 1) := by decide +kernel
theorem dX5_load_125 : decode cX5_load 125 = .ok (.iinc 2 1, 3) := by decide +kernel
theorem dX5_load_128 : decode cX5_load 128 = .ok (.iaload, 1) := by decide +kernel
theorem dX5_load_129 : decode cX5_load 129 = .ok (.iastore, 1) := by decide +kernel
theorem dX5_load_130 : decode cX5_load 130 = .ok (.aload_n 0, 1) := by decide +kernel
theorem dX5_load_131 : decode cX5_load 131 = .ok (.getfield 30, 3) := by decide +kernel
theorem dX5_load_134 : decode cX5_load 134 = .ok (.iload_n 3, 1) := by decide +kernel
theorem dX5_load_135 : decode cX5_load 135 = .ok (.aload_n 1, 1) := by decide +kernel
theorem dX5_load_136 : decode cX5_load 136 = .ok (.iload_n 2, 1) := by decide +kernel
theorem dX5_load_137 : decode cX5_load 137 = .ok (.iinc 2 1, 3) := by decide +kernel
theorem dX5_load_140 : decode cX5_load 140 = .ok (.iaload, 1) := by decide +kernel
theorem dX5_load_141 : decode cX5_load 141 = .ok (.iastore, 1) := by decide +kernel
theorem dX5_load_142 : decode cX5_load 142 = .ok (.aload_n 0, 1) := by decide +kernel
theorem dX5_load_143 : decode cX5_load 143 = .ok (.getfield 33, 3) := by decide +kernel
theorem dX5_load_146 : decode cX5_load 146 = .ok (.iload_n 3, 1) := by decide +kernel
theorem dX5_load_147 : decode cX5_load 147 = .ok (.aload_n 1, 1) := by decide +kernel
theorem dX5_load_148 : decode cX5_load 148 = .ok (.iload_n 2, 1) := by decide +kernel
theorem dX5_load_149 : decode cX5_load 149 = .ok (.iinc 2 1, 3) := by decide +kernel
theorem dX5_load_152 : decode cX5_load 152 = .ok (.iaload, 1) := by decide +kernel
theorem dX5_load_153 : decode cX5_load 153 = .ok (.iastore, 1) := by decide +kernel
theorem dX5_load_154 : decode cX5_load 154 = .ok (.aload_n 0, 1) := by decide +kernel
theorem dX5_load_155 : decode cX5_load 155 = .ok (.getfield 36, 3) := by decide +kernel
theorem dX5_load_158 : decode cX5_load 158 = .ok (.iload_n 3, 1) := by decide +kernel
theorem dX5_load_159 : decode cX5_load 159 = .ok (.aload_n 1, 1) := by decide +kernel
theorem dX5_load_160 : decode cX5_load 160 = .ok (.iload_n 2, 1) := by decide +kernel
theorem dX5_load_161 : decode cX5_load 161 = .ok (.iinc 2 1, 3) := by decide +kernel
theorem dX5_load_164 : decode cX5_load 164 = .ok (.iaload, 1) := by decide +kernel
theorem dX5_load_165 : decode cX5_load 165 = .ok (.iastore, 1) := by decide +kernel
theorem dX5_load_166 : decode cX5_load 166 = .ok (.iinc 3 1, 3) := by decide +kernel
theorem dX5_load_169 : decode cX5_load 169 = .ok (.goto (-81), 3) := by decide +kernel
theorem dX5_load_172 : decode cX5_load 172 = .ok (.return_, 1) := by decide +kernel
theorem dX5_hostOf_0 : decode cX5_hostOf 0 = .ok (.aload_n 0, 1) := by decide +kernel
theorem dX5_hostOf_1 : decode cX5_hostOf 1 = .ok (.getfield 45, 3) := by decide +kernel
theorem dX5_hostOf_4 : decode cX5_hostOf 4 = .ok (.iconst 1, 1) := by decide +kernel
theorem dX5_hostOf_5 : decode cX5_hostOf 5 = .ok (.if_icmp .lt 13, 3) := by decide +kernel
theorem dX5_hostOf_8 : decode cX5_hostOf 8 = .ok (.aload_n 0, 1) := by decide +kernel
theorem dX5_hostOf_9 : decode cX5_hostOf 9 = .ok (.getfield 33, 3) := by decide +kernel
theorem dX5_hostOf_12 : decode cX5_hostOf 12 = .ok (.iload_n 1, 1) := by decide +kernel
theorem dX5_hostOf_13 : decode cX5_hostOf 13 = .ok (.iaload, 1) := by decide +kernel
theorem dX5_hostOf_14 : decode cX5_hostOf 14 = .ok (.iload_n 2, 1) := by decide +kernel
theorem dX5_hostOf_15 : decode cX5_hostOf 15 = .ok (.if_icmp .le 6, 3) := by decide +kernel
theorem dX5_hostOf_18 : decode cX5_hostOf 18 = .ok (.ldc 61, 2) := by decide +kernel
theorem dX5_hostOf_20 : decode cX5_hostOf 20 = .ok (.ireturn, 1) := by decide +kernel
theorem dX5_hostOf_21 : decode cX5_hostOf 21 = .ok (.aload_n 0, 1) := by decide +kernel
theorem dX5_hostOf_22 : decode cX5_hostOf 22 = .ok (.getfield 27, 3) := by decide +kernel
theorem dX5_hostOf_25 : decode cX5_hostOf 25 = .ok (.iload_n 1, 1) := by decide +kernel
theorem dX5_hostOf_26 : decode cX5_hostOf 26 = .ok (.iaload, 1) := by decide +kernel
theorem dX5_hostOf_27 : decode cX5_hostOf 27 = .ok (.aload_n 0, 1) := by decide +kernel
theorem dX5_hostOf_28 : decode cX5_hostOf 28 = .ok (.getfield 30, 3) := by decide +kernel
theorem dX5_hostOf_31 : decode cX5_hostOf 31 = .ok (.iload_n 1, 1) := by decide +kernel
theorem dX5_hostOf_32 : decode cX5_hostOf 32 = .ok (.iaload, 1) := by decide +kernel
theorem dX5_hostOf_33 : decode cX5_hostOf 33 = .ok (.aload_n 0, 1) := by decide +kernel
theorem dX5_hostOf_34 : decode cX5_hostOf 34 = .ok (.getfield 58, 3) := by decide +kernel
theorem dX5_hostOf_37 : decode cX5_hostOf 37 = .ok (.iload_n 2, 1) := by decide +kernel
theorem dX5_hostOf_38 : decode cX5_hostOf 38 = .ok (.iadd, 1) := by decide +kernel
theorem dX5_hostOf_39 : decode cX5_hostOf 39 = .ok (.imul, 1) := by decide +kernel
theorem dX5_hostOf_40 : decode cX5_hostOf 40 = .ok (.iadd, 1) := by decide +kernel
theorem dX5_hostOf_41 : decode cX5_hostOf 41 = .ok (.aload_n 0, 1) := by decide +kernel
theorem dX5_hostOf_42 : decode cX5_hostOf 42 = .ok (.getfield 45, 3) := by decide +kernel
theorem dX5_hostOf_45 : decode cX5_hostOf 45 = .ok (.irem, 1) := by decide +kernel
theorem dX5_hostOf_46 : decode cX5_hostOf 46 = .ok (.ireturn, 1) := by decide +kernel
theorem dX5_seat_0 : decode cX5_seat 0 = .ok (.iconst 0, 1) := by decide +kernel
theorem dX5_seat_1 : decode cX5_seat 1 = .ok (.istore_n 2, 1) := by decide +kernel
theorem dX5_seat_2 : decode cX5_seat 2 = .ok (.iload_n 2, 1) := by decide +kernel
theorem dX5_seat_3 : decode cX5_seat 3 = .ok (.aload_n 0, 1) := by decide +kernel
theorem dX5_seat_4 : decode cX5_seat 4 = .ok (.getfield 45, 3) := by decide +kernel
theorem dX5_seat_7 : decode cX5_seat 7 = .ok (.if_icmp .ge 16, 3) := by decide +kernel
theorem dX5_seat_10 : decode cX5_seat 10 = .ok (.aload_n 0, 1) := by decide +kernel
theorem dX5_seat_11 : decode cX5_seat 11 = .ok (.getfield 42, 3) := by decide +kernel
theorem dX5_seat_14 : decode cX5_seat 14 = .ok (.iload_n 2, 1) := by decide +kernel
theorem dX5_seat_15 : decode cX5_seat 15 = .ok (.iconst 0, 1) := by decide +kernel
theorem dX5_seat_16 : decode cX5_seat 16 = .ok (.iastore, 1) := by decide +kernel
theorem dX5_seat_17 : decode cX5_seat 17 = .ok (.iinc 2 1, 3) := by decide +kernel
theorem dX5_seat_20 : decode cX5_seat 20 = .ok (.goto (-18), 3) := by decide +kernel
theorem dX5_seat_23 : decode cX5_seat 23 = .ok (.iconst 0, 1) := by decide +kernel
theorem dX5_seat_24 : decode cX5_seat 24 = .ok (.istore_n 2, 1) := by decide +kernel
theorem dX5_seat_25 : decode cX5_seat 25 = .ok (.iload_n 2, 1) := by decide +kernel
theorem dX5_seat_26 : decode cX5_seat 26 = .ok (.aload_n 0, 1) := by decide +kernel
theorem dX5_seat_27 : decode cX5_seat 27 = .ok (.getfield 49, 3) := by decide +kernel
theorem dX5_seat_30 : decode cX5_seat 30 = .ok (.if_icmp .ge 49, 3) := by decide +kernel
theorem dX5_seat_33 : decode cX5_seat 33 = .ok (.aload_n 0, 1) := by decide +kernel
theorem dX5_seat_34 : decode cX5_seat 34 = .ok (.getfield 39, 3) := by decide +kernel
theorem dX5_seat_37 : decode cX5_seat 37 = .ok (.iload_n 2, 1) := by decide +kernel
theorem dX5_seat_38 : decode cX5_seat 38 = .ok (.aload_n 0, 1) := by decide +kernel
theorem dX5_seat_39 : decode cX5_seat 39 = .ok (.iload_n 2, 1) := by decide +kernel
theorem dX5_seat_40 : decode cX5_seat 40 = .ok (.iload_n 1, 1) := by decide +kernel
theorem dX5_seat_41 : decode cX5_seat 41 = .ok (.invokevirtual 62, 3) := by decide +kernel
theorem dX5_seat_44 : decode cX5_seat 44 = .ok (.iastore, 1) := by decide +kernel
theorem dX5_seat_45 : decode cX5_seat 45 = .ok (.aload_n 0, 1) := by decide +kernel
theorem dX5_seat_46 : decode cX5_seat 46 = .ok (.getfield 39, 3) := by decide +kernel
theorem dX5_seat_49 : decode cX5_seat 49 = .ok (.iload_n 2, 1) := by decide +kernel
theorem dX5_seat_50 : decode cX5_seat 50 = .ok (.iaload, 1) := by decide +kernel
theorem dX5_seat_51 : decode cX5_seat 51 = .ok (.ldc 61, 2) := by decide +kernel
theorem dX5_seat_53 : decode cX5_seat 53 = .ok (.if_icmp .eq 20, 3) := by decide +kernel
theorem dX5_seat_56 : decode cX5_seat 56 = .ok (.aload_n 0, 1) := by decide +kernel
theorem dX5_seat_57 : decode cX5_seat 57 = .ok (.getfield 42, 3) := by decide +kernel
theorem dX5_seat_60 : decode cX5_seat 60 = .ok (.aload_n 0, 1) := by decide +kernel
theorem dX5_seat_61 : decode cX5_seat 61 = .ok (.getfield 39, 3) := by decide +kernel
theorem dX5_seat_64 : decode cX5_seat 64 = .ok (.iload_n 2, 1) := by decide +kernel
theorem dX5_seat_65 : decode cX5_seat 65 = .ok (.iaload, 1) := by decide +kernel
theorem dX5_seat_66 : decode cX5_seat 66 = .ok (.dup2, 1) := by decide +kernel
theorem dX5_seat_67 : decode cX5_seat 67 = .ok (.iaload, 1) := by decide +kernel
theorem dX5_seat_68 : decode cX5_seat 68 = .ok (.iconst 1, 1) := by decide +kernel
theorem dX5_seat_69 : decode cX5_seat 69 = .ok (.iload_n 2, 1) := by decide +kernel
theorem dX5_seat_70 : decode cX5_seat 70 = .ok (.ishl, 1) := by decide +kernel
theorem dX5_seat_71 : decode cX5_seat 71 = .ok (.ior, 1) := by decide +kernel
theorem dX5_seat_72 : decode cX5_seat 72 = .ok (.iastore, 1) := by decide +kernel
theorem dX5_seat_73 : decode cX5_seat 73 = .ok (.iinc 2 1, 3) := by decide +kernel
theorem dX5_seat_76 : decode cX5_seat 76 = .ok (.goto (-51), 3) := by decide +kernel
theorem dX5_seat_79 : decode cX5_seat 79 = .ok (.return_, 1) := by decide +kernel
theorem dX5_brings_0 : decode cX5_brings 0 = .ok (.aload_n 0, 1) := by decide +kernel
theorem dX5_brings_1 : decode cX5_brings 1 = .ok (.getfield 39, 3) := by decide +kernel
theorem dX5_brings_4 : decode cX5_brings 4 = .ok (.iload_n 1, 1) := by decide +kernel
theorem dX5_brings_5 : decode cX5_brings 5 = .ok (.iaload, 1) := by decide +kernel
theorem dX5_brings_6 : decode cX5_brings 6 = .ok (.ldc 61, 2) := by decide +kernel
theorem dX5_brings_8 : decode cX5_brings 8 = .ok (.if_icmp .eq 28, 3) := by decide +kernel
theorem dX5_brings_11 : decode cX5_brings 11 = .ok (.aload_n 0, 1) := by decide +kernel
theorem dX5_brings_12 : decode cX5_brings 12 = .ok (.getfield 42, 3) := by decide +kernel
theorem dX5_brings_15 : decode cX5_brings 15 = .ok (.aload_n 0, 1) := by decide +kernel
theorem dX5_brings_16 : decode cX5_brings 16 = .ok (.getfield 39, 3) := by decide +kernel
theorem dX5_brings_19 : decode cX5_brings 19 = .ok (.iload_n 1, 1) := by decide +kernel
theorem dX5_brings_20 : decode cX5_brings 20 = .ok (.iaload, 1) := by decide +kernel
theorem dX5_brings_21 : decode cX5_brings 21 = .ok (.iaload, 1) := by decide +kernel
theorem dX5_brings_22 : decode cX5_brings 22 = .ok (.aload_n 0, 1) := by decide +kernel
theorem dX5_brings_23 : decode cX5_brings 23 = .ok (.getfield 36, 3) := by decide +kernel
theorem dX5_brings_26 : decode cX5_brings 26 = .ok (.iload_n 1, 1) := by decide +kernel
theorem dX5_brings_27 : decode cX5_brings 27 = .ok (.iaload, 1) := by decide +kernel
theorem dX5_brings_28 : decode cX5_brings 28 = .ok (.iand, 1) := by decide +kernel
theorem dX5_brings_29 : decode cX5_brings 29 = .ok (.ifCond .ne 7, 3) := by decide +kernel
theorem dX5_brings_32 : decode cX5_brings 32 = .ok (.iconst 1, 1) := by decide +kernel
theorem dX5_brings_33 : decode cX5_brings 33 = .ok (.goto 4, 3) := by decide +kernel
theorem dX5_brings_36 : decode cX5_brings 36 = .ok (.iconst 0, 1) := by decide +kernel
theorem dX5_brings_37 : decode cX5_brings 37 = .ok (.ireturn, 1) := by decide +kernel
theorem dX5_guestsOf_0 : decode cX5_guestsOf 0 = .ok (.aload_n 0, 1) := by decide +kernel
theorem dX5_guestsOf_1 : decode cX5_guestsOf 1 = .ok (.iconst 0, 1) := by decide +kernel
theorem dX5_guestsOf_2 : decode cX5_guestsOf 2 = .ok (.invokevirtual 66, 3) := by decide +kernel
theorem dX5_guestsOf_5 : decode cX5_guestsOf 5 = .ok (.aload_n 0, 1) := by decide +kernel
theorem dX5_guestsOf_6 : decode cX5_guestsOf 6 = .ok (.getfield 42, 3) := by decide +kernel
theorem dX5_guestsOf_9 : decode cX5_guestsOf 9 = .ok (.iload_n 1, 1) := by decide +kernel
theorem dX5_guestsOf_10 : decode cX5_guestsOf 10 = .ok (.iaload, 1) := by decide +kernel
theorem dX5_guestsOf_11 : decode cX5_guestsOf 11 = .ok (.ireturn, 1) := by decide +kernel
theorem dX5_lostOn_0 : decode cX5_lostOn 0 = .ok (.aload_n 0, 1) := by decide +kernel
theorem dX5_lostOn_1 : decode cX5_lostOn 1 = .ok (.iload_n 1, 1) := by decide +kernel
theorem dX5_lostOn_2 : decode cX5_lostOn 2 = .ok (.invokevirtual 66, 3) := by decide +kernel
theorem dX5_lostOn_5 : decode cX5_lostOn 5 = .ok (.iconst 0, 1) := by decide +kernel
theorem dX5_lostOn_6 : decode cX5_lostOn 6 = .ok (.istore_n 2, 1) := by decide +kernel
theorem dX5_lostOn_7 : decode cX5_lostOn 7 = .ok (.iconst 0, 1) := by decide +kernel
theorem dX5_lostOn_8 : decode cX5_lostOn 8 = .ok (.istore_n 3, 1) := by decide +kernel
theorem dX5_lostOn_9 : decode cX5_lostOn 9 = .ok (.iload_n 3, 1) := by decide +kernel
theorem dX5_lostOn_10 : decode cX5_lostOn 10 = .ok (.aload_n 0, 1) := by decide +kernel
theorem dX5_lostOn_11 : decode cX5_lostOn 11 = .ok (.getfield 49, 3) := by decide +kernel
theorem dX5_lostOn_14 : decode cX5_lostOn 14 = .ok (.if_icmp .ge 38, 3) := by decide +kernel
theorem dX5_lostOn_17 : decode cX5_lostOn 17 = .ok (.iload_n 2, 1) := by decide +kernel
theorem dX5_lostOn_18 : decode cX5_lostOn 18 = .ok (.aload_n 0, 1) := by decide +kernel
theorem dX5_lostOn_19 : decode cX5_lostOn 19 = .ok (.getfield 39, 3) := by decide +kernel
theorem dX5_lostOn_22 : decode cX5_lostOn 22 = .ok (.iload_n 3, 1) := by decide +kernel
theorem dX5_lostOn_23 : decode cX5_lostOn 23 = .ok (.iaload, 1) := by decide +kernel
theorem dX5_lostOn_24 : decode cX5_lostOn 24 = .ok (.ldc 61, 2) := by decide +kernel
theorem dX5_lostOn_26 : decode cX5_lostOn 26 = .ok (.if_icmp .eq 17, 3) := by decide +kernel
theorem dX5_lostOn_29 : decode cX5_lostOn 29 = .ok (.aload_n 0, 1) := by decide +kernel
theorem dX5_lostOn_30 : decode cX5_lostOn 30 = .ok (.iload_n 3, 1) := by decide +kernel
theorem dX5_lostOn_31 : decode cX5_lostOn 31 = .ok (.invokevirtual 70, 3) := by decide +kernel
theorem dX5_lostOn_34 : decode cX5_lostOn 34 = .ok (.ifCond .ne 9, 3) := by decide +kernel
theorem dX5_lostOn_37 : decode cX5_lostOn 37 = .ok (.iconst 1, 1) := by decide +kernel
theorem dX5_lostOn_38 : decode cX5_lostOn 38 = .ok (.iload_n 3, 1) := by decide +kernel
theorem dX5_lostOn_39 : decode cX5_lostOn 39 = .ok (.ishl, 1) := by decide +kernel
theorem dX5_lostOn_40 : decode cX5_lostOn 40 = .ok (.goto 4, 3) := by decide +kernel
theorem dX5_lostOn_43 : decode cX5_lostOn 43 = .ok (.iconst 0, 1) := by decide +kernel
theorem dX5_lostOn_44 : decode cX5_lostOn 44 = .ok (.ior, 1) := by decide +kernel
theorem dX5_lostOn_45 : decode cX5_lostOn 45 = .ok (.istore_n 2, 1) := by decide +kernel
theorem dX5_lostOn_46 : decode cX5_lostOn 46 = .ok (.iinc 3 1, 3) := by decide +kernel
theorem dX5_lostOn_49 : decode cX5_lostOn 49 = .ok (.goto (-40), 3) := by decide +kernel
theorem dX5_lostOn_52 : decode cX5_lostOn 52 = .ok (.iload_n 2, 1) := by decide +kernel
theorem dX5_lostOn_53 : decode cX5_lostOn 53 = .ok (.ireturn, 1) := by decide +kernel
theorem dX5_servedIn_0 : decode cX5_servedIn 0 = .ok (.iconst 0, 1) := by decide +kernel
theorem dX5_servedIn_1 : decode cX5_servedIn 1 = .ok (.istore_n 2, 1) := by decide +kernel
theorem dX5_servedIn_2 : decode cX5_servedIn 2 = .ok (.iconst 0, 1) := by decide +kernel
theorem dX5_servedIn_3 : decode cX5_servedIn 3 = .ok (.istore_n 3, 1) := by decide +kernel
theorem dX5_servedIn_4 : decode cX5_servedIn 4 = .ok (.iload_n 3, 1) := by decide +kernel
theorem dX5_servedIn_5 : decode cX5_servedIn 5 = .ok (.iload_n 1, 1) := by decide +kernel
theorem dX5_servedIn_6 : decode cX5_servedIn 6 = .ok (.if_icmp .ge 17, 3) := by decide +kernel
theorem dX5_servedIn_9 : decode cX5_servedIn 9 = .ok (.iload_n 2, 1) := by decide +kernel
theorem dX5_servedIn_10 : decode cX5_servedIn 10 = .ok (.aload_n 0, 1) := by decide +kernel
theorem dX5_servedIn_11 : decode cX5_servedIn 11 = .ok (.iload_n 3, 1) := by decide +kernel
theorem dX5_servedIn_12 : decode cX5_servedIn 12 = .ok (.invokevirtual 74, 3) := by decide +kernel
theorem dX5_servedIn_15 : decode cX5_servedIn 15 = .ok (.ior, 1) := by decide +kernel
theorem dX5_servedIn_16 : decode cX5_servedIn 16 = .ok (.istore_n 2, 1) := by decide +kernel
theorem dX5_servedIn_17 : decode cX5_servedIn 17 = .ok (.iinc 3 1, 3) := by decide +kernel
theorem dX5_servedIn_20 : decode cX5_servedIn 20 = .ok (.goto (-16), 3) := by decide +kernel
theorem dX5_servedIn_23 : decode cX5_servedIn 23 = .ok (.iload_n 2, 1) := by decide +kernel
theorem dX5_servedIn_24 : decode cX5_servedIn 24 = .ok (.ireturn, 1) := by decide +kernel
theorem dX5_servedOn_0 : decode cX5_servedOn 0 = .ok (.aload_n 0, 1) := by decide +kernel
theorem dX5_servedOn_1 : decode cX5_servedOn 1 = .ok (.iload_n 1, 1) := by decide +kernel
theorem dX5_servedOn_2 : decode cX5_servedOn 2 = .ok (.invokevirtual 66, 3) := by decide +kernel
theorem dX5_servedOn_5 : decode cX5_servedOn 5 = .ok (.iconst 0, 1) := by decide +kernel
theorem dX5_servedOn_6 : decode cX5_servedOn 6 = .ok (.istore_n 2, 1) := by decide +kernel
theorem dX5_servedOn_7 : decode cX5_servedOn 7 = .ok (.iconst 0, 1) := by decide +kernel
theorem dX5_servedOn_8 : decode cX5_servedOn 8 = .ok (.istore_n 3, 1) := by decide +kernel
theorem dX5_servedOn_9 : decode cX5_servedOn 9 = .ok (.iload_n 3, 1) := by decide +kernel
theorem dX5_servedOn_10 : decode cX5_servedOn 10 = .ok (.aload_n 0, 1) := by decide +kernel
theorem dX5_servedOn_11 : decode cX5_servedOn 11 = .ok (.getfield 49, 3) := by decide +kernel
theorem dX5_servedOn_14 : decode cX5_servedOn 14 = .ok (.if_icmp .ge 32, 3) := by decide +kernel
theorem dX5_servedOn_17 : decode cX5_servedOn 17 = .ok (.iload_n 2, 1) := by decide +kernel
theorem dX5_servedOn_18 : decode cX5_servedOn 18 = .ok (.aload_n 0, 1) := by decide +kernel
theorem dX5_servedOn_19 : decode cX5_servedOn 19 = .ok (.iload_n 3, 1) := by decide +kernel
theorem dX5_servedOn_20 : decode cX5_servedOn 20 = .ok (.invokevirtual 70, 3) := by decide +kernel
theorem dX5_servedOn_23 : decode cX5_servedOn 23 = .ok (.ifCond .eq 14, 3) := by decide +kernel
theorem dX5_servedOn_26 : decode cX5_servedOn 26 = .ok (.iconst 1, 1) := by decide +kernel
theorem dX5_servedOn_27 : decode cX5_servedOn 27 = .ok (.aload_n 0, 1) := by decide +kernel
theorem dX5_servedOn_28 : decode cX5_servedOn 28 = .ok (.getfield 39, 3) := by decide +kernel
theorem dX5_servedOn_31 : decode cX5_servedOn 31 = .ok (.iload_n 3, 1) := by decide +kernel
theorem dX5_servedOn_32 : decode cX5_servedOn 32 = .ok (.iaload, 1) := by decide +kernel
theorem dX5_servedOn_33 : decode cX5_servedOn 33 = .ok (.ishl, 1) := by decide +kernel
theorem dX5_servedOn_34 : decode cX5_servedOn 34 = .ok (.goto 4, 3) := by decide +kernel
theorem dX5_servedOn_37 : decode cX5_servedOn 37 = .ok (.iconst 0, 1) := by decide +kernel
theorem dX5_servedOn_38 : decode cX5_servedOn 38 = .ok (.ior, 1) := by decide +kernel
theorem dX5_servedOn_39 : decode cX5_servedOn 39 = .ok (.istore_n 2, 1) := by decide +kernel
theorem dX5_servedOn_40 : decode cX5_servedOn 40 = .ok (.iinc 3 1, 3) := by decide +kernel
theorem dX5_servedOn_43 : decode cX5_servedOn 43 = .ok (.goto (-34), 3) := by decide +kernel
theorem dX5_servedOn_46 : decode cX5_servedOn 46 = .ok (.iload_n 2, 1) := by decide +kernel
theorem dX5_servedOn_47 : decode cX5_servedOn 47 = .ok (.ireturn, 1) := by decide +kernel
theorem dX5_hasPeaceful_0 : decode cX5_hasPeaceful 0 = .ok (.iconst 0, 1) := by decide +kernel
theorem dX5_hasPeaceful_1 : decode cX5_hasPeaceful 1 = .ok (.istore_n 2, 1) := by decide +kernel
theorem dX5_hasPeaceful_2 : decode cX5_hasPeaceful 2 = .ok (.iload_n 2, 1) := by decide +kernel
theorem dX5_hasPeaceful_3 : decode cX5_hasPeaceful 3 = .ok (.aload_n 0, 1) := by decide +kernel
theorem dX5_hasPeaceful_4 : decode cX5_hasPeaceful 4 = .ok (.getfield 49, 3) := by decide +kernel
theorem dX5_hasPeaceful_7 : decode cX5_hasPeaceful 7 = .ok (.if_icmp .ge 31, 3) := by decide +kernel
theorem dX5_hasPeaceful_10 : decode cX5_hasPeaceful 10 = .ok (.iload_n 1, 1) := by decide +kernel
theorem dX5_hasPeaceful_11 : decode cX5_hasPeaceful 11 = .ok (.iload_n 2, 1) := by decide +kernel
theorem dX5_hasPeaceful_12 : decode cX5_hasPeaceful 12 = .ok (.ishr, 1) := by decide +kernel
theorem dX5_hasPeaceful_13 : decode cX5_hasPeaceful 13 = .ok (.iconst 1, 1) := by decide +kernel
theorem dX5_hasPeaceful_14 : decode cX5_hasPeaceful 14 = .ok (.iand, 1) := by decide +kernel
theorem dX5_hasPeaceful_15 : decode cX5_hasPeaceful 15 = .ok (.iconst 1, 1) := by decide +kernel
theorem dX5_hasPeaceful_16 : decode cX5_hasPeaceful 16 = .ok (.if_icmp .ne 16, 3) := by decide +kernel
theorem dX5_hasPeaceful_19 : decode cX5_hasPeaceful 19 = .ok (.iload_n 1, 1) := by decide +kernel
theorem dX5_hasPeaceful_20 : decode cX5_hasPeaceful 20 = .ok (.aload_n 0, 1) := by decide +kernel
theorem dX5_hasPeaceful_21 : decode cX5_hasPeaceful 21 = .ok (.getfield 36, 3) := by decide +kernel
theorem dX5_hasPeaceful_24 : decode cX5_hasPeaceful 24 = .ok (.iload_n 2, 1) := by decide +kernel
theorem dX5_hasPeaceful_25 : decode cX5_hasPeaceful 25 = .ok (.iaload, 1) := by decide +kernel
theorem dX5_hasPeaceful_26 : decode cX5_hasPeaceful 26 = .ok (.iand, 1) := by decide +kernel
theorem dX5_hasPeaceful_27 : decode cX5_hasPeaceful 27 = .ok (.ifCond .ne 5, 3) := by decide +kernel
theorem dX5_hasPeaceful_30 : decode cX5_hasPeaceful 30 = .ok (.iconst 1, 1) := by decide +kernel
theorem dX5_hasPeaceful_31 : decode cX5_hasPeaceful 31 = .ok (.ireturn, 1) := by decide +kernel
theorem dX5_hasPeaceful_32 : decode cX5_hasPeaceful 32 = .ok (.iinc 2 1, 3) := by decide +kernel
theorem dX5_hasPeaceful_35 : decode cX5_hasPeaceful 35 = .ok (.goto (-33), 3) := by decide +kernel
theorem dX5_hasPeaceful_38 : decode cX5_hasPeaceful 38 = .ok (.iconst 0, 1) := by decide +kernel
theorem dX5_hasPeaceful_39 : decode cX5_hasPeaceful 39 = .ok (.ireturn, 1) := by decide +kernel
theorem dX5_passDays_0 : decode cX5_passDays 0 = .ok (.iconst 0, 1) := by decide +kernel
theorem dX5_passDays_1 : decode cX5_passDays 1 = .ok (.istore_n 2, 1) := by decide +kernel
theorem dX5_passDays_2 : decode cX5_passDays 2 = .ok (.iload_n 2, 1) := by decide +kernel
theorem dX5_passDays_3 : decode cX5_passDays 3 = .ok (.iload_n 1, 1) := by decide +kernel
theorem dX5_passDays_4 : decode cX5_passDays 4 = .ok (.if_icmp .ge 13, 3) := by decide +kernel
theorem dX5_passDays_7 : decode cX5_passDays 7 = .ok (.aload_n 0, 1) := by decide +kernel
theorem dX5_passDays_8 : decode cX5_passDays 8 = .ok (.invokevirtual 78, 3) := by decide +kernel
theorem dX5_passDays_11 : decode cX5_passDays 11 = .ok (.iinc 2 1, 3) := by decide +kernel
theorem dX5_passDays_14 : decode cX5_passDays 14 = .ok (.goto (-12), 3) := by decide +kernel
theorem dX5_passDays_17 : decode cX5_passDays 17 = .ok (.return_, 1) := by decide +kernel
theorem dX5_passDay_0 : decode cX5_passDay 0 = .ok (.aload_n 0, 1) := by decide +kernel
theorem dX5_passDay_1 : decode cX5_passDay 1 = .ok (.iconst 0, 1) := by decide +kernel
theorem dX5_passDay_2 : decode cX5_passDay 2 = .ok (.invokevirtual 66, 3) := by decide +kernel
theorem dX5_passDay_5 : decode cX5_passDay 5 = .ok (.iconst 0, 1) := by decide +kernel
theorem dX5_passDay_6 : decode cX5_passDay 6 = .ok (.istore_n 1, 1) := by decide +kernel
theorem dX5_passDay_7 : decode cX5_passDay 7 = .ok (.iload_n 1, 1) := by decide +kernel
theorem dX5_passDay_8 : decode cX5_passDay 8 = .ok (.aload_n 0, 1) := by decide +kernel
theorem dX5_passDay_9 : decode cX5_passDay 9 = .ok (.getfield 49, 3) := by decide +kernel
theorem dX5_passDay_12 : decode cX5_passDay 12 = .ok (.if_icmp .ge 28, 3) := by decide +kernel
theorem dX5_passDay_15 : decode cX5_passDay 15 = .ok (.aload_n 0, 1) := by decide +kernel
theorem dX5_passDay_16 : decode cX5_passDay 16 = .ok (.iload_n 1, 1) := by decide +kernel
theorem dX5_passDay_17 : decode cX5_passDay 17 = .ok (.invokevirtual 70, 3) := by decide +kernel
theorem dX5_passDay_20 : decode cX5_passDay 20 = .ok (.ifCond .eq 14, 3) := by decide +kernel
theorem dX5_passDay_23 : decode cX5_passDay 23 = .ok (.aload_n 0, 1) := by decide +kernel
theorem dX5_passDay_24 : decode cX5_passDay 24 = .ok (.iload_n 1, 1) := by decide +kernel
theorem dX5_passDay_25 : decode cX5_passDay 25 = .ok (.aload_n 0, 1) := by decide +kernel
theorem dX5_passDay_26 : decode cX5_passDay 26 = .ok (.getfield 39, 3) := by decide +kernel
theorem dX5_passDay_29 : decode cX5_passDay 29 = .ok (.iload_n 1, 1) := by decide +kernel
theorem dX5_passDay_30 : decode cX5_passDay 30 = .ok (.iaload, 1) := by decide +kernel
theorem dX5_passDay_31 : decode cX5_passDay 31 = .ok (.invokevirtual 81, 3) := by decide +kernel
theorem dX5_passDay_34 : decode cX5_passDay 34 = .ok (.iinc 1 1, 3) := by decide +kernel
theorem dX5_passDay_37 : decode cX5_passDay 37 = .ok (.goto (-30), 3) := by decide +kernel
theorem dX5_passDay_40 : decode cX5_passDay 40 = .ok (.iconst 0, 1) := by decide +kernel
theorem dX5_passDay_41 : decode cX5_passDay 41 = .ok (.istore_n 1, 1) := by decide +kernel
theorem dX5_passDay_42 : decode cX5_passDay 42 = .ok (.iload_n 1, 1) := by decide +kernel
theorem dX5_passDay_43 : decode cX5_passDay 43 = .ok (.aload_n 0, 1) := by decide +kernel
theorem dX5_passDay_44 : decode cX5_passDay 44 = .ok (.getfield 45, 3) := by decide +kernel
theorem dX5_passDay_47 : decode cX5_passDay 47 = .ok (.if_icmp .ge 19, 3) := by decide +kernel
theorem dX5_passDay_50 : decode cX5_passDay 50 = .ok (.aload_n 0, 1) := by decide +kernel
theorem dX5_passDay_51 : decode cX5_passDay 51 = .ok (.iload_n 1, 1) := by decide +kernel
theorem dX5_passDay_52 : decode cX5_passDay 52 = .ok (.aload_n 0, 1) := by decide +kernel
theorem dX5_passDay_53 : decode cX5_passDay 53 = .ok (.getfield 52, 3) := by decide +kernel
theorem dX5_passDay_56 : decode cX5_passDay 56 = .ok (.ineg, 1) := by decide +kernel
theorem dX5_passDay_57 : decode cX5_passDay 57 = .ok (.invokevirtual 85, 3) := by decide +kernel
theorem dX5_passDay_60 : decode cX5_passDay 60 = .ok (.iinc 1 1, 3) := by decide +kernel
theorem dX5_passDay_63 : decode cX5_passDay 63 = .ok (.goto (-21), 3) := by decide +kernel
theorem dX5_passDay_66 : decode cX5_passDay 66 = .ok (.aload_n 0, 1) := by decide +kernel
theorem dX5_passDay_67 : decode cX5_passDay 67 = .ok (.dup, 1) := by decide +kernel
theorem dX5_passDay_68 : decode cX5_passDay 68 = .ok (.getfield 58, 3) := by decide +kernel
theorem dX5_passDay_71 : decode cX5_passDay 71 = .ok (.iconst 1, 1) := by decide +kernel
theorem dX5_passDay_72 : decode cX5_passDay 72 = .ok (.iadd, 1) := by decide +kernel
theorem dX5_passDay_73 : decode cX5_passDay 73 = .ok (.putfield 58, 3) := by decide +kernel
theorem dX5_passDay_76 : decode cX5_passDay 76 = .ok (.iconst 0, 1) := by decide +kernel
theorem dX5_passDay_77 : decode cX5_passDay 77 = .ok (.istore_n 1, 1) := by decide +kernel
theorem dX5_passDay_78 : decode cX5_passDay 78 = .ok (.iload_n 1, 1) := by decide +kernel
theorem dX5_passDay_79 : decode cX5_passDay 79 = .ok (.aload_n 0, 1) := by decide +kernel
theorem dX5_passDay_80 : decode cX5_passDay 80 = .ok (.getfield 49, 3) := by decide +kernel
theorem dX5_passDay_83 : decode cX5_passDay 83 = .ok (.if_icmp .ge 27, 3) := by decide +kernel
theorem dX5_passDay_86 : decode cX5_passDay 86 = .ok (.aload_n 0, 1) := by decide +kernel
theorem dX5_passDay_87 : decode cX5_passDay 87 = .ok (.getfield 33, 3) := by decide +kernel
theorem dX5_passDay_90 : decode cX5_passDay 90 = .ok (.iload_n 1, 1) := by decide +kernel
theorem dX5_passDay_91 : decode cX5_passDay 91 = .ok (.aload_n 0, 1) := by decide +kernel
theorem dX5_passDay_92 : decode cX5_passDay 92 = .ok (.getfield 33, 3) := by decide +kernel
theorem dX5_passDay_95 : decode cX5_passDay 95 = .ok (.iload_n 1, 1) := by decide +kernel
theorem dX5_passDay_96 : decode cX5_passDay 96 = .ok (.iaload, 1) := by decide +kernel
theorem dX5_passDay_97 : decode cX5_passDay 97 = .ok (.iconst 1, 1) := by decide +kernel
theorem dX5_passDay_98 : decode cX5_passDay 98 = .ok (.isub, 1) := by decide +kernel
theorem dX5_passDay_99 : decode cX5_passDay 99 = .ok (.iconst 0, 1) := by decide +kernel
theorem dX5_passDay_100 : decode cX5_passDay 100 = .ok (.invokestatic 88, 3) := by decide +kernel
theorem dX5_passDay_103 : decode cX5_passDay 103 = .ok (.iastore, 1) := by decide +kernel
theorem dX5_passDay_104 : decode cX5_passDay 104 = .ok (.iinc 1 1, 3) := by decide +kernel
theorem dX5_passDay_107 : decode cX5_passDay 107 = .ok (.goto (-29), 3) := by decide +kernel
theorem dX5_passDay_110 : decode cX5_passDay 110 = .ok (.return_, 1) := by decide +kernel
theorem dX5_visit_0 : decode cX5_visit 0 = .ok (.aload_n 0, 1) := by decide +kernel
theorem dX5_visit_1 : decode cX5_visit 1 = .ok (.getfield 21, 3) := by decide +kernel
theorem dX5_visit_4 : decode cX5_visit 4 = .ok (.iload_n 1, 1) := by decide +kernel
theorem dX5_visit_5 : decode cX5_visit 5 = .ok (.iaload, 1) := by decide +kernel
theorem dX5_visit_6 : decode cX5_visit 6 = .ok (.tableswitch 161 1 5 #[34, 48, 70, 125, 140], 34) := by decide +kernel
theorem dX5_visit_40 : decode cX5_visit 40 = .ok (.aload_n 0, 1) := by decide +kernel
theorem dX5_visit_41 : decode cX5_visit 41 = .ok (.iload_n 2, 1) := by decide +kernel
theorem dX5_visit_42 : decode cX5_visit 42 = .ok (.aload_n 0, 1) := by decide +kernel
theorem dX5_visit_43 : decode cX5_visit 43 = .ok (.getfield 24, 3) := by decide +kernel
theorem dX5_visit_46 : decode cX5_visit 46 = .ok (.iload_n 1, 1) := by decide +kernel
theorem dX5_visit_47 : decode cX5_visit 47 = .ok (.iaload, 1) := by decide +kernel
theorem dX5_visit_48 : decode cX5_visit 48 = .ok (.invokevirtual 85, 3) := by decide +kernel
theorem dX5_visit_51 : decode cX5_visit 51 = .ok (.goto 116, 3) := by decide +kernel
theorem dX5_visit_54 : decode cX5_visit 54 = .ok (.aload_n 0, 1) := by decide +kernel
theorem dX5_visit_55 : decode cX5_visit 55 = .ok (.iload_n 2, 1) := by decide +kernel
theorem dX5_visit_56 : decode cX5_visit 56 = .ok (.iconst 2, 1) := by decide +kernel
theorem dX5_visit_57 : decode cX5_visit 57 = .ok (.aload_n 0, 1) := by decide +kernel
theorem dX5_visit_58 : decode cX5_visit 58 = .ok (.getfield 24, 3) := by decide +kernel
theorem dX5_visit_61 : decode cX5_visit 61 = .ok (.iload_n 1, 1) := by decide +kernel
theorem dX5_visit_62 : decode cX5_visit 62 = .ok (.iaload, 1) := by decide +kernel
theorem dX5_visit_63 : decode cX5_visit 63 = .ok (.imul, 1) := by decide +kernel
theorem dX5_visit_64 : decode cX5_visit 64 = .ok (.invokevirtual 85, 3) := by decide +kernel
theorem dX5_visit_67 : decode cX5_visit 67 = .ok (.aload_n 0, 1) := by decide +kernel
theorem dX5_visit_68 : decode cX5_visit 68 = .ok (.iload_n 2, 1) := by decide +kernel
theorem dX5_visit_69 : decode cX5_visit 69 = .ok (.iconst 1, 1) := by decide +kernel
theorem dX5_visit_70 : decode cX5_visit 70 = .ok (.invokevirtual 93, 3) := by decide +kernel
theorem dX5_visit_73 : decode cX5_visit 73 = .ok (.goto 94, 3) := by decide +kernel
theorem dX5_visit_76 : decode cX5_visit 76 = .ok (.aload_n 0, 1) := by decide +kernel
theorem dX5_visit_77 : decode cX5_visit 77 = .ok (.iload_n 2, 1) := by decide +kernel
theorem dX5_visit_78 : decode cX5_visit 78 = .ok (.aload_n 0, 1) := by decide +kernel
theorem dX5_visit_79 : decode cX5_visit 79 = .ok (.getfield 24, 3) := by decide +kernel
theorem dX5_visit_82 : decode cX5_visit 82 = .ok (.iload_n 1, 1) := by decide +kernel
theorem dX5_visit_83 : decode cX5_visit 83 = .ok (.iaload, 1) := by decide +kernel
theorem dX5_visit_84 : decode cX5_visit 84 = .ok (.iconst 2, 1) := by decide +kernel
theorem dX5_visit_85 : decode cX5_visit 85 = .ok (.idiv, 1) := by decide +kernel
theorem dX5_visit_86 : decode cX5_visit 86 = .ok (.invokevirtual 85, 3) := by decide +kernel
theorem dX5_visit_89 : decode cX5_visit 89 = .ok (.aload_n 0, 1) := by decide +kernel
theorem dX5_visit_90 : decode cX5_visit 90 = .ok (.getfield 18, 3) := by decide +kernel
theorem dX5_visit_93 : decode cX5_visit 93 = .ok (.iload_n 2, 1) := by decide +kernel
theorem dX5_visit_94 : decode cX5_visit 94 = .ok (.dup2, 1) := by decide +kernel
theorem dX5_visit_95 : decode cX5_visit 95 = .ok (.iaload, 1) := by decide +kernel
theorem dX5_visit_96 : decode cX5_visit 96 = .ok (.aload_n 0, 1) := by decide +kernel
theorem dX5_visit_97 : decode cX5_visit 97 = .ok (.getfield 55, 3) := by decide +kernel
theorem dX5_visit_100 : decode cX5_visit 100 = .ok (.iconst 1, 1) := by decide +kernel
theorem dX5_visit_101 : decode cX5_visit 101 = .ok (.if_icmp .ge 7, 3) := by decide +kernel
theorem dX5_visit_104 : decode cX5_visit 104 = .ok (.iconst 0, 1) := by decide +kernel
theorem dX5_visit_105 : decode cX5_visit 105 = .ok (.goto 21, 3) := by decide +kernel
theorem dX5_visit_108 : decode cX5_visit 108 = .ok (.iconst 1, 1) := by decide +kernel
theorem dX5_visit_109 : decode cX5_visit 109 = .ok (.aload_n 0, 1) := by decide +kernel
theorem dX5_visit_110 : decode cX5_visit 110 = .ok (.getfield 24, 3) := by decide +kernel
theorem dX5_visit_113 : decode cX5_visit 113 = .ok (.iload_n 1, 1) := by decide +kernel
theorem dX5_visit_114 : decode cX5_visit 114 = .ok (.iaload, 1) := by decide +kernel
theorem dX5_visit_115 : decode cX5_visit 115 = .ok (.aload_n 0, 1) := by decide +kernel
theorem dX5_visit_116 : decode cX5_visit 116 = .ok (.getfield 58, 3) := by decide +kernel
theorem dX5_visit_119 : decode cX5_visit 119 = .ok (.iadd, 1) := by decide +kernel
theorem dX5_visit_120 : decode cX5_visit 120 = .ok (.aload_n 0, 1) := by decide +kernel
theorem dX5_visit_121 : decode cX5_visit 121 = .ok (.getfield 55, 3) := by decide +kernel
theorem dX5_visit_124 : decode cX5_visit 124 = .ok (.irem, 1) := by decide +kernel
theorem dX5_visit_125 : decode cX5_visit 125 = .ok (.ishl, 1) := by decide +kernel
theorem dX5_visit_126 : decode cX5_visit 126 = .ok (.ior, 1) := by decide +kernel
theorem dX5_visit_127 : decode cX5_visit 127 = .ok (.iastore, 1) := by decide +kernel
theorem dX5_visit_128 : decode cX5_visit 128 = .ok (.goto 39, 3) := by decide +kernel
theorem dX5_visit_131 : decode cX5_visit 131 = .ok (.aload_n 0, 1) := by decide +kernel
theorem dX5_visit_132 : decode cX5_visit 132 = .ok (.iload_n 2, 1) := by decide +kernel
theorem dX5_visit_133 : decode cX5_visit 133 = .ok (.aload_n 0, 1) := by decide +kernel
theorem dX5_visit_134 : decode cX5_visit 134 = .ok (.getfield 24, 3) := by decide +kernel
theorem dX5_visit_137 : decode cX5_visit 137 = .ok (.iload_n 1, 1) := by decide +kernel
theorem dX5_visit_138 : decode cX5_visit 138 = .ok (.iaload, 1) := by decide +kernel
theorem dX5_visit_139 : decode cX5_visit 139 = .ok (.ineg, 1) := by decide +kernel
theorem dX5_visit_140 : decode cX5_visit 140 = .ok (.invokevirtual 93, 3) := by decide +kernel
theorem dX5_visit_143 : decode cX5_visit 143 = .ok (.goto 24, 3) := by decide +kernel
theorem dX5_visit_146 : decode cX5_visit 146 = .ok (.aload_n 0, 1) := by decide +kernel
theorem dX5_visit_147 : decode cX5_visit 147 = .ok (.iload_n 2, 1) := by decide +kernel
theorem dX5_visit_148 : decode cX5_visit 148 = .ok (.aload_n 0, 1) := by decide +kernel
theorem dX5_visit_149 : decode cX5_visit 149 = .ok (.getfield 24, 3) := by decide +kernel
theorem dX5_visit_152 : decode cX5_visit 152 = .ok (.iload_n 1, 1) := by decide +kernel
theorem dX5_visit_153 : decode cX5_visit 153 = .ok (.iaload, 1) := by decide +kernel
theorem dX5_visit_154 : decode cX5_visit 154 = .ok (.ineg, 1) := by decide +kernel
theorem dX5_visit_155 : decode cX5_visit 155 = .ok (.invokevirtual 93, 3) := by decide +kernel
theorem dX5_visit_158 : decode cX5_visit 158 = .ok (.aload_n 0, 1) := by decide +kernel
theorem dX5_visit_159 : decode cX5_visit 159 = .ok (.iload_n 2, 1) := by decide +kernel
theorem dX5_visit_160 : decode cX5_visit 160 = .ok (.iconst 1, 1) := by decide +kernel
theorem dX5_visit_161 : decode cX5_visit 161 = .ok (.invokevirtual 85, 3) := by decide +kernel
theorem dX5_visit_164 : decode cX5_visit 164 = .ok (.goto 3, 3) := by decide +kernel
theorem dX5_visit_167 : decode cX5_visit 167 = .ok (.return_, 1) := by decide +kernel
theorem dX5_addFed_0 : decode cX5_addFed 0 = .ok (.aload_n 0, 1) := by decide +kernel
theorem dX5_addFed_1 : decode cX5_addFed 1 = .ok (.getfield 9, 3) := by decide +kernel
theorem dX5_addFed_4 : decode cX5_addFed 4 = .ok (.iload_n 1, 1) := by decide +kernel
theorem dX5_addFed_5 : decode cX5_addFed 5 = .ok (.iconst 0, 1) := by decide +kernel
theorem dX5_addFed_6 : decode cX5_addFed 6 = .ok (.bipush 99, 2) := by decide +kernel
theorem dX5_addFed_8 : decode cX5_addFed 8 = .ok (.aload_n 0, 1) := by decide +kernel
theorem dX5_addFed_9 : decode cX5_addFed 9 = .ok (.getfield 9, 3) := by decide +kernel
theorem dX5_addFed_12 : decode cX5_addFed 12 = .ok (.iload_n 1, 1) := by decide +kernel
theorem dX5_addFed_13 : decode cX5_addFed 13 = .ok (.iaload, 1) := by decide +kernel
theorem dX5_addFed_14 : decode cX5_addFed 14 = .ok (.iload_n 2, 1) := by decide +kernel
theorem dX5_addFed_15 : decode cX5_addFed 15 = .ok (.iadd, 1) := by decide +kernel
theorem dX5_addFed_16 : decode cX5_addFed 16 = .ok (.invokestatic 96, 3) := by decide +kernel
theorem dX5_addFed_19 : decode cX5_addFed 19 = .ok (.invokestatic 88, 3) := by decide +kernel
theorem dX5_addFed_22 : decode cX5_addFed 22 = .ok (.iastore, 1) := by decide +kernel
theorem dX5_addFed_23 : decode cX5_addFed 23 = .ok (.return_, 1) := by decide +kernel
theorem dX5_addSpoilt_0 : decode cX5_addSpoilt 0 = .ok (.aload_n 0, 1) := by decide +kernel
theorem dX5_addSpoilt_1 : decode cX5_addSpoilt 1 = .ok (.getfield 15, 3) := by decide +kernel
theorem dX5_addSpoilt_4 : decode cX5_addSpoilt 4 = .ok (.iload_n 1, 1) := by decide +kernel
theorem dX5_addSpoilt_5 : decode cX5_addSpoilt 5 = .ok (.iconst 0, 1) := by decide +kernel
theorem dX5_addSpoilt_6 : decode cX5_addSpoilt 6 = .ok (.bipush 20, 2) := by decide +kernel
theorem dX5_addSpoilt_8 : decode cX5_addSpoilt 8 = .ok (.aload_n 0, 1) := by decide +kernel
theorem dX5_addSpoilt_9 : decode cX5_addSpoilt 9 = .ok (.getfield 15, 3) := by decide +kernel
theorem dX5_addSpoilt_12 : decode cX5_addSpoilt 12 = .ok (.iload_n 1, 1) := by decide +kernel
theorem dX5_addSpoilt_13 : decode cX5_addSpoilt 13 = .ok (.iaload, 1) := by decide +kernel
theorem dX5_addSpoilt_14 : decode cX5_addSpoilt 14 = .ok (.iload_n 2, 1) := by decide +kernel
theorem dX5_addSpoilt_15 : decode cX5_addSpoilt 15 = .ok (.iadd, 1) := by decide +kernel
theorem dX5_addSpoilt_16 : decode cX5_addSpoilt 16 = .ok (.invokestatic 96, 3) := by decide +kernel
theorem dX5_addSpoilt_19 : decode cX5_addSpoilt 19 = .ok (.invokestatic 88, 3) := by decide +kernel
theorem dX5_addSpoilt_22 : decode cX5_addSpoilt 22 = .ok (.iastore, 1) := by decide +kernel
theorem dX5_addSpoilt_23 : decode cX5_addSpoilt 23 = .ok (.return_, 1) := by decide +kernel
theorem dX5_daysToWhole_0 : decode cX5_daysToWhole 0 = .ok (.iconst 1, 1) := by decide +kernel
theorem dX5_daysToWhole_1 : decode cX5_daysToWhole 1 = .ok (.aload_n 0, 1) := by decide +kernel
theorem dX5_daysToWhole_2 : decode cX5_daysToWhole 2 = .ok (.getfield 55, 3) := by decide +kernel
theorem dX5_daysToWhole_5 : decode cX5_daysToWhole 5 = .ok (.ishl, 1) := by decide +kernel
theorem dX5_daysToWhole_6 : decode cX5_daysToWhole 6 = .ok (.iconst 1, 1) := by decide +kernel
theorem dX5_daysToWhole_7 : decode cX5_daysToWhole 7 = .ok (.isub, 1) := by decide +kernel
theorem dX5_daysToWhole_8 : decode cX5_daysToWhole 8 = .ok (.istore_n 2, 1) := by decide +kernel
theorem dX5_daysToWhole_9 : decode cX5_daysToWhole 9 = .ok (.iconst 0, 1) := by decide +kernel
theorem dX5_daysToWhole_10 : decode cX5_daysToWhole 10 = .ok (.istore_n 3, 1) := by decide +kernel
theorem dX5_daysToWhole_11 : decode cX5_daysToWhole 11 = .ok (.iload_n 3, 1) := by decide +kernel
theorem dX5_daysToWhole_12 : decode cX5_daysToWhole 12 = .ok (.bipush 60, 2) := by decide +kernel
theorem dX5_daysToWhole_14 : decode cX5_daysToWhole 14 = .ok (.if_icmp .gt 25, 3) := by decide +kernel
theorem dX5_daysToWhole_17 : decode cX5_daysToWhole 17 = .ok (.aload_n 0, 1) := by decide +kernel
theorem dX5_daysToWhole_18 : decode cX5_daysToWhole 18 = .ok (.getfield 18, 3) := by decide +kernel
theorem dX5_daysToWhole_21 : decode cX5_daysToWhole 21 = .ok (.iload_n 1, 1) := by decide +kernel
theorem dX5_daysToWhole_22 : decode cX5_daysToWhole 22 = .ok (.iaload, 1) := by decide +kernel
theorem dX5_daysToWhole_23 : decode cX5_daysToWhole 23 = .ok (.iload_n 2, 1) := by decide +kernel
theorem dX5_daysToWhole_24 : decode cX5_daysToWhole 24 = .ok (.if_icmp .ne 5, 3) := by decide +kernel
theorem dX5_daysToWhole_27 : decode cX5_daysToWhole 27 = .ok (.iload_n 3, 1) := by decide +kernel
theorem dX5_daysToWhole_28 : decode cX5_daysToWhole 28 = .ok (.ireturn, 1) := by decide +kernel
theorem dX5_daysToWhole_29 : decode cX5_daysToWhole 29 = .ok (.aload_n 0, 1) := by decide +kernel
theorem dX5_daysToWhole_30 : decode cX5_daysToWhole 30 = .ok (.invokevirtual 78, 3) := by decide +kernel
theorem dX5_daysToWhole_33 : decode cX5_daysToWhole 33 = .ok (.iinc 3 1, 3) := by decide +kernel
theorem dX5_daysToWhole_36 : decode cX5_daysToWhole 36 = .ok (.goto (-25), 3) := by decide +kernel
theorem dX5_daysToWhole_39 : decode cX5_daysToWhole 39 = .ok (.ldc 61, 2) := by decide +kernel
theorem dX5_daysToWhole_41 : decode cX5_daysToWhole 41 = .ok (.ireturn, 1) := by decide +kernel
theorem dX5_fallIll_0 : decode cX5_fallIll 0 = .ok (.aload_n 0, 1) := by decide +kernel
theorem dX5_fallIll_1 : decode cX5_fallIll 1 = .ok (.getfield 49, 3) := by decide +kernel
theorem dX5_fallIll_4 : decode cX5_fallIll 4 = .ok (.ifCond .le 22, 3) := by decide +kernel
theorem dX5_fallIll_7 : decode cX5_fallIll 7 = .ok (.aload_n 0, 1) := by decide +kernel
theorem dX5_fallIll_8 : decode cX5_fallIll 8 = .ok (.getfield 33, 3) := by decide +kernel
theorem dX5_fallIll_11 : decode cX5_fallIll 11 = .ok (.lload_n 1, 1) := by decide +kernel
theorem dX5_fallIll_12 : decode cX5_fallIll 12 = .ok (.aload_n 0, 1) := by decide +kernel
theorem dX5_fallIll_13 : decode cX5_fallIll 13 = .ok (.getfield 49, 3) := by decide +kernel
theorem dX5_fallIll_16 : decode cX5_fallIll 16 = .ok (.i2l, 1) := by decide +kernel
theorem dX5_fallIll_17 : decode cX5_fallIll 17 = .ok (.lrem, 1) := by decide +kernel
theorem dX5_fallIll_18 : decode cX5_fallIll 18 = .ok (.l2i, 1) := by decide +kernel
theorem dX5_fallIll_19 : decode cX5_fallIll 19 = .ok (.lload_n 1, 1) := by decide +kernel
theorem dX5_fallIll_20 : decode cX5_fallIll 20 = .ok (.ldc2_w 99, 3) := by decide +kernel
theorem dX5_fallIll_23 : decode cX5_fallIll 23 = .ok (.lrem, 1) := by decide +kernel
theorem dX5_fallIll_24 : decode cX5_fallIll 24 = .ok (.l2i, 1) := by decide +kernel
theorem dX5_fallIll_25 : decode cX5_fallIll 25 = .ok (.iastore, 1) := by decide +kernel
theorem dX5_fallIll_26 : decode cX5_fallIll 26 = .ok (.return_, 1) := by decide +kernel
theorem dX5_sumOf_0 : decode cX5_sumOf 0 = .ok (.iconst 0, 1) := by decide +kernel
theorem dX5_sumOf_1 : decode cX5_sumOf 1 = .ok (.istore_n 2, 1) := by decide +kernel
theorem dX5_sumOf_2 : decode cX5_sumOf 2 = .ok (.iconst 0, 1) := by decide +kernel
theorem dX5_sumOf_3 : decode cX5_sumOf 3 = .ok (.istore_n 3, 1) := by decide +kernel
theorem dX5_sumOf_4 : decode cX5_sumOf 4 = .ok (.iload_n 3, 1) := by decide +kernel
theorem dX5_sumOf_5 : decode cX5_sumOf 5 = .ok (.iload_n 1, 1) := by decide +kernel
theorem dX5_sumOf_6 : decode cX5_sumOf 6 = .ok (.if_icmp .ge 15, 3) := by decide +kernel
theorem dX5_sumOf_9 : decode cX5_sumOf 9 = .ok (.iload_n 2, 1) := by decide +kernel
theorem dX5_sumOf_10 : decode cX5_sumOf 10 = .ok (.aload_n 0, 1) := by decide +kernel
theorem dX5_sumOf_11 : decode cX5_sumOf 11 = .ok (.iload_n 3, 1) := by decide +kernel
theorem dX5_sumOf_12 : decode cX5_sumOf 12 = .ok (.iaload, 1) := by decide +kernel
theorem dX5_sumOf_13 : decode cX5_sumOf 13 = .ok (.iadd, 1) := by decide +kernel
theorem dX5_sumOf_14 : decode cX5_sumOf 14 = .ok (.istore_n 2, 1) := by decide +kernel
theorem dX5_sumOf_15 : decode cX5_sumOf 15 = .ok (.iinc 3 1, 3) := by decide +kernel
theorem dX5_sumOf_18 : decode cX5_sumOf 18 = .ok (.goto (-14), 3) := by decide +kernel
theorem dX5_sumOf_21 : decode cX5_sumOf 21 = .ok (.iload_n 2, 1) := by decide +kernel
theorem dX5_sumOf_22 : decode cX5_sumOf 22 = .ok (.ireturn, 1) := by decide +kernel
theorem dX6_init_0 : decode cX6_init 0 = .ok (.aload_n 0, 1) := by decide +kernel
theorem dX6_init_1 : decode cX6_init 1 = .ok (.invokespecial 1, 3) := by decide +kernel
theorem dX6_init_4 : decode cX6_init 4 = .ok (.aload_n 0, 1) := by decide +kernel
theorem dX6_init_5 : decode cX6_init 5 = .ok (.new 7, 3) := by decide +kernel
theorem dX6_init_8 : decode cX6_init 8 = .ok (.dup, 1) := by decide +kernel
theorem dX6_init_9 : decode cX6_init 9 = .ok (.invokespecial 9, 3) := by decide +kernel
theorem dX6_init_12 : decode cX6_init 12 = .ok (.putfield 10, 3) := by decide +kernel
theorem dX6_init_15 : decode cX6_init 15 = .ok (.aload_n 0, 1) := by decide +kernel
theorem dX6_init_16 : decode cX6_init 16 = .ok (.new 16, 3) := by decide +kernel
theorem dX6_init_19 : decode cX6_init 19 = .ok (.dup, 1) := by decide +kernel
theorem dX6_init_20 : decode cX6_init 20 = .ok (.invokespecial 18, 3) := by decide +kernel
theorem dX6_init_23 : decode cX6_init 23 = .ok (.putfield 19, 3) := by decide +kernel
theorem dX6_init_26 : decode cX6_init 26 = .ok (.aload_n 0, 1) := by decide +kernel
theorem dX6_init_27 : decode cX6_init 27 = .ok (.new 23, 3) := by decide +kernel
theorem dX6_init_30 : decode cX6_init 30 = .ok (.dup, 1) := by decide +kernel
theorem dX6_init_31 : decode cX6_init 31 = .ok (.invokespecial 25, 3) := by decide +kernel
theorem dX6_init_34 : decode cX6_init 34 = .ok (.putfield 26, 3) := by decide +kernel
theorem dX6_init_37 : decode cX6_init 37 = .ok (.aload_n 0, 1) := by decide +kernel
theorem dX6_init_38 : decode cX6_init 38 = .ok (.new 23, 3) := by decide +kernel
theorem dX6_init_41 : decode cX6_init 41 = .ok (.dup, 1) := by decide +kernel
theorem dX6_init_42 : decode cX6_init 42 = .ok (.invokespecial 25, 3) := by decide +kernel
theorem dX6_init_45 : decode cX6_init 45 = .ok (.putfield 30, 3) := by decide +kernel
theorem dX6_init_48 : decode cX6_init 48 = .ok (.aload_n 0, 1) := by decide +kernel
theorem dX6_init_49 : decode cX6_init 49 = .ok (.bipush 56, 2) := by decide +kernel
theorem dX6_init_51 : decode cX6_init 51 = .ok (.newarray .int, 2) := by decide +kernel
theorem dX6_init_53 : decode cX6_init 53 = .ok (.putfield 33, 3) := by decide +kernel
theorem dX6_init_56 : decode cX6_init 56 = .ok (.aload_n 0, 1) := by decide +kernel
theorem dX6_init_57 : decode cX6_init 57 = .ok (.iconst 5, 1) := by decide +kernel
theorem dX6_init_58 : decode cX6_init 58 = .ok (.newarray .int, 2) := by decide +kernel
theorem dX6_init_60 : decode cX6_init 60 = .ok (.putfield 37, 3) := by decide +kernel
theorem dX6_init_63 : decode cX6_init 63 = .ok (.aload_n 0, 1) := by decide +kernel
theorem dX6_init_64 : decode cX6_init 64 = .ok (.new 40, 3) := by decide +kernel
theorem dX6_init_67 : decode cX6_init 67 = .ok (.dup, 1) := by decide +kernel
theorem dX6_init_68 : decode cX6_init 68 = .ok (.invokespecial 42, 3) := by decide +kernel
theorem dX6_init_71 : decode cX6_init 71 = .ok (.putfield 43, 3) := by decide +kernel
theorem dX6_init_74 : decode cX6_init 74 = .ok (.aload_n 0, 1) := by decide +kernel
theorem dX6_init_75 : decode cX6_init 75 = .ok (.iconst 2, 1) := by decide +kernel
theorem dX6_init_76 : decode cX6_init 76 = .ok (.bipush 56, 2) := by decide +kernel
theorem dX6_init_78 : decode cX6_init 78 = .ok (.multianewarray 47 2, 4) := by decide +kernel
theorem dX6_init_82 : decode cX6_init 82 = .ok (.putfield 49, 3) := by decide +kernel
theorem dX6_init_85 : decode cX6_init 85 = .ok (.aload_n 0, 1) := by decide +kernel
theorem dX6_init_86 : decode cX6_init 86 = .ok (.iconst 2, 1) := by decide +kernel
theorem dX6_init_87 : decode cX6_init 87 = .ok (.newarray .boolean, 2) := by decide +kernel
theorem dX6_init_89 : decode cX6_init 89 = .ok (.putfield 52, 3) := by decide +kernel
theorem dX6_init_92 : decode cX6_init 92 = .ok (.aload_n 0, 1) := by decide +kernel
theorem dX6_init_93 : decode cX6_init 93 = .ok (.new 56, 3) := by decide +kernel
theorem dX6_init_96 : decode cX6_init 96 = .ok (.dup, 1) := by decide +kernel
theorem dX6_init_97 : decode cX6_init 97 = .ok (.invokespecial 58, 3) := by decide +kernel
theorem dX6_init_100 : decode cX6_init 100 = .ok (.putfield 59, 3) := by decide +kernel
theorem dX6_init_103 : decode cX6_init 103 = .ok (.aload_n 0, 1) := by decide +kernel
theorem dX6_init_104 : decode cX6_init 104 = .ok (.new 63, 3) := by decide +kernel
theorem dX6_init_107 : decode cX6_init 107 = .ok (.dup, 1) := by decide +kernel
theorem dX6_init_108 : decode cX6_init 108 = .ok (.aload_n 0, 1) := by decide +kernel
theorem dX6_init_109 : decode cX6_init 109 = .ok (.getfield 30, 3) := by decide +kernel
theorem dX6_init_112 : decode cX6_init 112 = .ok (.invokespecial 65, 3) := by decide +kernel
theorem dX6_init_115 : decode cX6_init 115 = .ok (.putfield 68, 3) := by decide +kernel
theorem dX6_init_118 : decode cX6_init 118 = .ok (.return_, 1) := by decide +kernel
theorem dX6_row_0 : decode cX6_row 0 = .ok (.iload_n 1, 1) := by decide +kernel
theorem dX6_row_1 : decode cX6_row 1 = .ok (.invokestatic 72, 3) := by decide +kernel
theorem dX6_row_4 : decode cX6_row 4 = .ok (.ifCond .eq 18, 3) := by decide +kernel
theorem dX6_row_7 : decode cX6_row 7 = .ok (.iload_n 2, 1) := by decide +kernel
theorem dX6_row_8 : decode cX6_row 8 = .ok (.iconst 0, 1) := by decide +kernel
theorem dX6_row_9 : decode cX6_row 9 = .ok (.iconst 2, 1) := by decide +kernel
theorem dX6_row_10 : decode cX6_row 10 = .ok (.invokestatic 76, 3) := by decide +kernel
theorem dX6_row_13 : decode cX6_row 13 = .ok (.ifCond .eq 9, 3) := by decide +kernel
theorem dX6_row_16 : decode cX6_row 16 = .ok (.iload_n 3, 1) := by decide +kernel
theorem dX6_row_17 : decode cX6_row 17 = .ok (.bipush 40, 2) := by decide +kernel
theorem dX6_row_19 : decode cX6_row 19 = .ok (.if_icmp .le 6, 3) := by decide +kernel
theorem dX6_row_22 : decode cX6_row 22 = .ok (.ldc 80, 2) := by decide +kernel
theorem dX6_row_24 : decode cX6_row 24 = .ok (.ireturn, 1) := by decide +kernel
theorem dX6_row_25 : decode cX6_row 25 = .ok (.iload_n 3, 1) := by decide +kernel
theorem dX6_row_26 : decode cX6_row 26 = .ok (.ifCond .ge 9, 3) := by decide +kernel
theorem dX6_row_29 : decode cX6_row 29 = .ok (.aload_n 0, 1) := by decide +kernel
theorem dX6_row_30 : decode cX6_row 30 = .ok (.iconst 4, 1) := by decide +kernel
theorem dX6_row_31 : decode cX6_row 31 = .ok (.invokevirtual 81, 3) := by decide +kernel
theorem dX6_row_34 : decode cX6_row 34 = .ok (.ireturn, 1) := by decide +kernel
theorem dX6_row_35 : decode cX6_row 35 = .ok (.aload_n 0, 1) := by decide +kernel
theorem dX6_row_36 : decode cX6_row 36 = .ok (.getfield 10, 3) := by decide +kernel
theorem dX6_row_39 : decode cX6_row 39 = .ok (.iload_n 1, 1) := by decide +kernel
theorem dX6_row_40 : decode cX6_row 40 = .ok (.iload_n 2, 1) := by decide +kernel
theorem dX6_row_41 : decode cX6_row 41 = .ok (.iload_n 3, 1) := by decide +kernel
theorem dX6_row_42 : decode cX6_row 42 = .ok (.invokevirtual 85, 3) := by decide +kernel
theorem dX6_row_45 : decode cX6_row 45 = .ok (.aload_n 0, 1) := by decide +kernel
theorem dX6_row_46 : decode cX6_row 46 = .ok (.iconst 0, 1) := by decide +kernel
theorem dX6_row_47 : decode cX6_row 47 = .ok (.putfield 89, 3) := by decide +kernel
theorem dX6_row_50 : decode cX6_row 50 = .ok (.iload_n 3, 1) := by decide +kernel
theorem dX6_row_51 : decode cX6_row 51 = .ok (.ireturn, 1) := by decide +kernel
theorem dX6_set_0 : decode cX6_set 0 = .ok (.iload_n 1, 1) := by decide +kernel
theorem dX6_set_1 : decode cX6_set 1 = .ok (.invokestatic 72, 3) := by decide +kernel
theorem dX6_set_4 : decode cX6_set 4 = .ok (.ifCond .ne 6, 3) := by decide +kernel
theorem dX6_set_7 : decode cX6_set 7 = .ok (.ldc 80, 2) := by decide +kernel
theorem dX6_set_9 : decode cX6_set 9 = .ok (.ireturn, 1) := by decide +kernel
theorem dX6_set_10 : decode cX6_set 10 = .ok (.aload_n 0, 1) := by decide +kernel
theorem dX6_set_11 : decode cX6_set 11 = .ok (.getfield 10, 3) := by decide +kernel
theorem dX6_set_14 : decode cX6_set 14 = .ok (.iload_n 1, 1) := by decide +kernel
theorem dX6_set_15 : decode cX6_set 15 = .ok (.iload_n 2, 1) := by decide +kernel
theorem dX6_set_16 : decode cX6_set 16 = .ok (.iconst 1, 1) := by decide +kernel
theorem dX6_set_17 : decode cX6_set 17 = .ok (.invokevirtual 93, 3) := by decide +kernel
theorem dX6_set_20 : decode cX6_set 20 = .ok (.istore 4, 2) := by decide +kernel
theorem dX6_set_22 : decode cX6_set 22 = .ok (.iload 4, 2) := by decide +kernel
theorem dX6_set_24 : decode cX6_set 24 = .ok (.ifCond .eq 10, 3) := by decide +kernel
theorem dX6_set_27 : decode cX6_set 27 = .ok (.aload_n 0, 1) := by decide +kernel
theorem dX6_set_28 : decode cX6_set 28 = .ok (.iload 4, 2) := by decide +kernel
theorem dX6_set_30 : decode cX6_set 30 = .ok (.invokevirtual 81, 3) := by decide +kernel
theorem dX6_set_33 : decode cX6_set 33 = .ok (.ireturn, 1) := by decide +kernel
theorem dX6_set_34 : decode cX6_set 34 = .ok (.aload_n 0, 1) := by decide +kernel
theorem dX6_set_35 : decode cX6_set 35 = .ok (.iconst 0, 1) := by decide +kernel
theorem dX6_set_36 : decode cX6_set 36 = .ok (.putfield 89, 3) := by decide +kernel
theorem dX6_set_39 : decode cX6_set 39 = .ok (.aload_n 0, 1) := by decide +kernel
theorem dX6_set_40 : decode cX6_set 40 = .ok (.getfield 10, 3) := by decide +kernel
theorem dX6_set_43 : decode cX6_set 43 = .ok (.iload_n 1, 1) := by decide +kernel
theorem dX6_set_44 : decode cX6_set 44 = .ok (.iload_n 2, 1) := by decide +kernel
theorem dX6_set_45 : decode cX6_set 45 = .ok (.iload_n 3, 1) := by decide +kernel
theorem dX6_set_46 : decode cX6_set 46 = .ok (.invokevirtual 97, 3) := by decide +kernel
theorem dX6_set_49 : decode cX6_set 49 = .ok (.ireturn, 1) := by decide +kernel
theorem dX6_copy_0 : decode cX6_copy 0 = .ok (.iload_n 1, 1) := by decide +kernel
theorem dX6_copy_1 : decode cX6_copy 1 = .ok (.invokestatic 72, 3) := by decide +kernel
theorem dX6_copy_4 : decode cX6_copy 4 = .ok (.ifCond .eq 10, 3) := by decide +kernel
theorem dX6_copy_7 : decode cX6_copy 7 = .ok (.iload_n 3, 1) := by decide +kernel
theorem dX6_copy_8 : decode cX6_copy 8 = .ok (.invokestatic 72, 3) := by decide +kernel
theorem dX6_copy_11 : decode cX6_copy 11 = .ok (.ifCond .ne 6, 3) := by decide +kernel
theorem dX6_copy_14 : decode cX6_copy 14 = .ok (.ldc 80, 2) := by decide +kernel
theorem dX6_copy_16 : decode cX6_copy 16 = .ok (.ireturn, 1) := by decide +kernel
theorem dX6_copy_17 : decode cX6_copy 17 = .ok (.aload_n 0, 1) := by decide +kernel
theorem dX6_copy_18 : decode cX6_copy 18 = .ok (.getfield 10, 3) := by decide +kernel
theorem dX6_copy_21 : decode cX6_copy 21 = .ok (.iload_n 1, 1) := by decide +kernel
theorem dX6_copy_22 : decode cX6_copy 22 = .ok (.iload_n 2, 1) := by decide +kernel
theorem dX6_copy_23 : decode cX6_copy 23 = .ok (.iload_n 3, 1) := by decide +kernel
theorem dX6_copy_24 : decode cX6_copy 24 = .ok (.iload 4, 2) := by decide +kernel
theorem dX6_copy_26 : decode cX6_copy 26 = .ok (.iload 5, 2) := by decide +kernel
theorem dX6_copy_28 : decode cX6_copy 28 = .ok (.invokevirtual 100, 3) := by decide +kernel
theorem dX6_copy_31 : decode cX6_copy 31 = .ok (.istore 6, 2) := by decide +kernel
theorem dX6_copy_33 : decode cX6_copy 33 = .ok (.iload 6, 2) := by decide +kernel
theorem dX6_copy_35 : decode cX6_copy 35 = .ok (.ifCond .eq 10, 3) := by decide +kernel
theorem dX6_copy_38 : decode cX6_copy 38 = .ok (.aload_n 0, 1) := by decide +kernel
theorem dX6_copy_39 : decode cX6_copy 39 = .ok (.iload 6, 2) := by decide +kernel
theorem dX6_copy_41 : decode cX6_copy 41 = .ok (.invokevirtual 81, 3) := by decide +kernel
theorem dX6_copy_44 : decode cX6_copy 44 = .ok (.ireturn, 1) := by decide +kernel
theorem dX6_copy_45 : decode cX6_copy 45 = .ok (.aload_n 0, 1) := by decide +kernel
theorem dX6_copy_46 : decode cX6_copy 46 = .ok (.iconst 0, 1) := by decide +kernel
theorem dX6_copy_47 : decode cX6_copy 47 = .ok (.putfield 89, 3) := by decide +kernel
theorem dX6_copy_50 : decode cX6_copy 50 = .ok (.aload_n 0, 1) := by decide +kernel
theorem dX6_copy_51 : decode cX6_copy 51 = .ok (.getfield 10, 3) := by decide +kernel
theorem dX6_copy_54 : decode cX6_copy 54 = .ok (.iload_n 1, 1) := by decide +kernel
theorem dX6_copy_55 : decode cX6_copy 55 = .ok (.iload_n 2, 1) := by decide +kernel
theorem dX6_copy_56 : decode cX6_copy 56 = .ok (.iload_n 3, 1) := by decide +kernel
theorem dX6_copy_57 : decode cX6_copy 57 = .ok (.iload 4, 2) := by decide +kernel
theorem dX6_copy_59 : decode cX6_copy 59 = .ok (.iload 5, 2) := by decide +kernel
theorem dX6_copy_61 : decode cX6_copy 61 = .ok (.invokevirtual 104, 3) := by decide +kernel
theorem dX6_copy_64 : decode cX6_copy 64 = .ok (.iload 5, 2) := by decide +kernel
theorem dX6_copy_66 : decode cX6_copy 66 = .ok (.ireturn, 1) := by decide +kernel
theorem dX6_drop_0 : decode cX6_drop 0 = .ok (.iload_n 1, 1) := by decide +kernel
theorem dX6_drop_1 : decode cX6_drop 1 = .ok (.invokestatic 72, 3) := by decide +kernel
theorem dX6_drop_4 : decode cX6_drop 4 = .ok (.ifCond .ne 6, 3) := by decide +kernel
theorem dX6_drop_7 : decode cX6_drop 7 = .ok (.ldc 80, 2) := by decide +kernel
theorem dX6_drop_9 : decode cX6_drop 9 = .ok (.ireturn, 1) := by decide +kernel
theorem dX6_drop_10 : decode cX6_drop 10 = .ok (.aload_n 0, 1) := by decide +kernel
theorem dX6_drop_11 : decode cX6_drop 11 = .ok (.getfield 10, 3) := by decide +kernel
theorem dX6_drop_14 : decode cX6_drop 14 = .ok (.iload_n 1, 1) := by decide +kernel
theorem dX6_drop_15 : decode cX6_drop 15 = .ok (.invokevirtual 108, 3) := by decide +kernel
theorem dX6_drop_18 : decode cX6_drop 18 = .ok (.ifCond .eq 9, 3) := by decide +kernel
theorem dX6_drop_21 : decode cX6_drop 21 = .ok (.aload_n 0, 1) := by decide +kernel
theorem dX6_drop_22 : decode cX6_drop 22 = .ok (.iconst 1, 1) := by decide +kernel
theorem dX6_drop_23 : decode cX6_drop 23 = .ok (.invokevirtual 81, 3) := by decide +kernel
theorem dX6_drop_26 : decode cX6_drop 26 = .ok (.ireturn, 1) := by decide +kernel
theorem dX6_drop_27 : decode cX6_drop 27 = .ok (.aload_n 0, 1) := by decide +kernel
theorem dX6_drop_28 : decode cX6_drop 28 = .ok (.iconst 0, 1) := by decide +kernel
theorem dX6_drop_29 : decode cX6_drop 29 = .ok (.putfield 89, 3) := by decide +kernel
theorem dX6_drop_32 : decode cX6_drop 32 = .ok (.aload_n 0, 1) := by decide +kernel
theorem dX6_drop_33 : decode cX6_drop 33 = .ok (.getfield 10, 3) := by decide +kernel
theorem dX6_drop_36 : decode cX6_drop 36 = .ok (.iload_n 1, 1) := by decide +kernel
theorem dX6_drop_37 : decode cX6_drop 37 = .ok (.invokevirtual 111, 3) := by decide +kernel
theorem dX6_drop_40 : decode cX6_drop 40 = .ok (.ireturn, 1) := by decide +kernel
theorem dX6_feed_0 : decode cX6_feed 0 = .ok (.iload_n 1, 1) := by decide +kernel
theorem dX6_feed_1 : decode cX6_feed 1 = .ok (.iconst 0, 1) := by decide +kernel
theorem dX6_feed_2 : decode cX6_feed 2 = .ok (.sipush 255, 3) := by decide +kernel
theorem dX6_feed_5 : decode cX6_feed 5 = .ok (.invokestatic 76, 3) := by decide +kernel
theorem dX6_feed_8 : decode cX6_feed 8 = .ok (.ifCond .ne 6, 3) := by decide +kernel
end
section
theorem dX6_feed_11 : decode cX6_feed 11 = .ok (.ldc 80, 2) := by decide +kernel
theorem dX6_feed_13 : decode cX6_feed 13 = .ok (.ireturn, 1) := by decide +kernel
theorem dX6_feed_14 : decode cX6_feed 14 = .ok (.aload_n 0, 1) := by decide +kernel
theorem dX6_feed_15 : decode cX6_feed 15 = .ok (.getfield 19, 3) := by decide +kernel
theorem dX6_feed_18 : decode cX6_feed 18 = .ok (.iload_n 1, 1) := by decide +kernel
theorem dX6_feed_19 : decode cX6_feed 19 = .ok (.invokevirtual 114, 3) := by decide +kernel
theorem dX6_feed_22 : decode cX6_feed 22 = .ok (.ifCond .eq 13, 3) := by decide +kernel
theorem dX6_feed_25 : decode cX6_feed 25 = .ok (.aload_n 0, 1) := by decide +kernel
theorem dX6_feed_26 : decode cX6_feed 26 = .ok (.getfield 19, 3) := by decide +kernel
theorem dX6_feed_29 : decode cX6_feed 29 = .ok (.getfield 117, 3) := by decide +kernel
theorem dX6_feed_32 : decode cX6_feed 32 = .ok (.goto 5, 3) := by decide +kernel
theorem dX6_feed_35 : decode cX6_feed 35 = .ok (.ldc 120, 2) := by decide +kernel
theorem dX6_feed_37 : decode cX6_feed 37 = .ok (.ireturn, 1) := by decide +kernel
theorem dX6_town_0 : decode cX6_town 0 = .ok (.aload_n 0, 1) := by decide +kernel
theorem dX6_town_1 : decode cX6_town 1 = .ok (.getfield 19, 3) := by decide +kernel
theorem dX6_town_4 : decode cX6_town 4 = .ok (.invokevirtual 121, 3) := by decide +kernel
theorem dX6_town_7 : decode cX6_town 7 = .ok (.istore_n 1, 1) := by decide +kernel
theorem dX6_town_8 : decode cX6_town 8 = .ok (.iload_n 1, 1) := by decide +kernel
theorem dX6_town_9 : decode cX6_town 9 = .ok (.ifCond .eq 19, 3) := by decide +kernel
theorem dX6_town_12 : decode cX6_town 12 = .ok (.aload_n 0, 1) := by decide +kernel
theorem dX6_town_13 : decode cX6_town 13 = .ok (.iload_n 1, 1) := by decide +kernel
theorem dX6_town_14 : decode cX6_town 14 = .ok (.putfield 125, 3) := by decide +kernel
theorem dX6_town_17 : decode cX6_town 17 = .ok (.ldc 128, 2) := by decide +kernel
theorem dX6_town_19 : decode cX6_town 19 = .ok (.aload_n 0, 1) := by decide +kernel
theorem dX6_town_20 : decode cX6_town 20 = .ok (.getfield 19, 3) := by decide +kernel
theorem dX6_town_23 : decode cX6_town 23 = .ok (.getfield 129, 3) := by decide +kernel
theorem dX6_town_26 : decode cX6_town 26 = .ok (.isub, 1) := by decide +kernel
theorem dX6_town_27 : decode cX6_town 27 = .ok (.ireturn, 1) := by decide +kernel
theorem dX6_town_28 : decode cX6_town 28 = .ok (.aload_n 0, 1) := by decide +kernel
theorem dX6_town_29 : decode cX6_town 29 = .ok (.getfield 19, 3) := by decide +kernel
theorem dX6_town_32 : decode cX6_town 32 = .ok (.getfield 132, 3) := by decide +kernel
theorem dX6_town_35 : decode cX6_town 35 = .ok (.aload_n 0, 1) := by decide +kernel
theorem dX6_town_36 : decode cX6_town 36 = .ok (.getfield 33, 3) := by decide +kernel
theorem dX6_town_39 : decode cX6_town 39 = .ok (.invokevirtual 135, 3) := by decide +kernel
theorem dX6_town_42 : decode cX6_town 42 = .ok (.aload_n 0, 1) := by decide +kernel
theorem dX6_town_43 : decode cX6_town 43 = .ok (.getfield 26, 3) := by decide +kernel
theorem dX6_town_46 : decode cX6_town 46 = .ok (.aload_n 0, 1) := by decide +kernel
theorem dX6_town_47 : decode cX6_town 47 = .ok (.getfield 33, 3) := by decide +kernel
theorem dX6_town_50 : decode cX6_town 50 = .ok (.invokevirtual 139, 3) := by decide +kernel
theorem dX6_town_53 : decode cX6_town 53 = .ok (.aload_n 0, 1) := by decide +kernel
theorem dX6_town_54 : decode cX6_town 54 = .ok (.getfield 43, 3) := by decide +kernel
theorem dX6_town_57 : decode cX6_town 57 = .ok (.invokevirtual 142, 3) := by decide +kernel
theorem dX6_town_60 : decode cX6_town 60 = .ok (.aload_n 0, 1) := by decide +kernel
theorem dX6_town_61 : decode cX6_town 61 = .ok (.getfield 26, 3) := by decide +kernel
theorem dX6_town_64 : decode cX6_town 64 = .ok (.getfield 145, 3) := by decide +kernel
theorem dX6_town_67 : decode cX6_town 67 = .ok (.ireturn, 1) := by decide +kernel
theorem dX6_fault_0 : decode cX6_fault 0 = .ok (.aload_n 0, 1) := by decide +kernel
theorem dX6_fault_1 : decode cX6_fault 1 = .ok (.getfield 125, 3) := by decide +kernel
theorem dX6_fault_4 : decode cX6_fault 4 = .ok (.ireturn, 1) := by decide +kernel
theorem dX6_undo_0 : decode cX6_undo 0 = .ok (.aload_n 0, 1) := by decide +kernel
theorem dX6_undo_1 : decode cX6_undo 1 = .ok (.getfield 43, 3) := by decide +kernel
theorem dX6_undo_4 : decode cX6_undo 4 = .ok (.aload_n 0, 1) := by decide +kernel
theorem dX6_undo_5 : decode cX6_undo 5 = .ok (.getfield 26, 3) := by decide +kernel
theorem dX6_undo_8 : decode cX6_undo 8 = .ok (.invokevirtual 148, 3) := by decide +kernel
theorem dX6_undo_11 : decode cX6_undo 11 = .ok (.ifCond .eq 13, 3) := by decide +kernel
theorem dX6_undo_14 : decode cX6_undo 14 = .ok (.aload_n 0, 1) := by decide +kernel
theorem dX6_undo_15 : decode cX6_undo 15 = .ok (.getfield 43, 3) := by decide +kernel
theorem dX6_undo_18 : decode cX6_undo 18 = .ok (.getfield 152, 3) := by decide +kernel
theorem dX6_undo_21 : decode cX6_undo 21 = .ok (.goto 5, 3) := by decide +kernel
theorem dX6_undo_24 : decode cX6_undo 24 = .ok (.ldc 155, 2) := by decide +kernel
theorem dX6_undo_26 : decode cX6_undo 26 = .ok (.ireturn, 1) := by decide +kernel
theorem dX6_days_0 : decode cX6_days 0 = .ok (.aload_n 0, 1) := by decide +kernel
theorem dX6_days_1 : decode cX6_days 1 = .ok (.invokevirtual 156, 3) := by decide +kernel
theorem dX6_days_4 : decode cX6_days 4 = .ok (.ifCond .eq 6, 3) := by decide +kernel
theorem dX6_days_7 : decode cX6_days 7 = .ok (.ldc 155, 2) := by decide +kernel
theorem dX6_days_9 : decode cX6_days 9 = .ok (.ireturn, 1) := by decide +kernel
theorem dX6_days_10 : decode cX6_days 10 = .ok (.iload_n 1, 1) := by decide +kernel
theorem dX6_days_11 : decode cX6_days 11 = .ok (.iconst 1, 1) := by decide +kernel
theorem dX6_days_12 : decode cX6_days 12 = .ok (.bipush 24, 2) := by decide +kernel
theorem dX6_days_14 : decode cX6_days 14 = .ok (.invokestatic 76, 3) := by decide +kernel
theorem dX6_days_17 : decode cX6_days 17 = .ok (.ifCond .ne 6, 3) := by decide +kernel
theorem dX6_days_20 : decode cX6_days 20 = .ok (.ldc 80, 2) := by decide +kernel
theorem dX6_days_22 : decode cX6_days 22 = .ok (.ireturn, 1) := by decide +kernel
theorem dX6_days_23 : decode cX6_days 23 = .ok (.aload_n 0, 1) := by decide +kernel
theorem dX6_days_24 : decode cX6_days 24 = .ok (.getfield 26, 3) := by decide +kernel
theorem dX6_days_27 : decode cX6_days 27 = .ok (.getfield 160, 3) := by decide +kernel
theorem dX6_days_30 : decode cX6_days 30 = .ok (.iload_n 1, 1) := by decide +kernel
theorem dX6_days_31 : decode cX6_days 31 = .ok (.iadd, 1) := by decide +kernel
theorem dX6_days_32 : decode cX6_days 32 = .ok (.sipush 999, 3) := by decide +kernel
theorem dX6_days_35 : decode cX6_days 35 = .ok (.if_icmp .le 6, 3) := by decide +kernel
theorem dX6_days_38 : decode cX6_days 38 = .ok (.ldc 120, 2) := by decide +kernel
theorem dX6_days_40 : decode cX6_days 40 = .ok (.ireturn, 1) := by decide +kernel
theorem dX6_days_41 : decode cX6_days 41 = .ok (.iconst 0, 1) := by decide +kernel
theorem dX6_days_42 : decode cX6_days 42 = .ok (.istore_n 2, 1) := by decide +kernel
theorem dX6_days_43 : decode cX6_days 43 = .ok (.iload_n 2, 1) := by decide +kernel
theorem dX6_days_44 : decode cX6_days 44 = .ok (.iload_n 1, 1) := by decide +kernel
theorem dX6_days_45 : decode cX6_days 45 = .ok (.if_icmp .ge 27, 3) := by decide +kernel
theorem dX6_days_48 : decode cX6_days 48 = .ok (.aload_n 0, 1) := by decide +kernel
theorem dX6_days_49 : decode cX6_days 49 = .ok (.getfield 43, 3) := by decide +kernel
theorem dX6_days_52 : decode cX6_days 52 = .ok (.aload_n 0, 1) := by decide +kernel
theorem dX6_days_53 : decode cX6_days 53 = .ok (.getfield 26, 3) := by decide +kernel
theorem dX6_days_56 : decode cX6_days 56 = .ok (.invokevirtual 163, 3) := by decide +kernel
theorem dX6_days_59 : decode cX6_days 59 = .ok (.aload_n 0, 1) := by decide +kernel
theorem dX6_days_60 : decode cX6_days 60 = .ok (.getfield 26, 3) := by decide +kernel
theorem dX6_days_63 : decode cX6_days 63 = .ok (.invokevirtual 166, 3) := by decide +kernel
theorem dX6_days_66 : decode cX6_days 66 = .ok (.iinc 2 1, 3) := by decide +kernel
theorem dX6_days_69 : decode cX6_days 69 = .ok (.goto (-26), 3) := by decide +kernel
theorem dX6_days_72 : decode cX6_days 72 = .ok (.aload_n 0, 1) := by decide +kernel
theorem dX6_days_73 : decode cX6_days 73 = .ok (.getfield 26, 3) := by decide +kernel
theorem dX6_days_76 : decode cX6_days 76 = .ok (.getfield 160, 3) := by decide +kernel
theorem dX6_days_79 : decode cX6_days 79 = .ok (.ireturn, 1) := by decide +kernel
theorem dX6_sick_0 : decode cX6_sick 0 = .ok (.aload_n 0, 1) := by decide +kernel
theorem dX6_sick_1 : decode cX6_sick 1 = .ok (.getfield 26, 3) := by decide +kernel
theorem dX6_sick_4 : decode cX6_sick 4 = .ok (.iload_n 1, 1) := by decide +kernel
theorem dX6_sick_5 : decode cX6_sick 5 = .ok (.invokevirtual 169, 3) := by decide +kernel
theorem dX6_sick_8 : decode cX6_sick 8 = .ok (.ifCond .eq 13, 3) := by decide +kernel
theorem dX6_sick_11 : decode cX6_sick 11 = .ok (.iload_n 2, 1) := by decide +kernel
theorem dX6_sick_12 : decode cX6_sick 12 = .ok (.iconst 0, 1) := by decide +kernel
theorem dX6_sick_13 : decode cX6_sick 13 = .ok (.bipush 60, 2) := by decide +kernel
theorem dX6_sick_15 : decode cX6_sick 15 = .ok (.invokestatic 76, 3) := by decide +kernel
theorem dX6_sick_18 : decode cX6_sick 18 = .ok (.ifCond .ne 6, 3) := by decide +kernel
theorem dX6_sick_21 : decode cX6_sick 21 = .ok (.ldc 80, 2) := by decide +kernel
theorem dX6_sick_23 : decode cX6_sick 23 = .ok (.ireturn, 1) := by decide +kernel
theorem dX6_sick_24 : decode cX6_sick 24 = .ok (.aload_n 0, 1) := by decide +kernel
theorem dX6_sick_25 : decode cX6_sick 25 = .ok (.getfield 43, 3) := by decide +kernel
theorem dX6_sick_28 : decode cX6_sick 28 = .ok (.aload_n 0, 1) := by decide +kernel
theorem dX6_sick_29 : decode cX6_sick 29 = .ok (.getfield 26, 3) := by decide +kernel
theorem dX6_sick_32 : decode cX6_sick 32 = .ok (.invokevirtual 163, 3) := by decide +kernel
theorem dX6_sick_35 : decode cX6_sick 35 = .ok (.aload_n 0, 1) := by decide +kernel
theorem dX6_sick_36 : decode cX6_sick 36 = .ok (.getfield 26, 3) := by decide +kernel
theorem dX6_sick_39 : decode cX6_sick 39 = .ok (.getfield 172, 3) := by decide +kernel
theorem dX6_sick_42 : decode cX6_sick 42 = .ok (.iload_n 1, 1) := by decide +kernel
theorem dX6_sick_43 : decode cX6_sick 43 = .ok (.iaload, 1) := by decide +kernel
theorem dX6_sick_44 : decode cX6_sick 44 = .ok (.istore_n 3, 1) := by decide +kernel
theorem dX6_sick_45 : decode cX6_sick 45 = .ok (.aload_n 0, 1) := by decide +kernel
theorem dX6_sick_46 : decode cX6_sick 46 = .ok (.getfield 26, 3) := by decide +kernel
theorem dX6_sick_49 : decode cX6_sick 49 = .ok (.getfield 172, 3) := by decide +kernel
theorem dX6_sick_52 : decode cX6_sick 52 = .ok (.iload_n 1, 1) := by decide +kernel
theorem dX6_sick_53 : decode cX6_sick 53 = .ok (.iload_n 2, 1) := by decide +kernel
theorem dX6_sick_54 : decode cX6_sick 54 = .ok (.iastore, 1) := by decide +kernel
theorem dX6_sick_55 : decode cX6_sick 55 = .ok (.iload_n 3, 1) := by decide +kernel
theorem dX6_sick_56 : decode cX6_sick 56 = .ok (.ireturn, 1) := by decide +kernel
theorem dX6_swap_0 : decode cX6_swap 0 = .ok (.aload_n 0, 1) := by decide +kernel
theorem dX6_swap_1 : decode cX6_swap 1 = .ok (.getfield 26, 3) := by decide +kernel
theorem dX6_swap_4 : decode cX6_swap 4 = .ok (.iload_n 1, 1) := by decide +kernel
theorem dX6_swap_5 : decode cX6_swap 5 = .ok (.invokevirtual 169, 3) := by decide +kernel
theorem dX6_swap_8 : decode cX6_swap 8 = .ok (.ifCond .eq 14, 3) := by decide +kernel
theorem dX6_swap_11 : decode cX6_swap 11 = .ok (.aload_n 0, 1) := by decide +kernel
theorem dX6_swap_12 : decode cX6_swap 12 = .ok (.getfield 26, 3) := by decide +kernel
theorem dX6_swap_15 : decode cX6_swap 15 = .ok (.iload_n 2, 1) := by decide +kernel
theorem dX6_swap_16 : decode cX6_swap 16 = .ok (.invokevirtual 175, 3) := by decide +kernel
theorem dX6_swap_19 : decode cX6_swap 19 = .ok (.ifCond .ne 6, 3) := by decide +kernel
theorem dX6_swap_22 : decode cX6_swap 22 = .ok (.ldc 80, 2) := by decide +kernel
theorem dX6_swap_24 : decode cX6_swap 24 = .ok (.ireturn, 1) := by decide +kernel
theorem dX6_swap_25 : decode cX6_swap 25 = .ok (.aload_n 0, 1) := by decide +kernel
theorem dX6_swap_26 : decode cX6_swap 26 = .ok (.getfield 43, 3) := by decide +kernel
theorem dX6_swap_29 : decode cX6_swap 29 = .ok (.aload_n 0, 1) := by decide +kernel
theorem dX6_swap_30 : decode cX6_swap 30 = .ok (.getfield 26, 3) := by decide +kernel
theorem dX6_swap_33 : decode cX6_swap 33 = .ok (.invokevirtual 163, 3) := by decide +kernel
theorem dX6_swap_36 : decode cX6_swap 36 = .ok (.aload_n 0, 1) := by decide +kernel
theorem dX6_swap_37 : decode cX6_swap 37 = .ok (.getfield 26, 3) := by decide +kernel
theorem dX6_swap_40 : decode cX6_swap 40 = .ok (.getfield 178, 3) := by decide +kernel
theorem dX6_swap_43 : decode cX6_swap 43 = .ok (.iload_n 1, 1) := by decide +kernel
theorem dX6_swap_44 : decode cX6_swap 44 = .ok (.iaload, 1) := by decide +kernel
theorem dX6_swap_45 : decode cX6_swap 45 = .ok (.istore_n 3, 1) := by decide +kernel
theorem dX6_swap_46 : decode cX6_swap 46 = .ok (.aload_n 0, 1) := by decide +kernel
theorem dX6_swap_47 : decode cX6_swap 47 = .ok (.getfield 26, 3) := by decide +kernel
theorem dX6_swap_50 : decode cX6_swap 50 = .ok (.getfield 178, 3) := by decide +kernel
theorem dX6_swap_53 : decode cX6_swap 53 = .ok (.iload_n 1, 1) := by decide +kernel
theorem dX6_swap_54 : decode cX6_swap 54 = .ok (.iload_n 2, 1) := by decide +kernel
theorem dX6_swap_55 : decode cX6_swap 55 = .ok (.iastore, 1) := by decide +kernel
theorem dX6_swap_56 : decode cX6_swap 56 = .ok (.iload_n 3, 1) := by decide +kernel
theorem dX6_swap_57 : decode cX6_swap 57 = .ok (.ireturn, 1) := by decide +kernel
theorem dX6_pace_0 : decode cX6_pace 0 = .ok (.aload_n 0, 1) := by decide +kernel
theorem dX6_pace_1 : decode cX6_pace 1 = .ok (.getfield 26, 3) := by decide +kernel
theorem dX6_pace_4 : decode cX6_pace 4 = .ok (.iload_n 1, 1) := by decide +kernel
theorem dX6_pace_5 : decode cX6_pace 5 = .ok (.invokevirtual 169, 3) := by decide +kernel
theorem dX6_pace_8 : decode cX6_pace 8 = .ok (.ifCond .eq 12, 3) := by decide +kernel
theorem dX6_pace_11 : decode cX6_pace 11 = .ok (.iload_n 2, 1) := by decide +kernel
theorem dX6_pace_12 : decode cX6_pace 12 = .ok (.iconst 0, 1) := by decide +kernel
theorem dX6_pace_13 : decode cX6_pace 13 = .ok (.iconst 4, 1) := by decide +kernel
theorem dX6_pace_14 : decode cX6_pace 14 = .ok (.invokestatic 76, 3) := by decide +kernel
theorem dX6_pace_17 : decode cX6_pace 17 = .ok (.ifCond .ne 6, 3) := by decide +kernel
theorem dX6_pace_20 : decode cX6_pace 20 = .ok (.ldc 80, 2) := by decide +kernel
theorem dX6_pace_22 : decode cX6_pace 22 = .ok (.ireturn, 1) := by decide +kernel
theorem dX6_pace_23 : decode cX6_pace 23 = .ok (.aload_n 0, 1) := by decide +kernel
theorem dX6_pace_24 : decode cX6_pace 24 = .ok (.getfield 43, 3) := by decide +kernel
theorem dX6_pace_27 : decode cX6_pace 27 = .ok (.aload_n 0, 1) := by decide +kernel
theorem dX6_pace_28 : decode cX6_pace 28 = .ok (.getfield 26, 3) := by decide +kernel
theorem dX6_pace_31 : decode cX6_pace 31 = .ok (.invokevirtual 163, 3) := by decide +kernel
theorem dX6_pace_34 : decode cX6_pace 34 = .ok (.aload_n 0, 1) := by decide +kernel
theorem dX6_pace_35 : decode cX6_pace 35 = .ok (.getfield 26, 3) := by decide +kernel
theorem dX6_pace_38 : decode cX6_pace 38 = .ok (.getfield 181, 3) := by decide +kernel
theorem dX6_pace_41 : decode cX6_pace 41 = .ok (.iload_n 1, 1) := by decide +kernel
theorem dX6_pace_42 : decode cX6_pace 42 = .ok (.iaload, 1) := by decide +kernel
theorem dX6_pace_43 : decode cX6_pace 43 = .ok (.istore_n 3, 1) := by decide +kernel
theorem dX6_pace_44 : decode cX6_pace 44 = .ok (.aload_n 0, 1) := by decide +kernel
theorem dX6_pace_45 : decode cX6_pace 45 = .ok (.getfield 26, 3) := by decide +kernel
theorem dX6_pace_48 : decode cX6_pace 48 = .ok (.getfield 181, 3) := by decide +kernel
theorem dX6_pace_51 : decode cX6_pace 51 = .ok (.iload_n 1, 1) := by decide +kernel
theorem dX6_pace_52 : decode cX6_pace 52 = .ok (.iload_n 2, 1) := by decide +kernel
theorem dX6_pace_53 : decode cX6_pace 53 = .ok (.iastore, 1) := by decide +kernel
theorem dX6_pace_54 : decode cX6_pace 54 = .ok (.iload_n 3, 1) := by decide +kernel
theorem dX6_pace_55 : decode cX6_pace 55 = .ok (.ireturn, 1) := by decide +kernel
theorem dX6_quarrel_0 : decode cX6_quarrel 0 = .ok (.aload_n 0, 1) := by decide +kernel
theorem dX6_quarrel_1 : decode cX6_quarrel 1 = .ok (.getfield 26, 3) := by decide +kernel
theorem dX6_quarrel_4 : decode cX6_quarrel 4 = .ok (.iload_n 1, 1) := by decide +kernel
theorem dX6_quarrel_5 : decode cX6_quarrel 5 = .ok (.invokevirtual 169, 3) := by decide +kernel
theorem dX6_quarrel_8 : decode cX6_quarrel 8 = .ok (.ifCond .eq 28, 3) := by decide +kernel
theorem dX6_quarrel_11 : decode cX6_quarrel 11 = .ok (.aload_n 0, 1) := by decide +kernel
theorem dX6_quarrel_12 : decode cX6_quarrel 12 = .ok (.getfield 26, 3) := by decide +kernel
theorem dX6_quarrel_15 : decode cX6_quarrel 15 = .ok (.iload_n 2, 1) := by decide +kernel
theorem dX6_quarrel_16 : decode cX6_quarrel 16 = .ok (.invokevirtual 169, 3) := by decide +kernel
theorem dX6_quarrel_19 : decode cX6_quarrel 19 = .ok (.ifCond .eq 17, 3) := by decide +kernel
theorem dX6_quarrel_22 : decode cX6_quarrel 22 = .ok (.iload_n 1, 1) := by decide +kernel
theorem dX6_quarrel_23 : decode cX6_quarrel 23 = .ok (.iload_n 2, 1) := by decide +kernel
theorem dX6_quarrel_24 : decode cX6_quarrel 24 = .ok (.if_icmp .eq 12, 3) := by decide +kernel
theorem dX6_quarrel_27 : decode cX6_quarrel 27 = .ok (.iload_n 3, 1) := by decide +kernel
theorem dX6_quarrel_28 : decode cX6_quarrel 28 = .ok (.iconst 0, 1) := by decide +kernel
theorem dX6_quarrel_29 : decode cX6_quarrel 29 = .ok (.iconst 1, 1) := by decide +kernel
theorem dX6_quarrel_30 : decode cX6_quarrel 30 = .ok (.invokestatic 76, 3) := by decide +kernel
theorem dX6_quarrel_33 : decode cX6_quarrel 33 = .ok (.ifCond .ne 6, 3) := by decide +kernel
theorem dX6_quarrel_36 : decode cX6_quarrel 36 = .ok (.ldc 80, 2) := by decide +kernel
theorem dX6_quarrel_38 : decode cX6_quarrel 38 = .ok (.ireturn, 1) := by decide +kernel
theorem dX6_quarrel_39 : decode cX6_quarrel 39 = .ok (.aload_n 0, 1) := by decide +kernel
theorem dX6_quarrel_40 : decode cX6_quarrel 40 = .ok (.getfield 26, 3) := by decide +kernel
theorem dX6_quarrel_43 : decode cX6_quarrel 43 = .ok (.getfield 184, 3) := by decide +kernel
theorem dX6_quarrel_46 : decode cX6_quarrel 46 = .ok (.iload_n 1, 1) := by decide +kernel
theorem dX6_quarrel_47 : decode cX6_quarrel 47 = .ok (.iaload, 1) := by decide +kernel
theorem dX6_quarrel_48 : decode cX6_quarrel 48 = .ok (.iload_n 2, 1) := by decide +kernel
theorem dX6_quarrel_49 : decode cX6_quarrel 49 = .ok (.ishr, 1) := by decide +kernel
theorem dX6_quarrel_50 : decode cX6_quarrel 50 = .ok (.iconst 1, 1) := by decide +kernel
theorem dX6_quarrel_51 : decode cX6_quarrel 51 = .ok (.iand, 1) := by decide +kernel
theorem dX6_quarrel_52 : decode cX6_quarrel 52 = .ok (.iload_n 3, 1) := by decide +kernel
theorem dX6_quarrel_53 : decode cX6_quarrel 53 = .ok (.if_icmp .ne 6, 3) := by decide +kernel
theorem dX6_quarrel_56 : decode cX6_quarrel 56 = .ok (.ldc 155, 2) := by decide +kernel
theorem dX6_quarrel_58 : decode cX6_quarrel 58 = .ok (.ireturn, 1) := by decide +kernel
theorem dX6_quarrel_59 : decode cX6_quarrel 59 = .ok (.aload_n 0, 1) := by decide +kernel
theorem dX6_quarrel_60 : decode cX6_quarrel 60 = .ok (.getfield 43, 3) := by decide +kernel
theorem dX6_quarrel_63 : decode cX6_quarrel 63 = .ok (.aload_n 0, 1) := by decide +kernel
theorem dX6_quarrel_64 : decode cX6_quarrel 64 = .ok (.getfield 26, 3) := by decide +kernel
theorem dX6_quarrel_67 : decode cX6_quarrel 67 = .ok (.invokevirtual 163, 3) := by decide +kernel
theorem dX6_quarrel_70 : decode cX6_quarrel 70 = .ok (.aload_n 0, 1) := by decide +kernel
theorem dX6_quarrel_71 : decode cX6_quarrel 71 = .ok (.getfield 26, 3) := by decide +kernel
theorem dX6_quarrel_74 : decode cX6_quarrel 74 = .ok (.getfield 184, 3) := by decide +kernel
theorem dX6_quarrel_77 : decode cX6_quarrel 77 = .ok (.iload_n 1, 1) := by decide +kernel
theorem dX6_quarrel_78 : decode cX6_quarrel 78 = .ok (.dup2, 1) := by decide +kernel
theorem dX6_quarrel_79 : decode cX6_quarrel 79 = .ok (.iaload, 1) := by decide +kernel
theorem dX6_quarrel_80 : decode cX6_quarrel 80 = .ok (.iconst 1, 1) := by decide +kernel
theorem dX6_quarrel_81 : decode cX6_quarrel 81 = .ok (.iload_n 2, 1) := by decide +kernel
theorem dX6_quarrel_82 : decode cX6_quarrel 82 = .ok (.ishl, 1) := by decide +kernel
theorem dX6_quarrel_83 : decode cX6_quarrel 83 = .ok (.ixor, 1) := by decide +kernel
theorem dX6_quarrel_84 : decode cX6_quarrel 84 = .ok (.iastore, 1) := by decide +kernel
theorem dX6_quarrel_85 : decode cX6_quarrel 85 = .ok (.aload_n 0, 1) := by decide +kernel
theorem dX6_quarrel_86 : decode cX6_quarrel 86 = .ok (.getfield 26, 3) := by decide +kernel
theorem dX6_quarrel_89 : decode cX6_quarrel 89 = .ok (.getfield 184, 3) := by decide +kernel
theorem dX6_quarrel_92 : decode cX6_quarrel 92 = .ok (.iload_n 2, 1) := by decide +kernel
theorem dX6_quarrel_93 : decode cX6_quarrel 93 = .ok (.dup2, 1) := by decide +kernel
theorem dX6_quarrel_94 : decode cX6_quarrel 94 = .ok (.iaload, 1) := by decide +kernel
theorem dX6_quarrel_95 : decode cX6_quarrel 95 = .ok (.iconst 1, 1) := by decide +kernel
theorem dX6_quarrel_96 : decode cX6_quarrel 96 = .ok (.iload_n 1, 1) := by decide +kernel
theorem dX6_quarrel_97 : decode cX6_quarrel 97 = .ok (.ishl, 1) := by decide +kernel
theorem dX6_quarrel_98 : decode cX6_quarrel 98 = .ok (.ixor, 1) := by decide +kernel
theorem dX6_quarrel_99 : decode cX6_quarrel 99 = .ok (.iastore, 1) := by decide +kernel
theorem dX6_quarrel_100 : decode cX6_quarrel 100 = .ok (.aload_n 0, 1) := by decide +kernel
theorem dX6_quarrel_101 : decode cX6_quarrel 101 = .ok (.getfield 26, 3) := by decide +kernel
theorem dX6_quarrel_104 : decode cX6_quarrel 104 = .ok (.getfield 184, 3) := by decide +kernel
theorem dX6_quarrel_107 : decode cX6_quarrel 107 = .ok (.iload_n 1, 1) := by decide +kernel
theorem dX6_quarrel_108 : decode cX6_quarrel 108 = .ok (.iaload, 1) := by decide +kernel
theorem dX6_quarrel_109 : decode cX6_quarrel 109 = .ok (.ireturn, 1) := by decide +kernel
theorem dX6_spoil_0 : decode cX6_spoil 0 = .ok (.aload_n 0, 1) := by decide +kernel
theorem dX6_spoil_1 : decode cX6_spoil 1 = .ok (.getfield 26, 3) := by decide +kernel
theorem dX6_spoil_4 : decode cX6_spoil 4 = .ok (.iload_n 1, 1) := by decide +kernel
theorem dX6_spoil_5 : decode cX6_spoil 5 = .ok (.invokevirtual 175, 3) := by decide +kernel
theorem dX6_spoil_8 : decode cX6_spoil 8 = .ok (.ifCond .eq 13, 3) := by decide +kernel
theorem dX6_spoil_11 : decode cX6_spoil 11 = .ok (.iload_n 2, 1) := by decide +kernel
theorem dX6_spoil_12 : decode cX6_spoil 12 = .ok (.iconst 1, 1) := by decide +kernel
theorem dX6_spoil_13 : decode cX6_spoil 13 = .ok (.bipush 20, 2) := by decide +kernel
theorem dX6_spoil_15 : decode cX6_spoil 15 = .ok (.invokestatic 76, 3) := by decide +kernel
theorem dX6_spoil_18 : decode cX6_spoil 18 = .ok (.ifCond .ne 6, 3) := by decide +kernel
theorem dX6_spoil_21 : decode cX6_spoil 21 = .ok (.ldc 80, 2) := by decide +kernel
theorem dX6_spoil_23 : decode cX6_spoil 23 = .ok (.ireturn, 1) := by decide +kernel
theorem dX6_spoil_24 : decode cX6_spoil 24 = .ok (.aload_n 0, 1) := by decide +kernel
theorem dX6_spoil_25 : decode cX6_spoil 25 = .ok (.getfield 43, 3) := by decide +kernel
theorem dX6_spoil_28 : decode cX6_spoil 28 = .ok (.aload_n 0, 1) := by decide +kernel
theorem dX6_spoil_29 : decode cX6_spoil 29 = .ok (.getfield 26, 3) := by decide +kernel
theorem dX6_spoil_32 : decode cX6_spoil 32 = .ok (.invokevirtual 163, 3) := by decide +kernel
theorem dX6_spoil_35 : decode cX6_spoil 35 = .ok (.aload_n 0, 1) := by decide +kernel
theorem dX6_spoil_36 : decode cX6_spoil 36 = .ok (.getfield 26, 3) := by decide +kernel
theorem dX6_spoil_39 : decode cX6_spoil 39 = .ok (.iload_n 1, 1) := by decide +kernel
theorem dX6_spoil_40 : decode cX6_spoil 40 = .ok (.iload_n 2, 1) := by decide +kernel
theorem dX6_spoil_41 : decode cX6_spoil 41 = .ok (.invokevirtual 187, 3) := by decide +kernel
theorem dX6_spoil_44 : decode cX6_spoil 44 = .ok (.aload_n 0, 1) := by decide +kernel
theorem dX6_spoil_45 : decode cX6_spoil 45 = .ok (.getfield 26, 3) := by decide +kernel
theorem dX6_spoil_48 : decode cX6_spoil 48 = .ok (.getfield 191, 3) := by decide +kernel
theorem dX6_spoil_51 : decode cX6_spoil 51 = .ok (.iload_n 1, 1) := by decide +kernel
theorem dX6_spoil_52 : decode cX6_spoil 52 = .ok (.iaload, 1) := by decide +kernel
theorem dX6_spoil_53 : decode cX6_spoil 53 = .ok (.ireturn, 1) := by decide +kernel
theorem dX6_gran_0 : decode cX6_gran 0 = .ok (.aload_n 0, 1) := by decide +kernel
theorem dX6_gran_1 : decode cX6_gran 1 = .ok (.getfield 26, 3) := by decide +kernel
theorem dX6_gran_4 : decode cX6_gran 4 = .ok (.iload_n 1, 1) := by decide +kernel
theorem dX6_gran_5 : decode cX6_gran 5 = .ok (.invokevirtual 169, 3) := by decide +kernel
theorem dX6_gran_8 : decode cX6_gran 8 = .ok (.ifCond .ne 6, 3) := by decide +kernel
theorem dX6_gran_11 : decode cX6_gran 11 = .ok (.ldc 80, 2) := by decide +kernel
theorem dX6_gran_13 : decode cX6_gran 13 = .ok (.ireturn, 1) := by decide +kernel
theorem dX6_gran_14 : decode cX6_gran 14 = .ok (.iload_n 2, 1) := by decide +kernel
theorem dX6_gran_15 : decode cX6_gran 15 = .ok (.tableswitch 114 0 6 #[41, 51, 61, 71, 81, 91, 104], 41) := by decide +kernel
theorem dX6_gran_56 : decode cX6_gran 56 = .ok (.aload_n 0, 1) := by decide +kernel
theorem dX6_gran_57 : decode cX6_gran 57 = .ok (.getfield 26, 3) := by decide +kernel
theorem dX6_gran_60 : decode cX6_gran 60 = .ok (.getfield 194, 3) := by decide +kernel
theorem dX6_gran_63 : decode cX6_gran 63 = .ok (.iload_n 1, 1) := by decide +kernel
theorem dX6_gran_64 : decode cX6_gran 64 = .ok (.iaload, 1) := by decide +kernel
theorem dX6_gran_65 : decode cX6_gran 65 = .ok (.ireturn, 1) := by decide +kernel
theorem dX6_gran_66 : decode cX6_gran 66 = .ok (.aload_n 0, 1) := by decide +kernel
theorem dX6_gran_67 : decode cX6_gran 67 = .ok (.getfield 26, 3) := by decide +kernel
theorem dX6_gran_70 : decode cX6_gran 70 = .ok (.getfield 178, 3) := by decide +kernel
theorem dX6_gran_73 : decode cX6_gran 73 = .ok (.iload_n 1, 1) := by decide +kernel
theorem dX6_gran_74 : decode cX6_gran 74 = .ok (.iaload, 1) := by decide +kernel
theorem dX6_gran_75 : decode cX6_gran 75 = .ok (.ireturn, 1) := by decide +kernel
theorem dX6_gran_76 : decode cX6_gran 76 = .ok (.aload_n 0, 1) := by decide +kernel
theorem dX6_gran_77 : decode cX6_gran 77 = .ok (.getfield 26, 3) := by decide +kernel
theorem dX6_gran_80 : decode cX6_gran 80 = .ok (.getfield 181, 3) := by decide +kernel
theorem dX6_gran_83 : decode cX6_gran 83 = .ok (.iload_n 1, 1) := by decide +kernel
theorem dX6_gran_84 : decode cX6_gran 84 = .ok (.iaload, 1) := by decide +kernel
theorem dX6_gran_85 : decode cX6_gran 85 = .ok (.ireturn, 1) := by decide +kernel
theorem dX6_gran_86 : decode cX6_gran 86 = .ok (.aload_n 0, 1) := by decide +kernel
theorem dX6_gran_87 : decode cX6_gran 87 = .ok (.getfield 26, 3) := by decide +kernel
theorem dX6_gran_90 : decode cX6_gran 90 = .ok (.getfield 172, 3) := by decide +kernel
theorem dX6_gran_93 : decode cX6_gran 93 = .ok (.iload_n 1, 1) := by decide +kernel
theorem dX6_gran_94 : decode cX6_gran 94 = .ok (.iaload, 1) := by decide +kernel
theorem dX6_gran_95 : decode cX6_gran 95 = .ok (.ireturn, 1) := by decide +kernel
theorem dX6_gran_96 : decode cX6_gran 96 = .ok (.aload_n 0, 1) := by decide +kernel
theorem dX6_gran_97 : decode cX6_gran 97 = .ok (.getfield 26, 3) := by decide +kernel
theorem dX6_gran_100 : decode cX6_gran 100 = .ok (.iload_n 1, 1) := by decide +kernel
theorem dX6_gran_101 : decode cX6_gran 101 = .ok (.iconst 0, 1) := by decide +kernel
theorem dX6_gran_102 : decode cX6_gran 102 = .ok (.invokevirtual 197, 3) := by decide +kernel
theorem dX6_gran_105 : decode cX6_gran 105 = .ok (.ireturn, 1) := by decide +kernel
theorem dX6_gran_106 : decode cX6_gran 106 = .ok (.aload_n 0, 1) := by decide +kernel
theorem dX6_gran_107 : decode cX6_gran 107 = .ok (.getfield 26, 3) := by decide +kernel
theorem dX6_gran_110 : decode cX6_gran 110 = .ok (.iconst 0, 1) := by decide +kernel
theorem dX6_gran_111 : decode cX6_gran 111 = .ok (.invokevirtual 201, 3) := by decide +kernel
theorem dX6_gran_114 : decode cX6_gran 114 = .ok (.iload_n 1, 1) := by decide +kernel
theorem dX6_gran_115 : decode cX6_gran 115 = .ok (.ishr, 1) := by decide +kernel
theorem dX6_gran_116 : decode cX6_gran 116 = .ok (.iconst 1, 1) := by decide +kernel
theorem dX6_gran_117 : decode cX6_gran 117 = .ok (.iand, 1) := by decide +kernel
theorem dX6_gran_118 : decode cX6_gran 118 = .ok (.ireturn, 1) := by decide +kernel
theorem dX6_gran_119 : decode cX6_gran 119 = .ok (.aload_n 0, 1) := by decide +kernel
theorem dX6_gran_120 : decode cX6_gran 120 = .ok (.getfield 26, 3) := by decide +kernel
theorem dX6_gran_123 : decode cX6_gran 123 = .ok (.getfield 184, 3) := by decide +kernel
theorem dX6_gran_126 : decode cX6_gran 126 = .ok (.iload_n 1, 1) := by decide +kernel
theorem dX6_gran_127 : decode cX6_gran 127 = .ok (.iaload, 1) := by decide +kernel
theorem dX6_gran_128 : decode cX6_gran 128 = .ok (.ireturn, 1) := by decide +kernel
theorem dX6_gran_129 : decode cX6_gran 129 = .ok (.ldc 80, 2) := by decide +kernel
theorem dX6_gran_131 : decode cX6_gran 131 = .ok (.ireturn, 1) := by decide +kernel
theorem dX6_child_0 : decode cX6_child 0 = .ok (.aload_n 0, 1) := by decide +kernel
theorem dX6_child_1 : decode cX6_child 1 = .ok (.getfield 26, 3) := by decide +kernel
theorem dX6_child_4 : decode cX6_child 4 = .ok (.iload_n 1, 1) := by decide +kernel
theorem dX6_child_5 : decode cX6_child 5 = .ok (.invokevirtual 175, 3) := by decide +kernel
theorem dX6_child_8 : decode cX6_child 8 = .ok (.ifCond .ne 6, 3) := by decide +kernel
theorem dX6_child_11 : decode cX6_child 11 = .ok (.ldc 80, 2) := by decide +kernel
theorem dX6_child_13 : decode cX6_child 13 = .ok (.ireturn, 1) := by decide +kernel
theorem dX6_child_14 : decode cX6_child 14 = .ok (.iload_n 2, 1) := by decide +kernel
theorem dX6_child_15 : decode cX6_child 15 = .ok (.tableswitch 68 0 3 #[29, 39, 49, 59], 29) := by decide +kernel
theorem dX6_child_44 : decode cX6_child 44 = .ok (.aload_n 0, 1) := by decide +kernel
theorem dX6_child_45 : decode cX6_child 45 = .ok (.getfield 26, 3) := by decide +kernel
theorem dX6_child_48 : decode cX6_child 48 = .ok (.getfield 204, 3) := by decide +kernel
theorem dX6_child_51 : decode cX6_child 51 = .ok (.iload_n 1, 1) := by decide +kernel
theorem dX6_child_52 : decode cX6_child 52 = .ok (.iaload, 1) := by decide +kernel
theorem dX6_child_53 : decode cX6_child 53 = .ok (.ireturn, 1) := by decide +kernel
theorem dX6_child_54 : decode cX6_child 54 = .ok (.aload_n 0, 1) := by decide +kernel
theorem dX6_child_55 : decode cX6_child 55 = .ok (.getfield 26, 3) := by decide +kernel
theorem dX6_child_58 : decode cX6_child 58 = .ok (.getfield 191, 3) := by decide +kernel
theorem dX6_child_61 : decode cX6_child 61 = .ok (.iload_n 1, 1) := by decide +kernel
theorem dX6_child_62 : decode cX6_child 62 = .ok (.iaload, 1) := by decide +kernel
theorem dX6_child_63 : decode cX6_child 63 = .ok (.ireturn, 1) := by decide +kernel
theorem dX6_child_64 : decode cX6_child 64 = .ok (.aload_n 0, 1) := by decide +kernel
theorem dX6_child_65 : decode cX6_child 65 = .ok (.getfield 26, 3) := by decide +kernel
theorem dX6_child_68 : decode cX6_child 68 = .ok (.getfield 207, 3) := by decide +kernel
theorem dX6_child_71 : decode cX6_child 71 = .ok (.iload_n 1, 1) := by decide +kernel
theorem dX6_child_72 : decode cX6_child 72 = .ok (.iaload, 1) := by decide +kernel
theorem dX6_child_73 : decode cX6_child 73 = .ok (.ireturn, 1) := by decide +kernel
theorem dX6_child_74 : decode cX6_child 74 = .ok (.aload_n 0, 1) := by decide +kernel
theorem dX6_child_75 : decode cX6_child 75 = .ok (.getfield 26, 3) := by decide +kernel
theorem dX6_child_78 : decode cX6_child 78 = .ok (.iload_n 1, 1) := by decide +kernel
theorem dX6_child_79 : decode cX6_child 79 = .ok (.invokevirtual 210, 3) := by decide +kernel
theorem dX6_child_82 : decode cX6_child 82 = .ok (.ireturn, 1) := by decide +kernel
theorem dX6_child_83 : decode cX6_child 83 = .ok (.ldc 80, 2) := by decide +kernel
theorem dX6_child_85 : decode cX6_child 85 = .ok (.ireturn, 1) := by decide +kernel
theorem dX6_ahead_0 : decode cX6_ahead 0 = .ok (.aload_n 0, 1) := by decide +kernel
theorem dX6_ahead_1 : decode cX6_ahead 1 = .ok (.getfield 26, 3) := by decide +kernel
theorem dX6_ahead_4 : decode cX6_ahead 4 = .ok (.iload_n 1, 1) := by decide +kernel
theorem dX6_ahead_5 : decode cX6_ahead 5 = .ok (.invokevirtual 175, 3) := by decide +kernel
theorem dX6_ahead_8 : decode cX6_ahead 8 = .ok (.ifCond .eq 22, 3) := by decide +kernel
theorem dX6_ahead_11 : decode cX6_ahead 11 = .ok (.iload_n 2, 1) := by decide +kernel
theorem dX6_ahead_12 : decode cX6_ahead 12 = .ok (.iconst 0, 1) := by decide +kernel
theorem dX6_ahead_13 : decode cX6_ahead 13 = .ok (.bipush 60, 2) := by decide +kernel
theorem dX6_ahead_15 : decode cX6_ahead 15 = .ok (.invokestatic 76, 3) := by decide +kernel
theorem dX6_ahead_18 : decode cX6_ahead 18 = .ok (.ifCond .eq 12, 3) := by decide +kernel
theorem dX6_ahead_21 : decode cX6_ahead 21 = .ok (.iload_n 3, 1) := by decide +kernel
theorem dX6_ahead_22 : decode cX6_ahead 22 = .ok (.iconst 0, 1) := by decide +kernel
theorem dX6_ahead_23 : decode cX6_ahead 23 = .ok (.iconst 2, 1) := by decide +kernel
theorem dX6_ahead_24 : decode cX6_ahead 24 = .ok (.invokestatic 76, 3) := by decide +kernel
theorem dX6_ahead_27 : decode cX6_ahead 27 = .ok (.ifCond .ne 6, 3) := by decide +kernel
theorem dX6_ahead_30 : decode cX6_ahead 30 = .ok (.ldc 80, 2) := by decide +kernel
theorem dX6_ahead_32 : decode cX6_ahead 32 = .ok (.ireturn, 1) := by decide +kernel
theorem dX6_ahead_33 : decode cX6_ahead 33 = .ok (.aload_n 0, 1) := by decide +kernel
theorem dX6_ahead_34 : decode cX6_ahead 34 = .ok (.invokevirtual 213, 3) := by decide +kernel
theorem dX6_ahead_37 : decode cX6_ahead 37 = .ok (.aload_n 0, 1) := by decide +kernel
theorem dX6_ahead_38 : decode cX6_ahead 38 = .ok (.getfield 30, 3) := by decide +kernel
theorem dX6_ahead_41 : decode cX6_ahead 41 = .ok (.iload_n 2, 1) := by decide +kernel
theorem dX6_ahead_42 : decode cX6_ahead 42 = .ok (.invokevirtual 216, 3) := by decide +kernel
theorem dX6_ahead_45 : decode cX6_ahead 45 = .ok (.iload_n 3, 1) := by decide +kernel
theorem dX6_ahead_46 : decode cX6_ahead 46 = .ok (.ifCond .ne 13, 3) := by decide +kernel
theorem dX6_ahead_49 : decode cX6_ahead 49 = .ok (.aload_n 0, 1) := by decide +kernel
theorem dX6_ahead_50 : decode cX6_ahead 50 = .ok (.getfield 30, 3) := by decide +kernel
theorem dX6_ahead_53 : decode cX6_ahead 53 = .ok (.getfield 204, 3) := by decide +kernel
theorem dX6_ahead_56 : decode cX6_ahead 56 = .ok (.iload_n 1, 1) := by decide +kernel
theorem dX6_ahead_57 : decode cX6_ahead 57 = .ok (.iaload, 1) := by decide +kernel
theorem dX6_ahead_58 : decode cX6_ahead 58 = .ok (.ireturn, 1) := by decide +kernel
theorem dX6_ahead_59 : decode cX6_ahead 59 = .ok (.iload_n 3, 1) := by decide +kernel
theorem dX6_ahead_60 : decode cX6_ahead 60 = .ok (.iconst 1, 1) := by decide +kernel
theorem dX6_ahead_61 : decode cX6_ahead 61 = .ok (.if_icmp .ne 15, 3) := by decide +kernel
theorem dX6_ahead_64 : decode cX6_ahead 64 = .ok (.aload_n 0, 1) := by decide +kernel
theorem dX6_ahead_65 : decode cX6_ahead 65 = .ok (.getfield 30, 3) := by decide +kernel
theorem dX6_ahead_68 : decode cX6_ahead 68 = .ok (.getfield 191, 3) := by decide +kernel
theorem dX6_ahead_71 : decode cX6_ahead 71 = .ok (.iload_n 1, 1) := by decide +kernel
theorem dX6_ahead_72 : decode cX6_ahead 72 = .ok (.iaload, 1) := by decide +kernel
theorem dX6_ahead_73 : decode cX6_ahead 73 = .ok (.goto 12, 3) := by decide +kernel
theorem dX6_ahead_76 : decode cX6_ahead 76 = .ok (.aload_n 0, 1) := by decide +kernel
theorem dX6_ahead_77 : decode cX6_ahead 77 = .ok (.getfield 30, 3) := by decide +kernel
theorem dX6_ahead_80 : decode cX6_ahead 80 = .ok (.getfield 207, 3) := by decide +kernel
theorem dX6_ahead_83 : decode cX6_ahead 83 = .ok (.iload_n 1, 1) := by decide +kernel
theorem dX6_ahead_84 : decode cX6_ahead 84 = .ok (.iaload, 1) := by decide +kernel
theorem dX6_ahead_85 : decode cX6_ahead 85 = .ok (.ireturn, 1) := by decide +kernel
theorem dX6_withWhom_0 : decode cX6_withWhom 0 = .ok (.aload_n 0, 1) := by decide +kernel
theorem dX6_withWhom_1 : decode cX6_withWhom 1 = .ok (.getfield 26, 3) := by decide +kernel
theorem dX6_withWhom_4 : decode cX6_withWhom 4 = .ok (.iload_n 1, 1) := by decide +kernel
theorem dX6_withWhom_5 : decode cX6_withWhom 5 = .ok (.invokevirtual 169, 3) := by decide +kernel
theorem dX6_withWhom_8 : decode cX6_withWhom 8 = .ok (.ifCond .eq 13, 3) := by decide +kernel
theorem dX6_withWhom_11 : decode cX6_withWhom 11 = .ok (.iload_n 2, 1) := by decide +kernel
theorem dX6_withWhom_12 : decode cX6_withWhom 12 = .ok (.iconst 0, 1) := by decide +kernel
theorem dX6_withWhom_13 : decode cX6_withWhom 13 = .ok (.bipush 60, 2) := by decide +kernel
theorem dX6_withWhom_15 : decode cX6_withWhom 15 = .ok (.invokestatic 76, 3) := by decide +kernel
theorem dX6_withWhom_18 : decode cX6_withWhom 18 = .ok (.ifCond .ne 6, 3) := by decide +kernel
theorem dX6_withWhom_21 : decode cX6_withWhom 21 = .ok (.ldc 80, 2) := by decide +kernel
theorem dX6_withWhom_23 : decode cX6_withWhom 23 = .ok (.ireturn, 1) := by decide +kernel
theorem dX6_withWhom_24 : decode cX6_withWhom 24 = .ok (.aload_n 0, 1) := by decide +kernel
theorem dX6_withWhom_25 : decode cX6_withWhom 25 = .ok (.getfield 26, 3) := by decide +kernel
theorem dX6_withWhom_28 : decode cX6_withWhom 28 = .ok (.iload_n 1, 1) := by decide +kernel
theorem dX6_withWhom_29 : decode cX6_withWhom 29 = .ok (.iload_n 2, 1) := by decide +kernel
theorem dX6_withWhom_30 : decode cX6_withWhom 30 = .ok (.invokevirtual 197, 3) := by decide +kernel
theorem dX6_withWhom_33 : decode cX6_withWhom 33 = .ok (.ireturn, 1) := by decide +kernel
theorem dX6_whole_0 : decode cX6_whole 0 = .ok (.aload_n 0, 1) := by decide +kernel
theorem dX6_whole_1 : decode cX6_whole 1 = .ok (.getfield 26, 3) := by decide +kernel
theorem dX6_whole_4 : decode cX6_whole 4 = .ok (.iload_n 1, 1) := by decide +kernel
theorem dX6_whole_5 : decode cX6_whole 5 = .ok (.invokevirtual 175, 3) := by decide +kernel
theorem dX6_whole_8 : decode cX6_whole 8 = .ok (.ifCond .ne 6, 3) := by decide +kernel
theorem dX6_whole_11 : decode cX6_whole 11 = .ok (.ldc 80, 2) := by decide +kernel
theorem dX6_whole_13 : decode cX6_whole 13 = .ok (.ireturn, 1) := by decide +kernel
theorem dX6_whole_14 : decode cX6_whole 14 = .ok (.aload_n 0, 1) := by decide +kernel
theorem dX6_whole_15 : decode cX6_whole 15 = .ok (.invokevirtual 213, 3) := by decide +kernel
theorem dX6_whole_18 : decode cX6_whole 18 = .ok (.aload_n 0, 1) := by decide +kernel
theorem dX6_whole_19 : decode cX6_whole 19 = .ok (.getfield 30, 3) := by decide +kernel
theorem dX6_whole_22 : decode cX6_whole 22 = .ok (.iload_n 1, 1) := by decide +kernel
theorem dX6_whole_23 : decode cX6_whole 23 = .ok (.invokevirtual 220, 3) := by decide +kernel
theorem dX6_whole_26 : decode cX6_whole 26 = .ok (.ireturn, 1) := by decide +kernel
theorem dX6_hungry_0 : decode cX6_hungry 0 = .ok (.aload_n 0, 1) := by decide +kernel
theorem dX6_hungry_1 : decode cX6_hungry 1 = .ok (.getfield 26, 3) := by decide +kernel
theorem dX6_hungry_4 : decode cX6_hungry 4 = .ok (.iload_n 1, 1) := by decide +kernel
theorem dX6_hungry_5 : decode cX6_hungry 5 = .ok (.invokevirtual 175, 3) := by decide +kernel
theorem dX6_hungry_8 : decode cX6_hungry 8 = .ok (.ifCond .ne 6, 3) := by decide +kernel
theorem dX6_hungry_11 : decode cX6_hungry 11 = .ok (.ldc 80, 2) := by decide +kernel
theorem dX6_hungry_13 : decode cX6_hungry 13 = .ok (.ireturn, 1) := by decide +kernel
theorem dX6_hungry_14 : decode cX6_hungry 14 = .ok (.aload_n 0, 1) := by decide +kernel
theorem dX6_hungry_15 : decode cX6_hungry 15 = .ok (.invokevirtual 213, 3) := by decide +kernel
theorem dX6_hungry_18 : decode cX6_hungry 18 = .ok (.iconst 0, 1) := by decide +kernel
theorem dX6_hungry_19 : decode cX6_hungry 19 = .ok (.istore_n 2, 1) := by decide +kernel
theorem dX6_hungry_20 : decode cX6_hungry 20 = .ok (.iload_n 2, 1) := by decide +kernel
theorem dX6_hungry_21 : decode cX6_hungry 21 = .ok (.bipush 60, 2) := by decide +kernel
theorem dX6_hungry_23 : decode cX6_hungry 23 = .ok (.if_icmp .gt 30, 3) := by decide +kernel
theorem dX6_hungry_26 : decode cX6_hungry 26 = .ok (.aload_n 0, 1) := by decide +kernel
theorem dX6_hungry_27 : decode cX6_hungry 27 = .ok (.getfield 30, 3) := by decide +kernel
theorem dX6_hungry_30 : decode cX6_hungry 30 = .ok (.getfield 204, 3) := by decide +kernel
theorem dX6_hungry_33 : decode cX6_hungry 33 = .ok (.iload_n 1, 1) := by decide +kernel
theorem dX6_hungry_34 : decode cX6_hungry 34 = .ok (.iaload, 1) := by decide +kernel
theorem dX6_hungry_35 : decode cX6_hungry 35 = .ok (.ifCond .ne 5, 3) := by decide +kernel
theorem dX6_hungry_38 : decode cX6_hungry 38 = .ok (.iload_n 2, 1) := by decide +kernel
theorem dX6_hungry_39 : decode cX6_hungry 39 = .ok (.ireturn, 1) := by decide +kernel
theorem dX6_hungry_40 : decode cX6_hungry 40 = .ok (.aload_n 0, 1) := by decide +kernel
theorem dX6_hungry_41 : decode cX6_hungry 41 = .ok (.getfield 30, 3) := by decide +kernel
theorem dX6_hungry_44 : decode cX6_hungry 44 = .ok (.invokevirtual 166, 3) := by decide +kernel
theorem dX6_hungry_47 : decode cX6_hungry 47 = .ok (.iinc 2 1, 3) := by decide +kernel
theorem dX6_hungry_50 : decode cX6_hungry 50 = .ok (.goto (-30), 3) := by decide +kernel
theorem dX6_hungry_53 : decode cX6_hungry 53 = .ok (.ldc 223, 2) := by decide +kernel
theorem dX6_hungry_55 : decode cX6_hungry 55 = .ok (.ireturn, 1) := by decide +kernel
theorem dX6_without_0 : decode cX6_without 0 = .ok (.aload_n 0, 1) := by decide +kernel
theorem dX6_without_1 : decode cX6_without 1 = .ok (.invokevirtual 156, 3) := by decide +kernel
theorem dX6_without_4 : decode cX6_without 4 = .ok (.ifCond .eq 6, 3) := by decide +kernel
theorem dX6_without_7 : decode cX6_without 7 = .ok (.ldc 155, 2) := by decide +kernel
theorem dX6_without_9 : decode cX6_without 9 = .ok (.ireturn, 1) := by decide +kernel
theorem dX6_without_10 : decode cX6_without 10 = .ok (.iload_n 1, 1) := by decide +kernel
theorem dX6_without_11 : decode cX6_without 11 = .ok (.iconst 1, 1) := by decide +kernel
theorem dX6_without_12 : decode cX6_without 12 = .ok (.bipush 60, 2) := by decide +kernel
theorem dX6_without_14 : decode cX6_without 14 = .ok (.invokestatic 76, 3) := by decide +kernel
theorem dX6_without_17 : decode cX6_without 17 = .ok (.ifCond .ne 6, 3) := by decide +kernel
theorem dX6_without_20 : decode cX6_without 20 = .ok (.ldc 80, 2) := by decide +kernel
theorem dX6_without_22 : decode cX6_without 22 = .ok (.ireturn, 1) := by decide +kernel
theorem dX6_without_23 : decode cX6_without 23 = .ok (.aload_n 0, 1) := by decide +kernel
theorem dX6_without_24 : decode cX6_without 24 = .ok (.getfield 26, 3) := by decide +kernel
theorem dX6_without_27 : decode cX6_without 27 = .ok (.invokevirtual 224, 3) := by decide +kernel
theorem dX6_without_30 : decode cX6_without 30 = .ok (.aload_n 0, 1) := by decide +kernel
theorem dX6_without_31 : decode cX6_without 31 = .ok (.getfield 26, 3) := by decide +kernel
theorem dX6_without_34 : decode cX6_without 34 = .ok (.iload_n 1, 1) := by decide +kernel
theorem dX6_without_35 : decode cX6_without 35 = .ok (.invokevirtual 227, 3) := by decide +kernel
theorem dX6_without_38 : decode cX6_without 38 = .ok (.iconst (-1), 1) := by decide +kernel
theorem dX6_without_39 : decode cX6_without 39 = .ok (.ixor, 1) := by decide +kernel
theorem dX6_without_40 : decode cX6_without 40 = .ok (.iand, 1) := by decide +kernel
theorem dX6_without_41 : decode cX6_without 41 = .ok (.ireturn, 1) := by decide +kernel
theorem dX6_rota_0 : decode cX6_rota 0 = .ok (.aload_n 0, 1) := by decide +kernel
theorem dX6_rota_1 : decode cX6_rota 1 = .ok (.invokevirtual 156, 3) := by decide +kernel
theorem dX6_rota_4 : decode cX6_rota 4 = .ok (.ifCond .eq 6, 3) := by decide +kernel
theorem dX6_rota_7 : decode cX6_rota 7 = .ok (.ldc 155, 2) := by decide +kernel
theorem dX6_rota_9 : decode cX6_rota 9 = .ok (.ireturn, 1) := by decide +kernel
theorem dX6_rota_10 : decode cX6_rota 10 = .ok (.iload_n 1, 1) := by decide +kernel
theorem dX6_rota_11 : decode cX6_rota 11 = .ok (.iconst 0, 1) := by decide +kernel
theorem dX6_rota_12 : decode cX6_rota 12 = .ok (.aload_n 0, 1) := by decide +kernel
theorem dX6_rota_13 : decode cX6_rota 13 = .ok (.getfield 26, 3) := by decide +kernel
theorem dX6_rota_16 : decode cX6_rota 16 = .ok (.invokevirtual 224, 3) := by decide +kernel
theorem dX6_rota_19 : decode cX6_rota 19 = .ok (.invokestatic 76, 3) := by decide +kernel
theorem dX6_rota_22 : decode cX6_rota 22 = .ok (.ifCond .eq 30, 3) := by decide +kernel
theorem dX6_rota_25 : decode cX6_rota 25 = .ok (.iload_n 2, 1) := by decide +kernel
theorem dX6_rota_26 : decode cX6_rota 26 = .ok (.iconst 1, 1) := by decide +kernel
theorem dX6_rota_27 : decode cX6_rota 27 = .ok (.bipush 14, 2) := by decide +kernel
theorem dX6_rota_29 : decode cX6_rota 29 = .ok (.invokestatic 76, 3) := by decide +kernel
theorem dX6_rota_32 : decode cX6_rota 32 = .ok (.ifCond .eq 20, 3) := by decide +kernel
theorem dX6_rota_35 : decode cX6_rota 35 = .ok (.iload_n 3, 1) := by decide +kernel
theorem dX6_rota_36 : decode cX6_rota 36 = .ok (.iconst (-1), 1) := by decide +kernel
theorem dX6_rota_37 : decode cX6_rota 37 = .ok (.aload_n 0, 1) := by decide +kernel
theorem dX6_rota_38 : decode cX6_rota 38 = .ok (.getfield 26, 3) := by decide +kernel
theorem dX6_rota_41 : decode cX6_rota 41 = .ok (.getfield 145, 3) := by decide +kernel
theorem dX6_rota_44 : decode cX6_rota 44 = .ok (.iconst 1, 1) := by decide +kernel
theorem dX6_rota_45 : decode cX6_rota 45 = .ok (.isub, 1) := by decide +kernel
theorem dX6_rota_46 : decode cX6_rota 46 = .ok (.invokestatic 76, 3) := by decide +kernel
theorem dX6_rota_49 : decode cX6_rota 49 = .ok (.ifCond .ne 6, 3) := by decide +kernel
theorem dX6_rota_52 : decode cX6_rota 52 = .ok (.ldc 80, 2) := by decide +kernel
theorem dX6_rota_54 : decode cX6_rota 54 = .ok (.ireturn, 1) := by decide +kernel
theorem dX6_rota_55 : decode cX6_rota 55 = .ok (.aload_n 0, 1) := by decide +kernel
theorem dX6_rota_56 : decode cX6_rota 56 = .ok (.invokevirtual 213, 3) := by decide +kernel
theorem dX6_rota_59 : decode cX6_rota 59 = .ok (.aload_n 0, 1) := by decide +kernel
theorem dX6_rota_60 : decode cX6_rota 60 = .ok (.getfield 68, 3) := by decide +kernel
theorem dX6_rota_63 : decode cX6_rota 63 = .ok (.iload_n 1, 1) := by decide +kernel
theorem dX6_rota_64 : decode cX6_rota 64 = .ok (.iload_n 2, 1) := by decide +kernel
theorem dX6_rota_65 : decode cX6_rota 65 = .ok (.invokevirtual 230, 3) := by decide +kernel
theorem dX6_rota_68 : decode cX6_rota 68 = .ok (.istore 4, 2) := by decide +kernel
theorem dX6_rota_70 : decode cX6_rota 70 = .ok (.iload_n 3, 1) := by decide +kernel
theorem dX6_rota_71 : decode cX6_rota 71 = .ok (.ifCond .lt 10, 3) := by decide +kernel
theorem dX6_rota_74 : decode cX6_rota 74 = .ok (.iload 4, 2) := by decide +kernel
theorem dX6_rota_76 : decode cX6_rota 76 = .ok (.ldc 223, 2) := by decide +kernel
theorem dX6_rota_78 : decode cX6_rota 78 = .ok (.if_icmp .ne 8, 3) := by decide +kernel
theorem dX6_rota_81 : decode cX6_rota 81 = .ok (.iload 4, 2) := by decide +kernel
theorem dX6_rota_83 : decode cX6_rota 83 = .ok (.goto 12, 3) := by decide +kernel
theorem dX6_rota_86 : decode cX6_rota 86 = .ok (.aload_n 0, 1) := by decide +kernel
theorem dX6_rota_87 : decode cX6_rota 87 = .ok (.getfield 30, 3) := by decide +kernel
theorem dX6_rota_90 : decode cX6_rota 90 = .ok (.getfield 178, 3) := by decide +kernel
theorem dX6_rota_93 : decode cX6_rota 93 = .ok (.iload_n 3, 1) := by decide +kernel
theorem dX6_rota_94 : decode cX6_rota 94 = .ok (.iaload, 1) := by decide +kernel
theorem dX6_rota_95 : decode cX6_rota 95 = .ok (.ireturn, 1) := by decide +kernel
theorem dX6_meets_0 : decode cX6_meets 0 = .ok (.aload_n 0, 1) := by decide +kernel
theorem dX6_meets_1 : decode cX6_meets 1 = .ok (.getfield 26, 3) := by decide +kernel
theorem dX6_meets_4 : decode cX6_meets 4 = .ok (.iload_n 1, 1) := by decide +kernel
theorem dX6_meets_5 : decode cX6_meets 5 = .ok (.invokevirtual 169, 3) := by decide +kernel
theorem dX6_meets_8 : decode cX6_meets 8 = .ok (.ifCond .eq 19, 3) := by decide +kernel
theorem dX6_meets_11 : decode cX6_meets 11 = .ok (.aload_n 0, 1) := by decide +kernel
theorem dX6_meets_12 : decode cX6_meets 12 = .ok (.getfield 26, 3) := by decide +kernel
theorem dX6_meets_15 : decode cX6_meets 15 = .ok (.iload_n 2, 1) := by decide +kernel
theorem dX6_meets_16 : decode cX6_meets 16 = .ok (.invokevirtual 169, 3) := by decide +kernel
theorem dX6_meets_19 : decode cX6_meets 19 = .ok (.ifCond .eq 8, 3) := by decide +kernel
theorem dX6_meets_22 : decode cX6_meets 22 = .ok (.iload_n 1, 1) := by decide +kernel
theorem dX6_meets_23 : decode cX6_meets 23 = .ok (.iload_n 2, 1) := by decide +kernel
theorem dX6_meets_24 : decode cX6_meets 24 = .ok (.if_icmp .ne 6, 3) := by decide +kernel
theorem dX6_meets_27 : decode cX6_meets 27 = .ok (.ldc 80, 2) := by decide +kernel
theorem dX6_meets_29 : decode cX6_meets 29 = .ok (.ireturn, 1) := by decide +kernel
theorem dX6_meets_30 : decode cX6_meets 30 = .ok (.iconst 0, 1) := by decide +kernel
theorem dX6_meets_31 : decode cX6_meets 31 = .ok (.istore_n 3, 1) := by decide +kernel
theorem dX6_meets_32 : decode cX6_meets 32 = .ok (.iload_n 3, 1) := by decide +kernel
theorem dX6_meets_33 : decode cX6_meets 33 = .ok (.bipush 60, 2) := by decide +kernel
theorem dX6_meets_35 : decode cX6_meets 35 = .ok (.if_icmp .gt 43, 3) := by decide +kernel
theorem dX6_meets_38 : decode cX6_meets 38 = .ok (.aload_n 0, 1) := by decide +kernel
theorem dX6_meets_39 : decode cX6_meets 39 = .ok (.getfield 26, 3) := by decide +kernel
theorem dX6_meets_42 : decode cX6_meets 42 = .ok (.iload_n 1, 1) := by decide +kernel
theorem dX6_meets_43 : decode cX6_meets 43 = .ok (.iload_n 3, 1) := by decide +kernel
theorem dX6_meets_44 : decode cX6_meets 44 = .ok (.invokevirtual 197, 3) := by decide +kernel
theorem dX6_meets_47 : decode cX6_meets 47 = .ok (.istore 4, 2) := by decide +kernel
theorem dX6_meets_49 : decode cX6_meets 49 = .ok (.iload 4, 2) := by decide +kernel
theorem dX6_meets_51 : decode cX6_meets 51 = .ok (.ldc 223, 2) := by decide +kernel
theorem dX6_meets_53 : decode cX6_meets 53 = .ok (.if_icmp .eq 19, 3) := by decide +kernel
theorem dX6_meets_56 : decode cX6_meets 56 = .ok (.iload 4, 2) := by decide +kernel
theorem dX6_meets_58 : decode cX6_meets 58 = .ok (.aload_n 0, 1) := by decide +kernel
theorem dX6_meets_59 : decode cX6_meets 59 = .ok (.getfield 26, 3) := by decide +kernel
theorem dX6_meets_62 : decode cX6_meets 62 = .ok (.iload_n 2, 1) := by decide +kernel
theorem dX6_meets_63 : decode cX6_meets 63 = .ok (.iload_n 3, 1) := by decide +kernel
theorem dX6_meets_64 : decode cX6_meets 64 = .ok (.invokevirtual 197, 3) := by decide +kernel
theorem dX6_meets_67 : decode cX6_meets 67 = .ok (.if_icmp .ne 5, 3) := by decide +kernel
theorem dX6_meets_70 : decode cX6_meets 70 = .ok (.iload_n 3, 1) := by decide +kernel
theorem dX6_meets_71 : decode cX6_meets 71 = .ok (.ireturn, 1) := by decide +kernel
theorem dX6_meets_72 : decode cX6_meets 72 = .ok (.iinc 3 1, 3) := by decide +kernel
theorem dX6_meets_75 : decode cX6_meets 75 = .ok (.goto (-43), 3) := by decide +kernel
theorem dX6_meets_78 : decode cX6_meets 78 = .ok (.ldc 223, 2) := by decide +kernel
theorem dX6_meets_80 : decode cX6_meets 80 = .ok (.ireturn, 1) := by decide +kernel
theorem dX6_lost_0 : decode cX6_lost 0 = .ok (.aload_n 0, 1) := by decide +kernel
theorem dX6_lost_1 : decode cX6_lost 1 = .ok (.invokevirtual 156, 3) := by decide +kernel
theorem dX6_lost_4 : decode cX6_lost 4 = .ok (.ifCond .eq 6, 3) := by decide +kernel
theorem dX6_lost_7 : decode cX6_lost 7 = .ok (.ldc 155, 2) := by decide +kernel
theorem dX6_lost_9 : decode cX6_lost 9 = .ok (.ireturn, 1) := by decide +kernel
theorem dX6_lost_10 : decode cX6_lost 10 = .ok (.iload_n 1, 1) := by decide +kernel
theorem dX6_lost_11 : decode cX6_lost 11 = .ok (.iconst 1, 1) := by decide +kernel
theorem dX6_lost_12 : decode cX6_lost 12 = .ok (.bipush 60, 2) := by decide +kernel
theorem dX6_lost_14 : decode cX6_lost 14 = .ok (.invokestatic 76, 3) := by decide +kernel
theorem dX6_lost_17 : decode cX6_lost 17 = .ok (.ifCond .ne 6, 3) := by decide +kernel
theorem dX6_lost_20 : decode cX6_lost 20 = .ok (.ldc 80, 2) := by decide +kernel
theorem dX6_lost_22 : decode cX6_lost 22 = .ok (.ireturn, 1) := by decide +kernel
theorem dX6_lost_23 : decode cX6_lost 23 = .ok (.iconst 0, 1) := by decide +kernel
theorem dX6_lost_24 : decode cX6_lost 24 = .ok (.istore_n 2, 1) := by decide +kernel
theorem dX6_lost_25 : decode cX6_lost 25 = .ok (.iconst 0, 1) := by decide +kernel
theorem dX6_lost_26 : decode cX6_lost 26 = .ok (.istore_n 3, 1) := by decide +kernel
theorem dX6_lost_27 : decode cX6_lost 27 = .ok (.iload_n 3, 1) := by decide +kernel
theorem dX6_lost_28 : decode cX6_lost 28 = .ok (.iload_n 1, 1) := by decide +kernel
theorem dX6_lost_29 : decode cX6_lost 29 = .ok (.if_icmp .ge 23, 3) := by decide +kernel
theorem dX6_lost_32 : decode cX6_lost 32 = .ok (.iload_n 2, 1) := by decide +kernel
theorem dX6_lost_33 : decode cX6_lost 33 = .ok (.aload_n 0, 1) := by decide +kernel
theorem dX6_lost_34 : decode cX6_lost 34 = .ok (.getfield 26, 3) := by decide +kernel
theorem dX6_lost_37 : decode cX6_lost 37 = .ok (.iload_n 3, 1) := by decide +kernel
theorem dX6_lost_38 : decode cX6_lost 38 = .ok (.invokevirtual 201, 3) := by decide +kernel
theorem dX6_lost_41 : decode cX6_lost 41 = .ok (.invokestatic 233, 3) := by decide +kernel
theorem dX6_lost_44 : decode cX6_lost 44 = .ok (.iadd, 1) := by decide +kernel
theorem dX6_lost_45 : decode cX6_lost 45 = .ok (.istore_n 2, 1) := by decide +kernel
theorem dX6_lost_46 : decode cX6_lost 46 = .ok (.iinc 3 1, 3) := by decide +kernel
theorem dX6_lost_49 : decode cX6_lost 49 = .ok (.goto (-22), 3) := by decide +kernel
theorem dX6_lost_52 : decode cX6_lost 52 = .ok (.iload_n 2, 1) := by decide +kernel
theorem dX6_lost_53 : decode cX6_lost 53 = .ok (.ireturn, 1) := by decide +kernel
theorem dX6_swaps_0 : decode cX6_swaps 0 = .ok (.aload_n 0, 1) := by decide +kernel
theorem dX6_swaps_1 : decode cX6_swaps 1 = .ok (.invokevirtual 156, 3) := by decide +kernel
theorem dX6_swaps_4 : decode cX6_swaps 4 = .ok (.ifCond .eq 6, 3) := by decide +kernel
theorem dX6_swaps_7 : decode cX6_swaps 7 = .ok (.ldc 155, 2) := by decide +kernel
theorem dX6_swaps_9 : decode cX6_swaps 9 = .ok (.ireturn, 1) := by decide +kernel
theorem dX6_swaps_10 : decode cX6_swaps 10 = .ok (.iload_n 1, 1) := by decide +kernel
theorem dX6_swaps_11 : decode cX6_swaps 11 = .ok (.iconst 1, 1) := by decide +kernel
theorem dX6_swaps_12 : decode cX6_swaps 12 = .ok (.bipush 60, 2) := by decide +kernel
theorem dX6_swaps_14 : decode cX6_swaps 14 = .ok (.invokestatic 76, 3) := by decide +kernel
theorem dX6_swaps_17 : decode cX6_swaps 17 = .ok (.ifCond .eq 12, 3) := by decide +kernel
theorem dX6_swaps_20 : decode cX6_swaps 20 = .ok (.iload_n 2, 1) := by decide +kernel
theorem dX6_swaps_21 : decode cX6_swaps 21 = .ok (.iconst 0, 1) := by decide +kernel
theorem dX6_swaps_22 : decode cX6_swaps 22 = .ok (.iconst 1, 1) := by decide +kernel
theorem dX6_swaps_23 : decode cX6_swaps 23 = .ok (.invokestatic 76, 3) := by decide +kernel
theorem dX6_swaps_26 : decode cX6_swaps 26 = .ok (.ifCond .ne 6, 3) := by decide +kernel
theorem dX6_swaps_29 : decode cX6_swaps 29 = .ok (.ldc 80, 2) := by decide +kernel
theorem dX6_swaps_31 : decode cX6_swaps 31 = .ok (.ireturn, 1) := by decide +kernel
theorem dX6_swaps_32 : decode cX6_swaps 32 = .ok (.aload_n 0, 1) := by decide +kernel
theorem dX6_swaps_33 : decode cX6_swaps 33 = .ok (.invokevirtual 213, 3) := by decide +kernel
theorem dX6_swaps_36 : decode cX6_swaps 36 = .ok (.aload_n 0, 1) := by decide +kernel
theorem dX6_swaps_37 : decode cX6_swaps 37 = .ok (.getfield 30, 3) := by decide +kernel
theorem dX6_swaps_40 : decode cX6_swaps 40 = .ok (.iload_n 1, 1) := by decide +kernel
theorem dX6_swaps_41 : decode cX6_swaps 41 = .ok (.invokevirtual 216, 3) := by decide +kernel
theorem dX6_swaps_44 : decode cX6_swaps 44 = .ok (.aload_n 0, 1) := by decide +kernel
theorem dX6_swaps_45 : decode cX6_swaps 45 = .ok (.getfield 30, 3) := by decide +kernel
theorem dX6_swaps_48 : decode cX6_swaps 48 = .ok (.getfield 204, 3) := by decide +kernel
theorem dX6_swaps_51 : decode cX6_swaps 51 = .ok (.iconst 0, 1) := by decide +kernel
theorem dX6_swaps_52 : decode cX6_swaps 52 = .ok (.aload_n 0, 1) := by decide +kernel
theorem dX6_swaps_53 : decode cX6_swaps 53 = .ok (.getfield 37, 3) := by decide +kernel
theorem dX6_swaps_56 : decode cX6_swaps 56 = .ok (.iconst 0, 1) := by decide +kernel
theorem dX6_swaps_57 : decode cX6_swaps 57 = .ok (.iconst 5, 1) := by decide +kernel
theorem dX6_swaps_58 : decode cX6_swaps 58 = .ok (.invokestatic 238, 3) := by decide +kernel
theorem dX6_swaps_61 : decode cX6_swaps 61 = .ok (.iconst 0, 1) := by decide +kernel
theorem dX6_swaps_62 : decode cX6_swaps 62 = .ok (.istore_n 3, 1) := by decide +kernel
theorem dX6_swaps_63 : decode cX6_swaps 63 = .ok (.ldc 223, 2) := by decide +kernel
theorem dX6_swaps_65 : decode cX6_swaps 65 = .ok (.istore 4, 2) := by decide +kernel
theorem dX6_swaps_67 : decode cX6_swaps 67 = .ok (.iconst 0, 1) := by decide +kernel
theorem dX6_swaps_68 : decode cX6_swaps 68 = .ok (.istore 5, 2) := by decide +kernel
theorem dX6_swaps_70 : decode cX6_swaps 70 = .ok (.iload 5, 2) := by decide +kernel
theorem dX6_swaps_72 : decode cX6_swaps 72 = .ok (.aload_n 0, 1) := by decide +kernel
theorem dX6_swaps_73 : decode cX6_swaps 73 = .ok (.getfield 26, 3) := by decide +kernel
theorem dX6_swaps_76 : decode cX6_swaps 76 = .ok (.getfield 145, 3) := by decide +kernel
theorem dX6_swaps_79 : decode cX6_swaps 79 = .ok (.if_icmp .ge 70, 3) := by decide +kernel
theorem dX6_swaps_82 : decode cX6_swaps 82 = .ok (.iload 5, 2) := by decide +kernel
theorem dX6_swaps_84 : decode cX6_swaps 84 = .ok (.iconst 1, 1) := by decide +kernel
theorem dX6_swaps_85 : decode cX6_swaps 85 = .ok (.iadd, 1) := by decide +kernel
theorem dX6_swaps_86 : decode cX6_swaps 86 = .ok (.istore 6, 2) := by decide +kernel
theorem dX6_swaps_88 : decode cX6_swaps 88 = .ok (.iload 6, 2) := by decide +kernel
theorem dX6_swaps_90 : decode cX6_swaps 90 = .ok (.aload_n 0, 1) := by decide +kernel
theorem dX6_swaps_91 : decode cX6_swaps 91 = .ok (.getfield 26, 3) := by decide +kernel
theorem dX6_swaps_94 : decode cX6_swaps 94 = .ok (.getfield 145, 3) := by decide +kernel
theorem dX6_swaps_97 : decode cX6_swaps 97 = .ok (.if_icmp .ge 46, 3) := by decide +kernel
theorem dX6_swaps_100 : decode cX6_swaps 100 = .ok (.aload_n 0, 1) := by decide +kernel
theorem dX6_swaps_101 : decode cX6_swaps 101 = .ok (.iload 5, 2) := by decide +kernel
theorem dX6_swaps_103 : decode cX6_swaps 103 = .ok (.iload 6, 2) := by decide +kernel
theorem dX6_swaps_105 : decode cX6_swaps 105 = .ok (.iload_n 1, 1) := by decide +kernel
theorem dX6_swaps_106 : decode cX6_swaps 106 = .ok (.invokevirtual 244, 3) := by decide +kernel
theorem dX6_swaps_109 : decode cX6_swaps 109 = .ok (.ifCond .eq 28, 3) := by decide +kernel
theorem dX6_swaps_112 : decode cX6_swaps 112 = .ok (.iinc 3 1, 3) := by decide +kernel
theorem dX6_swaps_115 : decode cX6_swaps 115 = .ok (.iload 4, 2) := by decide +kernel
theorem dX6_swaps_117 : decode cX6_swaps 117 = .ok (.ldc 223, 2) := by decide +kernel
theorem dX6_swaps_119 : decode cX6_swaps 119 = .ok (.if_icmp .ne 14, 3) := by decide +kernel
theorem dX6_swaps_122 : decode cX6_swaps 122 = .ok (.bipush 10, 2) := by decide +kernel
theorem dX6_swaps_124 : decode cX6_swaps 124 = .ok (.iload 5, 2) := by decide +kernel
theorem dX6_swaps_126 : decode cX6_swaps 126 = .ok (.imul, 1) := by decide +kernel
theorem dX6_swaps_127 : decode cX6_swaps 127 = .ok (.iload 6, 2) := by decide +kernel
theorem dX6_swaps_129 : decode cX6_swaps 129 = .ok (.iadd, 1) := by decide +kernel
theorem dX6_swaps_130 : decode cX6_swaps 130 = .ok (.goto 5, 3) := by decide +kernel
theorem dX6_swaps_133 : decode cX6_swaps 133 = .ok (.iload 4, 2) := by decide +kernel
theorem dX6_swaps_135 : decode cX6_swaps 135 = .ok (.istore 4, 2) := by decide +kernel
theorem dX6_swaps_137 : decode cX6_swaps 137 = .ok (.iinc 6 1, 3) := by decide +kernel
theorem dX6_swaps_140 : decode cX6_swaps 140 = .ok (.goto (-52), 3) := by decide +kernel
theorem dX6_swaps_143 : decode cX6_swaps 143 = .ok (.iinc 5 1, 3) := by decide +kernel
theorem dX6_swaps_146 : decode cX6_swaps 146 = .ok (.goto (-76), 3) := by decide +kernel
theorem dX6_swaps_149 : decode cX6_swaps 149 = .ok (.iload_n 2, 1) := by decide +kernel
theorem dX6_swaps_150 : decode cX6_swaps 150 = .ok (.ifCond .ne 7, 3) := by decide +kernel
theorem dX6_swaps_153 : decode cX6_swaps 153 = .ok (.iload_n 3, 1) := by decide +kernel
theorem dX6_swaps_154 : decode cX6_swaps 154 = .ok (.goto 5, 3) := by decide +kernel
theorem dX6_swaps_157 : decode cX6_swaps 157 = .ok (.iload 4, 2) := by decide +kernel
theorem dX6_swaps_159 : decode cX6_swaps 159 = .ok (.ireturn, 1) := by decide +kernel
theorem dX6_soon_0 : decode cX6_soon 0 = .ok (.aload_n 0, 1) := by decide +kernel
theorem dX6_soon_1 : decode cX6_soon 1 = .ok (.getfield 26, 3) := by decide +kernel
theorem dX6_soon_4 : decode cX6_soon 4 = .ok (.iload_n 1, 1) := by decide +kernel
theorem dX6_soon_5 : decode cX6_soon 5 = .ok (.invokevirtual 175, 3) := by decide +kernel
theorem dX6_soon_8 : decode cX6_soon 8 = .ok (.ifCond .eq 12, 3) := by decide +kernel
theorem dX6_soon_11 : decode cX6_soon 11 = .ok (.iload_n 2, 1) := by decide +kernel
theorem dX6_soon_12 : decode cX6_soon 12 = .ok (.iconst 0, 1) := by decide +kernel
theorem dX6_soon_13 : decode cX6_soon 13 = .ok (.iconst 1, 1) := by decide +kernel
theorem dX6_soon_14 : decode cX6_soon 14 = .ok (.invokestatic 76, 3) := by decide +kernel
theorem dX6_soon_17 : decode cX6_soon 17 = .ok (.ifCond .ne 6, 3) := by decide +kernel
theorem dX6_soon_20 : decode cX6_soon 20 = .ok (.ldc 80, 2) := by decide +kernel
theorem dX6_soon_22 : decode cX6_soon 22 = .ok (.ireturn, 1) := by decide +kernel
theorem dX6_soon_23 : decode cX6_soon 23 = .ok (.ldc 223, 2) := by decide +kernel
theorem dX6_soon_25 : decode cX6_soon 25 = .ok (.istore_n 3, 1) := by decide +kernel
theorem dX6_soon_26 : decode cX6_soon 26 = .ok (.bipush 61, 2) := by decide +kernel
theorem dX6_soon_28 : decode cX6_soon 28 = .ok (.istore 4, 2) := by decide +kernel
theorem dX6_soon_30 : decode cX6_soon 30 = .ok (.aload_n 0, 1) := by decide +kernel
theorem dX6_soon_31 : decode cX6_soon 31 = .ok (.getfield 26, 3) := by decide +kernel
theorem dX6_soon_34 : decode cX6_soon 34 = .ok (.aload_n 0, 1) := by decide +kernel
theorem dX6_soon_35 : decode cX6_soon 35 = .ok (.getfield 33, 3) := by decide +kernel
theorem dX6_soon_38 : decode cX6_soon 38 = .ok (.invokevirtual 135, 3) := by decide +kernel
theorem dX6_soon_41 : decode cX6_soon 41 = .ok (.iconst 0, 1) := by decide +kernel
theorem dX6_soon_42 : decode cX6_soon 42 = .ok (.istore 5, 2) := by decide +kernel
theorem dX6_soon_44 : decode cX6_soon 44 = .ok (.iload 5, 2) := by decide +kernel
theorem dX6_soon_46 : decode cX6_soon 46 = .ok (.aload_n 0, 1) := by decide +kernel
theorem dX6_soon_47 : decode cX6_soon 47 = .ok (.getfield 26, 3) := by decide +kernel
theorem dX6_soon_50 : decode cX6_soon 50 = .ok (.getfield 145, 3) := by decide +kernel
theorem dX6_soon_53 : decode cX6_soon 53 = .ok (.if_icmp .ge 62, 3) := by decide +kernel
theorem dX6_soon_56 : decode cX6_soon 56 = .ok (.aload_n 0, 1) := by decide +kernel
theorem dX6_soon_57 : decode cX6_soon 57 = .ok (.getfield 30, 3) := by decide +kernel
theorem dX6_soon_60 : decode cX6_soon 60 = .ok (.aload_n 0, 1) := by decide +kernel
theorem dX6_soon_61 : decode cX6_soon 61 = .ok (.getfield 33, 3) := by decide +kernel
theorem dX6_soon_64 : decode cX6_soon 64 = .ok (.invokevirtual 139, 3) := by decide +kernel
theorem dX6_soon_67 : decode cX6_soon 67 = .ok (.aload_n 0, 1) := by decide +kernel
theorem dX6_soon_68 : decode cX6_soon 68 = .ok (.getfield 30, 3) := by decide +kernel
theorem dX6_soon_71 : decode cX6_soon 71 = .ok (.getfield 178, 3) := by decide +kernel
theorem dX6_soon_74 : decode cX6_soon 74 = .ok (.iload 5, 2) := by decide +kernel
theorem dX6_soon_76 : decode cX6_soon 76 = .ok (.iload_n 1, 1) := by decide +kernel
theorem dX6_soon_77 : decode cX6_soon 77 = .ok (.iastore, 1) := by decide +kernel
theorem dX6_soon_78 : decode cX6_soon 78 = .ok (.aload_n 0, 1) := by decide +kernel
theorem dX6_soon_79 : decode cX6_soon 79 = .ok (.getfield 30, 3) := by decide +kernel
theorem dX6_soon_82 : decode cX6_soon 82 = .ok (.iload_n 1, 1) := by decide +kernel
theorem dX6_soon_83 : decode cX6_soon 83 = .ok (.invokevirtual 220, 3) := by decide +kernel
theorem dX6_soon_86 : decode cX6_soon 86 = .ok (.istore 6, 2) := by decide +kernel
theorem dX6_soon_88 : decode cX6_soon 88 = .ok (.iload 6, 2) := by decide +kernel
theorem dX6_soon_90 : decode cX6_soon 90 = .ok (.ldc 223, 2) := by decide +kernel
theorem dX6_soon_92 : decode cX6_soon 92 = .ok (.if_icmp .eq 17, 3) := by decide +kernel
theorem dX6_soon_95 : decode cX6_soon 95 = .ok (.iload 6, 2) := by decide +kernel
theorem dX6_soon_97 : decode cX6_soon 97 = .ok (.iload 4, 2) := by decide +kernel
theorem dX6_soon_99 : decode cX6_soon 99 = .ok (.if_icmp .ge 10, 3) := by decide +kernel
theorem dX6_soon_102 : decode cX6_soon 102 = .ok (.iload 5, 2) := by decide +kernel
theorem dX6_soon_104 : decode cX6_soon 104 = .ok (.istore_n 3, 1) := by decide +kernel
theorem dX6_soon_105 : decode cX6_soon 105 = .ok (.iload 6, 2) := by decide +kernel
theorem dX6_soon_107 : decode cX6_soon 107 = .ok (.istore 4, 2) := by decide +kernel
theorem dX6_soon_109 : decode cX6_soon 109 = .ok (.iinc 5 1, 3) := by decide +kernel
theorem dX6_soon_112 : decode cX6_soon 112 = .ok (.goto (-68), 3) := by decide +kernel
theorem dX6_soon_115 : decode cX6_soon 115 = .ok (.iload_n 2, 1) := by decide +kernel
theorem dX6_soon_116 : decode cX6_soon 116 = .ok (.ifCond .eq 9, 3) := by decide +kernel
theorem dX6_soon_119 : decode cX6_soon 119 = .ok (.iload_n 3, 1) := by decide +kernel
theorem dX6_soon_120 : decode cX6_soon 120 = .ok (.ldc 223, 2) := by decide +kernel
theorem dX6_soon_122 : decode cX6_soon 122 = .ok (.if_icmp .ne 7, 3) := by decide +kernel
theorem dX6_soon_125 : decode cX6_soon 125 = .ok (.iload_n 3, 1) := by decide +kernel
theorem dX6_soon_126 : decode cX6_soon 126 = .ok (.goto 5, 3) := by decide +kernel
theorem dX6_soon_129 : decode cX6_soon 129 = .ok (.iload 4, 2) := by decide +kernel
theorem dX6_soon_131 : decode cX6_soon 131 = .ok (.ireturn, 1) := by decide +kernel
theorem dX6_who_0 : decode cX6_who 0 = .ok (.aload_n 0, 1) := by decide +kernel
theorem dX6_who_1 : decode cX6_who 1 = .ok (.iload_n 1, 1) := by decide +kernel
theorem dX6_who_2 : decode cX6_who 2 = .ok (.iload_n 2, 1) := by decide +kernel
theorem dX6_who_3 : decode cX6_who 3 = .ok (.iload_n 3, 1) := by decide +kernel
theorem dX6_who_4 : decode cX6_who 4 = .ok (.iload 4, 2) := by decide +kernel
theorem dX6_who_6 : decode cX6_who 6 = .ok (.iload 5, 2) := by decide +kernel
theorem dX6_who_8 : decode cX6_who 8 = .ok (.invokevirtual 247, 3) := by decide +kernel
theorem dX6_who_11 : decode cX6_who 11 = .ok (.istore 6, 2) := by decide +kernel
theorem dX6_who_13 : decode cX6_who 13 = .ok (.iload 6, 2) := by decide +kernel
theorem dX6_who_15 : decode cX6_who 15 = .ok (.ifCond .eq 6, 3) := by decide +kernel
theorem dX6_who_18 : decode cX6_who 18 = .ok (.iload 6, 2) := by decide +kernel
theorem dX6_who_20 : decode cX6_who 20 = .ok (.ireturn, 1) := by decide +kernel
theorem dX6_who_21 : decode cX6_who 21 = .ok (.iconst 0, 1) := by decide +kernel
theorem dX6_who_22 : decode cX6_who 22 = .ok (.istore 7, 2) := by decide +kernel
theorem dX6_who_24 : decode cX6_who 24 = .ok (.iconst 1, 1) := by decide +kernel
theorem dX6_who_25 : decode cX6_who 25 = .ok (.istore 8, 2) := by decide +kernel
theorem dX6_who_27 : decode cX6_who 27 = .ok (.iload 8, 2) := by decide +kernel
theorem dX6_who_29 : decode cX6_who 29 = .ok (.iconst 5, 1) := by decide +kernel
theorem dX6_who_30 : decode cX6_who 30 = .ok (.if_icmp .gt 50, 3) := by decide +kernel
theorem dX6_who_33 : decode cX6_who 33 = .ok (.aload_n 0, 1) := by decide +kernel
theorem dX6_who_34 : decode cX6_who 34 = .ok (.invokevirtual 213, 3) := by decide +kernel
theorem dX6_who_37 : decode cX6_who 37 = .ok (.aload_n 0, 1) := by decide +kernel
theorem dX6_who_38 : decode cX6_who 38 = .ok (.getfield 30, 3) := by decide +kernel
theorem dX6_who_41 : decode cX6_who 41 = .ok (.getfield 250, 3) := by decide +kernel
theorem dX6_who_44 : decode cX6_who 44 = .ok (.iload_n 2, 1) := by decide +kernel
theorem dX6_who_45 : decode cX6_who 45 = .ok (.iload 8, 2) := by decide +kernel
theorem dX6_who_47 : decode cX6_who 47 = .ok (.iastore, 1) := by decide +kernel
theorem dX6_who_48 : decode cX6_who 48 = .ok (.iload 7, 2) := by decide +kernel
theorem dX6_who_50 : decode cX6_who 50 = .ok (.aload_n 0, 1) := by decide +kernel
theorem dX6_who_51 : decode cX6_who 51 = .ok (.iload_n 1, 1) := by decide +kernel
theorem dX6_who_52 : decode cX6_who 52 = .ok (.iload_n 3, 1) := by decide +kernel
theorem dX6_who_53 : decode cX6_who 53 = .ok (.iload 4, 2) := by decide +kernel
theorem dX6_who_55 : decode cX6_who 55 = .ok (.iload 5, 2) := by decide +kernel
theorem dX6_who_57 : decode cX6_who 57 = .ok (.invokevirtual 253, 3) := by decide +kernel
theorem dX6_who_60 : decode cX6_who 60 = .ok (.ifCond .eq 10, 3) := by decide +kernel
theorem dX6_who_63 : decode cX6_who 63 = .ok (.iconst 1, 1) := by decide +kernel
theorem dX6_who_64 : decode cX6_who 64 = .ok (.iload 8, 2) := by decide +kernel
theorem dX6_who_66 : decode cX6_who 66 = .ok (.ishl, 1) := by decide +kernel
theorem dX6_who_67 : decode cX6_who 67 = .ok (.goto 4, 3) := by decide +kernel
theorem dX6_who_70 : decode cX6_who 70 = .ok (.iconst 0, 1) := by decide +kernel
theorem dX6_who_71 : decode cX6_who 71 = .ok (.ior, 1) := by decide +kernel
theorem dX6_who_72 : decode cX6_who 72 = .ok (.istore 7, 2) := by decide +kernel
theorem dX6_who_74 : decode cX6_who 74 = .ok (.iinc 8 1, 3) := by decide +kernel
theorem dX6_who_77 : decode cX6_who 77 = .ok (.goto (-50), 3) := by decide +kernel
theorem dX6_who_80 : decode cX6_who 80 = .ok (.iload 7, 2) := by decide +kernel
theorem dX6_who_82 : decode cX6_who 82 = .ok (.ireturn, 1) := by decide +kernel
theorem dX6_firsts_0 : decode cX6_firsts 0 = .ok (.aload_n 0, 1) := by decide +kernel
theorem dX6_firsts_1 : decode cX6_firsts 1 = .ok (.iload_n 1, 1) := by decide +kernel
theorem dX6_firsts_2 : decode cX6_firsts 2 = .ok (.iload_n 2, 1) := by decide +kernel
theorem dX6_firsts_3 : decode cX6_firsts 3 = .ok (.iload_n 3, 1) := by decide +kernel
theorem dX6_firsts_4 : decode cX6_firsts 4 = .ok (.iload 4, 2) := by decide +kernel
theorem dX6_firsts_6 : decode cX6_firsts 6 = .ok (.iload 5, 2) := by decide +kernel
theorem dX6_firsts_8 : decode cX6_firsts 8 = .ok (.invokevirtual 247, 3) := by decide +kernel
theorem dX6_firsts_11 : decode cX6_firsts 11 = .ok (.istore 6, 2) := by decide +kernel
theorem dX6_firsts_13 : decode cX6_firsts 13 = .ok (.iload 6, 2) := by decide +kernel
theorem dX6_firsts_15 : decode cX6_firsts 15 = .ok (.ifCond .eq 6, 3) := by decide +kernel
theorem dX6_firsts_18 : decode cX6_firsts 18 = .ok (.iload 6, 2) := by decide +kernel
theorem dX6_firsts_20 : decode cX6_firsts 20 = .ok (.ireturn, 1) := by decide +kernel
theorem dX6_firsts_21 : decode cX6_firsts 21 = .ok (.iconst 0, 1) := by decide +kernel
theorem dX6_firsts_22 : decode cX6_firsts 22 = .ok (.istore 7, 2) := by decide +kernel
theorem dX6_firsts_24 : decode cX6_firsts 24 = .ok (.iconst 0, 1) := by decide +kernel
theorem dX6_firsts_25 : decode cX6_firsts 25 = .ok (.istore 8, 2) := by decide +kernel
theorem dX6_firsts_27 : decode cX6_firsts 27 = .ok (.iload 8, 2) := by decide +kernel
theorem dX6_firsts_29 : decode cX6_firsts 29 = .ok (.aload_n 0, 1) := by decide +kernel
theorem dX6_firsts_30 : decode cX6_firsts 30 = .ok (.getfield 26, 3) := by decide +kernel
theorem dX6_firsts_33 : decode cX6_firsts 33 = .ok (.getfield 257, 3) := by decide +kernel
theorem dX6_firsts_36 : decode cX6_firsts 36 = .ok (.if_icmp .ge 50, 3) := by decide +kernel
theorem dX6_firsts_39 : decode cX6_firsts 39 = .ok (.aload_n 0, 1) := by decide +kernel
theorem dX6_firsts_40 : decode cX6_firsts 40 = .ok (.invokevirtual 213, 3) := by decide +kernel
theorem dX6_firsts_43 : decode cX6_firsts 43 = .ok (.aload_n 0, 1) := by decide +kernel
theorem dX6_firsts_44 : decode cX6_firsts 44 = .ok (.getfield 30, 3) := by decide +kernel
theorem dX6_firsts_47 : decode cX6_firsts 47 = .ok (.getfield 178, 3) := by decide +kernel
theorem dX6_firsts_50 : decode cX6_firsts 50 = .ok (.iload_n 2, 1) := by decide +kernel
theorem dX6_firsts_51 : decode cX6_firsts 51 = .ok (.iload 8, 2) := by decide +kernel
theorem dX6_firsts_53 : decode cX6_firsts 53 = .ok (.iastore, 1) := by decide +kernel
theorem dX6_firsts_54 : decode cX6_firsts 54 = .ok (.iload 7, 2) := by decide +kernel
theorem dX6_firsts_56 : decode cX6_firsts 56 = .ok (.aload_n 0, 1) := by decide +kernel
theorem dX6_firsts_57 : decode cX6_firsts 57 = .ok (.iload_n 1, 1) := by decide +kernel
theorem dX6_firsts_58 : decode cX6_firsts 58 = .ok (.iload_n 3, 1) := by decide +kernel
theorem dX6_firsts_59 : decode cX6_firsts 59 = .ok (.iload 4, 2) := by decide +kernel
theorem dX6_firsts_61 : decode cX6_firsts 61 = .ok (.iload 5, 2) := by decide +kernel
theorem dX6_firsts_63 : decode cX6_firsts 63 = .ok (.invokevirtual 253, 3) := by decide +kernel
theorem dX6_firsts_66 : decode cX6_firsts 66 = .ok (.ifCond .eq 10, 3) := by decide +kernel
theorem dX6_firsts_69 : decode cX6_firsts 69 = .ok (.iconst 1, 1) := by decide +kernel
theorem dX6_firsts_70 : decode cX6_firsts 70 = .ok (.iload 8, 2) := by decide +kernel
theorem dX6_firsts_72 : decode cX6_firsts 72 = .ok (.ishl, 1) := by decide +kernel
theorem dX6_firsts_73 : decode cX6_firsts 73 = .ok (.goto 4, 3) := by decide +kernel
theorem dX6_firsts_76 : decode cX6_firsts 76 = .ok (.iconst 0, 1) := by decide +kernel
theorem dX6_firsts_77 : decode cX6_firsts 77 = .ok (.ior, 1) := by decide +kernel
theorem dX6_firsts_78 : decode cX6_firsts 78 = .ok (.istore 7, 2) := by decide +kernel
theorem dX6_firsts_80 : decode cX6_firsts 80 = .ok (.iinc 8 1, 3) := by decide +kernel
theorem dX6_firsts_83 : decode cX6_firsts 83 = .ok (.goto (-56), 3) := by decide +kernel
theorem dX6_firsts_86 : decode cX6_firsts 86 = .ok (.iload 7, 2) := by decide +kernel
theorem dX6_firsts_88 : decode cX6_firsts 88 = .ok (.ireturn, 1) := by decide +kernel
theorem dX6_steps_0 : decode cX6_steps 0 = .ok (.aload_n 0, 1) := by decide +kernel
theorem dX6_steps_1 : decode cX6_steps 1 = .ok (.iload_n 1, 1) := by decide +kernel
theorem dX6_steps_2 : decode cX6_steps 2 = .ok (.iload_n 2, 1) := by decide +kernel
theorem dX6_steps_3 : decode cX6_steps 3 = .ok (.iload_n 3, 1) := by decide +kernel
theorem dX6_steps_4 : decode cX6_steps 4 = .ok (.iload 4, 2) := by decide +kernel
theorem dX6_steps_6 : decode cX6_steps 6 = .ok (.iload 5, 2) := by decide +kernel
theorem dX6_steps_8 : decode cX6_steps 8 = .ok (.invokevirtual 247, 3) := by decide +kernel
theorem dX6_steps_11 : decode cX6_steps 11 = .ok (.istore 6, 2) := by decide +kernel
theorem dX6_steps_13 : decode cX6_steps 13 = .ok (.iload 6, 2) := by decide +kernel
theorem dX6_steps_15 : decode cX6_steps 15 = .ok (.ifCond .eq 6, 3) := by decide +kernel
theorem dX6_steps_18 : decode cX6_steps 18 = .ok (.iload 6, 2) := by decide +kernel
theorem dX6_steps_20 : decode cX6_steps 20 = .ok (.ireturn, 1) := by decide +kernel
theorem dX6_steps_21 : decode cX6_steps 21 = .ok (.iconst 0, 1) := by decide +kernel
theorem dX6_steps_22 : decode cX6_steps 22 = .ok (.istore 7, 2) := by decide +kernel
theorem dX6_steps_24 : decode cX6_steps 24 = .ok (.iconst 0, 1) := by decide +kernel
theorem dX6_steps_25 : decode cX6_steps 25 = .ok (.istore 8, 2) := by decide +kernel
theorem dX6_steps_27 : decode cX6_steps 27 = .ok (.iload 8, 2) := by decide +kernel
theorem dX6_steps_29 : decode cX6_steps 29 = .ok (.iconst 4, 1) := by decide +kernel
theorem dX6_steps_30 : decode cX6_steps 30 = .ok (.if_icmp .gt 50, 3) := by decide +kernel
theorem dX6_steps_33 : decode cX6_steps 33 = .ok (.aload_n 0, 1) := by decide +kernel
theorem dX6_steps_34 : decode cX6_steps 34 = .ok (.invokevirtual 213, 3) := by decide +kernel
theorem dX6_steps_37 : decode cX6_steps 37 = .ok (.aload_n 0, 1) := by decide +kernel
theorem dX6_steps_38 : decode cX6_steps 38 = .ok (.getfield 30, 3) := by decide +kernel
theorem dX6_steps_41 : decode cX6_steps 41 = .ok (.getfield 181, 3) := by decide +kernel
theorem dX6_steps_44 : decode cX6_steps 44 = .ok (.iload_n 2, 1) := by decide +kernel
theorem dX6_steps_45 : decode cX6_steps 45 = .ok (.iload 8, 2) := by decide +kernel
theorem dX6_steps_47 : decode cX6_steps 47 = .ok (.iastore, 1) := by decide +kernel
theorem dX6_steps_48 : decode cX6_steps 48 = .ok (.iload 7, 2) := by decide +kernel
theorem dX6_steps_50 : decode cX6_steps 50 = .ok (.aload_n 0, 1) := by decide +kernel
theorem dX6_steps_51 : decode cX6_steps 51 = .ok (.iload_n 1, 1) := by decide +kernel
theorem dX6_steps_52 : decode cX6_steps 52 = .ok (.iload_n 3, 1) := by decide +kernel
theorem dX6_steps_53 : decode cX6_steps 53 = .ok (.iload 4, 2) := by decide +kernel
theorem dX6_steps_55 : decode cX6_steps 55 = .ok (.iload 5, 2) := by decide +kernel
theorem dX6_steps_57 : decode cX6_steps 57 = .ok (.invokevirtual 253, 3) := by decide +kernel
theorem dX6_steps_60 : decode cX6_steps 60 = .ok (.ifCond .eq 10, 3) := by decide +kernel
theorem dX6_steps_63 : decode cX6_steps 63 = .ok (.iconst 1, 1) := by decide +kernel
theorem dX6_steps_64 : decode cX6_steps 64 = .ok (.iload 8, 2) := by decide +kernel
theorem dX6_steps_66 : decode cX6_steps 66 = .ok (.ishl, 1) := by decide +kernel
theorem dX6_steps_67 : decode cX6_steps 67 = .ok (.goto 4, 3) := by decide +kernel
theorem dX6_steps_70 : decode cX6_steps 70 = .ok (.iconst 0, 1) := by decide +kernel
theorem dX6_steps_71 : decode cX6_steps 71 = .ok (.ior, 1) := by decide +kernel
theorem dX6_steps_72 : decode cX6_steps 72 = .ok (.istore 7, 2) := by decide +kernel
theorem dX6_steps_74 : decode cX6_steps 74 = .ok (.iinc 8 1, 3) := by decide +kernel
theorem dX6_steps_77 : decode cX6_steps 77 = .ok (.goto (-50), 3) := by decide +kernel
theorem dX6_steps_80 : decode cX6_steps 80 = .ok (.iload 7, 2) := by decide +kernel
theorem dX6_steps_82 : decode cX6_steps 82 = .ok (.ireturn, 1) := by decide +kernel
theorem dX6_even_0 : decode cX6_even 0 = .ok (.aload_n 0, 1) := by decide +kernel
theorem dX6_even_1 : decode cX6_even 1 = .ok (.invokevirtual 156, 3) := by decide +kernel
theorem dX6_even_4 : decode cX6_even 4 = .ok (.ifCond .eq 6, 3) := by decide +kernel
theorem dX6_even_7 : decode cX6_even 7 = .ok (.ldc 155, 2) := by decide +kernel
theorem dX6_even_9 : decode cX6_even 9 = .ok (.ireturn, 1) := by decide +kernel
theorem dX6_even_10 : decode cX6_even 10 = .ok (.iload_n 1, 1) := by decide +kernel
theorem dX6_even_11 : decode cX6_even 11 = .ok (.iconst 0, 1) := by decide +kernel
theorem dX6_even_12 : decode cX6_even 12 = .ok (.bipush 60, 2) := by decide +kernel
theorem dX6_even_14 : decode cX6_even 14 = .ok (.invokestatic 76, 3) := by decide +kernel
theorem dX6_even_17 : decode cX6_even 17 = .ok (.ifCond .ne 6, 3) := by decide +kernel
theorem dX6_even_20 : decode cX6_even 20 = .ok (.ldc 80, 2) := by decide +kernel
theorem dX6_even_22 : decode cX6_even 22 = .ok (.ireturn, 1) := by decide +kernel
theorem dX6_even_23 : decode cX6_even 23 = .ok (.aload_n 0, 1) := by decide +kernel
theorem dX6_even_24 : decode cX6_even 24 = .ok (.invokevirtual 213, 3) := by decide +kernel
theorem dX6_even_27 : decode cX6_even 27 = .ok (.aload_n 0, 1) := by decide +kernel
theorem dX6_even_28 : decode cX6_even 28 = .ok (.getfield 30, 3) := by decide +kernel
theorem dX6_even_31 : decode cX6_even 31 = .ok (.iload_n 1, 1) := by decide +kernel
theorem dX6_even_32 : decode cX6_even 32 = .ok (.invokevirtual 216, 3) := by decide +kernel
theorem dX6_even_35 : decode cX6_even 35 = .ok (.aload_n 0, 1) := by decide +kernel
theorem dX6_even_36 : decode cX6_even 36 = .ok (.getfield 30, 3) := by decide +kernel
theorem dX6_even_39 : decode cX6_even 39 = .ok (.getfield 204, 3) := by decide +kernel
theorem dX6_even_42 : decode cX6_even 42 = .ok (.iconst 0, 1) := by decide +kernel
theorem dX6_even_43 : decode cX6_even 43 = .ok (.iaload, 1) := by decide +kernel
theorem dX6_even_44 : decode cX6_even 44 = .ok (.istore_n 2, 1) := by decide +kernel
theorem dX6_even_45 : decode cX6_even 45 = .ok (.aload_n 0, 1) := by decide +kernel
theorem dX6_even_46 : decode cX6_even 46 = .ok (.getfield 30, 3) := by decide +kernel
theorem dX6_even_49 : decode cX6_even 49 = .ok (.getfield 204, 3) := by decide +kernel
theorem dX6_even_52 : decode cX6_even 52 = .ok (.iconst 0, 1) := by decide +kernel
theorem dX6_even_53 : decode cX6_even 53 = .ok (.iaload, 1) := by decide +kernel
theorem dX6_even_54 : decode cX6_even 54 = .ok (.istore_n 3, 1) := by decide +kernel
theorem dX6_even_55 : decode cX6_even 55 = .ok (.iconst 1, 1) := by decide +kernel
theorem dX6_even_56 : decode cX6_even 56 = .ok (.istore 4, 2) := by decide +kernel
theorem dX6_even_58 : decode cX6_even 58 = .ok (.iload 4, 2) := by decide +kernel
theorem dX6_even_60 : decode cX6_even 60 = .ok (.aload_n 0, 1) := by decide +kernel
theorem dX6_even_61 : decode cX6_even 61 = .ok (.getfield 30, 3) := by decide +kernel
theorem dX6_even_64 : decode cX6_even 64 = .ok (.getfield 257, 3) := by decide +kernel
theorem dX6_even_67 : decode cX6_even 67 = .ok (.if_icmp .ge 39, 3) := by decide +kernel
theorem dX6_even_70 : decode cX6_even 70 = .ok (.iload_n 2, 1) := by decide +kernel
theorem dX6_even_71 : decode cX6_even 71 = .ok (.aload_n 0, 1) := by decide +kernel
theorem dX6_even_72 : decode cX6_even 72 = .ok (.getfield 30, 3) := by decide +kernel
theorem dX6_even_75 : decode cX6_even 75 = .ok (.getfield 204, 3) := by decide +kernel
theorem dX6_even_78 : decode cX6_even 78 = .ok (.iload 4, 2) := by decide +kernel
theorem dX6_even_80 : decode cX6_even 80 = .ok (.iaload, 1) := by decide +kernel
theorem dX6_even_81 : decode cX6_even 81 = .ok (.invokestatic 260, 3) := by decide +kernel
theorem dX6_even_84 : decode cX6_even 84 = .ok (.istore_n 2, 1) := by decide +kernel
theorem dX6_even_85 : decode cX6_even 85 = .ok (.iload_n 3, 1) := by decide +kernel
theorem dX6_even_86 : decode cX6_even 86 = .ok (.aload_n 0, 1) := by decide +kernel
theorem dX6_even_87 : decode cX6_even 87 = .ok (.getfield 30, 3) := by decide +kernel
theorem dX6_even_90 : decode cX6_even 90 = .ok (.getfield 204, 3) := by decide +kernel
theorem dX6_even_93 : decode cX6_even 93 = .ok (.iload 4, 2) := by decide +kernel
theorem dX6_even_95 : decode cX6_even 95 = .ok (.iaload, 1) := by decide +kernel
theorem dX6_even_96 : decode cX6_even 96 = .ok (.invokestatic 265, 3) := by decide +kernel
theorem dX6_even_99 : decode cX6_even 99 = .ok (.istore_n 3, 1) := by decide +kernel
theorem dX6_even_100 : decode cX6_even 100 = .ok (.iinc 4 1, 3) := by decide +kernel
theorem dX6_even_103 : decode cX6_even 103 = .ok (.goto (-45), 3) := by decide +kernel
theorem dX6_even_106 : decode cX6_even 106 = .ok (.iload_n 2, 1) := by decide +kernel
theorem dX6_even_107 : decode cX6_even 107 = .ok (.iload_n 3, 1) := by decide +kernel
theorem dX6_even_108 : decode cX6_even 108 = .ok (.isub, 1) := by decide +kernel
theorem dX6_even_109 : decode cX6_even 109 = .ok (.ireturn, 1) := by decide +kernel
theorem dX6_fever_0 : decode cX6_fever 0 = .ok (.aload_n 0, 1) := by decide +kernel
theorem dX6_fever_1 : decode cX6_fever 1 = .ok (.getfield 26, 3) := by decide +kernel
theorem dX6_fever_4 : decode cX6_fever 4 = .ok (.iload_n 1, 1) := by decide +kernel
theorem dX6_fever_5 : decode cX6_fever 5 = .ok (.invokevirtual 175, 3) := by decide +kernel
theorem dX6_fever_8 : decode cX6_fever 8 = .ok (.ifCond .eq 22, 3) := by decide +kernel
theorem dX6_fever_11 : decode cX6_fever 11 = .ok (.iload_n 2, 1) := by decide +kernel
theorem dX6_fever_12 : decode cX6_fever 12 = .ok (.iconst 0, 1) := by decide +kernel
theorem dX6_fever_13 : decode cX6_fever 13 = .ok (.bipush 10, 2) := by decide +kernel
theorem dX6_fever_15 : decode cX6_fever 15 = .ok (.invokestatic 76, 3) := by decide +kernel
theorem dX6_fever_18 : decode cX6_fever 18 = .ok (.ifCond .eq 12, 3) := by decide +kernel
theorem dX6_fever_21 : decode cX6_fever 21 = .ok (.iload_n 3, 1) := by decide +kernel
theorem dX6_fever_22 : decode cX6_fever 22 = .ok (.iconst 0, 1) := by decide +kernel
theorem dX6_fever_23 : decode cX6_fever 23 = .ok (.iconst 1, 1) := by decide +kernel
theorem dX6_fever_24 : decode cX6_fever 24 = .ok (.invokestatic 76, 3) := by decide +kernel
theorem dX6_fever_27 : decode cX6_fever 27 = .ok (.ifCond .ne 7, 3) := by decide +kernel
theorem dX6_fever_30 : decode cX6_fever 30 = .ok (.ldc2_w 268, 3) := by decide +kernel
theorem dX6_fever_33 : decode cX6_fever 33 = .ok (.lreturn, 1) := by decide +kernel
theorem dX6_fever_34 : decode cX6_fever 34 = .ok (.aload_n 0, 1) := by decide +kernel
theorem dX6_fever_35 : decode cX6_fever 35 = .ok (.getfield 26, 3) := by decide +kernel
theorem dX6_fever_38 : decode cX6_fever 38 = .ok (.iload_n 1, 1) := by decide +kernel
theorem dX6_fever_39 : decode cX6_fever 39 = .ok (.invokevirtual 210, 3) := by decide +kernel
theorem dX6_fever_42 : decode cX6_fever 42 = .ok (.istore 4, 2) := by decide +kernel
theorem dX6_fever_44 : decode cX6_fever 44 = .ok (.lconst 0, 1) := by decide +kernel
theorem dX6_fever_45 : decode cX6_fever 45 = .ok (.lstore 5, 2) := by decide +kernel
theorem dX6_fever_47 : decode cX6_fever 47 = .ok (.bipush 10, 2) := by decide +kernel
theorem dX6_fever_49 : decode cX6_fever 49 = .ok (.iload 4, 2) := by decide +kernel
theorem dX6_fever_51 : decode cX6_fever 51 = .ok (.invokestatic 233, 3) := by decide +kernel
theorem dX6_fever_54 : decode cX6_fever 54 = .ok (.invokestatic 270, 3) := by decide +kernel
theorem dX6_fever_57 : decode cX6_fever 57 = .ok (.lstore 7, 2) := by decide +kernel
theorem dX6_fever_59 : decode cX6_fever 59 = .ok (.iconst 0, 1) := by decide +kernel
theorem dX6_fever_60 : decode cX6_fever 60 = .ok (.istore 9, 2) := by decide +kernel
theorem dX6_fever_62 : decode cX6_fever 62 = .ok (.iload 9, 2) := by decide +kernel
theorem dX6_fever_64 : decode cX6_fever 64 = .ok (.bipush 64, 2) := by decide +kernel
theorem dX6_fever_66 : decode cX6_fever 66 = .ok (.if_icmp .ge 65, 3) := by decide +kernel
theorem dX6_fever_69 : decode cX6_fever 69 = .ok (.iload 9, 2) := by decide +kernel
theorem dX6_fever_71 : decode cX6_fever 71 = .ok (.iload 4, 2) := by decide +kernel
theorem dX6_fever_73 : decode cX6_fever 73 = .ok (.iconst (-1), 1) := by decide +kernel
theorem dX6_fever_74 : decode cX6_fever 74 = .ok (.ixor, 1) := by decide +kernel
theorem dX6_fever_75 : decode cX6_fever 75 = .ok (.iand, 1) := by decide +kernel
theorem dX6_fever_76 : decode cX6_fever 76 = .ok (.ifCond .ne 49, 3) := by decide +kernel
theorem dX6_fever_79 : decode cX6_fever 79 = .ok (.aload_n 0, 1) := by decide +kernel
theorem dX6_fever_80 : decode cX6_fever 80 = .ok (.getfield 26, 3) := by decide +kernel
theorem dX6_fever_83 : decode cX6_fever 83 = .ok (.iload 9, 2) := by decide +kernel
theorem dX6_fever_85 : decode cX6_fever 85 = .ok (.invokevirtual 274, 3) := by decide +kernel
theorem dX6_fever_88 : decode cX6_fever 88 = .ok (.ifCond .eq 37, 3) := by decide +kernel
theorem dX6_fever_91 : decode cX6_fever 91 = .ok (.iload 9, 2) := by decide +kernel
theorem dX6_fever_93 : decode cX6_fever 93 = .ok (.invokestatic 233, 3) := by decide +kernel
theorem dX6_fever_96 : decode cX6_fever 96 = .ok (.istore 10, 2) := by decide +kernel
theorem dX6_fever_98 : decode cX6_fever 98 = .ok (.lload 5, 2) := by decide +kernel
theorem dX6_fever_100 : decode cX6_fever 100 = .ok (.bipush 10, 2) := by decide +kernel
theorem dX6_fever_102 : decode cX6_fever 102 = .ok (.iload_n 2, 1) := by decide +kernel
theorem dX6_fever_103 : decode cX6_fever 103 = .ok (.isub, 1) := by decide +kernel
theorem dX6_fever_104 : decode cX6_fever 104 = .ok (.iload 10, 2) := by decide +kernel
theorem dX6_fever_106 : decode cX6_fever 106 = .ok (.invokestatic 270, 3) := by decide +kernel
theorem dX6_fever_109 : decode cX6_fever 109 = .ok (.iload_n 2, 1) := by decide +kernel
theorem dX6_fever_110 : decode cX6_fever 110 = .ok (.iload 4, 2) := by decide +kernel
theorem dX6_fever_112 : decode cX6_fever 112 = .ok (.invokestatic 233, 3) := by decide +kernel
theorem dX6_fever_115 : decode cX6_fever 115 = .ok (.iload 10, 2) := by decide +kernel
theorem dX6_fever_117 : decode cX6_fever 117 = .ok (.isub, 1) := by decide +kernel
theorem dX6_fever_118 : decode cX6_fever 118 = .ok (.invokestatic 270, 3) := by decide +kernel
theorem dX6_fever_121 : decode cX6_fever 121 = .ok (.lmul, 1) := by decide +kernel
theorem dX6_fever_122 : decode cX6_fever 122 = .ok (.ladd, 1) := by decide +kernel
theorem dX6_fever_123 : decode cX6_fever 123 = .ok (.lstore 5, 2) := by decide +kernel
theorem dX6_fever_125 : decode cX6_fever 125 = .ok (.iinc 9 1, 3) := by decide +kernel
theorem dX6_fever_128 : decode cX6_fever 128 = .ok (.goto (-66), 3) := by decide +kernel
theorem dX6_fever_131 : decode cX6_fever 131 = .ok (.lload 5, 2) := by decide +kernel
theorem dX6_fever_133 : decode cX6_fever 133 = .ok (.lload 7, 2) := by decide +kernel
theorem dX6_fever_135 : decode cX6_fever 135 = .ok (.invokestatic 277, 3) := by decide +kernel
theorem dX6_fever_138 : decode cX6_fever 138 = .ok (.lstore 9, 2) := by decide +kernel
theorem dX6_fever_140 : decode cX6_fever 140 = .ok (.iload_n 3, 1) := by decide +kernel
theorem dX6_fever_141 : decode cX6_fever 141 = .ok (.ifCond .ne 8, 3) := by decide +kernel
theorem dX6_fever_144 : decode cX6_fever 144 = .ok (.lload 5, 2) := by decide +kernel
theorem dX6_fever_146 : decode cX6_fever 146 = .ok (.goto 5, 3) := by decide +kernel
theorem dX6_fever_149 : decode cX6_fever 149 = .ok (.lload 7, 2) := by decide +kernel
theorem dX6_fever_151 : decode cX6_fever 151 = .ok (.lload 9, 2) := by decide +kernel
theorem dX6_fever_153 : decode cX6_fever 153 = .ok (.ldiv, 1) := by decide +kernel
theorem dX6_fever_154 : decode cX6_fever 154 = .ok (.lreturn, 1) := by decide +kernel
theorem dX6_drawn_0 : decode cX6_drawn 0 = .ok (.aload_n 0, 1) := by decide +kernel
theorem dX6_drawn_1 : decode cX6_drawn 1 = .ok (.invokevirtual 156, 3) := by decide +kernel
theorem dX6_drawn_4 : decode cX6_drawn 4 = .ok (.ifCond .eq 6, 3) := by decide +kernel
theorem dX6_drawn_7 : decode cX6_drawn 7 = .ok (.ldc 155, 2) := by decide +kernel
theorem dX6_drawn_9 : decode cX6_drawn 9 = .ok (.ireturn, 1) := by decide +kernel
theorem dX6_drawn_10 : decode cX6_drawn 10 = .ok (.iload_n 1, 1) := by decide +kernel
theorem dX6_drawn_11 : decode cX6_drawn 11 = .ok (.iconst 0, 1) := by decide +kernel
theorem dX6_drawn_12 : decode cX6_drawn 12 = .ok (.bipush 60, 2) := by decide +kernel
theorem dX6_drawn_14 : decode cX6_drawn 14 = .ok (.invokestatic 76, 3) := by decide +kernel
theorem dX6_drawn_17 : decode cX6_drawn 17 = .ok (.ifCond .eq 23, 3) := by decide +kernel
theorem dX6_drawn_20 : decode cX6_drawn 20 = .ok (.iload_n 2, 1) := by decide +kernel
theorem dX6_drawn_21 : decode cX6_drawn 21 = .ok (.iconst 1, 1) := by decide +kernel
theorem dX6_drawn_22 : decode cX6_drawn 22 = .ok (.ldc_w 281, 3) := by decide +kernel
theorem dX6_drawn_25 : decode cX6_drawn 25 = .ok (.invokestatic 76, 3) := by decide +kernel
theorem dX6_drawn_28 : decode cX6_drawn 28 = .ok (.ifCond .eq 12, 3) := by decide +kernel
theorem dX6_drawn_31 : decode cX6_drawn 31 = .ok (.iload_n 3, 1) := by decide +kernel
theorem dX6_drawn_32 : decode cX6_drawn 32 = .ok (.iconst 0, 1) := by decide +kernel
theorem dX6_drawn_33 : decode cX6_drawn 33 = .ok (.iconst 1, 1) := by decide +kernel
theorem dX6_drawn_34 : decode cX6_drawn 34 = .ok (.invokestatic 76, 3) := by decide +kernel
theorem dX6_drawn_37 : decode cX6_drawn 37 = .ok (.ifCond .ne 6, 3) := by decide +kernel
theorem dX6_drawn_40 : decode cX6_drawn 40 = .ok (.ldc 80, 2) := by decide +kernel
theorem dX6_drawn_42 : decode cX6_drawn 42 = .ok (.ireturn, 1) := by decide +kernel
theorem dX6_drawn_43 : decode cX6_drawn 43 = .ok (.aload_n 0, 1) := by decide +kernel
theorem dX6_drawn_44 : decode cX6_drawn 44 = .ok (.invokevirtual 213, 3) := by decide +kernel
theorem dX6_drawn_47 : decode cX6_drawn 47 = .ok (.iload_n 2, 1) := by decide +kernel
theorem dX6_drawn_48 : decode cX6_drawn 48 = .ok (.i2l, 1) := by decide +kernel
theorem dX6_drawn_49 : decode cX6_drawn 49 = .ok (.lstore 4, 2) := by decide +kernel
theorem dX6_drawn_51 : decode cX6_drawn 51 = .ok (.iconst 0, 1) := by decide +kernel
theorem dX6_drawn_52 : decode cX6_drawn 52 = .ok (.istore 6, 2) := by decide +kernel
theorem dX6_drawn_54 : decode cX6_drawn 54 = .ok (.iload 6, 2) := by decide +kernel
theorem dX6_drawn_56 : decode cX6_drawn 56 = .ok (.iload_n 1, 1) := by decide +kernel
theorem dX6_drawn_57 : decode cX6_drawn 57 = .ok (.if_icmp .ge 48, 3) := by decide +kernel
theorem dX6_drawn_60 : decode cX6_drawn 60 = .ok (.lload 4, 2) := by decide +kernel
theorem dX6_drawn_62 : decode cX6_drawn 62 = .ok (.ldc2_w 282, 3) := by decide +kernel
theorem dX6_drawn_65 : decode cX6_drawn 65 = .ok (.lmul, 1) := by decide +kernel
theorem dX6_drawn_66 : decode cX6_drawn 66 = .ok (.ldc2_w 284, 3) := by decide +kernel
theorem dX6_drawn_69 : decode cX6_drawn 69 = .ok (.lrem, 1) := by decide +kernel
theorem dX6_drawn_70 : decode cX6_drawn 70 = .ok (.lstore 4, 2) := by decide +kernel
theorem dX6_drawn_72 : decode cX6_drawn 72 = .ok (.lload 4, 2) := by decide +kernel
theorem dX6_drawn_74 : decode cX6_drawn 74 = .ok (.ldc2_w 286, 3) := by decide +kernel
theorem dX6_drawn_77 : decode cX6_drawn 77 = .ok (.lrem, 1) := by decide +kernel
theorem dX6_drawn_78 : decode cX6_drawn 78 = .ok (.lconst 0, 1) := by decide +kernel
theorem dX6_drawn_79 : decode cX6_drawn 79 = .ok (.lcmp, 1) := by decide +kernel
theorem dX6_drawn_80 : decode cX6_drawn 80 = .ok (.ifCond .ne 12, 3) := by decide +kernel
theorem dX6_drawn_83 : decode cX6_drawn 83 = .ok (.aload_n 0, 1) := by decide +kernel
theorem dX6_drawn_84 : decode cX6_drawn 84 = .ok (.getfield 30, 3) := by decide +kernel
theorem dX6_drawn_87 : decode cX6_drawn 87 = .ok (.lload 4, 2) := by decide +kernel
theorem dX6_drawn_89 : decode cX6_drawn 89 = .ok (.invokevirtual 288, 3) := by decide +kernel
theorem dX6_drawn_92 : decode cX6_drawn 92 = .ok (.aload_n 0, 1) := by decide +kernel
theorem dX6_drawn_93 : decode cX6_drawn 93 = .ok (.getfield 30, 3) := by decide +kernel
theorem dX6_drawn_96 : decode cX6_drawn 96 = .ok (.invokevirtual 166, 3) := by decide +kernel
theorem dX6_drawn_99 : decode cX6_drawn 99 = .ok (.iinc 6 1, 3) := by decide +kernel
theorem dX6_drawn_102 : decode cX6_drawn 102 = .ok (.goto (-48), 3) := by decide +kernel
theorem dX6_drawn_105 : decode cX6_drawn 105 = .ok (.iload_n 3, 1) := by decide +kernel
theorem dX6_drawn_106 : decode cX6_drawn 106 = .ok (.ifCond .ne 13, 3) := by decide +kernel
theorem dX6_drawn_109 : decode cX6_drawn 109 = .ok (.aload_n 0, 1) := by decide +kernel
theorem dX6_drawn_110 : decode cX6_drawn 110 = .ok (.getfield 30, 3) := by decide +kernel
theorem dX6_drawn_113 : decode cX6_drawn 113 = .ok (.getfield 204, 3) := by decide +kernel
theorem dX6_drawn_116 : decode cX6_drawn 116 = .ok (.goto 10, 3) := by decide +kernel
theorem dX6_drawn_119 : decode cX6_drawn 119 = .ok (.aload_n 0, 1) := by decide +kernel
theorem dX6_drawn_120 : decode cX6_drawn 120 = .ok (.getfield 30, 3) := by decide +kernel
theorem dX6_drawn_123 : decode cX6_drawn 123 = .ok (.getfield 191, 3) := by decide +kernel
theorem dX6_drawn_126 : decode cX6_drawn 126 = .ok (.aload_n 0, 1) := by decide +kernel
theorem dX6_drawn_127 : decode cX6_drawn 127 = .ok (.getfield 30, 3) := by decide +kernel
theorem dX6_drawn_130 : decode cX6_drawn 130 = .ok (.getfield 257, 3) := by decide +kernel
theorem dX6_drawn_133 : decode cX6_drawn 133 = .ok (.invokestatic 292, 3) := by decide +kernel
theorem dX6_drawn_136 : decode cX6_drawn 136 = .ok (.ireturn, 1) := by decide +kernel
theorem dX6_image_0 : decode cX6_image 0 = .ok (.iload_n 1, 1) := by decide +kernel
theorem dX6_image_1 : decode cX6_image 1 = .ok (.iconst 0, 1) := by decide +kernel
theorem dX6_image_2 : decode cX6_image 2 = .ok (.iconst 1, 1) := by decide +kernel
theorem dX6_image_3 : decode cX6_image 3 = .ok (.invokestatic 76, 3) := by decide +kernel
theorem dX6_image_6 : decode cX6_image 6 = .ok (.ifCond .ne 6, 3) := by decide +kernel
theorem dX6_image_9 : decode cX6_image 9 = .ok (.ldc 80, 2) := by decide +kernel
theorem dX6_image_11 : decode cX6_image 11 = .ok (.ireturn, 1) := by decide +kernel
theorem dX6_image_12 : decode cX6_image 12 = .ok (.aload_n 0, 1) := by decide +kernel
theorem dX6_image_13 : decode cX6_image 13 = .ok (.invokevirtual 156, 3) := by decide +kernel
theorem dX6_image_16 : decode cX6_image 16 = .ok (.ifCond .eq 6, 3) := by decide +kernel
theorem dX6_image_19 : decode cX6_image 19 = .ok (.ldc 155, 2) := by decide +kernel
theorem dX6_image_21 : decode cX6_image 21 = .ok (.ireturn, 1) := by decide +kernel
theorem dX6_image_22 : decode cX6_image 22 = .ok (.aload_n 0, 1) := by decide +kernel
theorem dX6_image_23 : decode cX6_image 23 = .ok (.getfield 26, 3) := by decide +kernel
theorem dX6_image_26 : decode cX6_image 26 = .ok (.aload_n 0, 1) := by decide +kernel
theorem dX6_image_27 : decode cX6_image 27 = .ok (.getfield 49, 3) := by decide +kernel
theorem dX6_image_30 : decode cX6_image 30 = .ok (.iload_n 1, 1) := by decide +kernel
theorem dX6_image_31 : decode cX6_image 31 = .ok (.aaload, 1) := by decide +kernel
theorem dX6_image_32 : decode cX6_image 32 = .ok (.invokevirtual 135, 3) := by decide +kernel
theorem dX6_image_35 : decode cX6_image 35 = .ok (.aload_n 0, 1) := by decide +kernel
theorem dX6_image_36 : decode cX6_image 36 = .ok (.getfield 52, 3) := by decide +kernel
theorem dX6_image_39 : decode cX6_image 39 = .ok (.iload_n 1, 1) := by decide +kernel
theorem dX6_image_40 : decode cX6_image 40 = .ok (.iconst 1, 1) := by decide +kernel
theorem dX6_image_41 : decode cX6_image 41 = .ok (.bastore, 1) := by decide +kernel
theorem dX6_image_42 : decode cX6_image 42 = .ok (.iconst 1, 1) := by decide +kernel
theorem dX6_image_43 : decode cX6_image 43 = .ok (.ireturn, 1) := by decide +kernel
theorem dX6_restore_0 : decode cX6_restore 0 = .ok (.iload_n 1, 1) := by decide +kernel
theorem dX6_restore_1 : decode cX6_restore 1 = .ok (.iconst 0, 1) := by decide +kernel
theorem dX6_restore_2 : decode cX6_restore 2 = .ok (.iconst 1, 1) := by decide +kernel
theorem dX6_restore_3 : decode cX6_restore 3 = .ok (.invokestatic 76, 3) := by decide +kernel
theorem dX6_restore_6 : decode cX6_restore 6 = .ok (.ifCond .ne 6, 3) := by decide +kernel
theorem dX6_restore_9 : decode cX6_restore 9 = .ok (.ldc 80, 2) := by decide +kernel
theorem dX6_restore_11 : decode cX6_restore 11 = .ok (.ireturn, 1) := by decide +kernel
theorem dX6_restore_12 : decode cX6_restore 12 = .ok (.aload_n 0, 1) := by decide +kernel
theorem dX6_restore_13 : decode cX6_restore 13 = .ok (.getfield 52, 3) := by decide +kernel
theorem dX6_restore_16 : decode cX6_restore 16 = .ok (.iload_n 1, 1) := by decide +kernel
theorem dX6_restore_17 : decode cX6_restore 17 = .ok (.baload, 1) := by decide +kernel
theorem dX6_restore_18 : decode cX6_restore 18 = .ok (.ifCond .ne 6, 3) := by decide +kernel
theorem dX6_restore_21 : decode cX6_restore 21 = .ok (.ldc 155, 2) := by decide +kernel
theorem dX6_restore_23 : decode cX6_restore 23 = .ok (.ireturn, 1) := by decide +kernel
theorem dX6_restore_24 : decode cX6_restore 24 = .ok (.aload_n 0, 1) := by decide +kernel
theorem dX6_restore_25 : decode cX6_restore 25 = .ok (.getfield 26, 3) := by decide +kernel
theorem dX6_restore_28 : decode cX6_restore 28 = .ok (.aload_n 0, 1) := by decide +kernel
theorem dX6_restore_29 : decode cX6_restore 29 = .ok (.getfield 49, 3) := by decide +kernel
theorem dX6_restore_32 : decode cX6_restore 32 = .ok (.iload_n 1, 1) := by decide +kernel
theorem dX6_restore_33 : decode cX6_restore 33 = .ok (.aaload, 1) := by decide +kernel
theorem dX6_restore_34 : decode cX6_restore 34 = .ok (.invokevirtual 139, 3) := by decide +kernel
theorem dX6_restore_37 : decode cX6_restore 37 = .ok (.aload_n 0, 1) := by decide +kernel
theorem dX6_restore_38 : decode cX6_restore 38 = .ok (.getfield 43, 3) := by decide +kernel
theorem dX6_restore_41 : decode cX6_restore 41 = .ok (.invokevirtual 142, 3) := by decide +kernel
theorem dX6_restore_44 : decode cX6_restore 44 = .ok (.iconst 1, 1) := by decide +kernel
theorem dX6_restore_45 : decode cX6_restore 45 = .ok (.ireturn, 1) := by decide +kernel
theorem dX6_kind_0 : decode cX6_kind 0 = .ok (.aload_n 0, 1) := by decide +kernel
theorem dX6_kind_1 : decode cX6_kind 1 = .ok (.getfield 26, 3) := by decide +kernel
theorem dX6_kind_4 : decode cX6_kind 4 = .ok (.iload_n 1, 1) := by decide +kernel
theorem dX6_kind_5 : decode cX6_kind 5 = .ok (.invokevirtual 169, 3) := by decide +kernel
theorem dX6_kind_8 : decode cX6_kind 8 = .ok (.ifCond .eq 15, 3) := by decide +kernel
theorem dX6_kind_11 : decode cX6_kind 11 = .ok (.aload_n 0, 1) := by decide +kernel
theorem dX6_kind_12 : decode cX6_kind 12 = .ok (.getfield 26, 3) := by decide +kernel
theorem dX6_kind_15 : decode cX6_kind 15 = .ok (.getfield 250, 3) := by decide +kernel
theorem dX6_kind_18 : decode cX6_kind 18 = .ok (.iload_n 1, 1) := by decide +kernel
theorem dX6_kind_19 : decode cX6_kind 19 = .ok (.iaload, 1) := by decide +kernel
theorem dX6_kind_20 : decode cX6_kind 20 = .ok (.goto 5, 3) := by decide +kernel
theorem dX6_kind_23 : decode cX6_kind 23 = .ok (.ldc 80, 2) := by decide +kernel
theorem dX6_kind_25 : decode cX6_kind 25 = .ok (.ireturn, 1) := by decide +kernel
theorem dX6_as_0 : decode cX6_as 0 = .ok (.aload_n 0, 1) := by decide +kernel
theorem dX6_as_1 : decode cX6_as 1 = .ok (.getfield 26, 3) := by decide +kernel
theorem dX6_as_4 : decode cX6_as 4 = .ok (.iload_n 1, 1) := by decide +kernel
theorem dX6_as_5 : decode cX6_as 5 = .ok (.invokevirtual 169, 3) := by decide +kernel
theorem dX6_as_8 : decode cX6_as 8 = .ok (.ifCond .eq 12, 3) := by decide +kernel
theorem dX6_as_11 : decode cX6_as 11 = .ok (.iload_n 2, 1) := by decide +kernel
theorem dX6_as_12 : decode cX6_as 12 = .ok (.iconst 0, 1) := by decide +kernel
theorem dX6_as_13 : decode cX6_as 13 = .ok (.iconst 5, 1) := by decide +kernel
theorem dX6_as_14 : decode cX6_as 14 = .ok (.invokestatic 76, 3) := by decide +kernel
theorem dX6_as_17 : decode cX6_as 17 = .ok (.ifCond .ne 6, 3) := by decide +kernel
theorem dX6_as_20 : decode cX6_as 20 = .ok (.ldc 80, 2) := by decide +kernel
theorem dX6_as_22 : decode cX6_as 22 = .ok (.ireturn, 1) := by decide +kernel
theorem dX6_as_23 : decode cX6_as 23 = .ok (.aload_n 0, 1) := by decide +kernel
theorem dX6_as_24 : decode cX6_as 24 = .ok (.getfield 26, 3) := by decide +kernel
theorem dX6_as_27 : decode cX6_as 27 = .ok (.getfield 250, 3) := by decide +kernel
theorem dX6_as_30 : decode cX6_as 30 = .ok (.iload_n 1, 1) := by decide +kernel
theorem dX6_as_31 : decode cX6_as 31 = .ok (.iaload, 1) := by decide +kernel
theorem dX6_as_32 : decode cX6_as 32 = .ok (.iload_n 2, 1) := by decide +kernel
theorem dX6_as_33 : decode cX6_as 33 = .ok (.invokestatic 296, 3) := by decide +kernel
theorem dX6_as_36 : decode cX6_as 36 = .ok (.ifCond .ne 9, 3) := by decide +kernel
theorem dX6_as_39 : decode cX6_as 39 = .ok (.aload_n 0, 1) := by decide +kernel
theorem dX6_as_40 : decode cX6_as 40 = .ok (.iconst 3, 1) := by decide +kernel
theorem dX6_as_41 : decode cX6_as 41 = .ok (.invokevirtual 81, 3) := by decide +kernel
theorem dX6_as_44 : decode cX6_as 44 = .ok (.ireturn, 1) := by decide +kernel
theorem dX6_as_45 : decode cX6_as 45 = .ok (.aload_n 0, 1) := by decide +kernel
theorem dX6_as_46 : decode cX6_as 46 = .ok (.iconst 0, 1) := by decide +kernel
theorem dX6_as_47 : decode cX6_as 47 = .ok (.putfield 89, 3) := by decide +kernel
theorem dX6_as_50 : decode cX6_as 50 = .ok (.iload_n 1, 1) := by decide +kernel
theorem dX6_as_51 : decode cX6_as 51 = .ok (.ireturn, 1) := by decide +kernel
theorem dX6_ask_0 : decode cX6_ask 0 = .ok (.aload_n 0, 1) := by decide +kernel
theorem dX6_ask_1 : decode cX6_ask 1 = .ok (.getfield 26, 3) := by decide +kernel
theorem dX6_ask_4 : decode cX6_ask 4 = .ok (.iload_n 1, 1) := by decide +kernel
theorem dX6_ask_5 : decode cX6_ask 5 = .ok (.invokevirtual 169, 3) := by decide +kernel
theorem dX6_ask_8 : decode cX6_ask 8 = .ok (.ifCond .eq 12, 3) := by decide +kernel
theorem dX6_ask_11 : decode cX6_ask 11 = .ok (.iload_n 2, 1) := by decide +kernel
theorem dX6_ask_12 : decode cX6_ask 12 = .ok (.iconst 0, 1) := by decide +kernel
theorem dX6_ask_13 : decode cX6_ask 13 = .ok (.iconst 1, 1) := by decide +kernel
theorem dX6_ask_14 : decode cX6_ask 14 = .ok (.invokestatic 76, 3) := by decide +kernel
theorem dX6_ask_17 : decode cX6_ask 17 = .ok (.ifCond .ne 6, 3) := by decide +kernel
theorem dX6_ask_20 : decode cX6_ask 20 = .ok (.ldc 80, 2) := by decide +kernel
theorem dX6_ask_22 : decode cX6_ask 22 = .ok (.ireturn, 1) := by decide +kernel
theorem dX6_ask_23 : decode cX6_ask 23 = .ok (.aload_n 0, 1) := by decide +kernel
theorem dX6_ask_24 : decode cX6_ask 24 = .ok (.getfield 59, 3) := by decide +kernel
theorem dX6_ask_27 : decode cX6_ask 27 = .ok (.iload_n 1, 1) := by decide +kernel
theorem dX6_ask_28 : decode cX6_ask 28 = .ok (.aload_n 0, 1) := by decide +kernel
theorem dX6_ask_29 : decode cX6_ask 29 = .ok (.getfield 26, 3) := by decide +kernel
theorem dX6_ask_32 : decode cX6_ask 32 = .ok (.invokevirtual 300, 3) := by decide +kernel
theorem dX6_ask_35 : decode cX6_ask 35 = .ok (.iload_n 2, 1) := by decide +kernel
theorem dX6_ask_36 : decode cX6_ask 36 = .ok (.ifCond .ne 13, 3) := by decide +kernel
theorem dX6_ask_39 : decode cX6_ask 39 = .ok (.aload_n 0, 1) := by decide +kernel
theorem dX6_ask_40 : decode cX6_ask 40 = .ok (.getfield 59, 3) := by decide +kernel
theorem dX6_ask_43 : decode cX6_ask 43 = .ok (.invokevirtual 304, 3) := by decide +kernel
theorem dX6_ask_46 : decode cX6_ask 46 = .ok (.goto 10, 3) := by decide +kernel
theorem dX6_ask_49 : decode cX6_ask 49 = .ok (.aload_n 0, 1) := by decide +kernel
theorem dX6_ask_50 : decode cX6_ask 50 = .ok (.getfield 59, 3) := by decide +kernel
theorem dX6_ask_53 : decode cX6_ask 53 = .ok (.invokevirtual 307, 3) := by decide +kernel
theorem dX6_ask_56 : decode cX6_ask 56 = .ok (.ireturn, 1) := by decide +kernel
theorem dX6_trace_0 : decode cX6_trace 0 = .ok (.iload_n 1, 1) := by decide +kernel
theorem dX6_trace_1 : decode cX6_trace 1 = .ok (.iconst 0, 1) := by decide +kernel
theorem dX6_trace_2 : decode cX6_trace 2 = .ok (.aload_n 0, 1) := by decide +kernel
theorem dX6_trace_3 : decode cX6_trace 3 = .ok (.getfield 59, 3) := by decide +kernel
theorem dX6_trace_6 : decode cX6_trace 6 = .ok (.getfield 310, 3) := by decide +kernel
theorem dX6_trace_9 : decode cX6_trace 9 = .ok (.iconst 1, 1) := by decide +kernel
theorem dX6_trace_10 : decode cX6_trace 10 = .ok (.isub, 1) := by decide +kernel
theorem dX6_trace_11 : decode cX6_trace 11 = .ok (.invokestatic 76, 3) := by decide +kernel
theorem dX6_trace_14 : decode cX6_trace 14 = .ok (.ifCond .eq 15, 3) := by decide +kernel
theorem dX6_trace_17 : decode cX6_trace 17 = .ok (.aload_n 0, 1) := by decide +kernel
theorem dX6_trace_18 : decode cX6_trace 18 = .ok (.getfield 59, 3) := by decide +kernel
theorem dX6_trace_21 : decode cX6_trace 21 = .ok (.getfield 311, 3) := by decide +kernel
theorem dX6_trace_24 : decode cX6_trace 24 = .ok (.iload_n 1, 1) := by decide +kernel
theorem dX6_trace_25 : decode cX6_trace 25 = .ok (.iaload, 1) := by decide +kernel
theorem dX6_trace_26 : decode cX6_trace 26 = .ok (.goto 5, 3) := by decide +kernel
theorem dX6_trace_29 : decode cX6_trace 29 = .ok (.ldc 223, 2) := by decide +kernel
theorem dX6_trace_31 : decode cX6_trace 31 = .ok (.ireturn, 1) := by decide +kernel
theorem dX6_count_0 : decode cX6_count 0 = .ok (.iload_n 1, 1) := by decide +kernel
theorem dX6_count_1 : decode cX6_count 1 = .ok (.tableswitch 131 0 7 #[47, 55, 63, 71, 79, 97, 115, 123], 47) := by decide +kernel
theorem dX6_count_48 : decode cX6_count 48 = .ok (.aload_n 0, 1) := by decide +kernel
theorem dX6_count_49 : decode cX6_count 49 = .ok (.getfield 10, 3) := by decide +kernel
theorem dX6_count_52 : decode cX6_count 52 = .ok (.invokevirtual 314, 3) := by decide +kernel
theorem dX6_count_55 : decode cX6_count 55 = .ok (.ireturn, 1) := by decide +kernel
theorem dX6_count_56 : decode cX6_count 56 = .ok (.aload_n 0, 1) := by decide +kernel
theorem dX6_count_57 : decode cX6_count 57 = .ok (.getfield 26, 3) := by decide +kernel
theorem dX6_count_60 : decode cX6_count 60 = .ok (.getfield 257, 3) := by decide +kernel
theorem dX6_count_63 : decode cX6_count 63 = .ok (.ireturn, 1) := by decide +kernel
theorem dX6_count_64 : decode cX6_count 64 = .ok (.aload_n 0, 1) := by decide +kernel
theorem dX6_count_65 : decode cX6_count 65 = .ok (.getfield 26, 3) := by decide +kernel
theorem dX6_count_68 : decode cX6_count 68 = .ok (.getfield 145, 3) := by decide +kernel
theorem dX6_count_71 : decode cX6_count 71 = .ok (.ireturn, 1) := by decide +kernel
theorem dX6_count_72 : decode cX6_count 72 = .ok (.aload_n 0, 1) := by decide +kernel
theorem dX6_count_73 : decode cX6_count 73 = .ok (.getfield 26, 3) := by decide +kernel
theorem dX6_count_76 : decode cX6_count 76 = .ok (.getfield 160, 3) := by decide +kernel
theorem dX6_count_79 : decode cX6_count 79 = .ok (.ireturn, 1) := by decide +kernel
theorem dX6_count_80 : decode cX6_count 80 = .ok (.aload_n 0, 1) := by decide +kernel
theorem dX6_count_81 : decode cX6_count 81 = .ok (.getfield 26, 3) := by decide +kernel
theorem dX6_count_84 : decode cX6_count 84 = .ok (.getfield 204, 3) := by decide +kernel
theorem dX6_count_87 : decode cX6_count 87 = .ok (.aload_n 0, 1) := by decide +kernel
theorem dX6_count_88 : decode cX6_count 88 = .ok (.getfield 26, 3) := by decide +kernel
theorem dX6_count_91 : decode cX6_count 91 = .ok (.getfield 257, 3) := by decide +kernel
theorem dX6_count_94 : decode cX6_count 94 = .ok (.invokestatic 292, 3) := by decide +kernel
theorem dX6_count_97 : decode cX6_count 97 = .ok (.ireturn, 1) := by decide +kernel
theorem dX6_count_98 : decode cX6_count 98 = .ok (.aload_n 0, 1) := by decide +kernel
theorem dX6_count_99 : decode cX6_count 99 = .ok (.getfield 26, 3) := by decide +kernel
theorem dX6_count_102 : decode cX6_count 102 = .ok (.getfield 191, 3) := by decide +kernel
theorem dX6_count_105 : decode cX6_count 105 = .ok (.aload_n 0, 1) := by decide +kernel
theorem dX6_count_106 : decode cX6_count 106 = .ok (.getfield 26, 3) := by decide +kernel
theorem dX6_count_109 : decode cX6_count 109 = .ok (.getfield 257, 3) := by decide +kernel
theorem dX6_count_112 : decode cX6_count 112 = .ok (.invokestatic 292, 3) := by decide +kernel
theorem dX6_count_115 : decode cX6_count 115 = .ok (.ireturn, 1) := by decide +kernel
theorem dX6_count_116 : decode cX6_count 116 = .ok (.aload_n 0, 1) := by decide +kernel
theorem dX6_count_117 : decode cX6_count 117 = .ok (.getfield 43, 3) := by decide +kernel
theorem dX6_count_120 : decode cX6_count 120 = .ok (.getfield 152, 3) := by decide +kernel
theorem dX6_count_123 : decode cX6_count 123 = .ok (.ireturn, 1) := by decide +kernel
theorem dX6_count_124 : decode cX6_count 124 = .ok (.aload_n 0, 1) := by decide +kernel
theorem dX6_count_125 : decode cX6_count 125 = .ok (.getfield 19, 3) := by decide +kernel
theorem dX6_count_128 : decode cX6_count 128 = .ok (.getfield 117, 3) := by decide +kernel
theorem dX6_count_131 : decode cX6_count 131 = .ok (.ireturn, 1) := by decide +kernel
theorem dX6_count_132 : decode cX6_count 132 = .ok (.ldc 80, 2) := by decide +kernel
theorem dX6_count_134 : decode cX6_count 134 = .ok (.ireturn, 1) := by decide +kernel
theorem dX6_status_0 : decode cX6_status 0 = .ok (.aload_n 0, 1) := by decide +kernel
theorem dX6_status_1 : decode cX6_status 1 = .ok (.getfield 89, 3) := by decide +kernel
theorem dX6_status_4 : decode cX6_status 4 = .ok (.ireturn, 1) := by decide +kernel
theorem dX6_within_0 : decode cX6_within 0 = .ok (.iload_n 0, 1) := by decide +kernel
theorem dX6_within_1 : decode cX6_within 1 = .ok (.iload_n 1, 1) := by decide +kernel
theorem dX6_within_2 : decode cX6_within 2 = .ok (.if_icmp .lt 12, 3) := by decide +kernel
theorem dX6_within_5 : decode cX6_within 5 = .ok (.iload_n 0, 1) := by decide +kernel
theorem dX6_within_6 : decode cX6_within 6 = .ok (.iload_n 2, 1) := by decide +kernel
theorem dX6_within_7 : decode cX6_within 7 = .ok (.if_icmp .gt 7, 3) := by decide +kernel
theorem dX6_within_10 : decode cX6_within 10 = .ok (.iconst 1, 1) := by decide +kernel
theorem dX6_within_11 : decode cX6_within 11 = .ok (.goto 4, 3) := by decide +kernel
theorem dX6_within_14 : decode cX6_within 14 = .ok (.iconst 0, 1) := by decide +kernel
theorem dX6_within_15 : decode cX6_within 15 = .ok (.ireturn, 1) := by decide +kernel
theorem dX6_found_0 : decode cX6_found 0 = .ok (.aload_n 0, 1) := by decide +kernel
theorem dX6_found_1 : decode cX6_found 1 = .ok (.iload_n 1, 1) := by decide +kernel
theorem dX6_found_2 : decode cX6_found 2 = .ok (.putfield 89, 3) := by decide +kernel
theorem dX6_found_5 : decode cX6_found 5 = .ok (.ldc_w 317, 3) := by decide +kernel
theorem dX6_found_8 : decode cX6_found 8 = .ok (.iload_n 1, 1) := by decide +kernel
theorem dX6_found_9 : decode cX6_found 9 = .ok (.isub, 1) := by decide +kernel
theorem dX6_found_10 : decode cX6_found 10 = .ok (.ireturn, 1) := by decide +kernel
theorem dX6_noTown_0 : decode cX6_noTown 0 = .ok (.aload_n 0, 1) := by decide +kernel
theorem dX6_noTown_1 : decode cX6_noTown 1 = .ok (.getfield 26, 3) := by decide +kernel
theorem dX6_noTown_4 : decode cX6_noTown 4 = .ok (.getfield 145, 3) := by decide +kernel
theorem dX6_noTown_7 : decode cX6_noTown 7 = .ok (.ifCond .ne 7, 3) := by decide +kernel
theorem dX6_noTown_10 : decode cX6_noTown 10 = .ok (.iconst 1, 1) := by decide +kernel
theorem dX6_noTown_11 : decode cX6_noTown 11 = .ok (.goto 4, 3) := by decide +kernel
theorem dX6_noTown_14 : decode cX6_noTown 14 = .ok (.iconst 0, 1) := by decide +kernel
theorem dX6_noTown_15 : decode cX6_noTown 15 = .ok (.ireturn, 1) := by decide +kernel
theorem dX6_openTrial_0 : decode cX6_openTrial 0 = .ok (.aload_n 0, 1) := by decide +kernel
theorem dX6_openTrial_1 : decode cX6_openTrial 1 = .ok (.getfield 26, 3) := by decide +kernel
theorem dX6_openTrial_4 : decode cX6_openTrial 4 = .ok (.aload_n 0, 1) := by decide +kernel
theorem dX6_openTrial_5 : decode cX6_openTrial 5 = .ok (.getfield 33, 3) := by decide +kernel
theorem dX6_openTrial_8 : decode cX6_openTrial 8 = .ok (.invokevirtual 135, 3) := by decide +kernel
theorem dX6_openTrial_11 : decode cX6_openTrial 11 = .ok (.aload_n 0, 1) := by decide +kernel
theorem dX6_openTrial_12 : decode cX6_openTrial 12 = .ok (.getfield 30, 3) := by decide +kernel
theorem dX6_openTrial_15 : decode cX6_openTrial 15 = .ok (.aload_n 0, 1) := by decide +kernel
theorem dX6_openTrial_16 : decode cX6_openTrial 16 = .ok (.getfield 33, 3) := by decide +kernel
theorem dX6_openTrial_19 : decode cX6_openTrial 19 = .ok (.invokevirtual 139, 3) := by decide +kernel
theorem dX6_openTrial_22 : decode cX6_openTrial 22 = .ok (.return_, 1) := by decide +kernel
theorem dX6_isGoodSwap_0 : decode cX6_isGoodSwap 0 = .ok (.aload_n 0, 1) := by decide +kernel
theorem dX6_isGoodSwap_1 : decode cX6_isGoodSwap 1 = .ok (.invokevirtual 213, 3) := by decide +kernel
theorem dX6_isGoodSwap_4 : decode cX6_isGoodSwap 4 = .ok (.aload_n 0, 1) := by decide +kernel
theorem dX6_isGoodSwap_5 : decode cX6_isGoodSwap 5 = .ok (.getfield 30, 3) := by decide +kernel
theorem dX6_isGoodSwap_8 : decode cX6_isGoodSwap 8 = .ok (.getfield 178, 3) := by decide +kernel
theorem dX6_isGoodSwap_11 : decode cX6_isGoodSwap 11 = .ok (.iload_n 1, 1) := by decide +kernel
theorem dX6_isGoodSwap_12 : decode cX6_isGoodSwap 12 = .ok (.aload_n 0, 1) := by decide +kernel
theorem dX6_isGoodSwap_13 : decode cX6_isGoodSwap 13 = .ok (.getfield 26, 3) := by decide +kernel
theorem dX6_isGoodSwap_16 : decode cX6_isGoodSwap 16 = .ok (.getfield 178, 3) := by decide +kernel
theorem dX6_isGoodSwap_19 : decode cX6_isGoodSwap 19 = .ok (.iload_n 2, 1) := by decide +kernel
theorem dX6_isGoodSwap_20 : decode cX6_isGoodSwap 20 = .ok (.iaload, 1) := by decide +kernel
theorem dX6_isGoodSwap_21 : decode cX6_isGoodSwap 21 = .ok (.iastore, 1) := by decide +kernel
theorem dX6_isGoodSwap_22 : decode cX6_isGoodSwap 22 = .ok (.aload_n 0, 1) := by decide +kernel
theorem dX6_isGoodSwap_23 : decode cX6_isGoodSwap 23 = .ok (.getfield 30, 3) := by decide +kernel
theorem dX6_isGoodSwap_26 : decode cX6_isGoodSwap 26 = .ok (.getfield 178, 3) := by decide +kernel
theorem dX6_isGoodSwap_29 : decode cX6_isGoodSwap 29 = .ok (.iload_n 2, 1) := by decide +kernel
theorem dX6_isGoodSwap_30 : decode cX6_isGoodSwap 30 = .ok (.aload_n 0, 1) := by decide +kernel
theorem dX6_isGoodSwap_31 : decode cX6_isGoodSwap 31 = .ok (.getfield 26, 3) := by decide +kernel
theorem dX6_isGoodSwap_34 : decode cX6_isGoodSwap 34 = .ok (.getfield 178, 3) := by decide +kernel
theorem dX6_isGoodSwap_37 : decode cX6_isGoodSwap 37 = .ok (.iload_n 1, 1) := by decide +kernel
theorem dX6_isGoodSwap_38 : decode cX6_isGoodSwap 38 = .ok (.iaload, 1) := by decide +kernel
theorem dX6_isGoodSwap_39 : decode cX6_isGoodSwap 39 = .ok (.iastore, 1) := by decide +kernel
theorem dX6_isGoodSwap_40 : decode cX6_isGoodSwap 40 = .ok (.aload_n 0, 1) := by decide +kernel
theorem dX6_isGoodSwap_41 : decode cX6_isGoodSwap 41 = .ok (.getfield 30, 3) := by decide +kernel
theorem dX6_isGoodSwap_44 : decode cX6_isGoodSwap 44 = .ok (.iload_n 3, 1) := by decide +kernel
theorem dX6_isGoodSwap_45 : decode cX6_isGoodSwap 45 = .ok (.invokevirtual 216, 3) := by decide +kernel
theorem dX6_isGoodSwap_48 : decode cX6_isGoodSwap 48 = .ok (.iconst 0, 1) := by decide +kernel
theorem dX6_isGoodSwap_49 : decode cX6_isGoodSwap 49 = .ok (.istore 4, 2) := by decide +kernel
theorem dX6_isGoodSwap_51 : decode cX6_isGoodSwap 51 = .ok (.iconst 0, 1) := by decide +kernel
theorem dX6_isGoodSwap_52 : decode cX6_isGoodSwap 52 = .ok (.istore 5, 2) := by decide +kernel
theorem dX6_isGoodSwap_54 : decode cX6_isGoodSwap 54 = .ok (.iload 5, 2) := by decide +kernel
theorem dX6_isGoodSwap_56 : decode cX6_isGoodSwap 56 = .ok (.aload_n 0, 1) := by decide +kernel
theorem dX6_isGoodSwap_57 : decode cX6_isGoodSwap 57 = .ok (.getfield 30, 3) := by decide +kernel
theorem dX6_isGoodSwap_60 : decode cX6_isGoodSwap 60 = .ok (.getfield 257, 3) := by decide +kernel
theorem dX6_isGoodSwap_63 : decode cX6_isGoodSwap 63 = .ok (.if_icmp .ge 63, 3) := by decide +kernel
theorem dX6_isGoodSwap_66 : decode cX6_isGoodSwap 66 = .ok (.aload_n 0, 1) := by decide +kernel
theorem dX6_isGoodSwap_67 : decode cX6_isGoodSwap 67 = .ok (.getfield 30, 3) := by decide +kernel
theorem dX6_isGoodSwap_70 : decode cX6_isGoodSwap 70 = .ok (.getfield 204, 3) := by decide +kernel
theorem dX6_isGoodSwap_73 : decode cX6_isGoodSwap 73 = .ok (.iload 5, 2) := by decide +kernel
theorem dX6_isGoodSwap_75 : decode cX6_isGoodSwap 75 = .ok (.iaload, 1) := by decide +kernel
theorem dX6_isGoodSwap_76 : decode cX6_isGoodSwap 76 = .ok (.aload_n 0, 1) := by decide +kernel
theorem dX6_isGoodSwap_77 : decode cX6_isGoodSwap 77 = .ok (.getfield 37, 3) := by decide +kernel
theorem dX6_isGoodSwap_80 : decode cX6_isGoodSwap 80 = .ok (.iload 5, 2) := by decide +kernel
theorem dX6_isGoodSwap_82 : decode cX6_isGoodSwap 82 = .ok (.iaload, 1) := by decide +kernel
theorem dX6_isGoodSwap_83 : decode cX6_isGoodSwap 83 = .ok (.if_icmp .ge 5, 3) := by decide +kernel
theorem dX6_isGoodSwap_86 : decode cX6_isGoodSwap 86 = .ok (.iconst 0, 1) := by decide +kernel
theorem dX6_isGoodSwap_87 : decode cX6_isGoodSwap 87 = .ok (.ireturn, 1) := by decide +kernel
theorem dX6_isGoodSwap_88 : decode cX6_isGoodSwap 88 = .ok (.iload 4, 2) := by decide +kernel
theorem dX6_isGoodSwap_90 : decode cX6_isGoodSwap 90 = .ok (.ifCond .ne 23, 3) := by decide +kernel
theorem dX6_isGoodSwap_93 : decode cX6_isGoodSwap 93 = .ok (.aload_n 0, 1) := by decide +kernel
theorem dX6_isGoodSwap_94 : decode cX6_isGoodSwap 94 = .ok (.getfield 30, 3) := by decide +kernel
theorem dX6_isGoodSwap_97 : decode cX6_isGoodSwap 97 = .ok (.getfield 204, 3) := by decide +kernel
theorem dX6_isGoodSwap_100 : decode cX6_isGoodSwap 100 = .ok (.iload 5, 2) := by decide +kernel
theorem dX6_isGoodSwap_102 : decode cX6_isGoodSwap 102 = .ok (.iaload, 1) := by decide +kernel
theorem dX6_isGoodSwap_103 : decode cX6_isGoodSwap 103 = .ok (.aload_n 0, 1) := by decide +kernel
theorem dX6_isGoodSwap_104 : decode cX6_isGoodSwap 104 = .ok (.getfield 37, 3) := by decide +kernel
theorem dX6_isGoodSwap_107 : decode cX6_isGoodSwap 107 = .ok (.iload 5, 2) := by decide +kernel
theorem dX6_isGoodSwap_109 : decode cX6_isGoodSwap 109 = .ok (.iaload, 1) := by decide +kernel
theorem dX6_isGoodSwap_110 : decode cX6_isGoodSwap 110 = .ok (.if_icmp .le 7, 3) := by decide +kernel
theorem dX6_isGoodSwap_113 : decode cX6_isGoodSwap 113 = .ok (.iconst 1, 1) := by decide +kernel
theorem dX6_isGoodSwap_114 : decode cX6_isGoodSwap 114 = .ok (.goto 4, 3) := by decide +kernel
theorem dX6_isGoodSwap_117 : decode cX6_isGoodSwap 117 = .ok (.iconst 0, 1) := by decide +kernel
theorem dX6_isGoodSwap_118 : decode cX6_isGoodSwap 118 = .ok (.istore 4, 2) := by decide +kernel
theorem dX6_isGoodSwap_120 : decode cX6_isGoodSwap 120 = .ok (.iinc 5 1, 3) := by decide +kernel
theorem dX6_isGoodSwap_123 : decode cX6_isGoodSwap 123 = .ok (.goto (-69), 3) := by decide +kernel
theorem dX6_isGoodSwap_126 : decode cX6_isGoodSwap 126 = .ok (.iload 4, 2) := by decide +kernel
theorem dX6_isGoodSwap_128 : decode cX6_isGoodSwap 128 = .ok (.ireturn, 1) := by decide +kernel
theorem dX6_refusalOfTold_0 : decode cX6_refusalOfTold 0 = .ok (.aload_n 0, 1) := by decide +kernel
theorem dX6_refusalOfTold_1 : decode cX6_refusalOfTold 1 = .ok (.getfield 26, 3) := by decide +kernel
theorem dX6_refusalOfTold_4 : decode cX6_refusalOfTold 4 = .ok (.iload_n 1, 1) := by decide +kernel
theorem dX6_refusalOfTold_5 : decode cX6_refusalOfTold 5 = .ok (.invokevirtual 175, 3) := by decide +kernel
theorem dX6_refusalOfTold_8 : decode cX6_refusalOfTold 8 = .ok (.ifCond .eq 32, 3) := by decide +kernel
theorem dX6_refusalOfTold_11 : decode cX6_refusalOfTold 11 = .ok (.aload_n 0, 1) := by decide +kernel
theorem dX6_refusalOfTold_12 : decode cX6_refusalOfTold 12 = .ok (.getfield 26, 3) := by decide +kernel
theorem dX6_refusalOfTold_15 : decode cX6_refusalOfTold 15 = .ok (.iload_n 2, 1) := by decide +kernel
theorem dX6_refusalOfTold_16 : decode cX6_refusalOfTold 16 = .ok (.invokevirtual 169, 3) := by decide +kernel
theorem dX6_refusalOfTold_19 : decode cX6_refusalOfTold 19 = .ok (.ifCond .eq 21, 3) := by decide +kernel
theorem dX6_refusalOfTold_22 : decode cX6_refusalOfTold 22 = .ok (.iload_n 3, 1) := by decide +kernel
theorem dX6_refusalOfTold_23 : decode cX6_refusalOfTold 23 = .ok (.invokestatic 72, 3) := by decide +kernel
theorem dX6_refusalOfTold_26 : decode cX6_refusalOfTold 26 = .ok (.ifCond .eq 14, 3) := by decide +kernel
theorem dX6_refusalOfTold_29 : decode cX6_refusalOfTold 29 = .ok (.iload 5, 2) := by decide +kernel
theorem dX6_refusalOfTold_31 : decode cX6_refusalOfTold 31 = .ok (.iconst 1, 1) := by decide +kernel
theorem dX6_refusalOfTold_32 : decode cX6_refusalOfTold 32 = .ok (.bipush 12, 2) := by decide +kernel
theorem dX6_refusalOfTold_34 : decode cX6_refusalOfTold 34 = .ok (.invokestatic 76, 3) := by decide +kernel
theorem dX6_refusalOfTold_37 : decode cX6_refusalOfTold 37 = .ok (.ifCond .ne 6, 3) := by decide +kernel
theorem dX6_refusalOfTold_40 : decode cX6_refusalOfTold 40 = .ok (.ldc 80, 2) := by decide +kernel
theorem dX6_refusalOfTold_42 : decode cX6_refusalOfTold 42 = .ok (.ireturn, 1) := by decide +kernel
theorem dX6_refusalOfTold_43 : decode cX6_refusalOfTold 43 = .ok (.aload_n 0, 1) := by decide +kernel
theorem dX6_refusalOfTold_44 : decode cX6_refusalOfTold 44 = .ok (.getfield 10, 3) := by decide +kernel
theorem dX6_refusalOfTold_47 : decode cX6_refusalOfTold 47 = .ok (.iload_n 3, 1) := by decide +kernel
theorem dX6_refusalOfTold_48 : decode cX6_refusalOfTold 48 = .ok (.iload 4, 2) := by decide +kernel
theorem dX6_refusalOfTold_50 : decode cX6_refusalOfTold 50 = .ok (.iload 5, 2) := by decide +kernel
theorem dX6_refusalOfTold_52 : decode cX6_refusalOfTold 52 = .ok (.invokevirtual 93, 3) := by decide +kernel
theorem dX6_refusalOfTold_55 : decode cX6_refusalOfTold 55 = .ok (.istore 6, 2) := by decide +kernel
theorem dX6_refusalOfTold_57 : decode cX6_refusalOfTold 57 = .ok (.iload 6, 2) := by decide +kernel
theorem dX6_refusalOfTold_59 : decode cX6_refusalOfTold 59 = .ok (.ifCond .eq 10, 3) := by decide +kernel
theorem dX6_refusalOfTold_62 : decode cX6_refusalOfTold 62 = .ok (.aload_n 0, 1) := by decide +kernel
theorem dX6_refusalOfTold_63 : decode cX6_refusalOfTold 63 = .ok (.iload 6, 2) := by decide +kernel
theorem dX6_refusalOfTold_65 : decode cX6_refusalOfTold 65 = .ok (.invokevirtual 81, 3) := by decide +kernel
theorem dX6_refusalOfTold_68 : decode cX6_refusalOfTold 68 = .ok (.ireturn, 1) := by decide +kernel
theorem dX6_refusalOfTold_69 : decode cX6_refusalOfTold 69 = .ok (.aload_n 0, 1) := by decide +kernel
theorem dX6_refusalOfTold_70 : decode cX6_refusalOfTold 70 = .ok (.iconst 0, 1) := by decide +kernel
theorem dX6_refusalOfTold_71 : decode cX6_refusalOfTold 71 = .ok (.putfield 89, 3) := by decide +kernel
theorem dX6_refusalOfTold_74 : decode cX6_refusalOfTold 74 = .ok (.iconst 0, 1) := by decide +kernel
theorem dX6_refusalOfTold_75 : decode cX6_refusalOfTold 75 = .ok (.ireturn, 1) := by decide +kernel
theorem dX6_isFedAsTold_0 : decode cX6_isFedAsTold 0 = .ok (.iconst 0, 1) := by decide +kernel
theorem dX6_isFedAsTold_1 : decode cX6_isFedAsTold 1 = .ok (.istore 5, 2) := by decide +kernel
theorem dX6_isFedAsTold_3 : decode cX6_isFedAsTold 3 = .ok (.iload 5, 2) := by decide +kernel
theorem dX6_isFedAsTold_5 : decode cX6_isFedAsTold 5 = .ok (.iload 4, 2) := by decide +kernel
theorem dX6_isFedAsTold_7 : decode cX6_isFedAsTold 7 = .ok (.if_icmp .ge 42, 3) := by decide +kernel
theorem dX6_isFedAsTold_10 : decode cX6_isFedAsTold 10 = .ok (.aload_n 0, 1) := by decide +kernel
theorem dX6_isFedAsTold_11 : decode cX6_isFedAsTold 11 = .ok (.getfield 30, 3) := by decide +kernel
theorem dX6_isFedAsTold_14 : decode cX6_isFedAsTold 14 = .ok (.invokevirtual 166, 3) := by decide +kernel
theorem dX6_isFedAsTold_17 : decode cX6_isFedAsTold 17 = .ok (.aload_n 0, 1) := by decide +kernel
theorem dX6_isFedAsTold_18 : decode cX6_isFedAsTold 18 = .ok (.getfield 30, 3) := by decide +kernel
theorem dX6_isFedAsTold_21 : decode cX6_isFedAsTold 21 = .ok (.getfield 204, 3) := by decide +kernel
theorem dX6_isFedAsTold_24 : decode cX6_isFedAsTold 24 = .ok (.iload_n 1, 1) := by decide +kernel
theorem dX6_isFedAsTold_25 : decode cX6_isFedAsTold 25 = .ok (.iaload, 1) := by decide +kernel
theorem dX6_isFedAsTold_26 : decode cX6_isFedAsTold 26 = .ok (.aload_n 0, 1) := by decide +kernel
theorem dX6_isFedAsTold_27 : decode cX6_isFedAsTold 27 = .ok (.getfield 10, 3) := by decide +kernel
theorem dX6_isFedAsTold_30 : decode cX6_isFedAsTold 30 = .ok (.iload_n 2, 1) := by decide +kernel
theorem dX6_isFedAsTold_31 : decode cX6_isFedAsTold 31 = .ok (.iload_n 3, 1) := by decide +kernel
theorem dX6_isFedAsTold_32 : decode cX6_isFedAsTold 32 = .ok (.iload 5, 2) := by decide +kernel
theorem dX6_isFedAsTold_34 : decode cX6_isFedAsTold 34 = .ok (.iadd, 1) := by decide +kernel
theorem dX6_isFedAsTold_35 : decode cX6_isFedAsTold 35 = .ok (.invokevirtual 318, 3) := by decide +kernel
theorem dX6_isFedAsTold_38 : decode cX6_isFedAsTold 38 = .ok (.if_icmp .eq 5, 3) := by decide +kernel
theorem dX6_isFedAsTold_41 : decode cX6_isFedAsTold 41 = .ok (.iconst 0, 1) := by decide +kernel
theorem dX6_isFedAsTold_42 : decode cX6_isFedAsTold 42 = .ok (.ireturn, 1) := by decide +kernel
theorem dX6_isFedAsTold_43 : decode cX6_isFedAsTold 43 = .ok (.iinc 5 1, 3) := by decide +kernel
theorem dX6_isFedAsTold_46 : decode cX6_isFedAsTold 46 = .ok (.goto (-43), 3) := by decide +kernel
theorem dX6_isFedAsTold_49 : decode cX6_isFedAsTold 49 = .ok (.iconst 1, 1) := by decide +kernel
theorem dX6_isFedAsTold_50 : decode cX6_isFedAsTold 50 = .ok (.ireturn, 1) := by decide +kernel
theorem dX6_isOfKind_0 : decode cX6_isOfKind 0 = .ok (.iload_n 0, 1) := by decide +kernel
theorem dX6_isOfKind_1 : decode cX6_isOfKind 1 = .ok (.istore_n 2, 1) := by decide +kernel
theorem dX6_isOfKind_2 : decode cX6_isOfKind 2 = .ok (.iconst 0, 1) := by decide +kernel
theorem dX6_isOfKind_3 : decode cX6_isOfKind 3 = .ok (.istore_n 3, 1) := by decide +kernel
theorem dX6_isOfKind_4 : decode cX6_isOfKind 4 = .ok (.iload_n 3, 1) := by decide +kernel
theorem dX6_isOfKind_5 : decode cX6_isOfKind 5 = .ok (.getstatic 321, 3) := by decide +kernel
theorem dX6_isOfKind_8 : decode cX6_isOfKind 8 = .ok (.arraylength, 1) := by decide +kernel
theorem dX6_isOfKind_9 : decode cX6_isOfKind 9 = .ok (.if_icmp .ge 34, 3) := by decide +kernel
theorem dX6_isOfKind_12 : decode cX6_isOfKind 12 = .ok (.iload_n 2, 1) := by decide +kernel
theorem dX6_isOfKind_13 : decode cX6_isOfKind 13 = .ok (.ifCond .lt 30, 3) := by decide +kernel
theorem dX6_isOfKind_16 : decode cX6_isOfKind 16 = .ok (.iload_n 2, 1) := by decide +kernel
theorem dX6_isOfKind_17 : decode cX6_isOfKind 17 = .ok (.getstatic 321, 3) := by decide +kernel
theorem dX6_isOfKind_20 : decode cX6_isOfKind 20 = .ok (.arraylength, 1) := by decide +kernel
theorem dX6_isOfKind_21 : decode cX6_isOfKind 21 = .ok (.if_icmp .ge 22, 3) := by decide +kernel
theorem dX6_isOfKind_24 : decode cX6_isOfKind 24 = .ok (.iload_n 2, 1) := by decide +kernel
theorem dX6_isOfKind_25 : decode cX6_isOfKind 25 = .ok (.iload_n 1, 1) := by decide +kernel
theorem dX6_isOfKind_26 : decode cX6_isOfKind 26 = .ok (.if_icmp .ne 5, 3) := by decide +kernel
theorem dX6_isOfKind_29 : decode cX6_isOfKind 29 = .ok (.iconst 1, 1) := by decide +kernel
theorem dX6_isOfKind_30 : decode cX6_isOfKind 30 = .ok (.ireturn, 1) := by decide +kernel
theorem dX6_isOfKind_31 : decode cX6_isOfKind 31 = .ok (.getstatic 321, 3) := by decide +kernel
theorem dX6_isOfKind_34 : decode cX6_isOfKind 34 = .ok (.iload_n 2, 1) := by decide +kernel
theorem dX6_isOfKind_35 : decode cX6_isOfKind 35 = .ok (.iaload, 1) := by decide +kernel
theorem dX6_isOfKind_36 : decode cX6_isOfKind 36 = .ok (.istore_n 2, 1) := by decide +kernel
theorem dX6_isOfKind_37 : decode cX6_isOfKind 37 = .ok (.iinc 3 1, 3) := by decide +kernel
theorem dX6_isOfKind_40 : decode cX6_isOfKind 40 = .ok (.goto (-36), 3) := by decide +kernel
theorem dX6_isOfKind_43 : decode cX6_isOfKind 43 = .ok (.iconst 0, 1) := by decide +kernel
theorem dX6_isOfKind_44 : decode cX6_isOfKind 44 = .ok (.ireturn, 1) := by decide +kernel
theorem dX6_power_0 : decode cX6_power 0 = .ok (.lconst 1, 1) := by decide +kernel
theorem dX6_power_1 : decode cX6_power 1 = .ok (.lstore_n 2, 1) := by decide +kernel
theorem dX6_power_2 : decode cX6_power 2 = .ok (.iconst 0, 1) := by decide +kernel
theorem dX6_power_3 : decode cX6_power 3 = .ok (.istore 4, 2) := by decide +kernel
theorem dX6_power_5 : decode cX6_power 5 = .ok (.iload 4, 2) := by decide +kernel
theorem dX6_power_7 : decode cX6_power 7 = .ok (.iload_n 1, 1) := by decide +kernel
theorem dX6_power_8 : decode cX6_power 8 = .ok (.if_icmp .ge 14, 3) := by decide +kernel
theorem dX6_power_11 : decode cX6_power 11 = .ok (.lload_n 2, 1) := by decide +kernel
theorem dX6_power_12 : decode cX6_power 12 = .ok (.iload_n 0, 1) := by decide +kernel
theorem dX6_power_13 : decode cX6_power 13 = .ok (.i2l, 1) := by decide +kernel
theorem dX6_power_14 : decode cX6_power 14 = .ok (.lmul, 1) := by decide +kernel
theorem dX6_power_15 : decode cX6_power 15 = .ok (.lstore_n 2, 1) := by decide +kernel
theorem dX6_power_16 : decode cX6_power 16 = .ok (.iinc 4 1, 3) := by decide +kernel
theorem dX6_power_19 : decode cX6_power 19 = .ok (.goto (-14), 3) := by decide +kernel
theorem dX6_power_22 : decode cX6_power 22 = .ok (.lload_n 2, 1) := by decide +kernel
theorem dX6_power_23 : decode cX6_power 23 = .ok (.lreturn, 1) := by decide +kernel
theorem dX6_commonDivisor_0 : decode cX6_commonDivisor 0 = .ok (.lload_n 0, 1) := by decide +kernel
theorem dX6_commonDivisor_1 : decode cX6_commonDivisor 1 = .ok (.lstore 4, 2) := by decide +kernel
theorem dX6_commonDivisor_3 : decode cX6_commonDivisor 3 = .ok (.lload_n 2, 1) := by decide +kernel
theorem dX6_commonDivisor_4 : decode cX6_commonDivisor 4 = .ok (.lstore 6, 2) := by decide +kernel
theorem dX6_commonDivisor_6 : decode cX6_commonDivisor 6 = .ok (.iconst 0, 1) := by decide +kernel
theorem dX6_commonDivisor_7 : decode cX6_commonDivisor 7 = .ok (.istore 8, 2) := by decide +kernel
theorem dX6_commonDivisor_9 : decode cX6_commonDivisor 9 = .ok (.iload 8, 2) := by decide +kernel
theorem dX6_commonDivisor_11 : decode cX6_commonDivisor 11 = .ok (.sipush 1000, 3) := by decide +kernel
theorem dX6_commonDivisor_14 : decode cX6_commonDivisor 14 = .ok (.if_icmp .ge 31, 3) := by decide +kernel
theorem dX6_commonDivisor_17 : decode cX6_commonDivisor 17 = .ok (.lload 6, 2) := by decide +kernel
theorem dX6_commonDivisor_19 : decode cX6_commonDivisor 19 = .ok (.lconst 0, 1) := by decide +kernel
theorem dX6_commonDivisor_20 : decode cX6_commonDivisor 20 = .ok (.lcmp, 1) := by decide +kernel
theorem dX6_commonDivisor_21 : decode cX6_commonDivisor 21 = .ok (.ifCond .eq 24, 3) := by decide +kernel
theorem dX6_commonDivisor_24 : decode cX6_commonDivisor 24 = .ok (.lload 4, 2) := by decide +kernel
theorem dX6_commonDivisor_26 : decode cX6_commonDivisor 26 = .ok (.lload 6, 2) := by decide +kernel
theorem dX6_commonDivisor_28 : decode cX6_commonDivisor 28 = .ok (.lrem, 1) := by decide +kernel
theorem dX6_commonDivisor_29 : decode cX6_commonDivisor 29 = .ok (.lstore 9, 2) := by decide +kernel
theorem dX6_commonDivisor_31 : decode cX6_commonDivisor 31 = .ok (.lload 6, 2) := by decide +kernel
theorem dX6_commonDivisor_33 : decode cX6_commonDivisor 33 = .ok (.lstore 4, 2) := by decide +kernel
theorem dX6_commonDivisor_35 : decode cX6_commonDivisor 35 = .ok (.lload 9, 2) := by decide +kernel
theorem dX6_commonDivisor_37 : decode cX6_commonDivisor 37 = .ok (.lstore 6, 2) := by decide +kernel
theorem dX6_commonDivisor_39 : decode cX6_commonDivisor 39 = .ok (.iinc 8 1, 3) := by decide +kernel
theorem dX6_commonDivisor_42 : decode cX6_commonDivisor 42 = .ok (.goto (-33), 3) := by decide +kernel
theorem dX6_commonDivisor_45 : decode cX6_commonDivisor 45 = .ok (.lload 4, 2) := by decide +kernel
theorem dX6_commonDivisor_47 : decode cX6_commonDivisor 47 = .ok (.lconst 1, 1) := by decide +kernel
theorem dX6_commonDivisor_48 : decode cX6_commonDivisor 48 = .ok (.invokestatic 324, 3) := by decide +kernel
theorem dX6_commonDivisor_51 : decode cX6_commonDivisor 51 = .ok (.lreturn, 1) := by decide +kernel
theorem dX7_init_0 : decode cX7_init 0 = .ok (.aload_n 0, 1) := by decide +kernel
theorem dX7_init_1 : decode cX7_init 1 = .ok (.invokespecial 1, 3) := by decide +kernel
theorem dX7_init_4 : decode cX7_init 4 = .ok (.aload_n 0, 1) := by decide +kernel
theorem dX7_init_5 : decode cX7_init 5 = .ok (.sipush 1568, 3) := by decide +kernel
theorem dX7_init_8 : decode cX7_init 8 = .ok (.newarray .int, 2) := by decide +kernel
theorem dX7_init_10 : decode cX7_init 10 = .ok (.putfield 7, 3) := by decide +kernel
theorem dX7_init_13 : decode cX7_init 13 = .ok (.aload_n 0, 1) := by decide +kernel
theorem dX7_init_14 : decode cX7_init 14 = .ok (.iconst 2, 1) := by decide +kernel
theorem dX7_init_15 : decode cX7_init 15 = .ok (.newarray .boolean, 2) := by decide +kernel
theorem dX7_init_17 : decode cX7_init 17 = .ok (.putfield 13, 3) := by decide +kernel
theorem dX7_init_20 : decode cX7_init 20 = .ok (.aload_n 0, 1) := by decide +kernel
theorem dX7_init_21 : decode cX7_init 21 = .ok (.bipush 8, 2) := by decide +kernel
theorem dX7_init_23 : decode cX7_init 23 = .ok (.newarray .int, 2) := by decide +kernel
theorem dX7_init_25 : decode cX7_init 25 = .ok (.putfield 17, 3) := by decide +kernel
theorem dX7_init_28 : decode cX7_init 28 = .ok (.aload_n 0, 1) := by decide +kernel
theorem dX7_init_29 : decode cX7_init 29 = .ok (.bipush 8, 2) := by decide +kernel
theorem dX7_init_31 : decode cX7_init 31 = .ok (.newarray .int, 2) := by decide +kernel
theorem dX7_init_33 : decode cX7_init 33 = .ok (.dup, 1) := by decide +kernel
theorem dX7_init_34 : decode cX7_init 34 = .ok (.iconst 0, 1) := by decide +kernel
theorem dX7_init_35 : decode cX7_init 35 = .ok (.iconst (-1), 1) := by decide +kernel
theorem dX7_init_36 : decode cX7_init 36 = .ok (.iastore, 1) := by decide +kernel
theorem dX7_init_37 : decode cX7_init 37 = .ok (.dup, 1) := by decide +kernel
theorem dX7_init_38 : decode cX7_init 38 = .ok (.iconst 1, 1) := by decide +kernel
theorem dX7_init_39 : decode cX7_init 39 = .ok (.iconst (-1), 1) := by decide +kernel
theorem dX7_init_40 : decode cX7_init 40 = .ok (.iastore, 1) := by decide +kernel
theorem dX7_init_41 : decode cX7_init 41 = .ok (.dup, 1) := by decide +kernel
theorem dX7_init_42 : decode cX7_init 42 = .ok (.iconst 2, 1) := by decide +kernel
theorem dX7_init_43 : decode cX7_init 43 = .ok (.iconst (-1), 1) := by decide +kernel
theorem dX7_init_44 : decode cX7_init 44 = .ok (.iastore, 1) := by decide +kernel
theorem dX7_init_45 : decode cX7_init 45 = .ok (.dup, 1) := by decide +kernel
theorem dX7_init_46 : decode cX7_init 46 = .ok (.iconst 3, 1) := by decide +kernel
theorem dX7_init_47 : decode cX7_init 47 = .ok (.iconst (-1), 1) := by decide +kernel
theorem dX7_init_48 : decode cX7_init 48 = .ok (.iastore, 1) := by decide +kernel
theorem dX7_init_49 : decode cX7_init 49 = .ok (.dup, 1) := by decide +kernel
theorem dX7_init_50 : decode cX7_init 50 = .ok (.iconst 4, 1) := by decide +kernel
theorem dX7_init_51 : decode cX7_init 51 = .ok (.iconst (-1), 1) := by decide +kernel
theorem dX7_init_52 : decode cX7_init 52 = .ok (.iastore, 1) := by decide +kernel
theorem dX7_init_53 : decode cX7_init 53 = .ok (.dup, 1) := by decide +kernel
theorem dX7_init_54 : decode cX7_init 54 = .ok (.iconst 5, 1) := by decide +kernel
theorem dX7_init_55 : decode cX7_init 55 = .ok (.iconst (-1), 1) := by decide +kernel
theorem dX7_init_56 : decode cX7_init 56 = .ok (.iastore, 1) := by decide +kernel
theorem dX7_init_57 : decode cX7_init 57 = .ok (.dup, 1) := by decide +kernel
theorem dX7_init_58 : decode cX7_init 58 = .ok (.bipush 6, 2) := by decide +kernel
theorem dX7_init_60 : decode cX7_init 60 = .ok (.iconst (-1), 1) := by decide +kernel
theorem dX7_init_61 : decode cX7_init 61 = .ok (.iastore, 1) := by decide +kernel
theorem dX7_init_62 : decode cX7_init 62 = .ok (.dup, 1) := by decide +kernel
theorem dX7_init_63 : decode cX7_init 63 = .ok (.bipush 7, 2) := by decide +kernel
theorem dX7_init_65 : decode cX7_init 65 = .ok (.iconst (-1), 1) := by decide +kernel
theorem dX7_init_66 : decode cX7_init 66 = .ok (.iastore, 1) := by decide +kernel
theorem dX7_init_67 : decode cX7_init 67 = .ok (.putfield 20, 3) := by decide +kernel
theorem dX7_init_70 : decode cX7_init 70 = .ok (.aload_n 0, 1) := by decide +kernel
theorem dX7_init_71 : decode cX7_init 71 = .ok (.sipush 320, 3) := by decide +kernel
theorem dX7_init_74 : decode cX7_init 74 = .ok (.newarray .int, 2) := by decide +kernel
theorem dX7_init_76 : decode cX7_init 76 = .ok (.putfield 23, 3) := by decide +kernel
theorem dX7_init_79 : decode cX7_init 79 = .ok (.aload_n 0, 1) := by decide +kernel
theorem dX7_init_80 : decode cX7_init 80 = .ok (.bipush 100, 2) := by decide +kernel
theorem dX7_init_82 : decode cX7_init 82 = .ok (.newarray .int, 2) := by decide +kernel
theorem dX7_init_84 : decode cX7_init 84 = .ok (.putfield 26, 3) := by decide +kernel
theorem dX7_init_87 : decode cX7_init 87 = .ok (.aload_n 0, 1) := by decide +kernel
theorem dX7_init_88 : decode cX7_init 88 = .ok (.bipush 16, 2) := by decide +kernel
theorem dX7_init_90 : decode cX7_init 90 = .ok (.newarray .int, 2) := by decide +kernel
theorem dX7_init_92 : decode cX7_init 92 = .ok (.putfield 29, 3) := by decide +kernel
theorem dX7_init_95 : decode cX7_init 95 = .ok (.aload_n 0, 1) := by decide +kernel
theorem dX7_init_96 : decode cX7_init 96 = .ok (.bipush 6, 2) := by decide +kernel
theorem dX7_init_98 : decode cX7_init 98 = .ok (.newarray .int, 2) := by decide +kernel
theorem dX7_init_100 : decode cX7_init 100 = .ok (.putfield 32, 3) := by decide +kernel
theorem dX7_init_103 : decode cX7_init 103 = .ok (.aload_n 0, 1) := by decide +kernel
theorem dX7_init_104 : decode cX7_init 104 = .ok (.bipush 6, 2) := by decide +kernel
theorem dX7_init_106 : decode cX7_init 106 = .ok (.newarray .int, 2) := by decide +kernel
theorem dX7_init_108 : decode cX7_init 108 = .ok (.putfield 35, 3) := by decide +kernel
theorem dX7_init_111 : decode cX7_init 111 = .ok (.aload_n 0, 1) := by decide +kernel
theorem dX7_init_112 : decode cX7_init 112 = .ok (.iconst 5, 1) := by decide +kernel
theorem dX7_init_113 : decode cX7_init 113 = .ok (.newarray .int, 2) := by decide +kernel
theorem dX7_init_115 : decode cX7_init 115 = .ok (.putfield 38, 3) := by decide +kernel
theorem dX7_init_118 : decode cX7_init 118 = .ok (.return_, 1) := by decide +kernel
theorem dX7_in_0 : decode cX7_in 0 = .ok (.lload_n 0, 1) := by decide +kernel
theorem dX7_in_1 : decode cX7_in 1 = .ok (.lload_n 2, 1) := by decide +kernel
theorem dX7_in_2 : decode cX7_in 2 = .ok (.lcmp, 1) := by decide +kernel
theorem dX7_in_3 : decode cX7_in 3 = .ok (.ifCond .lt 14, 3) := by decide +kernel
theorem dX7_in_6 : decode cX7_in 6 = .ok (.lload_n 0, 1) := by decide +kernel
theorem dX7_in_7 : decode cX7_in 7 = .ok (.lload 4, 2) := by decide +kernel
theorem dX7_in_9 : decode cX7_in 9 = .ok (.lcmp, 1) := by decide +kernel
theorem dX7_in_10 : decode cX7_in 10 = .ok (.ifCond .gt 7, 3) := by decide +kernel
theorem dX7_in_13 : decode cX7_in 13 = .ok (.iconst 1, 1) := by decide +kernel
theorem dX7_in_14 : decode cX7_in 14 = .ok (.goto 4, 3) := by decide +kernel
theorem dX7_in_17 : decode cX7_in 17 = .ok (.iconst 0, 1) := by decide +kernel
theorem dX7_in_18 : decode cX7_in 18 = .ok (.ireturn, 1) := by decide +kernel
theorem dX7_has_0 : decode cX7_has 0 = .ok (.iload_n 0, 1) := by decide +kernel
theorem dX7_has_1 : decode cX7_has 1 = .ok (.iload_n 1, 1) := by decide +kernel
theorem dX7_has_2 : decode cX7_has 2 = .ok (.ishr, 1) := by decide +kernel
theorem dX7_has_3 : decode cX7_has 3 = .ok (.iconst 1, 1) := by decide +kernel
theorem dX7_has_4 : decode cX7_has 4 = .ok (.iand, 1) := by decide +kernel
theorem dX7_has_5 : decode cX7_has 5 = .ok (.iconst 1, 1) := by decide +kernel
theorem dX7_has_6 : decode cX7_has 6 = .ok (.if_icmp .ne 7, 3) := by decide +kernel
theorem dX7_has_9 : decode cX7_has 9 = .ok (.iconst 1, 1) := by decide +kernel
theorem dX7_has_10 : decode cX7_has 10 = .ok (.goto 4, 3) := by decide +kernel
theorem dX7_has_13 : decode cX7_has 13 = .ok (.iconst 0, 1) := by decide +kernel
theorem dX7_has_14 : decode cX7_has 14 = .ok (.ireturn, 1) := by decide +kernel
theorem dX7_between_0 : decode cX7_between 0 = .ok (.iload_n 0, 1) := by decide +kernel
theorem dX7_between_1 : decode cX7_between 1 = .ok (.ifCond .ge 7, 3) := by decide +kernel
theorem dX7_between_4 : decode cX7_between 4 = .ok (.iconst 0, 1) := by decide +kernel
theorem dX7_between_5 : decode cX7_between 5 = .ok (.goto 13, 3) := by decide +kernel
theorem dX7_between_8 : decode cX7_between 8 = .ok (.iload_n 0, 1) := by decide +kernel
theorem dX7_between_9 : decode cX7_between 9 = .ok (.iload_n 1, 1) := by decide +kernel
theorem dX7_between_10 : decode cX7_between 10 = .ok (.if_icmp .le 7, 3) := by decide +kernel
theorem dX7_between_13 : decode cX7_between 13 = .ok (.iload_n 1, 1) := by decide +kernel
theorem dX7_between_14 : decode cX7_between 14 = .ok (.goto 4, 3) := by decide +kernel
theorem dX7_between_17 : decode cX7_between 17 = .ok (.iload_n 0, 1) := by decide +kernel
theorem dX7_between_18 : decode cX7_between 18 = .ok (.ireturn, 1) := by decide +kernel
theorem dX7_find_0 : decode cX7_find 0 = .ok (.aload_n 0, 1) := by decide +kernel
theorem dX7_find_1 : decode cX7_find 1 = .ok (.iload_n 1, 1) := by decide +kernel
theorem dX7_find_2 : decode cX7_find 2 = .ok (.putfield 41, 3) := by decide +kernel
theorem dX7_find_5 : decode cX7_find 5 = .ok (.ldc 45, 2) := by decide +kernel
theorem dX7_find_7 : decode cX7_find 7 = .ok (.iload_n 1, 1) := by decide +kernel
theorem dX7_find_8 : decode cX7_find 8 = .ok (.isub, 1) := by decide +kernel
theorem dX7_find_9 : decode cX7_find 9 = .ok (.ireturn, 1) := by decide +kernel
theorem dX7_well_0 : decode cX7_well 0 = .ok (.aload_n 0, 1) := by decide +kernel
theorem dX7_well_1 : decode cX7_well 1 = .ok (.iconst 0, 1) := by decide +kernel
theorem dX7_well_2 : decode cX7_well 2 = .ok (.putfield 41, 3) := by decide +kernel
theorem dX7_well_5 : decode cX7_well 5 = .ok (.iload_n 1, 1) := by decide +kernel
theorem dX7_well_6 : decode cX7_well 6 = .ok (.ireturn, 1) := by decide +kernel
theorem dX7_isRow_0 : decode cX7_isRow 0 = .ok (.iload_n 0, 1) := by decide +kernel
theorem dX7_isRow_1 : decode cX7_isRow 1 = .ok (.i2l, 1) := by decide +kernel
theorem dX7_isRow_2 : decode cX7_isRow 2 = .ok (.lconst 0, 1) := by decide +kernel
theorem dX7_isRow_3 : decode cX7_isRow 3 = .ok (.ldc2_w 46, 3) := by decide +kernel
theorem dX7_isRow_6 : decode cX7_isRow 6 = .ok (.invokestatic 48, 3) := by decide +kernel
theorem dX7_isRow_9 : decode cX7_isRow 9 = .ok (.ireturn, 1) := by decide +kernel
theorem dX7_row_0 : decode cX7_row 0 = .ok (.iload_n 1, 1) := by decide +kernel
theorem dX7_row_1 : decode cX7_row 1 = .ok (.invokestatic 52, 3) := by decide +kernel
theorem dX7_row_4 : decode cX7_row 4 = .ok (.ifCond .eq 21, 3) := by decide +kernel
theorem dX7_row_7 : decode cX7_row 7 = .ok (.iload_n 2, 1) := by decide +kernel
theorem dX7_row_8 : decode cX7_row 8 = .ok (.i2l, 1) := by decide +kernel
theorem dX7_row_9 : decode cX7_row 9 = .ok (.lconst 0, 1) := by decide +kernel
theorem dX7_row_10 : decode cX7_row 10 = .ok (.ldc2_w 56, 3) := by decide +kernel
theorem dX7_row_13 : decode cX7_row 13 = .ok (.invokestatic 48, 3) := by decide +kernel
theorem dX7_row_16 : decode cX7_row 16 = .ok (.ifCond .eq 9, 3) := by decide +kernel
theorem dX7_row_19 : decode cX7_row 19 = .ok (.iload_n 3, 1) := by decide +kernel
theorem dX7_row_20 : decode cX7_row 20 = .ok (.bipush 40, 2) := by decide +kernel
theorem dX7_row_22 : decode cX7_row 22 = .ok (.if_icmp .le 6, 3) := by decide +kernel
theorem dX7_row_25 : decode cX7_row 25 = .ok (.ldc 58, 2) := by decide +kernel
theorem dX7_row_27 : decode cX7_row 27 = .ok (.ireturn, 1) := by decide +kernel
theorem dX7_row_28 : decode cX7_row 28 = .ok (.iload_n 3, 1) := by decide +kernel
theorem dX7_row_29 : decode cX7_row 29 = .ok (.ifCond .ge 9, 3) := by decide +kernel
theorem dX7_row_32 : decode cX7_row 32 = .ok (.aload_n 0, 1) := by decide +kernel
theorem dX7_row_33 : decode cX7_row 33 = .ok (.iconst 4, 1) := by decide +kernel
theorem dX7_row_34 : decode cX7_row 34 = .ok (.invokevirtual 59, 3) := by decide +kernel
theorem dX7_row_37 : decode cX7_row 37 = .ok (.ireturn, 1) := by decide +kernel
theorem dX7_row_38 : decode cX7_row 38 = .ok (.aload_n 0, 1) := by decide +kernel
theorem dX7_row_39 : decode cX7_row 39 = .ok (.getfield 17, 3) := by decide +kernel
theorem dX7_row_42 : decode cX7_row 42 = .ok (.iload_n 1, 1) := by decide +kernel
theorem dX7_row_43 : decode cX7_row 43 = .ok (.iload_n 2, 1) := by decide +kernel
theorem dX7_row_44 : decode cX7_row 44 = .ok (.iastore, 1) := by decide +kernel
theorem dX7_row_45 : decode cX7_row 45 = .ok (.aload_n 0, 1) := by decide +kernel
theorem dX7_row_46 : decode cX7_row 46 = .ok (.getfield 20, 3) := by decide +kernel
theorem dX7_row_49 : decode cX7_row 49 = .ok (.iload_n 1, 1) := by decide +kernel
theorem dX7_row_50 : decode cX7_row 50 = .ok (.iload_n 3, 1) := by decide +kernel
theorem dX7_row_51 : decode cX7_row 51 = .ok (.iastore, 1) := by decide +kernel
theorem dX7_row_52 : decode cX7_row 52 = .ok (.iconst 0, 1) := by decide +kernel
theorem dX7_row_53 : decode cX7_row 53 = .ok (.istore 4, 2) := by decide +kernel
theorem dX7_row_55 : decode cX7_row 55 = .ok (.iload 4, 2) := by decide +kernel
theorem dX7_row_57 : decode cX7_row 57 = .ok (.bipush 40, 2) := by decide +kernel
theorem dX7_row_59 : decode cX7_row 59 = .ok (.if_icmp .ge 22, 3) := by decide +kernel
theorem dX7_row_62 : decode cX7_row 62 = .ok (.aload_n 0, 1) := by decide +kernel
theorem dX7_row_63 : decode cX7_row 63 = .ok (.getfield 23, 3) := by decide +kernel
theorem dX7_row_66 : decode cX7_row 66 = .ok (.bipush 40, 2) := by decide +kernel
theorem dX7_row_68 : decode cX7_row 68 = .ok (.iload_n 1, 1) := by decide +kernel
theorem dX7_row_69 : decode cX7_row 69 = .ok (.imul, 1) := by decide +kernel
theorem dX7_row_70 : decode cX7_row 70 = .ok (.iload 4, 2) := by decide +kernel
theorem dX7_row_72 : decode cX7_row 72 = .ok (.iadd, 1) := by decide +kernel
theorem dX7_row_73 : decode cX7_row 73 = .ok (.iconst 0, 1) := by decide +kernel
theorem dX7_row_74 : decode cX7_row 74 = .ok (.iastore, 1) := by decide +kernel
theorem dX7_row_75 : decode cX7_row 75 = .ok (.iinc 4 1, 3) := by decide +kernel
theorem dX7_row_78 : decode cX7_row 78 = .ok (.goto (-23), 3) := by decide +kernel
theorem dX7_row_81 : decode cX7_row 81 = .ok (.aload_n 0, 1) := by decide +kernel
theorem dX7_row_82 : decode cX7_row 82 = .ok (.iload_n 3, 1) := by decide +kernel
theorem dX7_row_83 : decode cX7_row 83 = .ok (.invokevirtual 63, 3) := by decide +kernel
theorem dX7_row_86 : decode cX7_row 86 = .ok (.ireturn, 1) := by decide +kernel
theorem dX7_narrow_0 : decode cX7_narrow 0 = .ok (.iload_n 1, 1) := by decide +kernel
theorem dX7_narrow_1 : decode cX7_narrow 1 = .ok (.ifCond .ne 8, 3) := by decide +kernel
theorem dX7_narrow_4 : decode cX7_narrow 4 = .ok (.iload_n 0, 1) := by decide +kernel
theorem dX7_narrow_5 : decode cX7_narrow 5 = .ok (.i2b, 1) := by decide +kernel
theorem dX7_narrow_6 : decode cX7_narrow 6 = .ok (.goto 14, 3) := by decide +kernel
theorem dX7_narrow_9 : decode cX7_narrow 9 = .ok (.iload_n 1, 1) := by decide +kernel
theorem dX7_narrow_10 : decode cX7_narrow 10 = .ok (.iconst 1, 1) := by decide +kernel
theorem dX7_narrow_11 : decode cX7_narrow 11 = .ok (.if_icmp .ne 8, 3) := by decide +kernel
theorem dX7_narrow_14 : decode cX7_narrow 14 = .ok (.iload_n 0, 1) := by decide +kernel
theorem dX7_narrow_15 : decode cX7_narrow 15 = .ok (.i2s, 1) := by decide +kernel
theorem dX7_narrow_16 : decode cX7_narrow 16 = .ok (.goto 4, 3) := by decide +kernel
theorem dX7_narrow_19 : decode cX7_narrow 19 = .ok (.iload_n 0, 1) := by decide +kernel
theorem dX7_narrow_20 : decode cX7_narrow 20 = .ok (.ireturn, 1) := by decide +kernel
theorem dX7_set_0 : decode cX7_set 0 = .ok (.iload_n 1, 1) := by decide +kernel
theorem dX7_set_1 : decode cX7_set 1 = .ok (.invokestatic 52, 3) := by decide +kernel
theorem dX7_set_4 : decode cX7_set 4 = .ok (.ifCond .ne 6, 3) := by decide +kernel
theorem dX7_set_7 : decode cX7_set 7 = .ok (.ldc 58, 2) := by decide +kernel
theorem dX7_set_9 : decode cX7_set 9 = .ok (.ireturn, 1) := by decide +kernel
theorem dX7_set_10 : decode cX7_set 10 = .ok (.aload_n 0, 1) := by decide +kernel
theorem dX7_set_11 : decode cX7_set 11 = .ok (.getfield 20, 3) := by decide +kernel
theorem dX7_set_14 : decode cX7_set 14 = .ok (.iload_n 1, 1) := by decide +kernel
theorem dX7_set_15 : decode cX7_set 15 = .ok (.iaload, 1) := by decide +kernel
theorem dX7_set_16 : decode cX7_set 16 = .ok (.ifCond .ge 9, 3) := by decide +kernel
theorem dX7_set_19 : decode cX7_set 19 = .ok (.aload_n 0, 1) := by decide +kernel
theorem dX7_set_20 : decode cX7_set 20 = .ok (.iconst 1, 1) := by decide +kernel
theorem dX7_set_21 : decode cX7_set 21 = .ok (.invokevirtual 59, 3) := by decide +kernel
theorem dX7_set_24 : decode cX7_set 24 = .ok (.ireturn, 1) := by decide +kernel
theorem dX7_set_25 : decode cX7_set 25 = .ok (.iload_n 2, 1) := by decide +kernel
theorem dX7_set_26 : decode cX7_set 26 = .ok (.i2l, 1) := by decide +kernel
theorem dX7_set_27 : decode cX7_set 27 = .ok (.lconst 0, 1) := by decide +kernel
theorem dX7_set_28 : decode cX7_set 28 = .ok (.aload_n 0, 1) := by decide +kernel
theorem dX7_set_29 : decode cX7_set 29 = .ok (.getfield 20, 3) := by decide +kernel
theorem dX7_set_32 : decode cX7_set 32 = .ok (.iload_n 1, 1) := by decide +kernel
theorem dX7_set_33 : decode cX7_set 33 = .ok (.iaload, 1) := by decide +kernel
theorem dX7_set_34 : decode cX7_set 34 = .ok (.iconst 1, 1) := by decide +kernel
theorem dX7_set_35 : decode cX7_set 35 = .ok (.isub, 1) := by decide +kernel
theorem dX7_set_36 : decode cX7_set 36 = .ok (.i2l, 1) := by decide +kernel
theorem dX7_set_37 : decode cX7_set 37 = .ok (.invokestatic 48, 3) := by decide +kernel
theorem dX7_set_40 : decode cX7_set 40 = .ok (.ifCond .ne 9, 3) := by decide +kernel
theorem dX7_set_43 : decode cX7_set 43 = .ok (.aload_n 0, 1) := by decide +kernel
theorem dX7_set_44 : decode cX7_set 44 = .ok (.iconst 2, 1) := by decide +kernel
theorem dX7_set_45 : decode cX7_set 45 = .ok (.invokevirtual 59, 3) := by decide +kernel
theorem dX7_set_48 : decode cX7_set 48 = .ok (.ireturn, 1) := by decide +kernel
theorem dX7_set_49 : decode cX7_set 49 = .ok (.aload_n 0, 1) := by decide +kernel
theorem dX7_set_50 : decode cX7_set 50 = .ok (.getfield 23, 3) := by decide +kernel
theorem dX7_set_53 : decode cX7_set 53 = .ok (.bipush 40, 2) := by decide +kernel
theorem dX7_set_55 : decode cX7_set 55 = .ok (.iload_n 1, 1) := by decide +kernel
theorem dX7_set_56 : decode cX7_set 56 = .ok (.imul, 1) := by decide +kernel
theorem dX7_set_57 : decode cX7_set 57 = .ok (.iload_n 2, 1) := by decide +kernel
theorem dX7_set_58 : decode cX7_set 58 = .ok (.iadd, 1) := by decide +kernel
theorem dX7_set_59 : decode cX7_set 59 = .ok (.iload_n 3, 1) := by decide +kernel
theorem dX7_set_60 : decode cX7_set 60 = .ok (.aload_n 0, 1) := by decide +kernel
theorem dX7_set_61 : decode cX7_set 61 = .ok (.getfield 17, 3) := by decide +kernel
theorem dX7_set_64 : decode cX7_set 64 = .ok (.iload_n 1, 1) := by decide +kernel
theorem dX7_set_65 : decode cX7_set 65 = .ok (.iaload, 1) := by decide +kernel
theorem dX7_set_66 : decode cX7_set 66 = .ok (.invokestatic 66, 3) := by decide +kernel
theorem dX7_set_69 : decode cX7_set 69 = .ok (.iastore, 1) := by decide +kernel
theorem dX7_set_70 : decode cX7_set 70 = .ok (.aload_n 0, 1) := by decide +kernel
theorem dX7_set_71 : decode cX7_set 71 = .ok (.aload_n 0, 1) := by decide +kernel
theorem dX7_set_72 : decode cX7_set 72 = .ok (.getfield 23, 3) := by decide +kernel
theorem dX7_set_75 : decode cX7_set 75 = .ok (.bipush 40, 2) := by decide +kernel
theorem dX7_set_77 : decode cX7_set 77 = .ok (.iload_n 1, 1) := by decide +kernel
theorem dX7_set_78 : decode cX7_set 78 = .ok (.imul, 1) := by decide +kernel
theorem dX7_set_79 : decode cX7_set 79 = .ok (.iload_n 2, 1) := by decide +kernel
theorem dX7_set_80 : decode cX7_set 80 = .ok (.iadd, 1) := by decide +kernel
theorem dX7_set_81 : decode cX7_set 81 = .ok (.iaload, 1) := by decide +kernel
theorem dX7_set_82 : decode cX7_set 82 = .ok (.invokevirtual 63, 3) := by decide +kernel
theorem dX7_set_85 : decode cX7_set 85 = .ok (.ireturn, 1) := by decide +kernel
theorem dX7_isSpan_0 : decode cX7_isSpan 0 = .ok (.iload_n 2, 1) := by decide +kernel
theorem dX7_isSpan_1 : decode cX7_isSpan 1 = .ok (.ifCond .lt 27, 3) := by decide +kernel
theorem dX7_isSpan_4 : decode cX7_isSpan 4 = .ok (.iload_n 3, 1) := by decide +kernel
theorem dX7_isSpan_5 : decode cX7_isSpan 5 = .ok (.ifCond .lt 23, 3) := by decide +kernel
theorem dX7_isSpan_8 : decode cX7_isSpan 8 = .ok (.iload_n 2, 1) := by decide +kernel
theorem dX7_isSpan_9 : decode cX7_isSpan 9 = .ok (.i2l, 1) := by decide +kernel
theorem dX7_isSpan_10 : decode cX7_isSpan 10 = .ok (.iload_n 3, 1) := by decide +kernel
theorem dX7_isSpan_11 : decode cX7_isSpan 11 = .ok (.i2l, 1) := by decide +kernel
theorem dX7_isSpan_12 : decode cX7_isSpan 12 = .ok (.ladd, 1) := by decide +kernel
theorem dX7_isSpan_13 : decode cX7_isSpan 13 = .ok (.aload_n 0, 1) := by decide +kernel
theorem dX7_isSpan_14 : decode cX7_isSpan 14 = .ok (.getfield 20, 3) := by decide +kernel
theorem dX7_isSpan_17 : decode cX7_isSpan 17 = .ok (.iload_n 1, 1) := by decide +kernel
theorem dX7_isSpan_18 : decode cX7_isSpan 18 = .ok (.iaload, 1) := by decide +kernel
theorem dX7_isSpan_19 : decode cX7_isSpan 19 = .ok (.i2l, 1) := by decide +kernel
theorem dX7_isSpan_20 : decode cX7_isSpan 20 = .ok (.lcmp, 1) := by decide +kernel
theorem dX7_isSpan_21 : decode cX7_isSpan 21 = .ok (.ifCond .gt 7, 3) := by decide +kernel
theorem dX7_isSpan_24 : decode cX7_isSpan 24 = .ok (.iconst 1, 1) := by decide +kernel
theorem dX7_isSpan_25 : decode cX7_isSpan 25 = .ok (.goto 4, 3) := by decide +kernel
theorem dX7_isSpan_28 : decode cX7_isSpan 28 = .ok (.iconst 0, 1) := by decide +kernel
theorem dX7_isSpan_29 : decode cX7_isSpan 29 = .ok (.ireturn, 1) := by decide +kernel
theorem dX7_copy_0 : decode cX7_copy 0 = .ok (.iload_n 1, 1) := by decide +kernel
theorem dX7_copy_1 : decode cX7_copy 1 = .ok (.invokestatic 52, 3) := by decide +kernel
theorem dX7_copy_4 : decode cX7_copy 4 = .ok (.ifCond .eq 10, 3) := by decide +kernel
theorem dX7_copy_7 : decode cX7_copy 7 = .ok (.iload_n 3, 1) := by decide +kernel
theorem dX7_copy_8 : decode cX7_copy 8 = .ok (.invokestatic 52, 3) := by decide +kernel
theorem dX7_copy_11 : decode cX7_copy 11 = .ok (.ifCond .ne 6, 3) := by decide +kernel
theorem dX7_copy_14 : decode cX7_copy 14 = .ok (.ldc 58, 2) := by decide +kernel
theorem dX7_copy_16 : decode cX7_copy 16 = .ok (.ireturn, 1) := by decide +kernel
theorem dX7_copy_17 : decode cX7_copy 17 = .ok (.aload_n 0, 1) := by decide +kernel
theorem dX7_copy_18 : decode cX7_copy 18 = .ok (.getfield 20, 3) := by decide +kernel
theorem dX7_copy_21 : decode cX7_copy 21 = .ok (.iload_n 1, 1) := by decide +kernel
theorem dX7_copy_22 : decode cX7_copy 22 = .ok (.iaload, 1) := by decide +kernel
theorem dX7_copy_23 : decode cX7_copy 23 = .ok (.ifCond .lt 12, 3) := by decide +kernel
theorem dX7_copy_26 : decode cX7_copy 26 = .ok (.aload_n 0, 1) := by decide +kernel
theorem dX7_copy_27 : decode cX7_copy 27 = .ok (.getfield 20, 3) := by decide +kernel
theorem dX7_copy_30 : decode cX7_copy 30 = .ok (.iload_n 3, 1) := by decide +kernel
theorem dX7_copy_31 : decode cX7_copy 31 = .ok (.iaload, 1) := by decide +kernel
theorem dX7_copy_32 : decode cX7_copy 32 = .ok (.ifCond .ge 9, 3) := by decide +kernel
theorem dX7_copy_35 : decode cX7_copy 35 = .ok (.aload_n 0, 1) := by decide +kernel
theorem dX7_copy_36 : decode cX7_copy 36 = .ok (.iconst 1, 1) := by decide +kernel
theorem dX7_copy_37 : decode cX7_copy 37 = .ok (.invokevirtual 59, 3) := by decide +kernel
theorem dX7_copy_40 : decode cX7_copy 40 = .ok (.ireturn, 1) := by decide +kernel
theorem dX7_copy_41 : decode cX7_copy 41 = .ok (.aload_n 0, 1) := by decide +kernel
theorem dX7_copy_42 : decode cX7_copy 42 = .ok (.getfield 17, 3) := by decide +kernel
theorem dX7_copy_45 : decode cX7_copy 45 = .ok (.iload_n 1, 1) := by decide +kernel
theorem dX7_copy_46 : decode cX7_copy 46 = .ok (.iaload, 1) := by decide +kernel
theorem dX7_copy_47 : decode cX7_copy 47 = .ok (.aload_n 0, 1) := by decide +kernel
theorem dX7_copy_48 : decode cX7_copy 48 = .ok (.getfield 17, 3) := by decide +kernel
theorem dX7_copy_51 : decode cX7_copy 51 = .ok (.iload_n 3, 1) := by decide +kernel
theorem dX7_copy_52 : decode cX7_copy 52 = .ok (.iaload, 1) := by decide +kernel
theorem dX7_copy_53 : decode cX7_copy 53 = .ok (.if_icmp .eq 9, 3) := by decide +kernel
theorem dX7_copy_56 : decode cX7_copy 56 = .ok (.aload_n 0, 1) := by decide +kernel
theorem dX7_copy_57 : decode cX7_copy 57 = .ok (.iconst 5, 1) := by decide +kernel
theorem dX7_copy_58 : decode cX7_copy 58 = .ok (.invokevirtual 59, 3) := by decide +kernel
theorem dX7_copy_61 : decode cX7_copy 61 = .ok (.ireturn, 1) := by decide +kernel
theorem dX7_copy_62 : decode cX7_copy 62 = .ok (.aload_n 0, 1) := by decide +kernel
theorem dX7_copy_63 : decode cX7_copy 63 = .ok (.iload_n 1, 1) := by decide +kernel
theorem dX7_copy_64 : decode cX7_copy 64 = .ok (.iload_n 2, 1) := by decide +kernel
theorem dX7_copy_65 : decode cX7_copy 65 = .ok (.iload 5, 2) := by decide +kernel
theorem dX7_copy_67 : decode cX7_copy 67 = .ok (.invokevirtual 70, 3) := by decide +kernel
theorem dX7_copy_70 : decode cX7_copy 70 = .ok (.ifCond .eq 15, 3) := by decide +kernel
theorem dX7_copy_73 : decode cX7_copy 73 = .ok (.aload_n 0, 1) := by decide +kernel
theorem dX7_copy_74 : decode cX7_copy 74 = .ok (.iload_n 3, 1) := by decide +kernel
theorem dX7_copy_75 : decode cX7_copy 75 = .ok (.iload 4, 2) := by decide +kernel
theorem dX7_copy_77 : decode cX7_copy 77 = .ok (.iload 5, 2) := by decide +kernel
theorem dX7_copy_79 : decode cX7_copy 79 = .ok (.invokevirtual 70, 3) := by decide +kernel
theorem dX7_copy_82 : decode cX7_copy 82 = .ok (.ifCond .ne 9, 3) := by decide +kernel
theorem dX7_copy_85 : decode cX7_copy 85 = .ok (.aload_n 0, 1) := by decide +kernel
theorem dX7_copy_86 : decode cX7_copy 86 = .ok (.iconst 2, 1) := by decide +kernel
theorem dX7_copy_87 : decode cX7_copy 87 = .ok (.invokevirtual 59, 3) := by decide +kernel
theorem dX7_copy_90 : decode cX7_copy 90 = .ok (.ireturn, 1) := by decide +kernel
theorem dX7_copy_91 : decode cX7_copy 91 = .ok (.iload_n 2, 1) := by decide +kernel
theorem dX7_copy_92 : decode cX7_copy 92 = .ok (.iload 4, 2) := by decide +kernel
theorem dX7_copy_94 : decode cX7_copy 94 = .ok (.if_icmp .ge 7, 3) := by decide +kernel
theorem dX7_copy_97 : decode cX7_copy 97 = .ok (.iconst 1, 1) := by decide +kernel
theorem dX7_copy_98 : decode cX7_copy 98 = .ok (.goto 4, 3) := by decide +kernel
theorem dX7_copy_101 : decode cX7_copy 101 = .ok (.iconst 0, 1) := by decide +kernel
theorem dX7_copy_102 : decode cX7_copy 102 = .ok (.istore 6, 2) := by decide +kernel
theorem dX7_copy_104 : decode cX7_copy 104 = .ok (.iconst 0, 1) := by decide +kernel
theorem dX7_copy_105 : decode cX7_copy 105 = .ok (.istore 7, 2) := by decide +kernel
theorem dX7_copy_107 : decode cX7_copy 107 = .ok (.iload 7, 2) := by decide +kernel
theorem dX7_copy_109 : decode cX7_copy 109 = .ok (.iload 5, 2) := by decide +kernel
theorem dX7_copy_111 : decode cX7_copy 111 = .ok (.if_icmp .ge 57, 3) := by decide +kernel
theorem dX7_copy_114 : decode cX7_copy 114 = .ok (.iload 6, 2) := by decide +kernel
theorem dX7_copy_116 : decode cX7_copy 116 = .ok (.ifCond .eq 13, 3) := by decide +kernel
theorem dX7_copy_119 : decode cX7_copy 119 = .ok (.iload 5, 2) := by decide +kernel
theorem dX7_copy_121 : decode cX7_copy 121 = .ok (.iconst 1, 1) := by decide +kernel
theorem dX7_copy_122 : decode cX7_copy 122 = .ok (.isub, 1) := by decide +kernel
theorem dX7_copy_123 : decode cX7_copy 123 = .ok (.iload 7, 2) := by decide +kernel
theorem dX7_copy_125 : decode cX7_copy 125 = .ok (.isub, 1) := by decide +kernel
theorem dX7_copy_126 : decode cX7_copy 126 = .ok (.goto 5, 3) := by decide +kernel
theorem dX7_copy_129 : decode cX7_copy 129 = .ok (.iload 7, 2) := by decide +kernel
theorem dX7_copy_131 : decode cX7_copy 131 = .ok (.istore 8, 2) := by decide +kernel
theorem dX7_copy_133 : decode cX7_copy 133 = .ok (.aload_n 0, 1) := by decide +kernel
theorem dX7_copy_134 : decode cX7_copy 134 = .ok (.getfield 23, 3) := by decide +kernel
theorem dX7_copy_137 : decode cX7_copy 137 = .ok (.bipush 40, 2) := by decide +kernel
theorem dX7_copy_139 : decode cX7_copy 139 = .ok (.iload_n 3, 1) := by decide +kernel
theorem dX7_copy_140 : decode cX7_copy 140 = .ok (.imul, 1) := by decide +kernel
theorem dX7_copy_141 : decode cX7_copy 141 = .ok (.iload 4, 2) := by decide +kernel
theorem dX7_copy_143 : decode cX7_copy 143 = .ok (.iadd, 1) := by decide +kernel
theorem dX7_copy_144 : decode cX7_copy 144 = .ok (.iload 8, 2) := by decide +kernel
theorem dX7_copy_146 : decode cX7_copy 146 = .ok (.iadd, 1) := by decide +kernel
theorem dX7_copy_147 : decode cX7_copy 147 = .ok (.aload_n 0, 1) := by decide +kernel
theorem dX7_copy_148 : decode cX7_copy 148 = .ok (.getfield 23, 3) := by decide +kernel
theorem dX7_copy_151 : decode cX7_copy 151 = .ok (.bipush 40, 2) := by decide +kernel
theorem dX7_copy_153 : decode cX7_copy 153 = .ok (.iload_n 1, 1) := by decide +kernel
theorem dX7_copy_154 : decode cX7_copy 154 = .ok (.imul, 1) := by decide +kernel
theorem dX7_copy_155 : decode cX7_copy 155 = .ok (.iload_n 2, 1) := by decide +kernel
theorem dX7_copy_156 : decode cX7_copy 156 = .ok (.iadd, 1) := by decide +kernel
theorem dX7_copy_157 : decode cX7_copy 157 = .ok (.iload 8, 2) := by decide +kernel
theorem dX7_copy_159 : decode cX7_copy 159 = .ok (.iadd, 1) := by decide +kernel
theorem dX7_copy_160 : decode cX7_copy 160 = .ok (.iaload, 1) := by decide +kernel
theorem dX7_copy_161 : decode cX7_copy 161 = .ok (.iastore, 1) := by decide +kernel
theorem dX7_copy_162 : decode cX7_copy 162 = .ok (.iinc 7 1, 3) := by decide +kernel
theorem dX7_copy_165 : decode cX7_copy 165 = .ok (.goto (-58), 3) := by decide +kernel
theorem dX7_copy_168 : decode cX7_copy 168 = .ok (.aload_n 0, 1) := by decide +kernel
theorem dX7_copy_169 : decode cX7_copy 169 = .ok (.iload 5, 2) := by decide +kernel
theorem dX7_copy_171 : decode cX7_copy 171 = .ok (.invokevirtual 63, 3) := by decide +kernel
theorem dX7_copy_174 : decode cX7_copy 174 = .ok (.ireturn, 1) := by decide +kernel
theorem dX7_drop_0 : decode cX7_drop 0 = .ok (.iload_n 1, 1) := by decide +kernel
theorem dX7_drop_1 : decode cX7_drop 1 = .ok (.invokestatic 52, 3) := by decide +kernel
theorem dX7_drop_4 : decode cX7_drop 4 = .ok (.ifCond .ne 6, 3) := by decide +kernel
theorem dX7_drop_7 : decode cX7_drop 7 = .ok (.ldc 58, 2) := by decide +kernel
theorem dX7_drop_9 : decode cX7_drop 9 = .ok (.ireturn, 1) := by decide +kernel
theorem dX7_drop_10 : decode cX7_drop 10 = .ok (.aload_n 0, 1) := by decide +kernel
theorem dX7_drop_11 : decode cX7_drop 11 = .ok (.getfield 20, 3) := by decide +kernel
theorem dX7_drop_14 : decode cX7_drop 14 = .ok (.iload_n 1, 1) := by decide +kernel
theorem dX7_drop_15 : decode cX7_drop 15 = .ok (.iaload, 1) := by decide +kernel
theorem dX7_drop_16 : decode cX7_drop 16 = .ok (.ifCond .ge 9, 3) := by decide +kernel
theorem dX7_drop_19 : decode cX7_drop 19 = .ok (.aload_n 0, 1) := by decide +kernel
theorem dX7_drop_20 : decode cX7_drop 20 = .ok (.iconst 1, 1) := by decide +kernel
theorem dX7_drop_21 : decode cX7_drop 21 = .ok (.invokevirtual 59, 3) := by decide +kernel
theorem dX7_drop_24 : decode cX7_drop 24 = .ok (.ireturn, 1) := by decide +kernel
theorem dX7_drop_25 : decode cX7_drop 25 = .ok (.aload_n 0, 1) := by decide +kernel
theorem dX7_drop_26 : decode cX7_drop 26 = .ok (.getfield 20, 3) := by decide +kernel
theorem dX7_drop_29 : decode cX7_drop 29 = .ok (.iload_n 1, 1) := by decide +kernel
theorem dX7_drop_30 : decode cX7_drop 30 = .ok (.iaload, 1) := by decide +kernel
theorem dX7_drop_31 : decode cX7_drop 31 = .ok (.istore_n 2, 1) := by decide +kernel
theorem dX7_drop_32 : decode cX7_drop 32 = .ok (.aload_n 0, 1) := by decide +kernel
theorem dX7_drop_33 : decode cX7_drop 33 = .ok (.getfield 20, 3) := by decide +kernel
theorem dX7_drop_36 : decode cX7_drop 36 = .ok (.iload_n 1, 1) := by decide +kernel
theorem dX7_drop_37 : decode cX7_drop 37 = .ok (.iconst (-1), 1) := by decide +kernel
theorem dX7_drop_38 : decode cX7_drop 38 = .ok (.iastore, 1) := by decide +kernel
theorem dX7_drop_39 : decode cX7_drop 39 = .ok (.aload_n 0, 1) := by decide +kernel
theorem dX7_drop_40 : decode cX7_drop 40 = .ok (.iload_n 2, 1) := by decide +kernel
theorem dX7_drop_41 : decode cX7_drop 41 = .ok (.invokevirtual 63, 3) := by decide +kernel
theorem dX7_drop_44 : decode cX7_drop 44 = .ok (.ireturn, 1) := by decide +kernel
theorem dX7_feed_0 : decode cX7_feed 0 = .ok (.iload_n 1, 1) := by decide +kernel
theorem dX7_feed_1 : decode cX7_feed 1 = .ok (.i2l, 1) := by decide +kernel
theorem dX7_feed_2 : decode cX7_feed 2 = .ok (.lconst 0, 1) := by decide +kernel
theorem dX7_feed_3 : decode cX7_feed 3 = .ok (.ldc2_w 74, 3) := by decide +kernel
theorem dX7_feed_6 : decode cX7_feed 6 = .ok (.invokestatic 48, 3) := by decide +kernel
theorem dX7_feed_9 : decode cX7_feed 9 = .ok (.ifCond .ne 6, 3) := by decide +kernel
theorem dX7_feed_12 : decode cX7_feed 12 = .ok (.ldc 58, 2) := by decide +kernel
theorem dX7_feed_14 : decode cX7_feed 14 = .ok (.ireturn, 1) := by decide +kernel
theorem dX7_feed_15 : decode cX7_feed 15 = .ok (.aload_n 0, 1) := by decide +kernel
theorem dX7_feed_16 : decode cX7_feed 16 = .ok (.getfield 76, 3) := by decide +kernel
theorem dX7_feed_19 : decode cX7_feed 19 = .ok (.bipush 100, 2) := by decide +kernel
theorem dX7_feed_21 : decode cX7_feed 21 = .ok (.if_icmp .ne 6, 3) := by decide +kernel
theorem dX7_feed_24 : decode cX7_feed 24 = .ok (.ldc 79, 2) := by decide +kernel
theorem dX7_feed_26 : decode cX7_feed 26 = .ok (.ireturn, 1) := by decide +kernel
theorem dX7_feed_27 : decode cX7_feed 27 = .ok (.aload_n 0, 1) := by decide +kernel
theorem dX7_feed_28 : decode cX7_feed 28 = .ok (.getfield 26, 3) := by decide +kernel
theorem dX7_feed_31 : decode cX7_feed 31 = .ok (.aload_n 0, 1) := by decide +kernel
theorem dX7_feed_32 : decode cX7_feed 32 = .ok (.getfield 76, 3) := by decide +kernel
theorem dX7_feed_35 : decode cX7_feed 35 = .ok (.iload_n 1, 1) := by decide +kernel
theorem dX7_feed_36 : decode cX7_feed 36 = .ok (.iastore, 1) := by decide +kernel
theorem dX7_feed_37 : decode cX7_feed 37 = .ok (.aload_n 0, 1) := by decide +kernel
theorem dX7_feed_38 : decode cX7_feed 38 = .ok (.dup, 1) := by decide +kernel
theorem dX7_feed_39 : decode cX7_feed 39 = .ok (.getfield 76, 3) := by decide +kernel
theorem dX7_feed_42 : decode cX7_feed 42 = .ok (.iconst 1, 1) := by decide +kernel
theorem dX7_feed_43 : decode cX7_feed 43 = .ok (.iadd, 1) := by decide +kernel
theorem dX7_feed_44 : decode cX7_feed 44 = .ok (.putfield 76, 3) := by decide +kernel
theorem dX7_feed_47 : decode cX7_feed 47 = .ok (.aload_n 0, 1) := by decide +kernel
theorem dX7_feed_48 : decode cX7_feed 48 = .ok (.getfield 76, 3) := by decide +kernel
theorem dX7_feed_51 : decode cX7_feed 51 = .ok (.ireturn, 1) := by decide +kernel
theorem dX7_isLetter_0 : decode cX7_isLetter 0 = .ok (.aload_n 0, 1) := by decide +kernel
theorem dX7_isLetter_1 : decode cX7_isLetter 1 = .ok (.getfield 80, 3) := by decide +kernel
theorem dX7_isLetter_4 : decode cX7_isLetter 4 = .ok (.aload_n 0, 1) := by decide +kernel
theorem dX7_isLetter_5 : decode cX7_isLetter 5 = .ok (.getfield 76, 3) := by decide +kernel
theorem dX7_isLetter_8 : decode cX7_isLetter 8 = .ok (.if_icmp .ge 20, 3) := by decide +kernel
theorem dX7_isLetter_11 : decode cX7_isLetter 11 = .ok (.aload_n 0, 1) := by decide +kernel
theorem dX7_isLetter_12 : decode cX7_isLetter 12 = .ok (.getfield 26, 3) := by decide +kernel
theorem dX7_isLetter_15 : decode cX7_isLetter 15 = .ok (.aload_n 0, 1) := by decide +kernel
theorem dX7_isLetter_16 : decode cX7_isLetter 16 = .ok (.getfield 80, 3) := by decide +kernel
theorem dX7_isLetter_19 : decode cX7_isLetter 19 = .ok (.iaload, 1) := by decide +kernel
theorem dX7_isLetter_20 : decode cX7_isLetter 20 = .ok (.iload_n 1, 1) := by decide +kernel
theorem dX7_isLetter_21 : decode cX7_isLetter 21 = .ok (.if_icmp .ne 7, 3) := by decide +kernel
theorem dX7_isLetter_24 : decode cX7_isLetter 24 = .ok (.iconst 1, 1) := by decide +kernel
theorem dX7_isLetter_25 : decode cX7_isLetter 25 = .ok (.goto 4, 3) := by decide +kernel
theorem dX7_isLetter_28 : decode cX7_isLetter 28 = .ok (.iconst 0, 1) := by decide +kernel
theorem dX7_isLetter_29 : decode cX7_isLetter 29 = .ok (.ireturn, 1) := by decide +kernel
theorem dX7_isFigure_0 : decode cX7_isFigure 0 = .ok (.iload_n 1, 1) := by decide +kernel
theorem dX7_isFigure_1 : decode cX7_isFigure 1 = .ok (.aload_n 0, 1) := by decide +kernel
theorem dX7_isFigure_2 : decode cX7_isFigure 2 = .ok (.getfield 76, 3) := by decide +kernel
theorem dX7_isFigure_5 : decode cX7_isFigure 5 = .ok (.if_icmp .ge 26, 3) := by decide +kernel
theorem dX7_isFigure_8 : decode cX7_isFigure 8 = .ok (.aload_n 0, 1) := by decide +kernel
theorem dX7_isFigure_9 : decode cX7_isFigure 9 = .ok (.getfield 26, 3) := by decide +kernel
theorem dX7_isFigure_12 : decode cX7_isFigure 12 = .ok (.iload_n 1, 1) := by decide +kernel
theorem dX7_isFigure_13 : decode cX7_isFigure 13 = .ok (.iaload, 1) := by decide +kernel
theorem dX7_isFigure_14 : decode cX7_isFigure 14 = .ok (.i2l, 1) := by decide +kernel
theorem dX7_isFigure_15 : decode cX7_isFigure 15 = .ok (.ldc2_w 83, 3) := by decide +kernel
theorem dX7_isFigure_18 : decode cX7_isFigure 18 = .ok (.ldc2_w 85, 3) := by decide +kernel
theorem dX7_isFigure_21 : decode cX7_isFigure 21 = .ok (.invokestatic 48, 3) := by decide +kernel
theorem dX7_isFigure_24 : decode cX7_isFigure 24 = .ok (.ifCond .eq 7, 3) := by decide +kernel
theorem dX7_isFigure_27 : decode cX7_isFigure 27 = .ok (.iconst 1, 1) := by decide +kernel
theorem dX7_isFigure_28 : decode cX7_isFigure 28 = .ok (.goto 4, 3) := by decide +kernel
theorem dX7_isFigure_31 : decode cX7_isFigure 31 = .ok (.iconst 0, 1) := by decide +kernel
theorem dX7_isFigure_32 : decode cX7_isFigure 32 = .ok (.ireturn, 1) := by decide +kernel
theorem dX7_refuse_0 : decode cX7_refuse 0 = .ok (.aload_n 0, 1) := by decide +kernel
theorem dX7_refuse_1 : decode cX7_refuse 1 = .ok (.iload_n 1, 1) := by decide +kernel
theorem dX7_refuse_2 : decode cX7_refuse 2 = .ok (.putfield 87, 3) := by decide +kernel
theorem dX7_refuse_5 : decode cX7_refuse 5 = .ok (.iconst 0, 1) := by decide +kernel
theorem dX7_refuse_6 : decode cX7_refuse 6 = .ok (.ireturn, 1) := by decide +kernel
theorem dX7_sign_0 : decode cX7_sign 0 = .ok (.aload_n 0, 1) := by decide +kernel
theorem dX7_sign_1 : decode cX7_sign 1 = .ok (.iload_n 1, 1) := by decide +kernel
theorem dX7_sign_2 : decode cX7_sign 2 = .ok (.invokevirtual 90, 3) := by decide +kernel
theorem dX7_sign_5 : decode cX7_sign 5 = .ok (.ifCond .ne 9, 3) := by decide +kernel
theorem dX7_sign_8 : decode cX7_sign 8 = .ok (.aload_n 0, 1) := by decide +kernel
theorem dX7_sign_9 : decode cX7_sign 9 = .ok (.iconst 1, 1) := by decide +kernel
theorem dX7_sign_10 : decode cX7_sign 10 = .ok (.invokevirtual 93, 3) := by decide +kernel
theorem dX7_sign_13 : decode cX7_sign 13 = .ok (.ireturn, 1) := by decide +kernel
theorem dX7_sign_14 : decode cX7_sign 14 = .ok (.aload_n 0, 1) := by decide +kernel
theorem dX7_sign_15 : decode cX7_sign 15 = .ok (.dup, 1) := by decide +kernel
theorem dX7_sign_16 : decode cX7_sign 16 = .ok (.getfield 80, 3) := by decide +kernel
theorem dX7_sign_19 : decode cX7_sign 19 = .ok (.iconst 1, 1) := by decide +kernel
theorem dX7_sign_20 : decode cX7_sign 20 = .ok (.iadd, 1) := by decide +kernel
theorem dX7_sign_21 : decode cX7_sign 21 = .ok (.putfield 80, 3) := by decide +kernel
theorem dX7_sign_24 : decode cX7_sign 24 = .ok (.iconst 1, 1) := by decide +kernel
theorem dX7_sign_25 : decode cX7_sign 25 = .ok (.ireturn, 1) := by decide +kernel
theorem dX7_readsNumber_0 : decode cX7_readsNumber 0 = .ok (.aload_n 0, 1) := by decide +kernel
theorem dX7_readsNumber_1 : decode cX7_readsNumber 1 = .ok (.aload_n 0, 1) := by decide +kernel
theorem dX7_readsNumber_2 : decode cX7_readsNumber 2 = .ok (.getfield 80, 3) := by decide +kernel
theorem dX7_readsNumber_5 : decode cX7_readsNumber 5 = .ok (.invokevirtual 96, 3) := by decide +kernel
theorem dX7_readsNumber_8 : decode cX7_readsNumber 8 = .ok (.ifCond .eq 29, 3) := by decide +kernel
theorem dX7_readsNumber_11 : decode cX7_readsNumber 11 = .ok (.aload_n 0, 1) := by decide +kernel
theorem dX7_readsNumber_12 : decode cX7_readsNumber 12 = .ok (.aload_n 0, 1) := by decide +kernel
theorem dX7_readsNumber_13 : decode cX7_readsNumber 13 = .ok (.getfield 80, 3) := by decide +kernel
theorem dX7_readsNumber_16 : decode cX7_readsNumber 16 = .ok (.iconst 1, 1) := by decide +kernel
theorem dX7_readsNumber_17 : decode cX7_readsNumber 17 = .ok (.iadd, 1) := by decide +kernel
theorem dX7_readsNumber_18 : decode cX7_readsNumber 18 = .ok (.invokevirtual 96, 3) := by decide +kernel
theorem dX7_readsNumber_21 : decode cX7_readsNumber 21 = .ok (.ifCond .eq 22, 3) := by decide +kernel
theorem dX7_readsNumber_24 : decode cX7_readsNumber 24 = .ok (.aload_n 0, 1) := by decide +kernel
theorem dX7_readsNumber_25 : decode cX7_readsNumber 25 = .ok (.aload_n 0, 1) := by decide +kernel
theorem dX7_readsNumber_26 : decode cX7_readsNumber 26 = .ok (.getfield 80, 3) := by decide +kernel
theorem dX7_readsNumber_29 : decode cX7_readsNumber 29 = .ok (.iconst 2, 1) := by decide +kernel
theorem dX7_readsNumber_30 : decode cX7_readsNumber 30 = .ok (.iadd, 1) := by decide +kernel
theorem dX7_readsNumber_31 : decode cX7_readsNumber 31 = .ok (.invokevirtual 96, 3) := by decide +kernel
theorem dX7_readsNumber_34 : decode cX7_readsNumber 34 = .ok (.ifCond .eq 9, 3) := by decide +kernel
theorem dX7_readsNumber_37 : decode cX7_readsNumber 37 = .ok (.aload_n 0, 1) := by decide +kernel
theorem dX7_readsNumber_38 : decode cX7_readsNumber 38 = .ok (.iconst 1, 1) := by decide +kernel
theorem dX7_readsNumber_39 : decode cX7_readsNumber 39 = .ok (.invokevirtual 93, 3) := by decide +kernel
theorem dX7_readsNumber_42 : decode cX7_readsNumber 42 = .ok (.ireturn, 1) := by decide +kernel
theorem dX7_readsNumber_43 : decode cX7_readsNumber 43 = .ok (.aload_n 0, 1) := by decide +kernel
theorem dX7_readsNumber_44 : decode cX7_readsNumber 44 = .ok (.aload_n 0, 1) := by decide +kernel
theorem dX7_readsNumber_45 : decode cX7_readsNumber 45 = .ok (.getfield 26, 3) := by decide +kernel
theorem dX7_readsNumber_48 : decode cX7_readsNumber 48 = .ok (.aload_n 0, 1) := by decide +kernel
theorem dX7_readsNumber_49 : decode cX7_readsNumber 49 = .ok (.getfield 80, 3) := by decide +kernel
theorem dX7_readsNumber_52 : decode cX7_readsNumber 52 = .ok (.iaload, 1) := by decide +kernel
theorem dX7_readsNumber_53 : decode cX7_readsNumber 53 = .ok (.bipush 48, 2) := by decide +kernel
theorem dX7_readsNumber_55 : decode cX7_readsNumber 55 = .ok (.isub, 1) := by decide +kernel
theorem dX7_readsNumber_56 : decode cX7_readsNumber 56 = .ok (.putfield 99, 3) := by decide +kernel
theorem dX7_readsNumber_59 : decode cX7_readsNumber 59 = .ok (.aload_n 0, 1) := by decide +kernel
theorem dX7_readsNumber_60 : decode cX7_readsNumber 60 = .ok (.aload_n 0, 1) := by decide +kernel
theorem dX7_readsNumber_61 : decode cX7_readsNumber 61 = .ok (.getfield 80, 3) := by decide +kernel
theorem dX7_readsNumber_64 : decode cX7_readsNumber 64 = .ok (.iconst 1, 1) := by decide +kernel
theorem dX7_readsNumber_65 : decode cX7_readsNumber 65 = .ok (.iadd, 1) := by decide +kernel
theorem dX7_readsNumber_66 : decode cX7_readsNumber 66 = .ok (.invokevirtual 96, 3) := by decide +kernel
theorem dX7_readsNumber_69 : decode cX7_readsNumber 69 = .ok (.ifCond .eq 7, 3) := by decide +kernel
theorem dX7_readsNumber_72 : decode cX7_readsNumber 72 = .ok (.iconst 2, 1) := by decide +kernel
theorem dX7_readsNumber_73 : decode cX7_readsNumber 73 = .ok (.goto 4, 3) := by decide +kernel
theorem dX7_readsNumber_76 : decode cX7_readsNumber 76 = .ok (.iconst 1, 1) := by decide +kernel
theorem dX7_readsNumber_77 : decode cX7_readsNumber 77 = .ok (.istore_n 3, 1) := by decide +kernel
theorem dX7_readsNumber_78 : decode cX7_readsNumber 78 = .ok (.aload_n 0, 1) := by decide +kernel
theorem dX7_readsNumber_79 : decode cX7_readsNumber 79 = .ok (.iload_n 3, 1) := by decide +kernel
theorem dX7_readsNumber_80 : decode cX7_readsNumber 80 = .ok (.iconst 2, 1) := by decide +kernel
theorem dX7_readsNumber_81 : decode cX7_readsNumber 81 = .ok (.if_icmp .ne 28, 3) := by decide +kernel
theorem dX7_readsNumber_84 : decode cX7_readsNumber 84 = .ok (.bipush 10, 2) := by decide +kernel
theorem dX7_readsNumber_86 : decode cX7_readsNumber 86 = .ok (.aload_n 0, 1) := by decide +kernel
theorem dX7_readsNumber_87 : decode cX7_readsNumber 87 = .ok (.getfield 99, 3) := by decide +kernel
theorem dX7_readsNumber_90 : decode cX7_readsNumber 90 = .ok (.imul, 1) := by decide +kernel
theorem dX7_readsNumber_91 : decode cX7_readsNumber 91 = .ok (.aload_n 0, 1) := by decide +kernel
theorem dX7_readsNumber_92 : decode cX7_readsNumber 92 = .ok (.getfield 26, 3) := by decide +kernel
theorem dX7_readsNumber_95 : decode cX7_readsNumber 95 = .ok (.aload_n 0, 1) := by decide +kernel
theorem dX7_readsNumber_96 : decode cX7_readsNumber 96 = .ok (.getfield 80, 3) := by decide +kernel
theorem dX7_readsNumber_99 : decode cX7_readsNumber 99 = .ok (.iconst 1, 1) := by decide +kernel
theorem dX7_readsNumber_100 : decode cX7_readsNumber 100 = .ok (.iadd, 1) := by decide +kernel
theorem dX7_readsNumber_101 : decode cX7_readsNumber 101 = .ok (.iaload, 1) := by decide +kernel
theorem dX7_readsNumber_102 : decode cX7_readsNumber 102 = .ok (.iadd, 1) := by decide +kernel
theorem dX7_readsNumber_103 : decode cX7_readsNumber 103 = .ok (.bipush 48, 2) := by decide +kernel
theorem dX7_readsNumber_105 : decode cX7_readsNumber 105 = .ok (.isub, 1) := by decide +kernel
theorem dX7_readsNumber_106 : decode cX7_readsNumber 106 = .ok (.goto 7, 3) := by decide +kernel
theorem dX7_readsNumber_109 : decode cX7_readsNumber 109 = .ok (.aload_n 0, 1) := by decide +kernel
theorem dX7_readsNumber_110 : decode cX7_readsNumber 110 = .ok (.getfield 99, 3) := by decide +kernel
theorem dX7_readsNumber_113 : decode cX7_readsNumber 113 = .ok (.putfield 99, 3) := by decide +kernel
theorem dX7_readsNumber_116 : decode cX7_readsNumber 116 = .ok (.aload_n 0, 1) := by decide +kernel
theorem dX7_readsNumber_117 : decode cX7_readsNumber 117 = .ok (.getfield 99, 3) := by decide +kernel
theorem dX7_readsNumber_120 : decode cX7_readsNumber 120 = .ok (.i2l, 1) := by decide +kernel
theorem dX7_readsNumber_121 : decode cX7_readsNumber 121 = .ok (.iload_n 1, 1) := by decide +kernel
theorem dX7_readsNumber_122 : decode cX7_readsNumber 122 = .ok (.i2l, 1) := by decide +kernel
theorem dX7_readsNumber_123 : decode cX7_readsNumber 123 = .ok (.iload_n 2, 1) := by decide +kernel
theorem dX7_readsNumber_124 : decode cX7_readsNumber 124 = .ok (.i2l, 1) := by decide +kernel
theorem dX7_readsNumber_125 : decode cX7_readsNumber 125 = .ok (.invokestatic 48, 3) := by decide +kernel
theorem dX7_readsNumber_128 : decode cX7_readsNumber 128 = .ok (.ifCond .ne 9, 3) := by decide +kernel
theorem dX7_readsNumber_131 : decode cX7_readsNumber 131 = .ok (.aload_n 0, 1) := by decide +kernel
theorem dX7_readsNumber_132 : decode cX7_readsNumber 132 = .ok (.iconst 2, 1) := by decide +kernel
theorem dX7_readsNumber_133 : decode cX7_readsNumber 133 = .ok (.invokevirtual 93, 3) := by decide +kernel
theorem dX7_readsNumber_136 : decode cX7_readsNumber 136 = .ok (.ireturn, 1) := by decide +kernel
theorem dX7_readsNumber_137 : decode cX7_readsNumber 137 = .ok (.aload_n 0, 1) := by decide +kernel
theorem dX7_readsNumber_138 : decode cX7_readsNumber 138 = .ok (.dup, 1) := by decide +kernel
theorem dX7_readsNumber_139 : decode cX7_readsNumber 139 = .ok (.getfield 80, 3) := by decide +kernel
theorem dX7_readsNumber_142 : decode cX7_readsNumber 142 = .ok (.iload_n 3, 1) := by decide +kernel
theorem dX7_readsNumber_143 : decode cX7_readsNumber 143 = .ok (.iadd, 1) := by decide +kernel
end
section
theorem dX7_readsNumber_144 : decode cX7_readsNumber 144 = .ok (.putfield 80, 3) := by decide +kernel
theorem dX7_readsNumber_147 : decode cX7_readsNumber 147 = .ok (.iconst 1, 1) := by decide +kernel
theorem dX7_readsNumber_148 : decode cX7_readsNumber 148 = .ok (.ireturn, 1) := by decide +kernel
theorem dX7_readsLaw_0 : decode cX7_readsLaw 0 = .ok (.aload_n 0, 1) := by decide +kernel
theorem dX7_readsLaw_1 : decode cX7_readsLaw 1 = .ok (.bipush 108, 2) := by decide +kernel
theorem dX7_readsLaw_3 : decode cX7_readsLaw 3 = .ok (.invokevirtual 102, 3) := by decide +kernel
theorem dX7_readsLaw_6 : decode cX7_readsLaw 6 = .ok (.ifCond .eq 13, 3) := by decide +kernel
theorem dX7_readsLaw_9 : decode cX7_readsLaw 9 = .ok (.aload_n 0, 1) := by decide +kernel
theorem dX7_readsLaw_10 : decode cX7_readsLaw 10 = .ok (.iconst 0, 1) := by decide +kernel
theorem dX7_readsLaw_11 : decode cX7_readsLaw 11 = .ok (.bipush 9, 2) := by decide +kernel
theorem dX7_readsLaw_13 : decode cX7_readsLaw 13 = .ok (.invokevirtual 105, 3) := by decide +kernel
theorem dX7_readsLaw_16 : decode cX7_readsLaw 16 = .ok (.ifCond .ne 5, 3) := by decide +kernel
theorem dX7_readsLaw_19 : decode cX7_readsLaw 19 = .ok (.iconst 0, 1) := by decide +kernel
theorem dX7_readsLaw_20 : decode cX7_readsLaw 20 = .ok (.ireturn, 1) := by decide +kernel
theorem dX7_readsLaw_21 : decode cX7_readsLaw 21 = .ok (.aload_n 0, 1) := by decide +kernel
theorem dX7_readsLaw_22 : decode cX7_readsLaw 22 = .ok (.getfield 7, 3) := by decide +kernel
theorem dX7_readsLaw_25 : decode cX7_readsLaw 25 = .ok (.sipush 1514, 3) := by decide +kernel
theorem dX7_readsLaw_28 : decode cX7_readsLaw 28 = .ok (.aload_n 0, 1) := by decide +kernel
theorem dX7_readsLaw_29 : decode cX7_readsLaw 29 = .ok (.getfield 99, 3) := by decide +kernel
theorem dX7_readsLaw_32 : decode cX7_readsLaw 32 = .ok (.iastore, 1) := by decide +kernel
theorem dX7_readsLaw_33 : decode cX7_readsLaw 33 = .ok (.aload_n 0, 1) := by decide +kernel
theorem dX7_readsLaw_34 : decode cX7_readsLaw 34 = .ok (.bipush 44, 2) := by decide +kernel
theorem dX7_readsLaw_36 : decode cX7_readsLaw 36 = .ok (.invokevirtual 102, 3) := by decide +kernel
theorem dX7_readsLaw_39 : decode cX7_readsLaw 39 = .ok (.ifCond .eq 13, 3) := by decide +kernel
theorem dX7_readsLaw_42 : decode cX7_readsLaw 42 = .ok (.aload_n 0, 1) := by decide +kernel
theorem dX7_readsLaw_43 : decode cX7_readsLaw 43 = .ok (.iconst 1, 1) := by decide +kernel
theorem dX7_readsLaw_44 : decode cX7_readsLaw 44 = .ok (.bipush 6, 2) := by decide +kernel
theorem dX7_readsLaw_46 : decode cX7_readsLaw 46 = .ok (.invokevirtual 105, 3) := by decide +kernel
theorem dX7_readsLaw_49 : decode cX7_readsLaw 49 = .ok (.ifCond .ne 5, 3) := by decide +kernel
theorem dX7_readsLaw_52 : decode cX7_readsLaw 52 = .ok (.iconst 0, 1) := by decide +kernel
theorem dX7_readsLaw_53 : decode cX7_readsLaw 53 = .ok (.ireturn, 1) := by decide +kernel
theorem dX7_readsLaw_54 : decode cX7_readsLaw 54 = .ok (.aload_n 0, 1) := by decide +kernel
theorem dX7_readsLaw_55 : decode cX7_readsLaw 55 = .ok (.getfield 7, 3) := by decide +kernel
theorem dX7_readsLaw_58 : decode cX7_readsLaw 58 = .ok (.sipush 1515, 3) := by decide +kernel
theorem dX7_readsLaw_61 : decode cX7_readsLaw 61 = .ok (.aload_n 0, 1) := by decide +kernel
theorem dX7_readsLaw_62 : decode cX7_readsLaw 62 = .ok (.getfield 99, 3) := by decide +kernel
theorem dX7_readsLaw_65 : decode cX7_readsLaw 65 = .ok (.iastore, 1) := by decide +kernel
theorem dX7_readsLaw_66 : decode cX7_readsLaw 66 = .ok (.aload_n 0, 1) := by decide +kernel
theorem dX7_readsLaw_67 : decode cX7_readsLaw 67 = .ok (.bipush 59, 2) := by decide +kernel
theorem dX7_readsLaw_69 : decode cX7_readsLaw 69 = .ok (.invokevirtual 102, 3) := by decide +kernel
theorem dX7_readsLaw_72 : decode cX7_readsLaw 72 = .ok (.ireturn, 1) := by decide +kernel
theorem dX7_readsChild_0 : decode cX7_readsChild 0 = .ok (.aload_n 0, 1) := by decide +kernel
theorem dX7_readsChild_1 : decode cX7_readsChild 1 = .ok (.getfield 7, 3) := by decide +kernel
theorem dX7_readsChild_4 : decode cX7_readsChild 4 = .ok (.sipush 1512, 3) := by decide +kernel
theorem dX7_readsChild_7 : decode cX7_readsChild 7 = .ok (.iaload, 1) := by decide +kernel
theorem dX7_readsChild_8 : decode cX7_readsChild 8 = .ok (.istore_n 1, 1) := by decide +kernel
theorem dX7_readsChild_9 : decode cX7_readsChild 9 = .ok (.iload_n 1, 1) := by decide +kernel
theorem dX7_readsChild_10 : decode cX7_readsChild 10 = .ok (.iconst 5, 1) := by decide +kernel
theorem dX7_readsChild_11 : decode cX7_readsChild 11 = .ok (.if_icmp .ne 9, 3) := by decide +kernel
theorem dX7_readsChild_14 : decode cX7_readsChild 14 = .ok (.aload_n 0, 1) := by decide +kernel
theorem dX7_readsChild_15 : decode cX7_readsChild 15 = .ok (.iconst 3, 1) := by decide +kernel
theorem dX7_readsChild_16 : decode cX7_readsChild 16 = .ok (.invokevirtual 93, 3) := by decide +kernel
theorem dX7_readsChild_19 : decode cX7_readsChild 19 = .ok (.ireturn, 1) := by decide +kernel
theorem dX7_readsChild_20 : decode cX7_readsChild 20 = .ok (.aload_n 0, 1) := by decide +kernel
theorem dX7_readsChild_21 : decode cX7_readsChild 21 = .ok (.dup, 1) := by decide +kernel
theorem dX7_readsChild_22 : decode cX7_readsChild 22 = .ok (.getfield 80, 3) := by decide +kernel
theorem dX7_readsChild_25 : decode cX7_readsChild 25 = .ok (.iconst 1, 1) := by decide +kernel
theorem dX7_readsChild_26 : decode cX7_readsChild 26 = .ok (.iadd, 1) := by decide +kernel
theorem dX7_readsChild_27 : decode cX7_readsChild 27 = .ok (.putfield 80, 3) := by decide +kernel
theorem dX7_readsChild_30 : decode cX7_readsChild 30 = .ok (.aload_n 0, 1) := by decide +kernel
theorem dX7_readsChild_31 : decode cX7_readsChild 31 = .ok (.iconst 0, 1) := by decide +kernel
theorem dX7_readsChild_32 : decode cX7_readsChild 32 = .ok (.bipush 60, 2) := by decide +kernel
theorem dX7_readsChild_34 : decode cX7_readsChild 34 = .ok (.invokevirtual 105, 3) := by decide +kernel
theorem dX7_readsChild_37 : decode cX7_readsChild 37 = .ok (.ifCond .ne 5, 3) := by decide +kernel
theorem dX7_readsChild_40 : decode cX7_readsChild 40 = .ok (.iconst 0, 1) := by decide +kernel
theorem dX7_readsChild_41 : decode cX7_readsChild 41 = .ok (.ireturn, 1) := by decide +kernel
theorem dX7_readsChild_42 : decode cX7_readsChild 42 = .ok (.aload_n 0, 1) := by decide +kernel
theorem dX7_readsChild_43 : decode cX7_readsChild 43 = .ok (.getfield 7, 3) := by decide +kernel
theorem dX7_readsChild_46 : decode cX7_readsChild 46 = .ok (.sipush 1517, 3) := by decide +kernel
theorem dX7_readsChild_49 : decode cX7_readsChild 49 = .ok (.iload_n 1, 1) := by decide +kernel
theorem dX7_readsChild_50 : decode cX7_readsChild 50 = .ok (.iadd, 1) := by decide +kernel
theorem dX7_readsChild_51 : decode cX7_readsChild 51 = .ok (.aload_n 0, 1) := by decide +kernel
theorem dX7_readsChild_52 : decode cX7_readsChild 52 = .ok (.getfield 99, 3) := by decide +kernel
theorem dX7_readsChild_55 : decode cX7_readsChild 55 = .ok (.iastore, 1) := by decide +kernel
theorem dX7_readsChild_56 : decode cX7_readsChild 56 = .ok (.aload_n 0, 1) := by decide +kernel
theorem dX7_readsChild_57 : decode cX7_readsChild 57 = .ok (.bipush 44, 2) := by decide +kernel
theorem dX7_readsChild_59 : decode cX7_readsChild 59 = .ok (.invokevirtual 102, 3) := by decide +kernel
theorem dX7_readsChild_62 : decode cX7_readsChild 62 = .ok (.ifCond .eq 13, 3) := by decide +kernel
theorem dX7_readsChild_65 : decode cX7_readsChild 65 = .ok (.aload_n 0, 1) := by decide +kernel
theorem dX7_readsChild_66 : decode cX7_readsChild 66 = .ok (.iconst 0, 1) := by decide +kernel
theorem dX7_readsChild_67 : decode cX7_readsChild 67 = .ok (.bipush 20, 2) := by decide +kernel
theorem dX7_readsChild_69 : decode cX7_readsChild 69 = .ok (.invokevirtual 105, 3) := by decide +kernel
theorem dX7_readsChild_72 : decode cX7_readsChild 72 = .ok (.ifCond .ne 5, 3) := by decide +kernel
theorem dX7_readsChild_75 : decode cX7_readsChild 75 = .ok (.iconst 0, 1) := by decide +kernel
theorem dX7_readsChild_76 : decode cX7_readsChild 76 = .ok (.ireturn, 1) := by decide +kernel
theorem dX7_readsChild_77 : decode cX7_readsChild 77 = .ok (.aload_n 0, 1) := by decide +kernel
theorem dX7_readsChild_78 : decode cX7_readsChild 78 = .ok (.getfield 7, 3) := by decide +kernel
theorem dX7_readsChild_81 : decode cX7_readsChild 81 = .ok (.sipush 1522, 3) := by decide +kernel
theorem dX7_readsChild_84 : decode cX7_readsChild 84 = .ok (.iload_n 1, 1) := by decide +kernel
theorem dX7_readsChild_85 : decode cX7_readsChild 85 = .ok (.iadd, 1) := by decide +kernel
theorem dX7_readsChild_86 : decode cX7_readsChild 86 = .ok (.aload_n 0, 1) := by decide +kernel
theorem dX7_readsChild_87 : decode cX7_readsChild 87 = .ok (.getfield 99, 3) := by decide +kernel
theorem dX7_readsChild_90 : decode cX7_readsChild 90 = .ok (.iastore, 1) := by decide +kernel
theorem dX7_readsChild_91 : decode cX7_readsChild 91 = .ok (.aload_n 0, 1) := by decide +kernel
theorem dX7_readsChild_92 : decode cX7_readsChild 92 = .ok (.getfield 7, 3) := by decide +kernel
theorem dX7_readsChild_95 : decode cX7_readsChild 95 = .ok (.sipush 1512, 3) := by decide +kernel
theorem dX7_readsChild_98 : decode cX7_readsChild 98 = .ok (.dup2, 1) := by decide +kernel
theorem dX7_readsChild_99 : decode cX7_readsChild 99 = .ok (.iaload, 1) := by decide +kernel
theorem dX7_readsChild_100 : decode cX7_readsChild 100 = .ok (.iconst 1, 1) := by decide +kernel
theorem dX7_readsChild_101 : decode cX7_readsChild 101 = .ok (.iadd, 1) := by decide +kernel
theorem dX7_readsChild_102 : decode cX7_readsChild 102 = .ok (.iastore, 1) := by decide +kernel
theorem dX7_readsChild_103 : decode cX7_readsChild 103 = .ok (.aload_n 0, 1) := by decide +kernel
theorem dX7_readsChild_104 : decode cX7_readsChild 104 = .ok (.bipush 59, 2) := by decide +kernel
theorem dX7_readsChild_106 : decode cX7_readsChild 106 = .ok (.invokevirtual 102, 3) := by decide +kernel
theorem dX7_readsChild_109 : decode cX7_readsChild 109 = .ok (.ireturn, 1) := by decide +kernel
theorem dX7_kindOfLetter_0 : decode cX7_kindOfLetter 0 = .ok (.iload_n 0, 1) := by decide +kernel
theorem dX7_kindOfLetter_1 : decode cX7_kindOfLetter 1 = .ok (.bipush 115, 2) := by decide +kernel
theorem dX7_kindOfLetter_3 : decode cX7_kindOfLetter 3 = .ok (.if_icmp .ne 7, 3) := by decide +kernel
theorem dX7_kindOfLetter_6 : decode cX7_kindOfLetter 6 = .ok (.iconst 1, 1) := by decide +kernel
theorem dX7_kindOfLetter_7 : decode cX7_kindOfLetter 7 = .ok (.goto 44, 3) := by decide +kernel
theorem dX7_kindOfLetter_10 : decode cX7_kindOfLetter 10 = .ok (.iload_n 0, 1) := by decide +kernel
theorem dX7_kindOfLetter_11 : decode cX7_kindOfLetter 11 = .ok (.bipush 111, 2) := by decide +kernel
theorem dX7_kindOfLetter_13 : decode cX7_kindOfLetter 13 = .ok (.if_icmp .ne 7, 3) := by decide +kernel
theorem dX7_kindOfLetter_16 : decode cX7_kindOfLetter 16 = .ok (.iconst 2, 1) := by decide +kernel
theorem dX7_kindOfLetter_17 : decode cX7_kindOfLetter 17 = .ok (.goto 34, 3) := by decide +kernel
theorem dX7_kindOfLetter_20 : decode cX7_kindOfLetter 20 = .ok (.iload_n 0, 1) := by decide +kernel
theorem dX7_kindOfLetter_21 : decode cX7_kindOfLetter 21 = .ok (.bipush 116, 2) := by decide +kernel
theorem dX7_kindOfLetter_23 : decode cX7_kindOfLetter 23 = .ok (.if_icmp .ne 7, 3) := by decide +kernel
theorem dX7_kindOfLetter_26 : decode cX7_kindOfLetter 26 = .ok (.iconst 3, 1) := by decide +kernel
theorem dX7_kindOfLetter_27 : decode cX7_kindOfLetter 27 = .ok (.goto 24, 3) := by decide +kernel
theorem dX7_kindOfLetter_30 : decode cX7_kindOfLetter 30 = .ok (.iload_n 0, 1) := by decide +kernel
theorem dX7_kindOfLetter_31 : decode cX7_kindOfLetter 31 = .ok (.bipush 110, 2) := by decide +kernel
theorem dX7_kindOfLetter_33 : decode cX7_kindOfLetter 33 = .ok (.if_icmp .ne 7, 3) := by decide +kernel
theorem dX7_kindOfLetter_36 : decode cX7_kindOfLetter 36 = .ok (.iconst 4, 1) := by decide +kernel
theorem dX7_kindOfLetter_37 : decode cX7_kindOfLetter 37 = .ok (.goto 14, 3) := by decide +kernel
theorem dX7_kindOfLetter_40 : decode cX7_kindOfLetter 40 = .ok (.iload_n 0, 1) := by decide +kernel
theorem dX7_kindOfLetter_41 : decode cX7_kindOfLetter 41 = .ok (.bipush 119, 2) := by decide +kernel
theorem dX7_kindOfLetter_43 : decode cX7_kindOfLetter 43 = .ok (.if_icmp .ne 7, 3) := by decide +kernel
theorem dX7_kindOfLetter_46 : decode cX7_kindOfLetter 46 = .ok (.iconst 5, 1) := by decide +kernel
theorem dX7_kindOfLetter_47 : decode cX7_kindOfLetter 47 = .ok (.goto 4, 3) := by decide +kernel
theorem dX7_kindOfLetter_50 : decode cX7_kindOfLetter 50 = .ok (.iconst 0, 1) := by decide +kernel
theorem dX7_kindOfLetter_51 : decode cX7_kindOfLetter 51 = .ok (.ireturn, 1) := by decide +kernel
theorem dX7_readsGran_0 : decode cX7_readsGran 0 = .ok (.aload_n 0, 1) := by decide +kernel
theorem dX7_readsGran_1 : decode cX7_readsGran 1 = .ok (.getfield 7, 3) := by decide +kernel
theorem dX7_readsGran_4 : decode cX7_readsGran 4 = .ok (.sipush 1513, 3) := by decide +kernel
theorem dX7_readsGran_7 : decode cX7_readsGran 7 = .ok (.iaload, 1) := by decide +kernel
theorem dX7_readsGran_8 : decode cX7_readsGran 8 = .ok (.istore_n 1, 1) := by decide +kernel
theorem dX7_readsGran_9 : decode cX7_readsGran 9 = .ok (.iload_n 1, 1) := by decide +kernel
theorem dX7_readsGran_10 : decode cX7_readsGran 10 = .ok (.bipush 6, 2) := by decide +kernel
theorem dX7_readsGran_12 : decode cX7_readsGran 12 = .ok (.if_icmp .ne 9, 3) := by decide +kernel
theorem dX7_readsGran_15 : decode cX7_readsGran 15 = .ok (.aload_n 0, 1) := by decide +kernel
theorem dX7_readsGran_16 : decode cX7_readsGran 16 = .ok (.iconst 3, 1) := by decide +kernel
theorem dX7_readsGran_17 : decode cX7_readsGran 17 = .ok (.invokevirtual 93, 3) := by decide +kernel
theorem dX7_readsGran_20 : decode cX7_readsGran 20 = .ok (.ireturn, 1) := by decide +kernel
theorem dX7_readsGran_21 : decode cX7_readsGran 21 = .ok (.aload_n 0, 1) := by decide +kernel
theorem dX7_readsGran_22 : decode cX7_readsGran 22 = .ok (.getfield 7, 3) := by decide +kernel
theorem dX7_readsGran_25 : decode cX7_readsGran 25 = .ok (.sipush 1532, 3) := by decide +kernel
theorem dX7_readsGran_28 : decode cX7_readsGran 28 = .ok (.iload_n 1, 1) := by decide +kernel
theorem dX7_readsGran_29 : decode cX7_readsGran 29 = .ok (.iadd, 1) := by decide +kernel
theorem dX7_readsGran_30 : decode cX7_readsGran 30 = .ok (.aload_n 0, 1) := by decide +kernel
theorem dX7_readsGran_31 : decode cX7_readsGran 31 = .ok (.getfield 26, 3) := by decide +kernel
theorem dX7_readsGran_34 : decode cX7_readsGran 34 = .ok (.aload_n 0, 1) := by decide +kernel
theorem dX7_readsGran_35 : decode cX7_readsGran 35 = .ok (.getfield 80, 3) := by decide +kernel
theorem dX7_readsGran_38 : decode cX7_readsGran 38 = .ok (.iaload, 1) := by decide +kernel
theorem dX7_readsGran_39 : decode cX7_readsGran 39 = .ok (.invokestatic 109, 3) := by decide +kernel
theorem dX7_readsGran_42 : decode cX7_readsGran 42 = .ok (.iastore, 1) := by decide +kernel
theorem dX7_readsGran_43 : decode cX7_readsGran 43 = .ok (.aload_n 0, 1) := by decide +kernel
theorem dX7_readsGran_44 : decode cX7_readsGran 44 = .ok (.dup, 1) := by decide +kernel
theorem dX7_readsGran_45 : decode cX7_readsGran 45 = .ok (.getfield 80, 3) := by decide +kernel
theorem dX7_readsGran_48 : decode cX7_readsGran 48 = .ok (.iconst 1, 1) := by decide +kernel
theorem dX7_readsGran_49 : decode cX7_readsGran 49 = .ok (.iadd, 1) := by decide +kernel
theorem dX7_readsGran_50 : decode cX7_readsGran 50 = .ok (.putfield 80, 3) := by decide +kernel
theorem dX7_readsGran_53 : decode cX7_readsGran 53 = .ok (.aload_n 0, 1) := by decide +kernel
theorem dX7_readsGran_54 : decode cX7_readsGran 54 = .ok (.iconst 1, 1) := by decide +kernel
theorem dX7_readsGran_55 : decode cX7_readsGran 55 = .ok (.bipush 9, 2) := by decide +kernel
theorem dX7_readsGran_57 : decode cX7_readsGran 57 = .ok (.invokevirtual 105, 3) := by decide +kernel
theorem dX7_readsGran_60 : decode cX7_readsGran 60 = .ok (.ifCond .ne 5, 3) := by decide +kernel
theorem dX7_readsGran_63 : decode cX7_readsGran 63 = .ok (.iconst 0, 1) := by decide +kernel
theorem dX7_readsGran_64 : decode cX7_readsGran 64 = .ok (.ireturn, 1) := by decide +kernel
theorem dX7_readsGran_65 : decode cX7_readsGran 65 = .ok (.aload_n 0, 1) := by decide +kernel
theorem dX7_readsGran_66 : decode cX7_readsGran 66 = .ok (.getfield 7, 3) := by decide +kernel
theorem dX7_readsGran_69 : decode cX7_readsGran 69 = .ok (.sipush 1538, 3) := by decide +kernel
theorem dX7_readsGran_72 : decode cX7_readsGran 72 = .ok (.iload_n 1, 1) := by decide +kernel
theorem dX7_readsGran_73 : decode cX7_readsGran 73 = .ok (.iadd, 1) := by decide +kernel
theorem dX7_readsGran_74 : decode cX7_readsGran 74 = .ok (.aload_n 0, 1) := by decide +kernel
theorem dX7_readsGran_75 : decode cX7_readsGran 75 = .ok (.getfield 99, 3) := by decide +kernel
theorem dX7_readsGran_78 : decode cX7_readsGran 78 = .ok (.iastore, 1) := by decide +kernel
theorem dX7_readsGran_79 : decode cX7_readsGran 79 = .ok (.aload_n 0, 1) := by decide +kernel
theorem dX7_readsGran_80 : decode cX7_readsGran 80 = .ok (.bipush 44, 2) := by decide +kernel
theorem dX7_readsGran_82 : decode cX7_readsGran 82 = .ok (.invokevirtual 102, 3) := by decide +kernel
theorem dX7_readsGran_85 : decode cX7_readsGran 85 = .ok (.ifCond .eq 21, 3) := by decide +kernel
theorem dX7_readsGran_88 : decode cX7_readsGran 88 = .ok (.aload_n 0, 1) := by decide +kernel
theorem dX7_readsGran_89 : decode cX7_readsGran 89 = .ok (.iconst 0, 1) := by decide +kernel
theorem dX7_readsGran_90 : decode cX7_readsGran 90 = .ok (.aload_n 0, 1) := by decide +kernel
theorem dX7_readsGran_91 : decode cX7_readsGran 91 = .ok (.getfield 7, 3) := by decide +kernel
theorem dX7_readsGran_94 : decode cX7_readsGran 94 = .ok (.sipush 1512, 3) := by decide +kernel
theorem dX7_readsGran_97 : decode cX7_readsGran 97 = .ok (.iaload, 1) := by decide +kernel
theorem dX7_readsGran_98 : decode cX7_readsGran 98 = .ok (.iconst 1, 1) := by decide +kernel
theorem dX7_readsGran_99 : decode cX7_readsGran 99 = .ok (.isub, 1) := by decide +kernel
theorem dX7_readsGran_100 : decode cX7_readsGran 100 = .ok (.invokevirtual 105, 3) := by decide +kernel
theorem dX7_readsGran_103 : decode cX7_readsGran 103 = .ok (.ifCond .ne 5, 3) := by decide +kernel
theorem dX7_readsGran_106 : decode cX7_readsGran 106 = .ok (.iconst 0, 1) := by decide +kernel
theorem dX7_readsGran_107 : decode cX7_readsGran 107 = .ok (.ireturn, 1) := by decide +kernel
theorem dX7_readsGran_108 : decode cX7_readsGran 108 = .ok (.aload_n 0, 1) := by decide +kernel
theorem dX7_readsGran_109 : decode cX7_readsGran 109 = .ok (.getfield 7, 3) := by decide +kernel
theorem dX7_readsGran_112 : decode cX7_readsGran 112 = .ok (.sipush 1544, 3) := by decide +kernel
theorem dX7_readsGran_115 : decode cX7_readsGran 115 = .ok (.iload_n 1, 1) := by decide +kernel
theorem dX7_readsGran_116 : decode cX7_readsGran 116 = .ok (.iadd, 1) := by decide +kernel
theorem dX7_readsGran_117 : decode cX7_readsGran 117 = .ok (.aload_n 0, 1) := by decide +kernel
theorem dX7_readsGran_118 : decode cX7_readsGran 118 = .ok (.getfield 99, 3) := by decide +kernel
theorem dX7_readsGran_121 : decode cX7_readsGran 121 = .ok (.iastore, 1) := by decide +kernel
theorem dX7_readsGran_122 : decode cX7_readsGran 122 = .ok (.aload_n 0, 1) := by decide +kernel
theorem dX7_readsGran_123 : decode cX7_readsGran 123 = .ok (.bipush 44, 2) := by decide +kernel
theorem dX7_readsGran_125 : decode cX7_readsGran 125 = .ok (.invokevirtual 102, 3) := by decide +kernel
theorem dX7_readsGran_128 : decode cX7_readsGran 128 = .ok (.ifCond .eq 12, 3) := by decide +kernel
theorem dX7_readsGran_131 : decode cX7_readsGran 131 = .ok (.aload_n 0, 1) := by decide +kernel
theorem dX7_readsGran_132 : decode cX7_readsGran 132 = .ok (.iconst 0, 1) := by decide +kernel
theorem dX7_readsGran_133 : decode cX7_readsGran 133 = .ok (.iconst 4, 1) := by decide +kernel
theorem dX7_readsGran_134 : decode cX7_readsGran 134 = .ok (.invokevirtual 105, 3) := by decide +kernel
theorem dX7_readsGran_137 : decode cX7_readsGran 137 = .ok (.ifCond .ne 5, 3) := by decide +kernel
theorem dX7_readsGran_140 : decode cX7_readsGran 140 = .ok (.iconst 0, 1) := by decide +kernel
theorem dX7_readsGran_141 : decode cX7_readsGran 141 = .ok (.ireturn, 1) := by decide +kernel
theorem dX7_readsGran_142 : decode cX7_readsGran 142 = .ok (.aload_n 0, 1) := by decide +kernel
theorem dX7_readsGran_143 : decode cX7_readsGran 143 = .ok (.getfield 7, 3) := by decide +kernel
theorem dX7_readsGran_146 : decode cX7_readsGran 146 = .ok (.sipush 1550, 3) := by decide +kernel
theorem dX7_readsGran_149 : decode cX7_readsGran 149 = .ok (.iload_n 1, 1) := by decide +kernel
theorem dX7_readsGran_150 : decode cX7_readsGran 150 = .ok (.iadd, 1) := by decide +kernel
theorem dX7_readsGran_151 : decode cX7_readsGran 151 = .ok (.aload_n 0, 1) := by decide +kernel
theorem dX7_readsGran_152 : decode cX7_readsGran 152 = .ok (.getfield 99, 3) := by decide +kernel
theorem dX7_readsGran_155 : decode cX7_readsGran 155 = .ok (.iastore, 1) := by decide +kernel
theorem dX7_readsGran_156 : decode cX7_readsGran 156 = .ok (.aload_n 0, 1) := by decide +kernel
theorem dX7_readsGran_157 : decode cX7_readsGran 157 = .ok (.getfield 7, 3) := by decide +kernel
theorem dX7_readsGran_160 : decode cX7_readsGran 160 = .ok (.sipush 1513, 3) := by decide +kernel
theorem dX7_readsGran_163 : decode cX7_readsGran 163 = .ok (.dup2, 1) := by decide +kernel
theorem dX7_readsGran_164 : decode cX7_readsGran 164 = .ok (.iaload, 1) := by decide +kernel
theorem dX7_readsGran_165 : decode cX7_readsGran 165 = .ok (.iconst 1, 1) := by decide +kernel
theorem dX7_readsGran_166 : decode cX7_readsGran 166 = .ok (.iadd, 1) := by decide +kernel
theorem dX7_readsGran_167 : decode cX7_readsGran 167 = .ok (.iastore, 1) := by decide +kernel
theorem dX7_readsGran_168 : decode cX7_readsGran 168 = .ok (.aload_n 0, 1) := by decide +kernel
theorem dX7_readsGran_169 : decode cX7_readsGran 169 = .ok (.bipush 59, 2) := by decide +kernel
theorem dX7_readsGran_171 : decode cX7_readsGran 171 = .ok (.invokevirtual 102, 3) := by decide +kernel
theorem dX7_readsGran_174 : decode cX7_readsGran 174 = .ok (.ireturn, 1) := by decide +kernel
theorem dX7_isSort_0 : decode cX7_isSort 0 = .ok (.aload_n 0, 1) := by decide +kernel
theorem dX7_isSort_1 : decode cX7_isSort 1 = .ok (.getfield 80, 3) := by decide +kernel
theorem dX7_isSort_4 : decode cX7_isSort 4 = .ok (.aload_n 0, 1) := by decide +kernel
theorem dX7_isSort_5 : decode cX7_isSort 5 = .ok (.getfield 76, 3) := by decide +kernel
theorem dX7_isSort_8 : decode cX7_isSort 8 = .ok (.if_icmp .ge 22, 3) := by decide +kernel
theorem dX7_isSort_11 : decode cX7_isSort 11 = .ok (.aload_n 0, 1) := by decide +kernel
theorem dX7_isSort_12 : decode cX7_isSort 12 = .ok (.getfield 26, 3) := by decide +kernel
theorem dX7_isSort_15 : decode cX7_isSort 15 = .ok (.aload_n 0, 1) := by decide +kernel
theorem dX7_isSort_16 : decode cX7_isSort 16 = .ok (.getfield 80, 3) := by decide +kernel
theorem dX7_isSort_19 : decode cX7_isSort 19 = .ok (.iaload, 1) := by decide +kernel
theorem dX7_isSort_20 : decode cX7_isSort 20 = .ok (.invokestatic 109, 3) := by decide +kernel
theorem dX7_isSort_23 : decode cX7_isSort 23 = .ok (.ifCond .le 7, 3) := by decide +kernel
theorem dX7_isSort_26 : decode cX7_isSort 26 = .ok (.iconst 1, 1) := by decide +kernel
theorem dX7_isSort_27 : decode cX7_isSort 27 = .ok (.goto 4, 3) := by decide +kernel
theorem dX7_isSort_30 : decode cX7_isSort 30 = .ok (.iconst 0, 1) := by decide +kernel
theorem dX7_isSort_31 : decode cX7_isSort 31 = .ok (.ireturn, 1) := by decide +kernel
theorem dX7_reads_0 : decode cX7_reads 0 = .ok (.iconst 0, 1) := by decide +kernel
theorem dX7_reads_1 : decode cX7_reads 1 = .ok (.istore_n 1, 1) := by decide +kernel
theorem dX7_reads_2 : decode cX7_reads 2 = .ok (.iload_n 1, 1) := by decide +kernel
theorem dX7_reads_3 : decode cX7_reads 3 = .ok (.bipush 56, 2) := by decide +kernel
theorem dX7_reads_5 : decode cX7_reads 5 = .ok (.if_icmp .ge 20, 3) := by decide +kernel
theorem dX7_reads_8 : decode cX7_reads 8 = .ok (.aload_n 0, 1) := by decide +kernel
theorem dX7_reads_9 : decode cX7_reads 9 = .ok (.getfield 7, 3) := by decide +kernel
theorem dX7_reads_12 : decode cX7_reads 12 = .ok (.sipush 1512, 3) := by decide +kernel
theorem dX7_reads_15 : decode cX7_reads 15 = .ok (.iload_n 1, 1) := by decide +kernel
theorem dX7_reads_16 : decode cX7_reads 16 = .ok (.iadd, 1) := by decide +kernel
theorem dX7_reads_17 : decode cX7_reads 17 = .ok (.iconst 0, 1) := by decide +kernel
theorem dX7_reads_18 : decode cX7_reads 18 = .ok (.iastore, 1) := by decide +kernel
theorem dX7_reads_19 : decode cX7_reads 19 = .ok (.iinc 1 1, 3) := by decide +kernel
theorem dX7_reads_22 : decode cX7_reads 22 = .ok (.goto (-20), 3) := by decide +kernel
theorem dX7_reads_25 : decode cX7_reads 25 = .ok (.aload_n 0, 1) := by decide +kernel
theorem dX7_reads_26 : decode cX7_reads 26 = .ok (.iconst 0, 1) := by decide +kernel
theorem dX7_reads_27 : decode cX7_reads 27 = .ok (.putfield 80, 3) := by decide +kernel
theorem dX7_reads_30 : decode cX7_reads 30 = .ok (.aload_n 0, 1) := by decide +kernel
theorem dX7_reads_31 : decode cX7_reads 31 = .ok (.invokevirtual 112, 3) := by decide +kernel
theorem dX7_reads_34 : decode cX7_reads 34 = .ok (.ifCond .ne 5, 3) := by decide +kernel
theorem dX7_reads_37 : decode cX7_reads 37 = .ok (.iconst 0, 1) := by decide +kernel
theorem dX7_reads_38 : decode cX7_reads 38 = .ok (.ireturn, 1) := by decide +kernel
theorem dX7_reads_39 : decode cX7_reads 39 = .ok (.aload_n 0, 1) := by decide +kernel
theorem dX7_reads_40 : decode cX7_reads 40 = .ok (.bipush 99, 2) := by decide +kernel
theorem dX7_reads_42 : decode cX7_reads 42 = .ok (.invokevirtual 90, 3) := by decide +kernel
theorem dX7_reads_45 : decode cX7_reads 45 = .ok (.ifCond .ne 9, 3) := by decide +kernel
theorem dX7_reads_48 : decode cX7_reads 48 = .ok (.aload_n 0, 1) := by decide +kernel
theorem dX7_reads_49 : decode cX7_reads 49 = .ok (.iconst 1, 1) := by decide +kernel
theorem dX7_reads_50 : decode cX7_reads 50 = .ok (.invokevirtual 93, 3) := by decide +kernel
theorem dX7_reads_53 : decode cX7_reads 53 = .ok (.ireturn, 1) := by decide +kernel
theorem dX7_reads_54 : decode cX7_reads 54 = .ok (.iconst 1, 1) := by decide +kernel
theorem dX7_reads_55 : decode cX7_reads 55 = .ok (.istore_n 1, 1) := by decide +kernel
theorem dX7_reads_56 : decode cX7_reads 56 = .ok (.iload_n 1, 1) := by decide +kernel
theorem dX7_reads_57 : decode cX7_reads 57 = .ok (.ifCond .eq 20, 3) := by decide +kernel
theorem dX7_reads_60 : decode cX7_reads 60 = .ok (.aload_n 0, 1) := by decide +kernel
theorem dX7_reads_61 : decode cX7_reads 61 = .ok (.bipush 99, 2) := by decide +kernel
theorem dX7_reads_63 : decode cX7_reads 63 = .ok (.invokevirtual 90, 3) := by decide +kernel
theorem dX7_reads_66 : decode cX7_reads 66 = .ok (.ifCond .eq 11, 3) := by decide +kernel
theorem dX7_reads_69 : decode cX7_reads 69 = .ok (.aload_n 0, 1) := by decide +kernel
theorem dX7_reads_70 : decode cX7_reads 70 = .ok (.invokevirtual 116, 3) := by decide +kernel
theorem dX7_reads_73 : decode cX7_reads 73 = .ok (.istore_n 1, 1) := by decide +kernel
theorem dX7_reads_74 : decode cX7_reads 74 = .ok (.goto (-18), 3) := by decide +kernel
theorem dX7_reads_77 : decode cX7_reads 77 = .ok (.iload_n 1, 1) := by decide +kernel
theorem dX7_reads_78 : decode cX7_reads 78 = .ok (.ifCond .ne 5, 3) := by decide +kernel
theorem dX7_reads_81 : decode cX7_reads 81 = .ok (.iconst 0, 1) := by decide +kernel
theorem dX7_reads_82 : decode cX7_reads 82 = .ok (.ireturn, 1) := by decide +kernel
theorem dX7_reads_83 : decode cX7_reads 83 = .ok (.aload_n 0, 1) := by decide +kernel
theorem dX7_reads_84 : decode cX7_reads 84 = .ok (.invokevirtual 119, 3) := by decide +kernel
theorem dX7_reads_87 : decode cX7_reads 87 = .ok (.ifCond .ne 9, 3) := by decide +kernel
theorem dX7_reads_90 : decode cX7_reads 90 = .ok (.aload_n 0, 1) := by decide +kernel
theorem dX7_reads_91 : decode cX7_reads 91 = .ok (.iconst 1, 1) := by decide +kernel
theorem dX7_reads_92 : decode cX7_reads 92 = .ok (.invokevirtual 93, 3) := by decide +kernel
theorem dX7_reads_95 : decode cX7_reads 95 = .ok (.ireturn, 1) := by decide +kernel
theorem dX7_reads_96 : decode cX7_reads 96 = .ok (.iload_n 1, 1) := by decide +kernel
theorem dX7_reads_97 : decode cX7_reads 97 = .ok (.ifCond .eq 18, 3) := by decide +kernel
theorem dX7_reads_100 : decode cX7_reads 100 = .ok (.aload_n 0, 1) := by decide +kernel
theorem dX7_reads_101 : decode cX7_reads 101 = .ok (.invokevirtual 119, 3) := by decide +kernel
theorem dX7_reads_104 : decode cX7_reads 104 = .ok (.ifCond .eq 11, 3) := by decide +kernel
theorem dX7_reads_107 : decode cX7_reads 107 = .ok (.aload_n 0, 1) := by decide +kernel
theorem dX7_reads_108 : decode cX7_reads 108 = .ok (.invokevirtual 122, 3) := by decide +kernel
theorem dX7_reads_111 : decode cX7_reads 111 = .ok (.istore_n 1, 1) := by decide +kernel
theorem dX7_reads_112 : decode cX7_reads 112 = .ok (.goto (-16), 3) := by decide +kernel
theorem dX7_reads_115 : decode cX7_reads 115 = .ok (.iload_n 1, 1) := by decide +kernel
theorem dX7_reads_116 : decode cX7_reads 116 = .ok (.ifCond .eq 26, 3) := by decide +kernel
theorem dX7_reads_119 : decode cX7_reads 119 = .ok (.aload_n 0, 1) := by decide +kernel
theorem dX7_reads_120 : decode cX7_reads 120 = .ok (.getfield 80, 3) := by decide +kernel
theorem dX7_reads_123 : decode cX7_reads 123 = .ok (.aload_n 0, 1) := by decide +kernel
theorem dX7_reads_124 : decode cX7_reads 124 = .ok (.getfield 76, 3) := by decide +kernel
theorem dX7_reads_127 : decode cX7_reads 127 = .ok (.if_icmp .eq 11, 3) := by decide +kernel
theorem dX7_reads_130 : decode cX7_reads 130 = .ok (.aload_n 0, 1) := by decide +kernel
theorem dX7_reads_131 : decode cX7_reads 131 = .ok (.iconst 1, 1) := by decide +kernel
theorem dX7_reads_132 : decode cX7_reads 132 = .ok (.invokevirtual 93, 3) := by decide +kernel
theorem dX7_reads_135 : decode cX7_reads 135 = .ok (.ifCond .eq 7, 3) := by decide +kernel
theorem dX7_reads_138 : decode cX7_reads 138 = .ok (.iconst 1, 1) := by decide +kernel
theorem dX7_reads_139 : decode cX7_reads 139 = .ok (.goto 4, 3) := by decide +kernel
theorem dX7_reads_142 : decode cX7_reads 142 = .ok (.iconst 0, 1) := by decide +kernel
theorem dX7_reads_143 : decode cX7_reads 143 = .ok (.ireturn, 1) := by decide +kernel
theorem dX7_town_0 : decode cX7_town 0 = .ok (.aload_n 0, 1) := by decide +kernel
theorem dX7_town_1 : decode cX7_town 1 = .ok (.invokevirtual 125, 3) := by decide +kernel
theorem dX7_town_4 : decode cX7_town 4 = .ok (.istore_n 1, 1) := by decide +kernel
theorem dX7_town_5 : decode cX7_town 5 = .ok (.aload_n 0, 1) := by decide +kernel
theorem dX7_town_6 : decode cX7_town 6 = .ok (.iconst 0, 1) := by decide +kernel
theorem dX7_town_7 : decode cX7_town 7 = .ok (.putfield 76, 3) := by decide +kernel
theorem dX7_town_10 : decode cX7_town 10 = .ok (.iload_n 1, 1) := by decide +kernel
theorem dX7_town_11 : decode cX7_town 11 = .ok (.ifCond .ne 19, 3) := by decide +kernel
theorem dX7_town_14 : decode cX7_town 14 = .ok (.aload_n 0, 1) := by decide +kernel
theorem dX7_town_15 : decode cX7_town 15 = .ok (.aload_n 0, 1) := by decide +kernel
theorem dX7_town_16 : decode cX7_town 16 = .ok (.getfield 87, 3) := by decide +kernel
theorem dX7_town_19 : decode cX7_town 19 = .ok (.putfield 128, 3) := by decide +kernel
theorem dX7_town_22 : decode cX7_town 22 = .ok (.ldc 131, 2) := by decide +kernel
theorem dX7_town_24 : decode cX7_town 24 = .ok (.aload_n 0, 1) := by decide +kernel
theorem dX7_town_25 : decode cX7_town 25 = .ok (.getfield 80, 3) := by decide +kernel
theorem dX7_town_28 : decode cX7_town 28 = .ok (.isub, 1) := by decide +kernel
theorem dX7_town_29 : decode cX7_town 29 = .ok (.ireturn, 1) := by decide +kernel
theorem dX7_town_30 : decode cX7_town 30 = .ok (.aload_n 0, 1) := by decide +kernel
theorem dX7_town_31 : decode cX7_town 31 = .ok (.sipush 1512, 3) := by decide +kernel
theorem dX7_town_34 : decode cX7_town 34 = .ok (.iconst 0, 1) := by decide +kernel
theorem dX7_town_35 : decode cX7_town 35 = .ok (.invokevirtual 132, 3) := by decide +kernel
theorem dX7_town_38 : decode cX7_town 38 = .ok (.aload_n 0, 1) := by decide +kernel
theorem dX7_town_39 : decode cX7_town 39 = .ok (.iconst 1, 1) := by decide +kernel
theorem dX7_town_40 : decode cX7_town 40 = .ok (.putfield 136, 3) := by decide +kernel
theorem dX7_town_43 : decode cX7_town 43 = .ok (.aload_n 0, 1) := by decide +kernel
theorem dX7_town_44 : decode cX7_town 44 = .ok (.iconst 0, 1) := by decide +kernel
theorem dX7_town_45 : decode cX7_town 45 = .ok (.putfield 140, 3) := by decide +kernel
theorem dX7_town_48 : decode cX7_town 48 = .ok (.aload_n 0, 1) := by decide +kernel
theorem dX7_town_49 : decode cX7_town 49 = .ok (.getfield 7, 3) := by decide +kernel
theorem dX7_town_52 : decode cX7_town 52 = .ok (.iconst 1, 1) := by decide +kernel
theorem dX7_town_53 : decode cX7_town 53 = .ok (.iaload, 1) := by decide +kernel
theorem dX7_town_54 : decode cX7_town 54 = .ok (.ireturn, 1) := by decide +kernel
theorem dX7_fault_0 : decode cX7_fault 0 = .ok (.aload_n 0, 1) := by decide +kernel
theorem dX7_fault_1 : decode cX7_fault 1 = .ok (.getfield 128, 3) := by decide +kernel
theorem dX7_fault_4 : decode cX7_fault 4 = .ok (.ireturn, 1) := by decide +kernel
theorem dX7_copyTown_0 : decode cX7_copyTown 0 = .ok (.iconst 0, 1) := by decide +kernel
theorem dX7_copyTown_1 : decode cX7_copyTown 1 = .ok (.istore_n 3, 1) := by decide +kernel
theorem dX7_copyTown_2 : decode cX7_copyTown 2 = .ok (.iload_n 3, 1) := by decide +kernel
theorem dX7_copyTown_3 : decode cX7_copyTown 3 = .ok (.bipush 56, 2) := by decide +kernel
theorem dX7_copyTown_5 : decode cX7_copyTown 5 = .ok (.if_icmp .ge 25, 3) := by decide +kernel
theorem dX7_copyTown_8 : decode cX7_copyTown 8 = .ok (.aload_n 0, 1) := by decide +kernel
theorem dX7_copyTown_9 : decode cX7_copyTown 9 = .ok (.getfield 7, 3) := by decide +kernel
theorem dX7_copyTown_12 : decode cX7_copyTown 12 = .ok (.iload_n 2, 1) := by decide +kernel
theorem dX7_copyTown_13 : decode cX7_copyTown 13 = .ok (.iload_n 3, 1) := by decide +kernel
theorem dX7_copyTown_14 : decode cX7_copyTown 14 = .ok (.iadd, 1) := by decide +kernel
theorem dX7_copyTown_15 : decode cX7_copyTown 15 = .ok (.aload_n 0, 1) := by decide +kernel
theorem dX7_copyTown_16 : decode cX7_copyTown 16 = .ok (.getfield 7, 3) := by decide +kernel
theorem dX7_copyTown_19 : decode cX7_copyTown 19 = .ok (.iload_n 1, 1) := by decide +kernel
theorem dX7_copyTown_20 : decode cX7_copyTown 20 = .ok (.iload_n 3, 1) := by decide +kernel
theorem dX7_copyTown_21 : decode cX7_copyTown 21 = .ok (.iadd, 1) := by decide +kernel
theorem dX7_copyTown_22 : decode cX7_copyTown 22 = .ok (.iaload, 1) := by decide +kernel
theorem dX7_copyTown_23 : decode cX7_copyTown 23 = .ok (.iastore, 1) := by decide +kernel
theorem dX7_copyTown_24 : decode cX7_copyTown 24 = .ok (.iinc 3 1, 3) := by decide +kernel
theorem dX7_copyTown_27 : decode cX7_copyTown 27 = .ok (.goto (-25), 3) := by decide +kernel
theorem dX7_copyTown_30 : decode cX7_copyTown 30 = .ok (.return_, 1) := by decide +kernel
theorem dX7_keepPast_0 : decode cX7_keepPast 0 = .ok (.iconst 0, 1) := by decide +kernel
theorem dX7_keepPast_1 : decode cX7_keepPast 1 = .ok (.istore_n 1, 1) := by decide +kernel
theorem dX7_keepPast_2 : decode cX7_keepPast 2 = .ok (.iload_n 1, 1) := by decide +kernel
theorem dX7_keepPast_3 : decode cX7_keepPast 3 = .ok (.sipush 1288, 3) := by decide +kernel
theorem dX7_keepPast_6 : decode cX7_keepPast 6 = .ok (.if_icmp .ge 36, 3) := by decide +kernel
theorem dX7_keepPast_9 : decode cX7_keepPast 9 = .ok (.aload_n 0, 1) := by decide +kernel
theorem dX7_keepPast_10 : decode cX7_keepPast 10 = .ok (.getfield 140, 3) := by decide +kernel
theorem dX7_keepPast_13 : decode cX7_keepPast 13 = .ok (.bipush 24, 2) := by decide +kernel
theorem dX7_keepPast_15 : decode cX7_keepPast 15 = .ok (.if_icmp .ne 27, 3) := by decide +kernel
theorem dX7_keepPast_18 : decode cX7_keepPast 18 = .ok (.aload_n 0, 1) := by decide +kernel
theorem dX7_keepPast_19 : decode cX7_keepPast 19 = .ok (.getfield 7, 3) := by decide +kernel
theorem dX7_keepPast_22 : decode cX7_keepPast 22 = .ok (.bipush 56, 2) := by decide +kernel
theorem dX7_keepPast_24 : decode cX7_keepPast 24 = .ok (.iload_n 1, 1) := by decide +kernel
theorem dX7_keepPast_25 : decode cX7_keepPast 25 = .ok (.iadd, 1) := by decide +kernel
theorem dX7_keepPast_26 : decode cX7_keepPast 26 = .ok (.aload_n 0, 1) := by decide +kernel
theorem dX7_keepPast_27 : decode cX7_keepPast 27 = .ok (.getfield 7, 3) := by decide +kernel
theorem dX7_keepPast_30 : decode cX7_keepPast 30 = .ok (.bipush 112, 2) := by decide +kernel
theorem dX7_keepPast_32 : decode cX7_keepPast 32 = .ok (.iload_n 1, 1) := by decide +kernel
theorem dX7_keepPast_33 : decode cX7_keepPast 33 = .ok (.iadd, 1) := by decide +kernel
theorem dX7_keepPast_34 : decode cX7_keepPast 34 = .ok (.iaload, 1) := by decide +kernel
theorem dX7_keepPast_35 : decode cX7_keepPast 35 = .ok (.iastore, 1) := by decide +kernel
theorem dX7_keepPast_36 : decode cX7_keepPast 36 = .ok (.iinc 1 1, 3) := by decide +kernel
theorem dX7_keepPast_39 : decode cX7_keepPast 39 = .ok (.goto (-37), 3) := by decide +kernel
theorem dX7_keepPast_42 : decode cX7_keepPast 42 = .ok (.aload_n 0, 1) := by decide +kernel
theorem dX7_keepPast_43 : decode cX7_keepPast 43 = .ok (.dup, 1) := by decide +kernel
theorem dX7_keepPast_44 : decode cX7_keepPast 44 = .ok (.getfield 140, 3) := by decide +kernel
theorem dX7_keepPast_47 : decode cX7_keepPast 47 = .ok (.aload_n 0, 1) := by decide +kernel
theorem dX7_keepPast_48 : decode cX7_keepPast 48 = .ok (.getfield 140, 3) := by decide +kernel
theorem dX7_keepPast_51 : decode cX7_keepPast 51 = .ok (.bipush 24, 2) := by decide +kernel
theorem dX7_keepPast_53 : decode cX7_keepPast 53 = .ok (.if_icmp .ne 7, 3) := by decide +kernel
theorem dX7_keepPast_56 : decode cX7_keepPast 56 = .ok (.iconst 1, 1) := by decide +kernel
theorem dX7_keepPast_57 : decode cX7_keepPast 57 = .ok (.goto 4, 3) := by decide +kernel
theorem dX7_keepPast_60 : decode cX7_keepPast 60 = .ok (.iconst 0, 1) := by decide +kernel
theorem dX7_keepPast_61 : decode cX7_keepPast 61 = .ok (.isub, 1) := by decide +kernel
theorem dX7_keepPast_62 : decode cX7_keepPast 62 = .ok (.putfield 140, 3) := by decide +kernel
theorem dX7_keepPast_65 : decode cX7_keepPast 65 = .ok (.aload_n 0, 1) := by decide +kernel
theorem dX7_keepPast_66 : decode cX7_keepPast 66 = .ok (.iconst 0, 1) := by decide +kernel
theorem dX7_keepPast_67 : decode cX7_keepPast 67 = .ok (.bipush 56, 2) := by decide +kernel
theorem dX7_keepPast_69 : decode cX7_keepPast 69 = .ok (.bipush 56, 2) := by decide +kernel
theorem dX7_keepPast_71 : decode cX7_keepPast 71 = .ok (.aload_n 0, 1) := by decide +kernel
theorem dX7_keepPast_72 : decode cX7_keepPast 72 = .ok (.getfield 140, 3) := by decide +kernel
theorem dX7_keepPast_75 : decode cX7_keepPast 75 = .ok (.imul, 1) := by decide +kernel
theorem dX7_keepPast_76 : decode cX7_keepPast 76 = .ok (.iadd, 1) := by decide +kernel
theorem dX7_keepPast_77 : decode cX7_keepPast 77 = .ok (.invokevirtual 132, 3) := by decide +kernel
theorem dX7_keepPast_80 : decode cX7_keepPast 80 = .ok (.aload_n 0, 1) := by decide +kernel
theorem dX7_keepPast_81 : decode cX7_keepPast 81 = .ok (.dup, 1) := by decide +kernel
theorem dX7_keepPast_82 : decode cX7_keepPast 82 = .ok (.getfield 140, 3) := by decide +kernel
theorem dX7_keepPast_85 : decode cX7_keepPast 85 = .ok (.iconst 1, 1) := by decide +kernel
theorem dX7_keepPast_86 : decode cX7_keepPast 86 = .ok (.iadd, 1) := by decide +kernel
theorem dX7_keepPast_87 : decode cX7_keepPast 87 = .ok (.putfield 140, 3) := by decide +kernel
theorem dX7_keepPast_90 : decode cX7_keepPast 90 = .ok (.return_, 1) := by decide +kernel
theorem dX7_undo_0 : decode cX7_undo 0 = .ok (.aload_n 0, 1) := by decide +kernel
theorem dX7_undo_1 : decode cX7_undo 1 = .ok (.getfield 140, 3) := by decide +kernel
theorem dX7_undo_4 : decode cX7_undo 4 = .ok (.ifCond .ne 6, 3) := by decide +kernel
theorem dX7_undo_7 : decode cX7_undo 7 = .ok (.ldc 143, 2) := by decide +kernel
theorem dX7_undo_9 : decode cX7_undo 9 = .ok (.ireturn, 1) := by decide +kernel
theorem dX7_undo_10 : decode cX7_undo 10 = .ok (.aload_n 0, 1) := by decide +kernel
theorem dX7_undo_11 : decode cX7_undo 11 = .ok (.dup, 1) := by decide +kernel
theorem dX7_undo_12 : decode cX7_undo 12 = .ok (.getfield 140, 3) := by decide +kernel
theorem dX7_undo_15 : decode cX7_undo 15 = .ok (.iconst 1, 1) := by decide +kernel
theorem dX7_undo_16 : decode cX7_undo 16 = .ok (.isub, 1) := by decide +kernel
theorem dX7_undo_17 : decode cX7_undo 17 = .ok (.putfield 140, 3) := by decide +kernel
theorem dX7_undo_20 : decode cX7_undo 20 = .ok (.aload_n 0, 1) := by decide +kernel
theorem dX7_undo_21 : decode cX7_undo 21 = .ok (.bipush 56, 2) := by decide +kernel
theorem dX7_undo_23 : decode cX7_undo 23 = .ok (.bipush 56, 2) := by decide +kernel
theorem dX7_undo_25 : decode cX7_undo 25 = .ok (.aload_n 0, 1) := by decide +kernel
theorem dX7_undo_26 : decode cX7_undo 26 = .ok (.getfield 140, 3) := by decide +kernel
theorem dX7_undo_29 : decode cX7_undo 29 = .ok (.imul, 1) := by decide +kernel
theorem dX7_undo_30 : decode cX7_undo 30 = .ok (.iadd, 1) := by decide +kernel
theorem dX7_undo_31 : decode cX7_undo 31 = .ok (.iconst 0, 1) := by decide +kernel
theorem dX7_undo_32 : decode cX7_undo 32 = .ok (.invokevirtual 132, 3) := by decide +kernel
theorem dX7_undo_35 : decode cX7_undo 35 = .ok (.aload_n 0, 1) := by decide +kernel
theorem dX7_undo_36 : decode cX7_undo 36 = .ok (.getfield 140, 3) := by decide +kernel
theorem dX7_undo_39 : decode cX7_undo 39 = .ok (.ireturn, 1) := by decide +kernel
theorem dX7_isChild_0 : decode cX7_isChild 0 = .ok (.iload_n 1, 1) := by decide +kernel
theorem dX7_isChild_1 : decode cX7_isChild 1 = .ok (.i2l, 1) := by decide +kernel
theorem dX7_isChild_2 : decode cX7_isChild 2 = .ok (.lconst 0, 1) := by decide +kernel
theorem dX7_isChild_3 : decode cX7_isChild 3 = .ok (.aload_n 0, 1) := by decide +kernel
theorem dX7_isChild_4 : decode cX7_isChild 4 = .ok (.getfield 7, 3) := by decide +kernel
theorem dX7_isChild_7 : decode cX7_isChild 7 = .ok (.iconst 0, 1) := by decide +kernel
theorem dX7_isChild_8 : decode cX7_isChild 8 = .ok (.iaload, 1) := by decide +kernel
theorem dX7_isChild_9 : decode cX7_isChild 9 = .ok (.iconst 1, 1) := by decide +kernel
theorem dX7_isChild_10 : decode cX7_isChild 10 = .ok (.isub, 1) := by decide +kernel
theorem dX7_isChild_11 : decode cX7_isChild 11 = .ok (.i2l, 1) := by decide +kernel
theorem dX7_isChild_12 : decode cX7_isChild 12 = .ok (.invokestatic 48, 3) := by decide +kernel
theorem dX7_isChild_15 : decode cX7_isChild 15 = .ok (.ireturn, 1) := by decide +kernel
theorem dX7_isGran_0 : decode cX7_isGran 0 = .ok (.iload_n 1, 1) := by decide +kernel
theorem dX7_isGran_1 : decode cX7_isGran 1 = .ok (.i2l, 1) := by decide +kernel
theorem dX7_isGran_2 : decode cX7_isGran 2 = .ok (.lconst 0, 1) := by decide +kernel
theorem dX7_isGran_3 : decode cX7_isGran 3 = .ok (.aload_n 0, 1) := by decide +kernel
theorem dX7_isGran_4 : decode cX7_isGran 4 = .ok (.getfield 7, 3) := by decide +kernel
theorem dX7_isGran_7 : decode cX7_isGran 7 = .ok (.iconst 1, 1) := by decide +kernel
theorem dX7_isGran_8 : decode cX7_isGran 8 = .ok (.iaload, 1) := by decide +kernel
theorem dX7_isGran_9 : decode cX7_isGran 9 = .ok (.iconst 1, 1) := by decide +kernel
theorem dX7_isGran_10 : decode cX7_isGran 10 = .ok (.isub, 1) := by decide +kernel
theorem dX7_isGran_11 : decode cX7_isGran 11 = .ok (.i2l, 1) := by decide +kernel
theorem dX7_isGran_12 : decode cX7_isGran 12 = .ok (.invokestatic 48, 3) := by decide +kernel
theorem dX7_isGran_15 : decode cX7_isGran 15 = .ok (.ireturn, 1) := by decide +kernel
theorem dX7_withOf_0 : decode cX7_withOf 0 = .ok (.aload_n 0, 1) := by decide +kernel
theorem dX7_withOf_1 : decode cX7_withOf 1 = .ok (.getfield 7, 3) := by decide +kernel
theorem dX7_withOf_4 : decode cX7_withOf 4 = .ok (.iload_n 1, 1) := by decide +kernel
theorem dX7_withOf_5 : decode cX7_withOf 5 = .ok (.bipush 44, 2) := by decide +kernel
theorem dX7_withOf_7 : decode cX7_withOf 7 = .ok (.iadd, 1) := by decide +kernel
theorem dX7_withOf_8 : decode cX7_withOf 8 = .ok (.iload_n 2, 1) := by decide +kernel
theorem dX7_withOf_9 : decode cX7_withOf 9 = .ok (.iadd, 1) := by decide +kernel
theorem dX7_withOf_10 : decode cX7_withOf 10 = .ok (.iaload, 1) := by decide +kernel
theorem dX7_withOf_11 : decode cX7_withOf 11 = .ok (.ifCond .le 8, 3) := by decide +kernel
theorem dX7_withOf_14 : decode cX7_withOf 14 = .ok (.ldc 144, 2) := by decide +kernel
theorem dX7_withOf_16 : decode cX7_withOf 16 = .ok (.goto 44, 3) := by decide +kernel
theorem dX7_withOf_19 : decode cX7_withOf 19 = .ok (.aload_n 0, 1) := by decide +kernel
theorem dX7_withOf_20 : decode cX7_withOf 20 = .ok (.getfield 7, 3) := by decide +kernel
theorem dX7_withOf_23 : decode cX7_withOf 23 = .ok (.iload_n 1, 1) := by decide +kernel
theorem dX7_withOf_24 : decode cX7_withOf 24 = .ok (.bipush 32, 2) := by decide +kernel
theorem dX7_withOf_26 : decode cX7_withOf 26 = .ok (.iadd, 1) := by decide +kernel
theorem dX7_withOf_27 : decode cX7_withOf 27 = .ok (.iload_n 2, 1) := by decide +kernel
theorem dX7_withOf_28 : decode cX7_withOf 28 = .ok (.iadd, 1) := by decide +kernel
theorem dX7_withOf_29 : decode cX7_withOf 29 = .ok (.iaload, 1) := by decide +kernel
theorem dX7_withOf_30 : decode cX7_withOf 30 = .ok (.aload_n 0, 1) := by decide +kernel
theorem dX7_withOf_31 : decode cX7_withOf 31 = .ok (.getfield 7, 3) := by decide +kernel
theorem dX7_withOf_34 : decode cX7_withOf 34 = .ok (.iload_n 1, 1) := by decide +kernel
theorem dX7_withOf_35 : decode cX7_withOf 35 = .ok (.bipush 38, 2) := by decide +kernel
theorem dX7_withOf_37 : decode cX7_withOf 37 = .ok (.iadd, 1) := by decide +kernel
theorem dX7_withOf_38 : decode cX7_withOf 38 = .ok (.iload_n 2, 1) := by decide +kernel
theorem dX7_withOf_39 : decode cX7_withOf 39 = .ok (.iadd, 1) := by decide +kernel
theorem dX7_withOf_40 : decode cX7_withOf 40 = .ok (.iaload, 1) := by decide +kernel
theorem dX7_withOf_41 : decode cX7_withOf 41 = .ok (.aload_n 0, 1) := by decide +kernel
theorem dX7_withOf_42 : decode cX7_withOf 42 = .ok (.getfield 7, 3) := by decide +kernel
theorem dX7_withOf_45 : decode cX7_withOf 45 = .ok (.iload_n 1, 1) := by decide +kernel
theorem dX7_withOf_46 : decode cX7_withOf 46 = .ok (.iconst 4, 1) := by decide +kernel
theorem dX7_withOf_47 : decode cX7_withOf 47 = .ok (.iadd, 1) := by decide +kernel
theorem dX7_withOf_48 : decode cX7_withOf 48 = .ok (.iaload, 1) := by decide +kernel
theorem dX7_withOf_49 : decode cX7_withOf 49 = .ok (.imul, 1) := by decide +kernel
theorem dX7_withOf_50 : decode cX7_withOf 50 = .ok (.iadd, 1) := by decide +kernel
theorem dX7_withOf_51 : decode cX7_withOf 51 = .ok (.aload_n 0, 1) := by decide +kernel
theorem dX7_withOf_52 : decode cX7_withOf 52 = .ok (.getfield 7, 3) := by decide +kernel
theorem dX7_withOf_55 : decode cX7_withOf 55 = .ok (.iload_n 1, 1) := by decide +kernel
theorem dX7_withOf_56 : decode cX7_withOf 56 = .ok (.iconst 0, 1) := by decide +kernel
theorem dX7_withOf_57 : decode cX7_withOf 57 = .ok (.iadd, 1) := by decide +kernel
theorem dX7_withOf_58 : decode cX7_withOf 58 = .ok (.iaload, 1) := by decide +kernel
theorem dX7_withOf_59 : decode cX7_withOf 59 = .ok (.irem, 1) := by decide +kernel
theorem dX7_withOf_60 : decode cX7_withOf 60 = .ok (.ireturn, 1) := by decide +kernel
theorem dX7_isLost_0 : decode cX7_isLost 0 = .ok (.aload_n 0, 1) := by decide +kernel
theorem dX7_isLost_1 : decode cX7_isLost 1 = .ok (.iload_n 1, 1) := by decide +kernel
theorem dX7_isLost_2 : decode cX7_isLost 2 = .ok (.iload_n 2, 1) := by decide +kernel
theorem dX7_isLost_3 : decode cX7_isLost 3 = .ok (.invokevirtual 145, 3) := by decide +kernel
theorem dX7_isLost_6 : decode cX7_isLost 6 = .ok (.istore_n 3, 1) := by decide +kernel
theorem dX7_isLost_7 : decode cX7_isLost 7 = .ok (.iconst 0, 1) := by decide +kernel
theorem dX7_isLost_8 : decode cX7_isLost 8 = .ok (.istore 4, 2) := by decide +kernel
theorem dX7_isLost_10 : decode cX7_isLost 10 = .ok (.iconst 0, 1) := by decide +kernel
theorem dX7_isLost_11 : decode cX7_isLost 11 = .ok (.istore 5, 2) := by decide +kernel
theorem dX7_isLost_13 : decode cX7_isLost 13 = .ok (.iload 5, 2) := by decide +kernel
theorem dX7_isLost_15 : decode cX7_isLost 15 = .ok (.aload_n 0, 1) := by decide +kernel
theorem dX7_isLost_16 : decode cX7_isLost 16 = .ok (.getfield 7, 3) := by decide +kernel
theorem dX7_isLost_19 : decode cX7_isLost 19 = .ok (.iload_n 1, 1) := by decide +kernel
theorem dX7_isLost_20 : decode cX7_isLost 20 = .ok (.iconst 1, 1) := by decide +kernel
theorem dX7_isLost_21 : decode cX7_isLost 21 = .ok (.iadd, 1) := by decide +kernel
theorem dX7_isLost_22 : decode cX7_isLost 22 = .ok (.iaload, 1) := by decide +kernel
theorem dX7_isLost_23 : decode cX7_isLost 23 = .ok (.if_icmp .ge 57, 3) := by decide +kernel
theorem dX7_isLost_26 : decode cX7_isLost 26 = .ok (.iload 4, 2) := by decide +kernel
theorem dX7_isLost_28 : decode cX7_isLost 28 = .ok (.ifCond .ne 39, 3) := by decide +kernel
theorem dX7_isLost_31 : decode cX7_isLost 31 = .ok (.aload_n 0, 1) := by decide +kernel
theorem dX7_isLost_32 : decode cX7_isLost 32 = .ok (.getfield 7, 3) := by decide +kernel
theorem dX7_isLost_35 : decode cX7_isLost 35 = .ok (.iload_n 1, 1) := by decide +kernel
theorem dX7_isLost_36 : decode cX7_isLost 36 = .ok (.bipush 50, 2) := by decide +kernel
theorem dX7_isLost_38 : decode cX7_isLost 38 = .ok (.iadd, 1) := by decide +kernel
theorem dX7_isLost_39 : decode cX7_isLost 39 = .ok (.iload_n 2, 1) := by decide +kernel
theorem dX7_isLost_40 : decode cX7_isLost 40 = .ok (.iadd, 1) := by decide +kernel
theorem dX7_isLost_41 : decode cX7_isLost 41 = .ok (.iaload, 1) := by decide +kernel
theorem dX7_isLost_42 : decode cX7_isLost 42 = .ok (.iload 5, 2) := by decide +kernel
theorem dX7_isLost_44 : decode cX7_isLost 44 = .ok (.invokestatic 148, 3) := by decide +kernel
theorem dX7_isLost_47 : decode cX7_isLost 47 = .ok (.ifCond .eq 24, 3) := by decide +kernel
theorem dX7_isLost_50 : decode cX7_isLost 50 = .ok (.iload_n 3, 1) := by decide +kernel
theorem dX7_isLost_51 : decode cX7_isLost 51 = .ok (.ldc 144, 2) := by decide +kernel
theorem dX7_isLost_53 : decode cX7_isLost 53 = .ok (.if_icmp .eq 18, 3) := by decide +kernel
theorem dX7_isLost_56 : decode cX7_isLost 56 = .ok (.aload_n 0, 1) := by decide +kernel
theorem dX7_isLost_57 : decode cX7_isLost 57 = .ok (.iload_n 1, 1) := by decide +kernel
theorem dX7_isLost_58 : decode cX7_isLost 58 = .ok (.iload 5, 2) := by decide +kernel
theorem dX7_isLost_60 : decode cX7_isLost 60 = .ok (.invokevirtual 145, 3) := by decide +kernel
theorem dX7_isLost_63 : decode cX7_isLost 63 = .ok (.iload_n 3, 1) := by decide +kernel
theorem dX7_isLost_64 : decode cX7_isLost 64 = .ok (.if_icmp .ne 7, 3) := by decide +kernel
theorem dX7_isLost_67 : decode cX7_isLost 67 = .ok (.iconst 1, 1) := by decide +kernel
theorem dX7_isLost_68 : decode cX7_isLost 68 = .ok (.goto 4, 3) := by decide +kernel
theorem dX7_isLost_71 : decode cX7_isLost 71 = .ok (.iconst 0, 1) := by decide +kernel
theorem dX7_isLost_72 : decode cX7_isLost 72 = .ok (.istore 4, 2) := by decide +kernel
theorem dX7_isLost_74 : decode cX7_isLost 74 = .ok (.iinc 5 1, 3) := by decide +kernel
theorem dX7_isLost_77 : decode cX7_isLost 77 = .ok (.goto (-64), 3) := by decide +kernel
theorem dX7_isLost_80 : decode cX7_isLost 80 = .ok (.iload 4, 2) := by decide +kernel
theorem dX7_isLost_82 : decode cX7_isLost 82 = .ok (.ireturn, 1) := by decide +kernel
theorem dX7_feeds_0 : decode cX7_feeds 0 = .ok (.aload_n 0, 1) := by decide +kernel
theorem dX7_feeds_1 : decode cX7_feeds 1 = .ok (.getfield 7, 3) := by decide +kernel
theorem dX7_feeds_4 : decode cX7_feeds 4 = .ok (.iload_n 1, 1) := by decide +kernel
theorem dX7_feeds_5 : decode cX7_feeds 5 = .ok (.iconst 5, 1) := by decide +kernel
theorem dX7_feeds_6 : decode cX7_feeds 6 = .ok (.iadd, 1) := by decide +kernel
theorem dX7_feeds_7 : decode cX7_feeds 7 = .ok (.iload_n 2, 1) := by decide +kernel
theorem dX7_feeds_8 : decode cX7_feeds 8 = .ok (.iadd, 1) := by decide +kernel
theorem dX7_feeds_9 : decode cX7_feeds 9 = .ok (.aload_n 0, 1) := by decide +kernel
theorem dX7_feeds_10 : decode cX7_feeds 10 = .ok (.getfield 7, 3) := by decide +kernel
theorem dX7_feeds_13 : decode cX7_feeds 13 = .ok (.iload_n 1, 1) := by decide +kernel
theorem dX7_feeds_14 : decode cX7_feeds 14 = .ok (.iconst 5, 1) := by decide +kernel
theorem dX7_feeds_15 : decode cX7_feeds 15 = .ok (.iadd, 1) := by decide +kernel
theorem dX7_feeds_16 : decode cX7_feeds 16 = .ok (.iload_n 2, 1) := by decide +kernel
theorem dX7_feeds_17 : decode cX7_feeds 17 = .ok (.iadd, 1) := by decide +kernel
theorem dX7_feeds_18 : decode cX7_feeds 18 = .ok (.iaload, 1) := by decide +kernel
theorem dX7_feeds_19 : decode cX7_feeds 19 = .ok (.iload_n 3, 1) := by decide +kernel
theorem dX7_feeds_20 : decode cX7_feeds 20 = .ok (.iadd, 1) := by decide +kernel
theorem dX7_feeds_21 : decode cX7_feeds 21 = .ok (.bipush 99, 2) := by decide +kernel
theorem dX7_feeds_23 : decode cX7_feeds 23 = .ok (.invokestatic 151, 3) := by decide +kernel
theorem dX7_feeds_26 : decode cX7_feeds 26 = .ok (.iastore, 1) := by decide +kernel
theorem dX7_feeds_27 : decode cX7_feeds 27 = .ok (.return_, 1) := by decide +kernel
theorem dX7_spoils_0 : decode cX7_spoils 0 = .ok (.aload_n 0, 1) := by decide +kernel
theorem dX7_spoils_1 : decode cX7_spoils 1 = .ok (.getfield 7, 3) := by decide +kernel
theorem dX7_spoils_4 : decode cX7_spoils 4 = .ok (.iload_n 1, 1) := by decide +kernel
theorem dX7_spoils_5 : decode cX7_spoils 5 = .ok (.bipush 10, 2) := by decide +kernel
theorem dX7_spoils_7 : decode cX7_spoils 7 = .ok (.iadd, 1) := by decide +kernel
theorem dX7_spoils_8 : decode cX7_spoils 8 = .ok (.iload_n 2, 1) := by decide +kernel
theorem dX7_spoils_9 : decode cX7_spoils 9 = .ok (.iadd, 1) := by decide +kernel
theorem dX7_spoils_10 : decode cX7_spoils 10 = .ok (.aload_n 0, 1) := by decide +kernel
theorem dX7_spoils_11 : decode cX7_spoils 11 = .ok (.getfield 7, 3) := by decide +kernel
theorem dX7_spoils_14 : decode cX7_spoils 14 = .ok (.iload_n 1, 1) := by decide +kernel
theorem dX7_spoils_15 : decode cX7_spoils 15 = .ok (.bipush 10, 2) := by decide +kernel
theorem dX7_spoils_17 : decode cX7_spoils 17 = .ok (.iadd, 1) := by decide +kernel
theorem dX7_spoils_18 : decode cX7_spoils 18 = .ok (.iload_n 2, 1) := by decide +kernel
theorem dX7_spoils_19 : decode cX7_spoils 19 = .ok (.iadd, 1) := by decide +kernel
theorem dX7_spoils_20 : decode cX7_spoils 20 = .ok (.iaload, 1) := by decide +kernel
theorem dX7_spoils_21 : decode cX7_spoils 21 = .ok (.iload_n 3, 1) := by decide +kernel
theorem dX7_spoils_22 : decode cX7_spoils 22 = .ok (.iadd, 1) := by decide +kernel
theorem dX7_spoils_23 : decode cX7_spoils 23 = .ok (.bipush 20, 2) := by decide +kernel
theorem dX7_spoils_25 : decode cX7_spoils 25 = .ok (.invokestatic 151, 3) := by decide +kernel
theorem dX7_spoils_28 : decode cX7_spoils 28 = .ok (.iastore, 1) := by decide +kernel
theorem dX7_spoils_29 : decode cX7_spoils 29 = .ok (.return_, 1) := by decide +kernel
theorem dX7_brings_0 : decode cX7_brings 0 = .ok (.aload_n 0, 1) := by decide +kernel
theorem dX7_brings_1 : decode cX7_brings 1 = .ok (.getfield 7, 3) := by decide +kernel
theorem dX7_brings_4 : decode cX7_brings 4 = .ok (.iload_n 1, 1) := by decide +kernel
theorem dX7_brings_5 : decode cX7_brings 5 = .ok (.bipush 26, 2) := by decide +kernel
theorem dX7_brings_7 : decode cX7_brings 7 = .ok (.iadd, 1) := by decide +kernel
theorem dX7_brings_8 : decode cX7_brings 8 = .ok (.iload_n 2, 1) := by decide +kernel
theorem dX7_brings_9 : decode cX7_brings 9 = .ok (.iadd, 1) := by decide +kernel
theorem dX7_brings_10 : decode cX7_brings 10 = .ok (.iaload, 1) := by decide +kernel
theorem dX7_brings_11 : decode cX7_brings 11 = .ok (.istore 4, 2) := by decide +kernel
theorem dX7_brings_13 : decode cX7_brings 13 = .ok (.aload_n 0, 1) := by decide +kernel
theorem dX7_brings_14 : decode cX7_brings 14 = .ok (.getfield 7, 3) := by decide +kernel
theorem dX7_brings_17 : decode cX7_brings 17 = .ok (.iload_n 1, 1) := by decide +kernel
theorem dX7_brings_18 : decode cX7_brings 18 = .ok (.bipush 20, 2) := by decide +kernel
theorem dX7_brings_20 : decode cX7_brings 20 = .ok (.iadd, 1) := by decide +kernel
theorem dX7_brings_21 : decode cX7_brings 21 = .ok (.iload_n 2, 1) := by decide +kernel
theorem dX7_brings_22 : decode cX7_brings 22 = .ok (.iadd, 1) := by decide +kernel
theorem dX7_brings_23 : decode cX7_brings 23 = .ok (.iaload, 1) := by decide +kernel
theorem dX7_brings_24 : decode cX7_brings 24 = .ok (.tableswitch 135 1 5 #[36, 47, 67, 135, 116], 36) := by decide +kernel
theorem dX7_brings_60 : decode cX7_brings 60 = .ok (.aload_n 0, 1) := by decide +kernel
theorem dX7_brings_61 : decode cX7_brings 61 = .ok (.iload_n 1, 1) := by decide +kernel
theorem dX7_brings_62 : decode cX7_brings 62 = .ok (.iload_n 3, 1) := by decide +kernel
theorem dX7_brings_63 : decode cX7_brings 63 = .ok (.iload 4, 2) := by decide +kernel
theorem dX7_brings_65 : decode cX7_brings 65 = .ok (.invokevirtual 154, 3) := by decide +kernel
theorem dX7_brings_68 : decode cX7_brings 68 = .ok (.goto 100, 3) := by decide +kernel
theorem dX7_brings_71 : decode cX7_brings 71 = .ok (.aload_n 0, 1) := by decide +kernel
theorem dX7_brings_72 : decode cX7_brings 72 = .ok (.iload_n 1, 1) := by decide +kernel
theorem dX7_brings_73 : decode cX7_brings 73 = .ok (.iload_n 3, 1) := by decide +kernel
theorem dX7_brings_74 : decode cX7_brings 74 = .ok (.iconst 2, 1) := by decide +kernel
theorem dX7_brings_75 : decode cX7_brings 75 = .ok (.iload 4, 2) := by decide +kernel
theorem dX7_brings_77 : decode cX7_brings 77 = .ok (.imul, 1) := by decide +kernel
theorem dX7_brings_78 : decode cX7_brings 78 = .ok (.invokevirtual 154, 3) := by decide +kernel
theorem dX7_brings_81 : decode cX7_brings 81 = .ok (.aload_n 0, 1) := by decide +kernel
theorem dX7_brings_82 : decode cX7_brings 82 = .ok (.iload_n 1, 1) := by decide +kernel
theorem dX7_brings_83 : decode cX7_brings 83 = .ok (.iload_n 3, 1) := by decide +kernel
theorem dX7_brings_84 : decode cX7_brings 84 = .ok (.iconst 1, 1) := by decide +kernel
theorem dX7_brings_85 : decode cX7_brings 85 = .ok (.invokevirtual 158, 3) := by decide +kernel
theorem dX7_brings_88 : decode cX7_brings 88 = .ok (.goto 80, 3) := by decide +kernel
theorem dX7_brings_91 : decode cX7_brings 91 = .ok (.aload_n 0, 1) := by decide +kernel
theorem dX7_brings_92 : decode cX7_brings 92 = .ok (.iload_n 1, 1) := by decide +kernel
theorem dX7_brings_93 : decode cX7_brings 93 = .ok (.iload_n 3, 1) := by decide +kernel
theorem dX7_brings_94 : decode cX7_brings 94 = .ok (.iload 4, 2) := by decide +kernel
theorem dX7_brings_96 : decode cX7_brings 96 = .ok (.iconst 2, 1) := by decide +kernel
theorem dX7_brings_97 : decode cX7_brings 97 = .ok (.idiv, 1) := by decide +kernel
theorem dX7_brings_98 : decode cX7_brings 98 = .ok (.invokevirtual 154, 3) := by decide +kernel
theorem dX7_brings_101 : decode cX7_brings 101 = .ok (.aload_n 0, 1) := by decide +kernel
theorem dX7_brings_102 : decode cX7_brings 102 = .ok (.getfield 7, 3) := by decide +kernel
theorem dX7_brings_105 : decode cX7_brings 105 = .ok (.iload_n 1, 1) := by decide +kernel
theorem dX7_brings_106 : decode cX7_brings 106 = .ok (.bipush 15, 2) := by decide +kernel
theorem dX7_brings_108 : decode cX7_brings 108 = .ok (.iadd, 1) := by decide +kernel
theorem dX7_brings_109 : decode cX7_brings 109 = .ok (.iload_n 3, 1) := by decide +kernel
theorem dX7_brings_110 : decode cX7_brings 110 = .ok (.iadd, 1) := by decide +kernel
theorem dX7_brings_111 : decode cX7_brings 111 = .ok (.dup2, 1) := by decide +kernel
theorem dX7_brings_112 : decode cX7_brings 112 = .ok (.iaload, 1) := by decide +kernel
theorem dX7_brings_113 : decode cX7_brings 113 = .ok (.iconst 1, 1) := by decide +kernel
theorem dX7_brings_114 : decode cX7_brings 114 = .ok (.iload 4, 2) := by decide +kernel
theorem dX7_brings_116 : decode cX7_brings 116 = .ok (.aload_n 0, 1) := by decide +kernel
theorem dX7_brings_117 : decode cX7_brings 117 = .ok (.getfield 7, 3) := by decide +kernel
theorem dX7_brings_120 : decode cX7_brings 120 = .ok (.iload_n 1, 1) := by decide +kernel
theorem dX7_brings_121 : decode cX7_brings 121 = .ok (.iconst 4, 1) := by decide +kernel
theorem dX7_brings_122 : decode cX7_brings 122 = .ok (.iadd, 1) := by decide +kernel
theorem dX7_brings_123 : decode cX7_brings 123 = .ok (.iaload, 1) := by decide +kernel
theorem dX7_brings_124 : decode cX7_brings 124 = .ok (.iadd, 1) := by decide +kernel
theorem dX7_brings_125 : decode cX7_brings 125 = .ok (.aload_n 0, 1) := by decide +kernel
theorem dX7_brings_126 : decode cX7_brings 126 = .ok (.getfield 7, 3) := by decide +kernel
theorem dX7_brings_129 : decode cX7_brings 129 = .ok (.iload_n 1, 1) := by decide +kernel
theorem dX7_brings_130 : decode cX7_brings 130 = .ok (.iconst 3, 1) := by decide +kernel
theorem dX7_brings_131 : decode cX7_brings 131 = .ok (.iadd, 1) := by decide +kernel
theorem dX7_brings_132 : decode cX7_brings 132 = .ok (.iaload, 1) := by decide +kernel
theorem dX7_brings_133 : decode cX7_brings 133 = .ok (.irem, 1) := by decide +kernel
theorem dX7_brings_134 : decode cX7_brings 134 = .ok (.ishl, 1) := by decide +kernel
theorem dX7_brings_135 : decode cX7_brings 135 = .ok (.ior, 1) := by decide +kernel
theorem dX7_brings_136 : decode cX7_brings 136 = .ok (.iastore, 1) := by decide +kernel
theorem dX7_brings_137 : decode cX7_brings 137 = .ok (.goto 31, 3) := by decide +kernel
theorem dX7_brings_140 : decode cX7_brings 140 = .ok (.aload_n 0, 1) := by decide +kernel
theorem dX7_brings_141 : decode cX7_brings 141 = .ok (.iload_n 1, 1) := by decide +kernel
theorem dX7_brings_142 : decode cX7_brings 142 = .ok (.iload_n 3, 1) := by decide +kernel
theorem dX7_brings_143 : decode cX7_brings 143 = .ok (.iload 4, 2) := by decide +kernel
theorem dX7_brings_145 : decode cX7_brings 145 = .ok (.ineg, 1) := by decide +kernel
theorem dX7_brings_146 : decode cX7_brings 146 = .ok (.invokevirtual 158, 3) := by decide +kernel
theorem dX7_brings_149 : decode cX7_brings 149 = .ok (.aload_n 0, 1) := by decide +kernel
theorem dX7_brings_150 : decode cX7_brings 150 = .ok (.iload_n 1, 1) := by decide +kernel
theorem dX7_brings_151 : decode cX7_brings 151 = .ok (.iload_n 3, 1) := by decide +kernel
theorem dX7_brings_152 : decode cX7_brings 152 = .ok (.iconst 1, 1) := by decide +kernel
theorem dX7_brings_153 : decode cX7_brings 153 = .ok (.invokevirtual 154, 3) := by decide +kernel
theorem dX7_brings_156 : decode cX7_brings 156 = .ok (.goto 12, 3) := by decide +kernel
theorem dX7_brings_159 : decode cX7_brings 159 = .ok (.aload_n 0, 1) := by decide +kernel
theorem dX7_brings_160 : decode cX7_brings 160 = .ok (.iload_n 1, 1) := by decide +kernel
theorem dX7_brings_161 : decode cX7_brings 161 = .ok (.iload_n 3, 1) := by decide +kernel
theorem dX7_brings_162 : decode cX7_brings 162 = .ok (.iload 4, 2) := by decide +kernel
theorem dX7_brings_164 : decode cX7_brings 164 = .ok (.ineg, 1) := by decide +kernel
theorem dX7_brings_165 : decode cX7_brings 165 = .ok (.invokevirtual 158, 3) := by decide +kernel
theorem dX7_brings_168 : decode cX7_brings 168 = .ok (.return_, 1) := by decide +kernel
theorem dX7_pass_0 : decode cX7_pass 0 = .ok (.iconst 0, 1) := by decide +kernel
theorem dX7_pass_1 : decode cX7_pass 1 = .ok (.istore_n 2, 1) := by decide +kernel
theorem dX7_pass_2 : decode cX7_pass 2 = .ok (.iload_n 2, 1) := by decide +kernel
theorem dX7_pass_3 : decode cX7_pass 3 = .ok (.aload_n 0, 1) := by decide +kernel
theorem dX7_pass_4 : decode cX7_pass 4 = .ok (.getfield 7, 3) := by decide +kernel
theorem dX7_pass_7 : decode cX7_pass 7 = .ok (.iload_n 1, 1) := by decide +kernel
theorem dX7_pass_8 : decode cX7_pass 8 = .ok (.iconst 1, 1) := by decide +kernel
theorem dX7_pass_9 : decode cX7_pass 9 = .ok (.iadd, 1) := by decide +kernel
theorem dX7_pass_10 : decode cX7_pass 10 = .ok (.iaload, 1) := by decide +kernel
theorem dX7_pass_11 : decode cX7_pass 11 = .ok (.if_icmp .ge 41, 3) := by decide +kernel
theorem dX7_pass_14 : decode cX7_pass 14 = .ok (.aload_n 0, 1) := by decide +kernel
theorem dX7_pass_15 : decode cX7_pass 15 = .ok (.iload_n 1, 1) := by decide +kernel
theorem dX7_pass_16 : decode cX7_pass 16 = .ok (.iload_n 2, 1) := by decide +kernel
theorem dX7_pass_17 : decode cX7_pass 17 = .ok (.invokevirtual 145, 3) := by decide +kernel
theorem dX7_pass_20 : decode cX7_pass 20 = .ok (.ldc 144, 2) := by decide +kernel
theorem dX7_pass_22 : decode cX7_pass 22 = .ok (.if_icmp .eq 24, 3) := by decide +kernel
theorem dX7_pass_25 : decode cX7_pass 25 = .ok (.aload_n 0, 1) := by decide +kernel
theorem dX7_pass_26 : decode cX7_pass 26 = .ok (.iload_n 1, 1) := by decide +kernel
theorem dX7_pass_27 : decode cX7_pass 27 = .ok (.iload_n 2, 1) := by decide +kernel
theorem dX7_pass_28 : decode cX7_pass 28 = .ok (.invokevirtual 161, 3) := by decide +kernel
theorem dX7_pass_31 : decode cX7_pass 31 = .ok (.ifCond .ne 15, 3) := by decide +kernel
theorem dX7_pass_34 : decode cX7_pass 34 = .ok (.aload_n 0, 1) := by decide +kernel
theorem dX7_pass_35 : decode cX7_pass 35 = .ok (.iload_n 1, 1) := by decide +kernel
theorem dX7_pass_36 : decode cX7_pass 36 = .ok (.iload_n 2, 1) := by decide +kernel
theorem dX7_pass_37 : decode cX7_pass 37 = .ok (.aload_n 0, 1) := by decide +kernel
theorem dX7_pass_38 : decode cX7_pass 38 = .ok (.iload_n 1, 1) := by decide +kernel
theorem dX7_pass_39 : decode cX7_pass 39 = .ok (.iload_n 2, 1) := by decide +kernel
theorem dX7_pass_40 : decode cX7_pass 40 = .ok (.invokevirtual 145, 3) := by decide +kernel
theorem dX7_pass_43 : decode cX7_pass 43 = .ok (.invokevirtual 164, 3) := by decide +kernel
theorem dX7_pass_46 : decode cX7_pass 46 = .ok (.iinc 2 1, 3) := by decide +kernel
theorem dX7_pass_49 : decode cX7_pass 49 = .ok (.goto (-47), 3) := by decide +kernel
theorem dX7_pass_52 : decode cX7_pass 52 = .ok (.iconst 0, 1) := by decide +kernel
theorem dX7_pass_53 : decode cX7_pass 53 = .ok (.istore_n 2, 1) := by decide +kernel
theorem dX7_pass_54 : decode cX7_pass 54 = .ok (.iload_n 2, 1) := by decide +kernel
theorem dX7_pass_55 : decode cX7_pass 55 = .ok (.aload_n 0, 1) := by decide +kernel
theorem dX7_pass_56 : decode cX7_pass 56 = .ok (.getfield 7, 3) := by decide +kernel
theorem dX7_pass_59 : decode cX7_pass 59 = .ok (.iload_n 1, 1) := by decide +kernel
theorem dX7_pass_60 : decode cX7_pass 60 = .ok (.iconst 0, 1) := by decide +kernel
theorem dX7_pass_61 : decode cX7_pass 61 = .ok (.iadd, 1) := by decide +kernel
theorem dX7_pass_62 : decode cX7_pass 62 = .ok (.iaload, 1) := by decide +kernel
theorem dX7_pass_63 : decode cX7_pass 63 = .ok (.if_icmp .ge 24, 3) := by decide +kernel
theorem dX7_pass_66 : decode cX7_pass 66 = .ok (.aload_n 0, 1) := by decide +kernel
theorem dX7_pass_67 : decode cX7_pass 67 = .ok (.iload_n 1, 1) := by decide +kernel
theorem dX7_pass_68 : decode cX7_pass 68 = .ok (.iload_n 2, 1) := by decide +kernel
theorem dX7_pass_69 : decode cX7_pass 69 = .ok (.aload_n 0, 1) := by decide +kernel
theorem dX7_pass_70 : decode cX7_pass 70 = .ok (.getfield 7, 3) := by decide +kernel
theorem dX7_pass_73 : decode cX7_pass 73 = .ok (.iload_n 1, 1) := by decide +kernel
theorem dX7_pass_74 : decode cX7_pass 74 = .ok (.iconst 2, 1) := by decide +kernel
theorem dX7_pass_75 : decode cX7_pass 75 = .ok (.iadd, 1) := by decide +kernel
theorem dX7_pass_76 : decode cX7_pass 76 = .ok (.iaload, 1) := by decide +kernel
theorem dX7_pass_77 : decode cX7_pass 77 = .ok (.ineg, 1) := by decide +kernel
theorem dX7_pass_78 : decode cX7_pass 78 = .ok (.invokevirtual 154, 3) := by decide +kernel
theorem dX7_pass_81 : decode cX7_pass 81 = .ok (.iinc 2 1, 3) := by decide +kernel
theorem dX7_pass_84 : decode cX7_pass 84 = .ok (.goto (-30), 3) := by decide +kernel
theorem dX7_pass_87 : decode cX7_pass 87 = .ok (.iconst 0, 1) := by decide +kernel
theorem dX7_pass_88 : decode cX7_pass 88 = .ok (.istore_n 2, 1) := by decide +kernel
theorem dX7_pass_89 : decode cX7_pass 89 = .ok (.iload_n 2, 1) := by decide +kernel
theorem dX7_pass_90 : decode cX7_pass 90 = .ok (.aload_n 0, 1) := by decide +kernel
theorem dX7_pass_91 : decode cX7_pass 91 = .ok (.getfield 7, 3) := by decide +kernel
theorem dX7_pass_94 : decode cX7_pass 94 = .ok (.iload_n 1, 1) := by decide +kernel
theorem dX7_pass_95 : decode cX7_pass 95 = .ok (.iconst 1, 1) := by decide +kernel
theorem dX7_pass_96 : decode cX7_pass 96 = .ok (.iadd, 1) := by decide +kernel
theorem dX7_pass_97 : decode cX7_pass 97 = .ok (.iaload, 1) := by decide +kernel
theorem dX7_pass_98 : decode cX7_pass 98 = .ok (.if_icmp .ge 42, 3) := by decide +kernel
theorem dX7_pass_101 : decode cX7_pass 101 = .ok (.aload_n 0, 1) := by decide +kernel
theorem dX7_pass_102 : decode cX7_pass 102 = .ok (.getfield 7, 3) := by decide +kernel
theorem dX7_pass_105 : decode cX7_pass 105 = .ok (.iload_n 1, 1) := by decide +kernel
theorem dX7_pass_106 : decode cX7_pass 106 = .ok (.bipush 44, 2) := by decide +kernel
theorem dX7_pass_108 : decode cX7_pass 108 = .ok (.iadd, 1) := by decide +kernel
theorem dX7_pass_109 : decode cX7_pass 109 = .ok (.iload_n 2, 1) := by decide +kernel
theorem dX7_pass_110 : decode cX7_pass 110 = .ok (.iadd, 1) := by decide +kernel
theorem dX7_pass_111 : decode cX7_pass 111 = .ok (.dup2, 1) := by decide +kernel
theorem dX7_pass_112 : decode cX7_pass 112 = .ok (.iaload, 1) := by decide +kernel
theorem dX7_pass_113 : decode cX7_pass 113 = .ok (.aload_n 0, 1) := by decide +kernel
theorem dX7_pass_114 : decode cX7_pass 114 = .ok (.getfield 7, 3) := by decide +kernel
theorem dX7_pass_117 : decode cX7_pass 117 = .ok (.iload_n 1, 1) := by decide +kernel
theorem dX7_pass_118 : decode cX7_pass 118 = .ok (.bipush 44, 2) := by decide +kernel
theorem dX7_pass_120 : decode cX7_pass 120 = .ok (.iadd, 1) := by decide +kernel
theorem dX7_pass_121 : decode cX7_pass 121 = .ok (.iload_n 2, 1) := by decide +kernel
theorem dX7_pass_122 : decode cX7_pass 122 = .ok (.iadd, 1) := by decide +kernel
theorem dX7_pass_123 : decode cX7_pass 123 = .ok (.iaload, 1) := by decide +kernel
theorem dX7_pass_124 : decode cX7_pass 124 = .ok (.ifCond .le 7, 3) := by decide +kernel
theorem dX7_pass_127 : decode cX7_pass 127 = .ok (.iconst 1, 1) := by decide +kernel
theorem dX7_pass_128 : decode cX7_pass 128 = .ok (.goto 4, 3) := by decide +kernel
theorem dX7_pass_131 : decode cX7_pass 131 = .ok (.iconst 0, 1) := by decide +kernel
theorem dX7_pass_132 : decode cX7_pass 132 = .ok (.isub, 1) := by decide +kernel
theorem dX7_pass_133 : decode cX7_pass 133 = .ok (.iastore, 1) := by decide +kernel
theorem dX7_pass_134 : decode cX7_pass 134 = .ok (.iinc 2 1, 3) := by decide +kernel
theorem dX7_pass_137 : decode cX7_pass 137 = .ok (.goto (-48), 3) := by decide +kernel
theorem dX7_pass_140 : decode cX7_pass 140 = .ok (.aload_n 0, 1) := by decide +kernel
theorem dX7_pass_141 : decode cX7_pass 141 = .ok (.getfield 7, 3) := by decide +kernel
theorem dX7_pass_144 : decode cX7_pass 144 = .ok (.iload_n 1, 1) := by decide +kernel
theorem dX7_pass_145 : decode cX7_pass 145 = .ok (.iconst 4, 1) := by decide +kernel
theorem dX7_pass_146 : decode cX7_pass 146 = .ok (.iadd, 1) := by decide +kernel
theorem dX7_pass_147 : decode cX7_pass 147 = .ok (.dup2, 1) := by decide +kernel
theorem dX7_pass_148 : decode cX7_pass 148 = .ok (.iaload, 1) := by decide +kernel
theorem dX7_pass_149 : decode cX7_pass 149 = .ok (.iconst 1, 1) := by decide +kernel
theorem dX7_pass_150 : decode cX7_pass 150 = .ok (.iadd, 1) := by decide +kernel
theorem dX7_pass_151 : decode cX7_pass 151 = .ok (.iastore, 1) := by decide +kernel
theorem dX7_pass_152 : decode cX7_pass 152 = .ok (.return_, 1) := by decide +kernel
theorem dX7_days_0 : decode cX7_days 0 = .ok (.aload_n 0, 1) := by decide +kernel
theorem dX7_days_1 : decode cX7_days 1 = .ok (.getfield 136, 3) := by decide +kernel
theorem dX7_days_4 : decode cX7_days 4 = .ok (.ifCond .ne 6, 3) := by decide +kernel
theorem dX7_days_7 : decode cX7_days 7 = .ok (.ldc 143, 2) := by decide +kernel
theorem dX7_days_9 : decode cX7_days 9 = .ok (.ireturn, 1) := by decide +kernel
theorem dX7_days_10 : decode cX7_days 10 = .ok (.iload_n 1, 1) := by decide +kernel
theorem dX7_days_11 : decode cX7_days 11 = .ok (.i2l, 1) := by decide +kernel
theorem dX7_days_12 : decode cX7_days 12 = .ok (.lconst 1, 1) := by decide +kernel
theorem dX7_days_13 : decode cX7_days 13 = .ok (.ldc2_w 167, 3) := by decide +kernel
theorem dX7_days_16 : decode cX7_days 16 = .ok (.invokestatic 48, 3) := by decide +kernel
theorem dX7_days_19 : decode cX7_days 19 = .ok (.ifCond .ne 6, 3) := by decide +kernel
theorem dX7_days_22 : decode cX7_days 22 = .ok (.ldc 58, 2) := by decide +kernel
theorem dX7_days_24 : decode cX7_days 24 = .ok (.ireturn, 1) := by decide +kernel
theorem dX7_days_25 : decode cX7_days 25 = .ok (.aload_n 0, 1) := by decide +kernel
theorem dX7_days_26 : decode cX7_days 26 = .ok (.getfield 7, 3) := by decide +kernel
theorem dX7_days_29 : decode cX7_days 29 = .ok (.iconst 4, 1) := by decide +kernel
theorem dX7_days_30 : decode cX7_days 30 = .ok (.iaload, 1) := by decide +kernel
theorem dX7_days_31 : decode cX7_days 31 = .ok (.iload_n 1, 1) := by decide +kernel
theorem dX7_days_32 : decode cX7_days 32 = .ok (.iadd, 1) := by decide +kernel
theorem dX7_days_33 : decode cX7_days 33 = .ok (.sipush 999, 3) := by decide +kernel
theorem dX7_days_36 : decode cX7_days 36 = .ok (.if_icmp .le 6, 3) := by decide +kernel
theorem dX7_days_39 : decode cX7_days 39 = .ok (.ldc 79, 2) := by decide +kernel
theorem dX7_days_41 : decode cX7_days 41 = .ok (.ireturn, 1) := by decide +kernel
theorem dX7_days_42 : decode cX7_days 42 = .ok (.iconst 0, 1) := by decide +kernel
theorem dX7_days_43 : decode cX7_days 43 = .ok (.istore_n 2, 1) := by decide +kernel
theorem dX7_days_44 : decode cX7_days 44 = .ok (.iload_n 2, 1) := by decide +kernel
theorem dX7_days_45 : decode cX7_days 45 = .ok (.iload_n 1, 1) := by decide +kernel
theorem dX7_days_46 : decode cX7_days 46 = .ok (.if_icmp .ge 18, 3) := by decide +kernel
theorem dX7_days_49 : decode cX7_days 49 = .ok (.aload_n 0, 1) := by decide +kernel
theorem dX7_days_50 : decode cX7_days 50 = .ok (.invokevirtual 169, 3) := by decide +kernel
theorem dX7_days_53 : decode cX7_days 53 = .ok (.aload_n 0, 1) := by decide +kernel
theorem dX7_days_54 : decode cX7_days 54 = .ok (.iconst 0, 1) := by decide +kernel
theorem dX7_days_55 : decode cX7_days 55 = .ok (.invokevirtual 172, 3) := by decide +kernel
theorem dX7_days_58 : decode cX7_days 58 = .ok (.iinc 2 1, 3) := by decide +kernel
theorem dX7_days_61 : decode cX7_days 61 = .ok (.goto (-17), 3) := by decide +kernel
theorem dX7_days_64 : decode cX7_days 64 = .ok (.aload_n 0, 1) := by decide +kernel
theorem dX7_days_65 : decode cX7_days 65 = .ok (.getfield 7, 3) := by decide +kernel
theorem dX7_days_68 : decode cX7_days 68 = .ok (.iconst 4, 1) := by decide +kernel
theorem dX7_days_69 : decode cX7_days 69 = .ok (.iaload, 1) := by decide +kernel
theorem dX7_days_70 : decode cX7_days 70 = .ok (.ireturn, 1) := by decide +kernel
theorem dX7_put_0 : decode cX7_put 0 = .ok (.aload_n 0, 1) := by decide +kernel
theorem dX7_put_1 : decode cX7_put 1 = .ok (.invokevirtual 169, 3) := by decide +kernel
theorem dX7_put_4 : decode cX7_put 4 = .ok (.aload_n 0, 1) := by decide +kernel
theorem dX7_put_5 : decode cX7_put 5 = .ok (.getfield 7, 3) := by decide +kernel
theorem dX7_put_8 : decode cX7_put 8 = .ok (.iload_n 1, 1) := by decide +kernel
theorem dX7_put_9 : decode cX7_put 9 = .ok (.iaload, 1) := by decide +kernel
theorem dX7_put_10 : decode cX7_put 10 = .ok (.istore_n 3, 1) := by decide +kernel
theorem dX7_put_11 : decode cX7_put 11 = .ok (.aload_n 0, 1) := by decide +kernel
theorem dX7_put_12 : decode cX7_put 12 = .ok (.getfield 7, 3) := by decide +kernel
theorem dX7_put_15 : decode cX7_put 15 = .ok (.iload_n 1, 1) := by decide +kernel
theorem dX7_put_16 : decode cX7_put 16 = .ok (.iload_n 2, 1) := by decide +kernel
theorem dX7_put_17 : decode cX7_put 17 = .ok (.iastore, 1) := by decide +kernel
theorem dX7_put_18 : decode cX7_put 18 = .ok (.iload_n 3, 1) := by decide +kernel
theorem dX7_put_19 : decode cX7_put 19 = .ok (.ireturn, 1) := by decide +kernel
theorem dX7_sick_0 : decode cX7_sick 0 = .ok (.aload_n 0, 1) := by decide +kernel
theorem dX7_sick_1 : decode cX7_sick 1 = .ok (.iload_n 1, 1) := by decide +kernel
theorem dX7_sick_2 : decode cX7_sick 2 = .ok (.invokevirtual 176, 3) := by decide +kernel
theorem dX7_sick_5 : decode cX7_sick 5 = .ok (.ifCond .eq 27, 3) := by decide +kernel
theorem dX7_sick_8 : decode cX7_sick 8 = .ok (.iload_n 2, 1) := by decide +kernel
theorem dX7_sick_9 : decode cX7_sick 9 = .ok (.i2l, 1) := by decide +kernel
theorem dX7_sick_10 : decode cX7_sick 10 = .ok (.lconst 0, 1) := by decide +kernel
theorem dX7_sick_11 : decode cX7_sick 11 = .ok (.ldc2_w 179, 3) := by decide +kernel
theorem dX7_sick_14 : decode cX7_sick 14 = .ok (.invokestatic 48, 3) := by decide +kernel
theorem dX7_sick_17 : decode cX7_sick 17 = .ok (.ifCond .eq 15, 3) := by decide +kernel
theorem dX7_sick_20 : decode cX7_sick 20 = .ok (.aload_n 0, 1) := by decide +kernel
theorem dX7_sick_21 : decode cX7_sick 21 = .ok (.bipush 44, 2) := by decide +kernel
theorem dX7_sick_23 : decode cX7_sick 23 = .ok (.iload_n 1, 1) := by decide +kernel
theorem dX7_sick_24 : decode cX7_sick 24 = .ok (.iadd, 1) := by decide +kernel
theorem dX7_sick_25 : decode cX7_sick 25 = .ok (.iload_n 2, 1) := by decide +kernel
theorem dX7_sick_26 : decode cX7_sick 26 = .ok (.invokevirtual 181, 3) := by decide +kernel
theorem dX7_sick_29 : decode cX7_sick 29 = .ok (.goto 5, 3) := by decide +kernel
theorem dX7_sick_32 : decode cX7_sick 32 = .ok (.ldc 58, 2) := by decide +kernel
theorem dX7_sick_34 : decode cX7_sick 34 = .ok (.ireturn, 1) := by decide +kernel
theorem dX7_swap_0 : decode cX7_swap 0 = .ok (.aload_n 0, 1) := by decide +kernel
theorem dX7_swap_1 : decode cX7_swap 1 = .ok (.iload_n 1, 1) := by decide +kernel
theorem dX7_swap_2 : decode cX7_swap 2 = .ok (.invokevirtual 176, 3) := by decide +kernel
theorem dX7_swap_5 : decode cX7_swap 5 = .ok (.ifCond .eq 23, 3) := by decide +kernel
theorem dX7_swap_8 : decode cX7_swap 8 = .ok (.aload_n 0, 1) := by decide +kernel
theorem dX7_swap_9 : decode cX7_swap 9 = .ok (.iload_n 2, 1) := by decide +kernel
theorem dX7_swap_10 : decode cX7_swap 10 = .ok (.invokevirtual 184, 3) := by decide +kernel
theorem dX7_swap_13 : decode cX7_swap 13 = .ok (.ifCond .eq 15, 3) := by decide +kernel
theorem dX7_swap_16 : decode cX7_swap 16 = .ok (.aload_n 0, 1) := by decide +kernel
theorem dX7_swap_17 : decode cX7_swap 17 = .ok (.bipush 32, 2) := by decide +kernel
theorem dX7_swap_19 : decode cX7_swap 19 = .ok (.iload_n 1, 1) := by decide +kernel
theorem dX7_swap_20 : decode cX7_swap 20 = .ok (.iadd, 1) := by decide +kernel
theorem dX7_swap_21 : decode cX7_swap 21 = .ok (.iload_n 2, 1) := by decide +kernel
theorem dX7_swap_22 : decode cX7_swap 22 = .ok (.invokevirtual 181, 3) := by decide +kernel
theorem dX7_swap_25 : decode cX7_swap 25 = .ok (.goto 5, 3) := by decide +kernel
theorem dX7_swap_28 : decode cX7_swap 28 = .ok (.ldc 58, 2) := by decide +kernel
theorem dX7_swap_30 : decode cX7_swap 30 = .ok (.ireturn, 1) := by decide +kernel
theorem dX7_pace_0 : decode cX7_pace 0 = .ok (.aload_n 0, 1) := by decide +kernel
theorem dX7_pace_1 : decode cX7_pace 1 = .ok (.iload_n 1, 1) := by decide +kernel
theorem dX7_pace_2 : decode cX7_pace 2 = .ok (.invokevirtual 176, 3) := by decide +kernel
theorem dX7_pace_5 : decode cX7_pace 5 = .ok (.ifCond .eq 27, 3) := by decide +kernel
theorem dX7_pace_8 : decode cX7_pace 8 = .ok (.iload_n 2, 1) := by decide +kernel
theorem dX7_pace_9 : decode cX7_pace 9 = .ok (.i2l, 1) := by decide +kernel
theorem dX7_pace_10 : decode cX7_pace 10 = .ok (.lconst 0, 1) := by decide +kernel
theorem dX7_pace_11 : decode cX7_pace 11 = .ok (.ldc2_w 187, 3) := by decide +kernel
theorem dX7_pace_14 : decode cX7_pace 14 = .ok (.invokestatic 48, 3) := by decide +kernel
theorem dX7_pace_17 : decode cX7_pace 17 = .ok (.ifCond .eq 15, 3) := by decide +kernel
theorem dX7_pace_20 : decode cX7_pace 20 = .ok (.aload_n 0, 1) := by decide +kernel
theorem dX7_pace_21 : decode cX7_pace 21 = .ok (.bipush 38, 2) := by decide +kernel
theorem dX7_pace_23 : decode cX7_pace 23 = .ok (.iload_n 1, 1) := by decide +kernel
theorem dX7_pace_24 : decode cX7_pace 24 = .ok (.iadd, 1) := by decide +kernel
theorem dX7_pace_25 : decode cX7_pace 25 = .ok (.iload_n 2, 1) := by decide +kernel
theorem dX7_pace_26 : decode cX7_pace 26 = .ok (.invokevirtual 181, 3) := by decide +kernel
theorem dX7_pace_29 : decode cX7_pace 29 = .ok (.goto 5, 3) := by decide +kernel
theorem dX7_pace_32 : decode cX7_pace 32 = .ok (.ldc 58, 2) := by decide +kernel
theorem dX7_pace_34 : decode cX7_pace 34 = .ok (.ireturn, 1) := by decide +kernel
theorem dX7_areTwo_0 : decode cX7_areTwo 0 = .ok (.aload_n 0, 1) := by decide +kernel
theorem dX7_areTwo_1 : decode cX7_areTwo 1 = .ok (.iload_n 1, 1) := by decide +kernel
theorem dX7_areTwo_2 : decode cX7_areTwo 2 = .ok (.invokevirtual 176, 3) := by decide +kernel
theorem dX7_areTwo_5 : decode cX7_areTwo 5 = .ok (.ifCond .eq 20, 3) := by decide +kernel
theorem dX7_areTwo_8 : decode cX7_areTwo 8 = .ok (.aload_n 0, 1) := by decide +kernel
theorem dX7_areTwo_9 : decode cX7_areTwo 9 = .ok (.iload_n 2, 1) := by decide +kernel
theorem dX7_areTwo_10 : decode cX7_areTwo 10 = .ok (.invokevirtual 176, 3) := by decide +kernel
theorem dX7_areTwo_13 : decode cX7_areTwo 13 = .ok (.ifCond .eq 12, 3) := by decide +kernel
theorem dX7_areTwo_16 : decode cX7_areTwo 16 = .ok (.iload_n 1, 1) := by decide +kernel
theorem dX7_areTwo_17 : decode cX7_areTwo 17 = .ok (.iload_n 2, 1) := by decide +kernel
theorem dX7_areTwo_18 : decode cX7_areTwo 18 = .ok (.if_icmp .eq 7, 3) := by decide +kernel
theorem dX7_areTwo_21 : decode cX7_areTwo 21 = .ok (.iconst 1, 1) := by decide +kernel
theorem dX7_areTwo_22 : decode cX7_areTwo 22 = .ok (.goto 4, 3) := by decide +kernel
theorem dX7_areTwo_25 : decode cX7_areTwo 25 = .ok (.iconst 0, 1) := by decide +kernel
theorem dX7_areTwo_26 : decode cX7_areTwo 26 = .ok (.ireturn, 1) := by decide +kernel
theorem dX7_quarrel_0 : decode cX7_quarrel 0 = .ok (.aload_n 0, 1) := by decide +kernel
theorem dX7_quarrel_1 : decode cX7_quarrel 1 = .ok (.iload_n 1, 1) := by decide +kernel
theorem dX7_quarrel_2 : decode cX7_quarrel 2 = .ok (.iload_n 2, 1) := by decide +kernel
theorem dX7_quarrel_3 : decode cX7_quarrel 3 = .ok (.invokevirtual 189, 3) := by decide +kernel
theorem dX7_quarrel_6 : decode cX7_quarrel 6 = .ok (.ifCond .eq 13, 3) := by decide +kernel
theorem dX7_quarrel_9 : decode cX7_quarrel 9 = .ok (.iload_n 3, 1) := by decide +kernel
theorem dX7_quarrel_10 : decode cX7_quarrel 10 = .ok (.i2l, 1) := by decide +kernel
theorem dX7_quarrel_11 : decode cX7_quarrel 11 = .ok (.lconst 0, 1) := by decide +kernel
theorem dX7_quarrel_12 : decode cX7_quarrel 12 = .ok (.lconst 1, 1) := by decide +kernel
theorem dX7_quarrel_13 : decode cX7_quarrel 13 = .ok (.invokestatic 48, 3) := by decide +kernel
theorem dX7_quarrel_16 : decode cX7_quarrel 16 = .ok (.ifCond .ne 6, 3) := by decide +kernel
theorem dX7_quarrel_19 : decode cX7_quarrel 19 = .ok (.ldc 58, 2) := by decide +kernel
theorem dX7_quarrel_21 : decode cX7_quarrel 21 = .ok (.ireturn, 1) := by decide +kernel
theorem dX7_quarrel_22 : decode cX7_quarrel 22 = .ok (.aload_n 0, 1) := by decide +kernel
theorem dX7_quarrel_23 : decode cX7_quarrel 23 = .ok (.getfield 7, 3) := by decide +kernel
theorem dX7_quarrel_26 : decode cX7_quarrel 26 = .ok (.bipush 50, 2) := by decide +kernel
theorem dX7_quarrel_28 : decode cX7_quarrel 28 = .ok (.iload_n 1, 1) := by decide +kernel
theorem dX7_quarrel_29 : decode cX7_quarrel 29 = .ok (.iadd, 1) := by decide +kernel
theorem dX7_quarrel_30 : decode cX7_quarrel 30 = .ok (.iaload, 1) := by decide +kernel
theorem dX7_quarrel_31 : decode cX7_quarrel 31 = .ok (.iload_n 2, 1) := by decide +kernel
theorem dX7_quarrel_32 : decode cX7_quarrel 32 = .ok (.invokestatic 148, 3) := by decide +kernel
theorem dX7_quarrel_35 : decode cX7_quarrel 35 = .ok (.iload_n 3, 1) := by decide +kernel
theorem dX7_quarrel_36 : decode cX7_quarrel 36 = .ok (.iconst 1, 1) := by decide +kernel
theorem dX7_quarrel_37 : decode cX7_quarrel 37 = .ok (.if_icmp .ne 7, 3) := by decide +kernel
theorem dX7_quarrel_40 : decode cX7_quarrel 40 = .ok (.iconst 1, 1) := by decide +kernel
theorem dX7_quarrel_41 : decode cX7_quarrel 41 = .ok (.goto 4, 3) := by decide +kernel
theorem dX7_quarrel_44 : decode cX7_quarrel 44 = .ok (.iconst 0, 1) := by decide +kernel
theorem dX7_quarrel_45 : decode cX7_quarrel 45 = .ok (.if_icmp .ne 6, 3) := by decide +kernel
theorem dX7_quarrel_48 : decode cX7_quarrel 48 = .ok (.ldc 143, 2) := by decide +kernel
theorem dX7_quarrel_50 : decode cX7_quarrel 50 = .ok (.ireturn, 1) := by decide +kernel
theorem dX7_quarrel_51 : decode cX7_quarrel 51 = .ok (.aload_n 0, 1) := by decide +kernel
theorem dX7_quarrel_52 : decode cX7_quarrel 52 = .ok (.invokevirtual 169, 3) := by decide +kernel
theorem dX7_quarrel_55 : decode cX7_quarrel 55 = .ok (.aload_n 0, 1) := by decide +kernel
theorem dX7_quarrel_56 : decode cX7_quarrel 56 = .ok (.getfield 7, 3) := by decide +kernel
theorem dX7_quarrel_59 : decode cX7_quarrel 59 = .ok (.bipush 50, 2) := by decide +kernel
theorem dX7_quarrel_61 : decode cX7_quarrel 61 = .ok (.iload_n 1, 1) := by decide +kernel
theorem dX7_quarrel_62 : decode cX7_quarrel 62 = .ok (.iadd, 1) := by decide +kernel
theorem dX7_quarrel_63 : decode cX7_quarrel 63 = .ok (.dup2, 1) := by decide +kernel
theorem dX7_quarrel_64 : decode cX7_quarrel 64 = .ok (.iaload, 1) := by decide +kernel
theorem dX7_quarrel_65 : decode cX7_quarrel 65 = .ok (.iconst 1, 1) := by decide +kernel
theorem dX7_quarrel_66 : decode cX7_quarrel 66 = .ok (.iload_n 2, 1) := by decide +kernel
theorem dX7_quarrel_67 : decode cX7_quarrel 67 = .ok (.ishl, 1) := by decide +kernel
theorem dX7_quarrel_68 : decode cX7_quarrel 68 = .ok (.ixor, 1) := by decide +kernel
theorem dX7_quarrel_69 : decode cX7_quarrel 69 = .ok (.iastore, 1) := by decide +kernel
theorem dX7_quarrel_70 : decode cX7_quarrel 70 = .ok (.aload_n 0, 1) := by decide +kernel
theorem dX7_quarrel_71 : decode cX7_quarrel 71 = .ok (.getfield 7, 3) := by decide +kernel
theorem dX7_quarrel_74 : decode cX7_quarrel 74 = .ok (.bipush 50, 2) := by decide +kernel
theorem dX7_quarrel_76 : decode cX7_quarrel 76 = .ok (.iload_n 2, 1) := by decide +kernel
theorem dX7_quarrel_77 : decode cX7_quarrel 77 = .ok (.iadd, 1) := by decide +kernel
theorem dX7_quarrel_78 : decode cX7_quarrel 78 = .ok (.dup2, 1) := by decide +kernel
theorem dX7_quarrel_79 : decode cX7_quarrel 79 = .ok (.iaload, 1) := by decide +kernel
theorem dX7_quarrel_80 : decode cX7_quarrel 80 = .ok (.iconst 1, 1) := by decide +kernel
theorem dX7_quarrel_81 : decode cX7_quarrel 81 = .ok (.iload_n 1, 1) := by decide +kernel
theorem dX7_quarrel_82 : decode cX7_quarrel 82 = .ok (.ishl, 1) := by decide +kernel
theorem dX7_quarrel_83 : decode cX7_quarrel 83 = .ok (.ixor, 1) := by decide +kernel
theorem dX7_quarrel_84 : decode cX7_quarrel 84 = .ok (.iastore, 1) := by decide +kernel
theorem dX7_quarrel_85 : decode cX7_quarrel 85 = .ok (.aload_n 0, 1) := by decide +kernel
theorem dX7_quarrel_86 : decode cX7_quarrel 86 = .ok (.getfield 7, 3) := by decide +kernel
theorem dX7_quarrel_89 : decode cX7_quarrel 89 = .ok (.bipush 50, 2) := by decide +kernel
theorem dX7_quarrel_91 : decode cX7_quarrel 91 = .ok (.iload_n 1, 1) := by decide +kernel
theorem dX7_quarrel_92 : decode cX7_quarrel 92 = .ok (.iadd, 1) := by decide +kernel
theorem dX7_quarrel_93 : decode cX7_quarrel 93 = .ok (.iaload, 1) := by decide +kernel
theorem dX7_quarrel_94 : decode cX7_quarrel 94 = .ok (.ireturn, 1) := by decide +kernel
theorem dX7_spoil_0 : decode cX7_spoil 0 = .ok (.aload_n 0, 1) := by decide +kernel
theorem dX7_spoil_1 : decode cX7_spoil 1 = .ok (.iload_n 1, 1) := by decide +kernel
theorem dX7_spoil_2 : decode cX7_spoil 2 = .ok (.invokevirtual 184, 3) := by decide +kernel
theorem dX7_spoil_5 : decode cX7_spoil 5 = .ok (.ifCond .eq 15, 3) := by decide +kernel
theorem dX7_spoil_8 : decode cX7_spoil 8 = .ok (.iload_n 2, 1) := by decide +kernel
theorem dX7_spoil_9 : decode cX7_spoil 9 = .ok (.i2l, 1) := by decide +kernel
theorem dX7_spoil_10 : decode cX7_spoil 10 = .ok (.lconst 1, 1) := by decide +kernel
theorem dX7_spoil_11 : decode cX7_spoil 11 = .ok (.ldc2_w 192, 3) := by decide +kernel
theorem dX7_spoil_14 : decode cX7_spoil 14 = .ok (.invokestatic 48, 3) := by decide +kernel
theorem dX7_spoil_17 : decode cX7_spoil 17 = .ok (.ifCond .ne 6, 3) := by decide +kernel
theorem dX7_spoil_20 : decode cX7_spoil 20 = .ok (.ldc 58, 2) := by decide +kernel
theorem dX7_spoil_22 : decode cX7_spoil 22 = .ok (.ireturn, 1) := by decide +kernel
theorem dX7_spoil_23 : decode cX7_spoil 23 = .ok (.aload_n 0, 1) := by decide +kernel
theorem dX7_spoil_24 : decode cX7_spoil 24 = .ok (.invokevirtual 169, 3) := by decide +kernel
theorem dX7_spoil_27 : decode cX7_spoil 27 = .ok (.aload_n 0, 1) := by decide +kernel
theorem dX7_spoil_28 : decode cX7_spoil 28 = .ok (.iconst 0, 1) := by decide +kernel
theorem dX7_spoil_29 : decode cX7_spoil 29 = .ok (.iload_n 1, 1) := by decide +kernel
theorem dX7_spoil_30 : decode cX7_spoil 30 = .ok (.iload_n 2, 1) := by decide +kernel
theorem dX7_spoil_31 : decode cX7_spoil 31 = .ok (.invokevirtual 158, 3) := by decide +kernel
theorem dX7_spoil_34 : decode cX7_spoil 34 = .ok (.aload_n 0, 1) := by decide +kernel
theorem dX7_spoil_35 : decode cX7_spoil 35 = .ok (.getfield 7, 3) := by decide +kernel
theorem dX7_spoil_38 : decode cX7_spoil 38 = .ok (.bipush 10, 2) := by decide +kernel
theorem dX7_spoil_40 : decode cX7_spoil 40 = .ok (.iload_n 1, 1) := by decide +kernel
theorem dX7_spoil_41 : decode cX7_spoil 41 = .ok (.iadd, 1) := by decide +kernel
theorem dX7_spoil_42 : decode cX7_spoil 42 = .ok (.iaload, 1) := by decide +kernel
theorem dX7_spoil_43 : decode cX7_spoil 43 = .ok (.ireturn, 1) := by decide +kernel
theorem dX7_gran_0 : decode cX7_gran 0 = .ok (.aload_n 0, 1) := by decide +kernel
theorem dX7_gran_1 : decode cX7_gran 1 = .ok (.iload_n 1, 1) := by decide +kernel
theorem dX7_gran_2 : decode cX7_gran 2 = .ok (.invokevirtual 176, 3) := by decide +kernel
theorem dX7_gran_5 : decode cX7_gran 5 = .ok (.ifCond .ne 6, 3) := by decide +kernel
theorem dX7_gran_8 : decode cX7_gran 8 = .ok (.ldc 58, 2) := by decide +kernel
theorem dX7_gran_10 : decode cX7_gran 10 = .ok (.ireturn, 1) := by decide +kernel
theorem dX7_gran_11 : decode cX7_gran 11 = .ok (.iload_n 2, 1) := by decide +kernel
theorem dX7_gran_12 : decode cX7_gran 12 = .ok (.tableswitch 116 0 6 #[44, 54, 64, 74, 84, 91, 106], 44) := by decide +kernel
theorem dX7_gran_56 : decode cX7_gran 56 = .ok (.aload_n 0, 1) := by decide +kernel
theorem dX7_gran_57 : decode cX7_gran 57 = .ok (.getfield 7, 3) := by decide +kernel
theorem dX7_gran_60 : decode cX7_gran 60 = .ok (.bipush 26, 2) := by decide +kernel
theorem dX7_gran_62 : decode cX7_gran 62 = .ok (.iload_n 1, 1) := by decide +kernel
theorem dX7_gran_63 : decode cX7_gran 63 = .ok (.iadd, 1) := by decide +kernel
theorem dX7_gran_64 : decode cX7_gran 64 = .ok (.iaload, 1) := by decide +kernel
theorem dX7_gran_65 : decode cX7_gran 65 = .ok (.ireturn, 1) := by decide +kernel
theorem dX7_gran_66 : decode cX7_gran 66 = .ok (.aload_n 0, 1) := by decide +kernel
theorem dX7_gran_67 : decode cX7_gran 67 = .ok (.getfield 7, 3) := by decide +kernel
theorem dX7_gran_70 : decode cX7_gran 70 = .ok (.bipush 32, 2) := by decide +kernel
theorem dX7_gran_72 : decode cX7_gran 72 = .ok (.iload_n 1, 1) := by decide +kernel
theorem dX7_gran_73 : decode cX7_gran 73 = .ok (.iadd, 1) := by decide +kernel
theorem dX7_gran_74 : decode cX7_gran 74 = .ok (.iaload, 1) := by decide +kernel
theorem dX7_gran_75 : decode cX7_gran 75 = .ok (.ireturn, 1) := by decide +kernel
theorem dX7_gran_76 : decode cX7_gran 76 = .ok (.aload_n 0, 1) := by decide +kernel
theorem dX7_gran_77 : decode cX7_gran 77 = .ok (.getfield 7, 3) := by decide +kernel
theorem dX7_gran_80 : decode cX7_gran 80 = .ok (.bipush 38, 2) := by decide +kernel
theorem dX7_gran_82 : decode cX7_gran 82 = .ok (.iload_n 1, 1) := by decide +kernel
theorem dX7_gran_83 : decode cX7_gran 83 = .ok (.iadd, 1) := by decide +kernel
theorem dX7_gran_84 : decode cX7_gran 84 = .ok (.iaload, 1) := by decide +kernel
theorem dX7_gran_85 : decode cX7_gran 85 = .ok (.ireturn, 1) := by decide +kernel
theorem dX7_gran_86 : decode cX7_gran 86 = .ok (.aload_n 0, 1) := by decide +kernel
theorem dX7_gran_87 : decode cX7_gran 87 = .ok (.getfield 7, 3) := by decide +kernel
theorem dX7_gran_90 : decode cX7_gran 90 = .ok (.bipush 44, 2) := by decide +kernel
theorem dX7_gran_92 : decode cX7_gran 92 = .ok (.iload_n 1, 1) := by decide +kernel
theorem dX7_gran_93 : decode cX7_gran 93 = .ok (.iadd, 1) := by decide +kernel
theorem dX7_gran_94 : decode cX7_gran 94 = .ok (.iaload, 1) := by decide +kernel
theorem dX7_gran_95 : decode cX7_gran 95 = .ok (.ireturn, 1) := by decide +kernel
theorem dX7_gran_96 : decode cX7_gran 96 = .ok (.aload_n 0, 1) := by decide +kernel
theorem dX7_gran_97 : decode cX7_gran 97 = .ok (.iconst 0, 1) := by decide +kernel
theorem dX7_gran_98 : decode cX7_gran 98 = .ok (.iload_n 1, 1) := by decide +kernel
theorem dX7_gran_99 : decode cX7_gran 99 = .ok (.invokevirtual 145, 3) := by decide +kernel
theorem dX7_gran_102 : decode cX7_gran 102 = .ok (.ireturn, 1) := by decide +kernel
theorem dX7_gran_103 : decode cX7_gran 103 = .ok (.aload_n 0, 1) := by decide +kernel
theorem dX7_gran_104 : decode cX7_gran 104 = .ok (.iconst 0, 1) := by decide +kernel
theorem dX7_gran_105 : decode cX7_gran 105 = .ok (.iload_n 1, 1) := by decide +kernel
theorem dX7_gran_106 : decode cX7_gran 106 = .ok (.invokevirtual 161, 3) := by decide +kernel
theorem dX7_gran_109 : decode cX7_gran 109 = .ok (.ifCond .eq 7, 3) := by decide +kernel
theorem dX7_gran_112 : decode cX7_gran 112 = .ok (.iconst 1, 1) := by decide +kernel
theorem dX7_gran_113 : decode cX7_gran 113 = .ok (.goto 4, 3) := by decide +kernel
theorem dX7_gran_116 : decode cX7_gran 116 = .ok (.iconst 0, 1) := by decide +kernel
theorem dX7_gran_117 : decode cX7_gran 117 = .ok (.ireturn, 1) := by decide +kernel
theorem dX7_gran_118 : decode cX7_gran 118 = .ok (.aload_n 0, 1) := by decide +kernel
theorem dX7_gran_119 : decode cX7_gran 119 = .ok (.getfield 7, 3) := by decide +kernel
theorem dX7_gran_122 : decode cX7_gran 122 = .ok (.bipush 50, 2) := by decide +kernel
theorem dX7_gran_124 : decode cX7_gran 124 = .ok (.iload_n 1, 1) := by decide +kernel
theorem dX7_gran_125 : decode cX7_gran 125 = .ok (.iadd, 1) := by decide +kernel
theorem dX7_gran_126 : decode cX7_gran 126 = .ok (.iaload, 1) := by decide +kernel
theorem dX7_gran_127 : decode cX7_gran 127 = .ok (.ireturn, 1) := by decide +kernel
theorem dX7_gran_128 : decode cX7_gran 128 = .ok (.ldc 58, 2) := by decide +kernel
theorem dX7_gran_130 : decode cX7_gran 130 = .ok (.ireturn, 1) := by decide +kernel
theorem dX7_visitors_0 : decode cX7_visitors 0 = .ok (.iconst 0, 1) := by decide +kernel
theorem dX7_visitors_1 : decode cX7_visitors 1 = .ok (.istore_n 2, 1) := by decide +kernel
theorem dX7_visitors_2 : decode cX7_visitors 2 = .ok (.iconst 0, 1) := by decide +kernel
theorem dX7_visitors_3 : decode cX7_visitors 3 = .ok (.istore_n 3, 1) := by decide +kernel
theorem dX7_visitors_4 : decode cX7_visitors 4 = .ok (.iload_n 3, 1) := by decide +kernel
theorem dX7_visitors_5 : decode cX7_visitors 5 = .ok (.aload_n 0, 1) := by decide +kernel
theorem dX7_visitors_6 : decode cX7_visitors 6 = .ok (.getfield 7, 3) := by decide +kernel
theorem dX7_visitors_9 : decode cX7_visitors 9 = .ok (.iconst 1, 1) := by decide +kernel
theorem dX7_visitors_10 : decode cX7_visitors 10 = .ok (.iaload, 1) := by decide +kernel
theorem dX7_visitors_11 : decode cX7_visitors 11 = .ok (.if_icmp .ge 29, 3) := by decide +kernel
theorem dX7_visitors_14 : decode cX7_visitors 14 = .ok (.iload_n 2, 1) := by decide +kernel
theorem dX7_visitors_15 : decode cX7_visitors 15 = .ok (.aload_n 0, 1) := by decide +kernel
theorem dX7_visitors_16 : decode cX7_visitors 16 = .ok (.iconst 0, 1) := by decide +kernel
theorem dX7_visitors_17 : decode cX7_visitors 17 = .ok (.iload_n 3, 1) := by decide +kernel
theorem dX7_visitors_18 : decode cX7_visitors 18 = .ok (.invokevirtual 145, 3) := by decide +kernel
theorem dX7_visitors_21 : decode cX7_visitors 21 = .ok (.iload_n 1, 1) := by decide +kernel
theorem dX7_visitors_22 : decode cX7_visitors 22 = .ok (.if_icmp .ne 9, 3) := by decide +kernel
theorem dX7_visitors_25 : decode cX7_visitors 25 = .ok (.iconst 1, 1) := by decide +kernel
theorem dX7_visitors_26 : decode cX7_visitors 26 = .ok (.iload_n 3, 1) := by decide +kernel
theorem dX7_visitors_27 : decode cX7_visitors 27 = .ok (.ishl, 1) := by decide +kernel
theorem dX7_visitors_28 : decode cX7_visitors 28 = .ok (.goto 4, 3) := by decide +kernel
theorem dX7_visitors_31 : decode cX7_visitors 31 = .ok (.iconst 0, 1) := by decide +kernel
theorem dX7_visitors_32 : decode cX7_visitors 32 = .ok (.ior, 1) := by decide +kernel
theorem dX7_visitors_33 : decode cX7_visitors 33 = .ok (.istore_n 2, 1) := by decide +kernel
theorem dX7_visitors_34 : decode cX7_visitors 34 = .ok (.iinc 3 1, 3) := by decide +kernel
theorem dX7_visitors_37 : decode cX7_visitors 37 = .ok (.goto (-33), 3) := by decide +kernel
theorem dX7_visitors_40 : decode cX7_visitors 40 = .ok (.iload_n 2, 1) := by decide +kernel
theorem dX7_visitors_41 : decode cX7_visitors 41 = .ok (.ireturn, 1) := by decide +kernel
theorem dX7_child_0 : decode cX7_child 0 = .ok (.aload_n 0, 1) := by decide +kernel
theorem dX7_child_1 : decode cX7_child 1 = .ok (.iload_n 1, 1) := by decide +kernel
theorem dX7_child_2 : decode cX7_child 2 = .ok (.invokevirtual 184, 3) := by decide +kernel
theorem dX7_child_5 : decode cX7_child 5 = .ok (.ifCond .ne 6, 3) := by decide +kernel
theorem dX7_child_8 : decode cX7_child 8 = .ok (.ldc 58, 2) := by decide +kernel
theorem dX7_child_10 : decode cX7_child 10 = .ok (.ireturn, 1) := by decide +kernel
theorem dX7_child_11 : decode cX7_child 11 = .ok (.iload_n 2, 1) := by decide +kernel
theorem dX7_child_12 : decode cX7_child 12 = .ok (.tableswitch 67 0 3 #[32, 41, 51, 61], 32) := by decide +kernel
theorem dX7_child_44 : decode cX7_child 44 = .ok (.aload_n 0, 1) := by decide +kernel
theorem dX7_child_45 : decode cX7_child 45 = .ok (.getfield 7, 3) := by decide +kernel
theorem dX7_child_48 : decode cX7_child 48 = .ok (.iconst 5, 1) := by decide +kernel
theorem dX7_child_49 : decode cX7_child 49 = .ok (.iload_n 1, 1) := by decide +kernel
theorem dX7_child_50 : decode cX7_child 50 = .ok (.iadd, 1) := by decide +kernel
theorem dX7_child_51 : decode cX7_child 51 = .ok (.iaload, 1) := by decide +kernel
theorem dX7_child_52 : decode cX7_child 52 = .ok (.ireturn, 1) := by decide +kernel
theorem dX7_child_53 : decode cX7_child 53 = .ok (.aload_n 0, 1) := by decide +kernel
theorem dX7_child_54 : decode cX7_child 54 = .ok (.getfield 7, 3) := by decide +kernel
theorem dX7_child_57 : decode cX7_child 57 = .ok (.bipush 10, 2) := by decide +kernel
theorem dX7_child_59 : decode cX7_child 59 = .ok (.iload_n 1, 1) := by decide +kernel
theorem dX7_child_60 : decode cX7_child 60 = .ok (.iadd, 1) := by decide +kernel
theorem dX7_child_61 : decode cX7_child 61 = .ok (.iaload, 1) := by decide +kernel
theorem dX7_child_62 : decode cX7_child 62 = .ok (.ireturn, 1) := by decide +kernel
theorem dX7_child_63 : decode cX7_child 63 = .ok (.aload_n 0, 1) := by decide +kernel
theorem dX7_child_64 : decode cX7_child 64 = .ok (.getfield 7, 3) := by decide +kernel
theorem dX7_child_67 : decode cX7_child 67 = .ok (.bipush 15, 2) := by decide +kernel
theorem dX7_child_69 : decode cX7_child 69 = .ok (.iload_n 1, 1) := by decide +kernel
theorem dX7_child_70 : decode cX7_child 70 = .ok (.iadd, 1) := by decide +kernel
theorem dX7_child_71 : decode cX7_child 71 = .ok (.iaload, 1) := by decide +kernel
theorem dX7_child_72 : decode cX7_child 72 = .ok (.ireturn, 1) := by decide +kernel
theorem dX7_child_73 : decode cX7_child 73 = .ok (.aload_n 0, 1) := by decide +kernel
theorem dX7_child_74 : decode cX7_child 74 = .ok (.iload_n 1, 1) := by decide +kernel
theorem dX7_child_75 : decode cX7_child 75 = .ok (.invokevirtual 194, 3) := by decide +kernel
theorem dX7_child_78 : decode cX7_child 78 = .ok (.ireturn, 1) := by decide +kernel
theorem dX7_child_79 : decode cX7_child 79 = .ok (.ldc 58, 2) := by decide +kernel
theorem dX7_child_81 : decode cX7_child 81 = .ok (.ireturn, 1) := by decide +kernel
theorem dX7_layTried_0 : decode cX7_layTried 0 = .ok (.aload_n 0, 1) := by decide +kernel
theorem dX7_layTried_1 : decode cX7_layTried 1 = .ok (.iconst 0, 1) := by decide +kernel
theorem dX7_layTried_2 : decode cX7_layTried 2 = .ok (.sipush 1512, 3) := by decide +kernel
theorem dX7_layTried_5 : decode cX7_layTried 5 = .ok (.invokevirtual 132, 3) := by decide +kernel
theorem dX7_layTried_8 : decode cX7_layTried 8 = .ok (.iconst 0, 1) := by decide +kernel
theorem dX7_layTried_9 : decode cX7_layTried 9 = .ok (.istore_n 2, 1) := by decide +kernel
theorem dX7_layTried_10 : decode cX7_layTried 10 = .ok (.iload_n 2, 1) := by decide +kernel
theorem dX7_layTried_11 : decode cX7_layTried 11 = .ok (.iload_n 1, 1) := by decide +kernel
theorem dX7_layTried_12 : decode cX7_layTried 12 = .ok (.if_icmp .ge 16, 3) := by decide +kernel
theorem dX7_layTried_15 : decode cX7_layTried 15 = .ok (.aload_n 0, 1) := by decide +kernel
theorem dX7_layTried_16 : decode cX7_layTried 16 = .ok (.sipush 1512, 3) := by decide +kernel
theorem dX7_layTried_19 : decode cX7_layTried 19 = .ok (.invokevirtual 172, 3) := by decide +kernel
theorem dX7_layTried_22 : decode cX7_layTried 22 = .ok (.iinc 2 1, 3) := by decide +kernel
theorem dX7_layTried_25 : decode cX7_layTried 25 = .ok (.goto (-15), 3) := by decide +kernel
theorem dX7_layTried_28 : decode cX7_layTried 28 = .ok (.return_, 1) := by decide +kernel
theorem dX7_ahead_0 : decode cX7_ahead 0 = .ok (.aload_n 0, 1) := by decide +kernel
theorem dX7_ahead_1 : decode cX7_ahead 1 = .ok (.iload_n 1, 1) := by decide +kernel
theorem dX7_ahead_2 : decode cX7_ahead 2 = .ok (.invokevirtual 184, 3) := by decide +kernel
theorem dX7_ahead_5 : decode cX7_ahead 5 = .ok (.ifCond .eq 27, 3) := by decide +kernel
theorem dX7_ahead_8 : decode cX7_ahead 8 = .ok (.iload_n 2, 1) := by decide +kernel
theorem dX7_ahead_9 : decode cX7_ahead 9 = .ok (.i2l, 1) := by decide +kernel
theorem dX7_ahead_10 : decode cX7_ahead 10 = .ok (.lconst 0, 1) := by decide +kernel
theorem dX7_ahead_11 : decode cX7_ahead 11 = .ok (.ldc2_w 179, 3) := by decide +kernel
theorem dX7_ahead_14 : decode cX7_ahead 14 = .ok (.invokestatic 48, 3) := by decide +kernel
theorem dX7_ahead_17 : decode cX7_ahead 17 = .ok (.ifCond .eq 15, 3) := by decide +kernel
theorem dX7_ahead_20 : decode cX7_ahead 20 = .ok (.iload_n 3, 1) := by decide +kernel
theorem dX7_ahead_21 : decode cX7_ahead 21 = .ok (.i2l, 1) := by decide +kernel
theorem dX7_ahead_22 : decode cX7_ahead 22 = .ok (.lconst 0, 1) := by decide +kernel
theorem dX7_ahead_23 : decode cX7_ahead 23 = .ok (.ldc2_w 56, 3) := by decide +kernel
theorem dX7_ahead_26 : decode cX7_ahead 26 = .ok (.invokestatic 48, 3) := by decide +kernel
theorem dX7_ahead_29 : decode cX7_ahead 29 = .ok (.ifCond .ne 6, 3) := by decide +kernel
theorem dX7_ahead_32 : decode cX7_ahead 32 = .ok (.ldc 58, 2) := by decide +kernel
theorem dX7_ahead_34 : decode cX7_ahead 34 = .ok (.ireturn, 1) := by decide +kernel
theorem dX7_ahead_35 : decode cX7_ahead 35 = .ok (.aload_n 0, 1) := by decide +kernel
theorem dX7_ahead_36 : decode cX7_ahead 36 = .ok (.iload_n 2, 1) := by decide +kernel
theorem dX7_ahead_37 : decode cX7_ahead 37 = .ok (.invokevirtual 197, 3) := by decide +kernel
theorem dX7_ahead_40 : decode cX7_ahead 40 = .ok (.iload_n 3, 1) := by decide +kernel
theorem dX7_ahead_41 : decode cX7_ahead 41 = .ok (.ifCond .ne 16, 3) := by decide +kernel
theorem dX7_ahead_44 : decode cX7_ahead 44 = .ok (.aload_n 0, 1) := by decide +kernel
theorem dX7_ahead_45 : decode cX7_ahead 45 = .ok (.getfield 7, 3) := by decide +kernel
theorem dX7_ahead_48 : decode cX7_ahead 48 = .ok (.sipush 1517, 3) := by decide +kernel
theorem dX7_ahead_51 : decode cX7_ahead 51 = .ok (.iload_n 1, 1) := by decide +kernel
theorem dX7_ahead_52 : decode cX7_ahead 52 = .ok (.iadd, 1) := by decide +kernel
theorem dX7_ahead_53 : decode cX7_ahead 53 = .ok (.iaload, 1) := by decide +kernel
theorem dX7_ahead_54 : decode cX7_ahead 54 = .ok (.goto 31, 3) := by decide +kernel
theorem dX7_ahead_57 : decode cX7_ahead 57 = .ok (.iload_n 3, 1) := by decide +kernel
theorem dX7_ahead_58 : decode cX7_ahead 58 = .ok (.iconst 1, 1) := by decide +kernel
theorem dX7_ahead_59 : decode cX7_ahead 59 = .ok (.if_icmp .ne 16, 3) := by decide +kernel
theorem dX7_ahead_62 : decode cX7_ahead 62 = .ok (.aload_n 0, 1) := by decide +kernel
theorem dX7_ahead_63 : decode cX7_ahead 63 = .ok (.getfield 7, 3) := by decide +kernel
theorem dX7_ahead_66 : decode cX7_ahead 66 = .ok (.sipush 1522, 3) := by decide +kernel
theorem dX7_ahead_69 : decode cX7_ahead 69 = .ok (.iload_n 1, 1) := by decide +kernel
theorem dX7_ahead_70 : decode cX7_ahead 70 = .ok (.iadd, 1) := by decide +kernel
theorem dX7_ahead_71 : decode cX7_ahead 71 = .ok (.iaload, 1) := by decide +kernel
theorem dX7_ahead_72 : decode cX7_ahead 72 = .ok (.goto 13, 3) := by decide +kernel
theorem dX7_ahead_75 : decode cX7_ahead 75 = .ok (.aload_n 0, 1) := by decide +kernel
theorem dX7_ahead_76 : decode cX7_ahead 76 = .ok (.getfield 7, 3) := by decide +kernel
theorem dX7_ahead_79 : decode cX7_ahead 79 = .ok (.sipush 1527, 3) := by decide +kernel
theorem dX7_ahead_82 : decode cX7_ahead 82 = .ok (.iload_n 1, 1) := by decide +kernel
theorem dX7_ahead_83 : decode cX7_ahead 83 = .ok (.iadd, 1) := by decide +kernel
theorem dX7_ahead_84 : decode cX7_ahead 84 = .ok (.iaload, 1) := by decide +kernel
theorem dX7_ahead_85 : decode cX7_ahead 85 = .ok (.ireturn, 1) := by decide +kernel
theorem dX7_withWhom_0 : decode cX7_withWhom 0 = .ok (.aload_n 0, 1) := by decide +kernel
theorem dX7_withWhom_1 : decode cX7_withWhom 1 = .ok (.iload_n 1, 1) := by decide +kernel
theorem dX7_withWhom_2 : decode cX7_withWhom 2 = .ok (.invokevirtual 176, 3) := by decide +kernel
theorem dX7_withWhom_5 : decode cX7_withWhom 5 = .ok (.ifCond .eq 15, 3) := by decide +kernel
theorem dX7_withWhom_8 : decode cX7_withWhom 8 = .ok (.iload_n 2, 1) := by decide +kernel
theorem dX7_withWhom_9 : decode cX7_withWhom 9 = .ok (.i2l, 1) := by decide +kernel
theorem dX7_withWhom_10 : decode cX7_withWhom 10 = .ok (.lconst 0, 1) := by decide +kernel
theorem dX7_withWhom_11 : decode cX7_withWhom 11 = .ok (.ldc2_w 179, 3) := by decide +kernel
theorem dX7_withWhom_14 : decode cX7_withWhom 14 = .ok (.invokestatic 48, 3) := by decide +kernel
theorem dX7_withWhom_17 : decode cX7_withWhom 17 = .ok (.ifCond .ne 6, 3) := by decide +kernel
theorem dX7_withWhom_20 : decode cX7_withWhom 20 = .ok (.ldc 58, 2) := by decide +kernel
theorem dX7_withWhom_22 : decode cX7_withWhom 22 = .ok (.ireturn, 1) := by decide +kernel
theorem dX7_withWhom_23 : decode cX7_withWhom 23 = .ok (.aload_n 0, 1) := by decide +kernel
theorem dX7_withWhom_24 : decode cX7_withWhom 24 = .ok (.iload_n 2, 1) := by decide +kernel
theorem dX7_withWhom_25 : decode cX7_withWhom 25 = .ok (.invokevirtual 197, 3) := by decide +kernel
theorem dX7_withWhom_28 : decode cX7_withWhom 28 = .ok (.aload_n 0, 1) := by decide +kernel
theorem dX7_withWhom_29 : decode cX7_withWhom 29 = .ok (.sipush 1512, 3) := by decide +kernel
theorem dX7_withWhom_32 : decode cX7_withWhom 32 = .ok (.iload_n 1, 1) := by decide +kernel
theorem dX7_withWhom_33 : decode cX7_withWhom 33 = .ok (.invokevirtual 145, 3) := by decide +kernel
theorem dX7_withWhom_36 : decode cX7_withWhom 36 = .ok (.ireturn, 1) := by decide +kernel
theorem dX7_wholeTried_0 : decode cX7_wholeTried 0 = .ok (.iconst 0, 1) := by decide +kernel
theorem dX7_wholeTried_1 : decode cX7_wholeTried 1 = .ok (.istore_n 2, 1) := by decide +kernel
theorem dX7_wholeTried_2 : decode cX7_wholeTried 2 = .ok (.iload_n 2, 1) := by decide +kernel
theorem dX7_wholeTried_3 : decode cX7_wholeTried 3 = .ok (.bipush 61, 2) := by decide +kernel
theorem dX7_wholeTried_5 : decode cX7_wholeTried 5 = .ok (.if_icmp .ge 41, 3) := by decide +kernel
theorem dX7_wholeTried_8 : decode cX7_wholeTried 8 = .ok (.aload_n 0, 1) := by decide +kernel
theorem dX7_wholeTried_9 : decode cX7_wholeTried 9 = .ok (.getfield 7, 3) := by decide +kernel
theorem dX7_wholeTried_12 : decode cX7_wholeTried 12 = .ok (.sipush 1527, 3) := by decide +kernel
theorem dX7_wholeTried_15 : decode cX7_wholeTried 15 = .ok (.iload_n 1, 1) := by decide +kernel
theorem dX7_wholeTried_16 : decode cX7_wholeTried 16 = .ok (.iadd, 1) := by decide +kernel
theorem dX7_wholeTried_17 : decode cX7_wholeTried 17 = .ok (.iaload, 1) := by decide +kernel
theorem dX7_wholeTried_18 : decode cX7_wholeTried 18 = .ok (.iconst 1, 1) := by decide +kernel
theorem dX7_wholeTried_19 : decode cX7_wholeTried 19 = .ok (.aload_n 0, 1) := by decide +kernel
theorem dX7_wholeTried_20 : decode cX7_wholeTried 20 = .ok (.getfield 7, 3) := by decide +kernel
theorem dX7_wholeTried_23 : decode cX7_wholeTried 23 = .ok (.iconst 3, 1) := by decide +kernel
theorem dX7_wholeTried_24 : decode cX7_wholeTried 24 = .ok (.iaload, 1) := by decide +kernel
theorem dX7_wholeTried_25 : decode cX7_wholeTried 25 = .ok (.ishl, 1) := by decide +kernel
theorem dX7_wholeTried_26 : decode cX7_wholeTried 26 = .ok (.iconst 1, 1) := by decide +kernel
theorem dX7_wholeTried_27 : decode cX7_wholeTried 27 = .ok (.isub, 1) := by decide +kernel
theorem dX7_wholeTried_28 : decode cX7_wholeTried 28 = .ok (.if_icmp .ne 5, 3) := by decide +kernel
theorem dX7_wholeTried_31 : decode cX7_wholeTried 31 = .ok (.iload_n 2, 1) := by decide +kernel
theorem dX7_wholeTried_32 : decode cX7_wholeTried 32 = .ok (.ireturn, 1) := by decide +kernel
theorem dX7_wholeTried_33 : decode cX7_wholeTried 33 = .ok (.aload_n 0, 1) := by decide +kernel
theorem dX7_wholeTried_34 : decode cX7_wholeTried 34 = .ok (.sipush 1512, 3) := by decide +kernel
theorem dX7_wholeTried_37 : decode cX7_wholeTried 37 = .ok (.invokevirtual 172, 3) := by decide +kernel
theorem dX7_wholeTried_40 : decode cX7_wholeTried 40 = .ok (.iinc 2 1, 3) := by decide +kernel
theorem dX7_wholeTried_43 : decode cX7_wholeTried 43 = .ok (.goto (-41), 3) := by decide +kernel
theorem dX7_wholeTried_46 : decode cX7_wholeTried 46 = .ok (.ldc 144, 2) := by decide +kernel
theorem dX7_wholeTried_48 : decode cX7_wholeTried 48 = .ok (.ireturn, 1) := by decide +kernel
theorem dX7_whole_0 : decode cX7_whole 0 = .ok (.aload_n 0, 1) := by decide +kernel
theorem dX7_whole_1 : decode cX7_whole 1 = .ok (.iload_n 1, 1) := by decide +kernel
theorem dX7_whole_2 : decode cX7_whole 2 = .ok (.invokevirtual 184, 3) := by decide +kernel
theorem dX7_whole_5 : decode cX7_whole 5 = .ok (.ifCond .ne 6, 3) := by decide +kernel
theorem dX7_whole_8 : decode cX7_whole 8 = .ok (.ldc 58, 2) := by decide +kernel
theorem dX7_whole_10 : decode cX7_whole 10 = .ok (.ireturn, 1) := by decide +kernel
theorem dX7_whole_11 : decode cX7_whole 11 = .ok (.aload_n 0, 1) := by decide +kernel
theorem dX7_whole_12 : decode cX7_whole 12 = .ok (.iconst 0, 1) := by decide +kernel
theorem dX7_whole_13 : decode cX7_whole 13 = .ok (.invokevirtual 197, 3) := by decide +kernel
theorem dX7_whole_16 : decode cX7_whole 16 = .ok (.aload_n 0, 1) := by decide +kernel
theorem dX7_whole_17 : decode cX7_whole 17 = .ok (.iload_n 1, 1) := by decide +kernel
theorem dX7_whole_18 : decode cX7_whole 18 = .ok (.invokevirtual 200, 3) := by decide +kernel
theorem dX7_whole_21 : decode cX7_whole 21 = .ok (.ireturn, 1) := by decide +kernel
theorem dX7_hungry_0 : decode cX7_hungry 0 = .ok (.aload_n 0, 1) := by decide +kernel
theorem dX7_hungry_1 : decode cX7_hungry 1 = .ok (.iload_n 1, 1) := by decide +kernel
theorem dX7_hungry_2 : decode cX7_hungry 2 = .ok (.invokevirtual 184, 3) := by decide +kernel
theorem dX7_hungry_5 : decode cX7_hungry 5 = .ok (.ifCond .ne 6, 3) := by decide +kernel
theorem dX7_hungry_8 : decode cX7_hungry 8 = .ok (.ldc 58, 2) := by decide +kernel
theorem dX7_hungry_10 : decode cX7_hungry 10 = .ok (.ireturn, 1) := by decide +kernel
theorem dX7_hungry_11 : decode cX7_hungry 11 = .ok (.aload_n 0, 1) := by decide +kernel
theorem dX7_hungry_12 : decode cX7_hungry 12 = .ok (.iconst 0, 1) := by decide +kernel
theorem dX7_hungry_13 : decode cX7_hungry 13 = .ok (.invokevirtual 197, 3) := by decide +kernel
theorem dX7_hungry_16 : decode cX7_hungry 16 = .ok (.iconst 0, 1) := by decide +kernel
theorem dX7_hungry_17 : decode cX7_hungry 17 = .ok (.istore_n 2, 1) := by decide +kernel
theorem dX7_hungry_18 : decode cX7_hungry 18 = .ok (.iload_n 2, 1) := by decide +kernel
theorem dX7_hungry_19 : decode cX7_hungry 19 = .ok (.bipush 61, 2) := by decide +kernel
theorem dX7_hungry_21 : decode cX7_hungry 21 = .ok (.if_icmp .ge 31, 3) := by decide +kernel
theorem dX7_hungry_24 : decode cX7_hungry 24 = .ok (.aload_n 0, 1) := by decide +kernel
theorem dX7_hungry_25 : decode cX7_hungry 25 = .ok (.getfield 7, 3) := by decide +kernel
theorem dX7_hungry_28 : decode cX7_hungry 28 = .ok (.sipush 1517, 3) := by decide +kernel
theorem dX7_hungry_31 : decode cX7_hungry 31 = .ok (.iload_n 1, 1) := by decide +kernel
theorem dX7_hungry_32 : decode cX7_hungry 32 = .ok (.iadd, 1) := by decide +kernel
theorem dX7_hungry_33 : decode cX7_hungry 33 = .ok (.iaload, 1) := by decide +kernel
theorem dX7_hungry_34 : decode cX7_hungry 34 = .ok (.ifCond .ne 5, 3) := by decide +kernel
theorem dX7_hungry_37 : decode cX7_hungry 37 = .ok (.iload_n 2, 1) := by decide +kernel
theorem dX7_hungry_38 : decode cX7_hungry 38 = .ok (.ireturn, 1) := by decide +kernel
theorem dX7_hungry_39 : decode cX7_hungry 39 = .ok (.aload_n 0, 1) := by decide +kernel
theorem dX7_hungry_40 : decode cX7_hungry 40 = .ok (.sipush 1512, 3) := by decide +kernel
theorem dX7_hungry_43 : decode cX7_hungry 43 = .ok (.invokevirtual 172, 3) := by decide +kernel
theorem dX7_hungry_46 : decode cX7_hungry 46 = .ok (.iinc 2 1, 3) := by decide +kernel
theorem dX7_hungry_49 : decode cX7_hungry 49 = .ok (.goto (-31), 3) := by decide +kernel
theorem dX7_hungry_52 : decode cX7_hungry 52 = .ok (.ldc 144, 2) := by decide +kernel
theorem dX7_hungry_54 : decode cX7_hungry 54 = .ok (.ireturn, 1) := by decide +kernel
theorem dX7_visitedTried_0 : decode cX7_visitedTried 0 = .ok (.iconst 0, 1) := by decide +kernel
theorem dX7_visitedTried_1 : decode cX7_visitedTried 1 = .ok (.istore_n 2, 1) := by decide +kernel
theorem dX7_visitedTried_2 : decode cX7_visitedTried 2 = .ok (.iconst 0, 1) := by decide +kernel
theorem dX7_visitedTried_3 : decode cX7_visitedTried 3 = .ok (.istore_n 3, 1) := by decide +kernel
theorem dX7_visitedTried_4 : decode cX7_visitedTried 4 = .ok (.iload_n 3, 1) := by decide +kernel
theorem dX7_visitedTried_5 : decode cX7_visitedTried 5 = .ok (.iload_n 1, 1) := by decide +kernel
theorem dX7_visitedTried_6 : decode cX7_visitedTried 6 = .ok (.if_icmp .ge 77, 3) := by decide +kernel
theorem dX7_visitedTried_9 : decode cX7_visitedTried 9 = .ok (.iconst 0, 1) := by decide +kernel
theorem dX7_visitedTried_10 : decode cX7_visitedTried 10 = .ok (.istore 4, 2) := by decide +kernel
theorem dX7_visitedTried_12 : decode cX7_visitedTried 12 = .ok (.iload 4, 2) := by decide +kernel
theorem dX7_visitedTried_14 : decode cX7_visitedTried 14 = .ok (.aload_n 0, 1) := by decide +kernel
theorem dX7_visitedTried_15 : decode cX7_visitedTried 15 = .ok (.getfield 7, 3) := by decide +kernel
theorem dX7_visitedTried_18 : decode cX7_visitedTried 18 = .ok (.iconst 1, 1) := by decide +kernel
theorem dX7_visitedTried_19 : decode cX7_visitedTried 19 = .ok (.iaload, 1) := by decide +kernel
theorem dX7_visitedTried_20 : decode cX7_visitedTried 20 = .ok (.if_icmp .ge 50, 3) := by decide +kernel
theorem dX7_visitedTried_23 : decode cX7_visitedTried 23 = .ok (.aload_n 0, 1) := by decide +kernel
theorem dX7_visitedTried_24 : decode cX7_visitedTried 24 = .ok (.sipush 1512, 3) := by decide +kernel
theorem dX7_visitedTried_27 : decode cX7_visitedTried 27 = .ok (.iload 4, 2) := by decide +kernel
theorem dX7_visitedTried_29 : decode cX7_visitedTried 29 = .ok (.invokevirtual 145, 3) := by decide +kernel
theorem dX7_visitedTried_32 : decode cX7_visitedTried 32 = .ok (.istore 5, 2) := by decide +kernel
theorem dX7_visitedTried_34 : decode cX7_visitedTried 34 = .ok (.iload_n 2, 1) := by decide +kernel
theorem dX7_visitedTried_35 : decode cX7_visitedTried 35 = .ok (.iload 5, 2) := by decide +kernel
theorem dX7_visitedTried_37 : decode cX7_visitedTried 37 = .ok (.ldc 144, 2) := by decide +kernel
theorem dX7_visitedTried_39 : decode cX7_visitedTried 39 = .ok (.if_icmp .eq 15, 3) := by decide +kernel
theorem dX7_visitedTried_42 : decode cX7_visitedTried 42 = .ok (.aload_n 0, 1) := by decide +kernel
theorem dX7_visitedTried_43 : decode cX7_visitedTried 43 = .ok (.sipush 1512, 3) := by decide +kernel
theorem dX7_visitedTried_46 : decode cX7_visitedTried 46 = .ok (.iload 4, 2) := by decide +kernel
theorem dX7_visitedTried_48 : decode cX7_visitedTried 48 = .ok (.invokevirtual 161, 3) := by decide +kernel
theorem dX7_visitedTried_51 : decode cX7_visitedTried 51 = .ok (.ifCond .eq 7, 3) := by decide +kernel
theorem dX7_visitedTried_54 : decode cX7_visitedTried 54 = .ok (.iconst 0, 1) := by decide +kernel
theorem dX7_visitedTried_55 : decode cX7_visitedTried 55 = .ok (.goto 7, 3) := by decide +kernel
theorem dX7_visitedTried_58 : decode cX7_visitedTried 58 = .ok (.iconst 1, 1) := by decide +kernel
theorem dX7_visitedTried_59 : decode cX7_visitedTried 59 = .ok (.iload 5, 2) := by decide +kernel
theorem dX7_visitedTried_61 : decode cX7_visitedTried 61 = .ok (.ishl, 1) := by decide +kernel
theorem dX7_visitedTried_62 : decode cX7_visitedTried 62 = .ok (.ior, 1) := by decide +kernel
theorem dX7_visitedTried_63 : decode cX7_visitedTried 63 = .ok (.istore_n 2, 1) := by decide +kernel
theorem dX7_visitedTried_64 : decode cX7_visitedTried 64 = .ok (.iinc 4 1, 3) := by decide +kernel
theorem dX7_visitedTried_67 : decode cX7_visitedTried 67 = .ok (.goto (-55), 3) := by decide +kernel
theorem dX7_visitedTried_70 : decode cX7_visitedTried 70 = .ok (.aload_n 0, 1) := by decide +kernel
theorem dX7_visitedTried_71 : decode cX7_visitedTried 71 = .ok (.sipush 1512, 3) := by decide +kernel
theorem dX7_visitedTried_74 : decode cX7_visitedTried 74 = .ok (.invokevirtual 172, 3) := by decide +kernel
theorem dX7_visitedTried_77 : decode cX7_visitedTried 77 = .ok (.iinc 3 1, 3) := by decide +kernel
theorem dX7_visitedTried_80 : decode cX7_visitedTried 80 = .ok (.goto (-76), 3) := by decide +kernel
theorem dX7_visitedTried_83 : decode cX7_visitedTried 83 = .ok (.iload_n 2, 1) := by decide +kernel
theorem dX7_visitedTried_84 : decode cX7_visitedTried 84 = .ok (.ireturn, 1) := by decide +kernel
theorem dX7_allChildren_0 : decode cX7_allChildren 0 = .ok (.iconst 1, 1) := by decide +kernel
theorem dX7_allChildren_1 : decode cX7_allChildren 1 = .ok (.aload_n 0, 1) := by decide +kernel
theorem dX7_allChildren_2 : decode cX7_allChildren 2 = .ok (.getfield 7, 3) := by decide +kernel
theorem dX7_allChildren_5 : decode cX7_allChildren 5 = .ok (.iconst 0, 1) := by decide +kernel
theorem dX7_allChildren_6 : decode cX7_allChildren 6 = .ok (.iaload, 1) := by decide +kernel
theorem dX7_allChildren_7 : decode cX7_allChildren 7 = .ok (.ishl, 1) := by decide +kernel
theorem dX7_allChildren_8 : decode cX7_allChildren 8 = .ok (.iconst 1, 1) := by decide +kernel
theorem dX7_allChildren_9 : decode cX7_allChildren 9 = .ok (.isub, 1) := by decide +kernel
theorem dX7_allChildren_10 : decode cX7_allChildren 10 = .ok (.ireturn, 1) := by decide +kernel
theorem dX7_without_0 : decode cX7_without 0 = .ok (.aload_n 0, 1) := by decide +kernel
theorem dX7_without_1 : decode cX7_without 1 = .ok (.getfield 136, 3) := by decide +kernel
theorem dX7_without_4 : decode cX7_without 4 = .ok (.ifCond .ne 6, 3) := by decide +kernel
theorem dX7_without_7 : decode cX7_without 7 = .ok (.ldc 143, 2) := by decide +kernel
theorem dX7_without_9 : decode cX7_without 9 = .ok (.ireturn, 1) := by decide +kernel
theorem dX7_without_10 : decode cX7_without 10 = .ok (.iload_n 1, 1) := by decide +kernel
theorem dX7_without_11 : decode cX7_without 11 = .ok (.i2l, 1) := by decide +kernel
theorem dX7_without_12 : decode cX7_without 12 = .ok (.lconst 1, 1) := by decide +kernel
theorem dX7_without_13 : decode cX7_without 13 = .ok (.ldc2_w 179, 3) := by decide +kernel
theorem dX7_without_16 : decode cX7_without 16 = .ok (.invokestatic 48, 3) := by decide +kernel
theorem dX7_without_19 : decode cX7_without 19 = .ok (.ifCond .ne 6, 3) := by decide +kernel
theorem dX7_without_22 : decode cX7_without 22 = .ok (.ldc 58, 2) := by decide +kernel
theorem dX7_without_24 : decode cX7_without 24 = .ok (.ireturn, 1) := by decide +kernel
theorem dX7_without_25 : decode cX7_without 25 = .ok (.aload_n 0, 1) := by decide +kernel
theorem dX7_without_26 : decode cX7_without 26 = .ok (.iconst 0, 1) := by decide +kernel
theorem dX7_without_27 : decode cX7_without 27 = .ok (.invokevirtual 197, 3) := by decide +kernel
theorem dX7_without_30 : decode cX7_without 30 = .ok (.aload_n 0, 1) := by decide +kernel
theorem dX7_without_31 : decode cX7_without 31 = .ok (.invokevirtual 203, 3) := by decide +kernel
theorem dX7_without_34 : decode cX7_without 34 = .ok (.aload_n 0, 1) := by decide +kernel
theorem dX7_without_35 : decode cX7_without 35 = .ok (.iload_n 1, 1) := by decide +kernel
theorem dX7_without_36 : decode cX7_without 36 = .ok (.invokevirtual 207, 3) := by decide +kernel
theorem dX7_without_39 : decode cX7_without 39 = .ok (.iconst (-1), 1) := by decide +kernel
theorem dX7_without_40 : decode cX7_without 40 = .ok (.ixor, 1) := by decide +kernel
theorem dX7_without_41 : decode cX7_without 41 = .ok (.iand, 1) := by decide +kernel
theorem dX7_without_42 : decode cX7_without 42 = .ok (.ireturn, 1) := by decide +kernel
theorem dX7_nextFirsts_0 : decode cX7_nextFirsts 0 = .ok (.aload_n 0, 1) := by decide +kernel
theorem dX7_nextFirsts_1 : decode cX7_nextFirsts 1 = .ok (.getfield 7, 3) := by decide +kernel
theorem dX7_nextFirsts_4 : decode cX7_nextFirsts 4 = .ok (.iconst 1, 1) := by decide +kernel
theorem dX7_nextFirsts_5 : decode cX7_nextFirsts 5 = .ok (.iaload, 1) := by decide +kernel
theorem dX7_nextFirsts_6 : decode cX7_nextFirsts 6 = .ok (.iconst 1, 1) := by decide +kernel
theorem dX7_nextFirsts_7 : decode cX7_nextFirsts 7 = .ok (.isub, 1) := by decide +kernel
theorem dX7_nextFirsts_8 : decode cX7_nextFirsts 8 = .ok (.istore_n 1, 1) := by decide +kernel
theorem dX7_nextFirsts_9 : decode cX7_nextFirsts 9 = .ok (.iload_n 1, 1) := by decide +kernel
theorem dX7_nextFirsts_10 : decode cX7_nextFirsts 10 = .ok (.ifCond .lt 33, 3) := by decide +kernel
theorem dX7_nextFirsts_13 : decode cX7_nextFirsts 13 = .ok (.aload_n 0, 1) := by decide +kernel
theorem dX7_nextFirsts_14 : decode cX7_nextFirsts 14 = .ok (.getfield 32, 3) := by decide +kernel
theorem dX7_nextFirsts_17 : decode cX7_nextFirsts 17 = .ok (.iload_n 1, 1) := by decide +kernel
theorem dX7_nextFirsts_18 : decode cX7_nextFirsts 18 = .ok (.iaload, 1) := by decide +kernel
theorem dX7_nextFirsts_19 : decode cX7_nextFirsts 19 = .ok (.aload_n 0, 1) := by decide +kernel
theorem dX7_nextFirsts_20 : decode cX7_nextFirsts 20 = .ok (.getfield 7, 3) := by decide +kernel
theorem dX7_nextFirsts_23 : decode cX7_nextFirsts 23 = .ok (.iconst 0, 1) := by decide +kernel
theorem dX7_nextFirsts_24 : decode cX7_nextFirsts 24 = .ok (.iaload, 1) := by decide +kernel
theorem dX7_nextFirsts_25 : decode cX7_nextFirsts 25 = .ok (.iconst 1, 1) := by decide +kernel
theorem dX7_nextFirsts_26 : decode cX7_nextFirsts 26 = .ok (.isub, 1) := by decide +kernel
theorem dX7_nextFirsts_27 : decode cX7_nextFirsts 27 = .ok (.if_icmp .ne 16, 3) := by decide +kernel
theorem dX7_nextFirsts_30 : decode cX7_nextFirsts 30 = .ok (.aload_n 0, 1) := by decide +kernel
theorem dX7_nextFirsts_31 : decode cX7_nextFirsts 31 = .ok (.getfield 32, 3) := by decide +kernel
theorem dX7_nextFirsts_34 : decode cX7_nextFirsts 34 = .ok (.iload_n 1, 1) := by decide +kernel
theorem dX7_nextFirsts_35 : decode cX7_nextFirsts 35 = .ok (.iconst 0, 1) := by decide +kernel
theorem dX7_nextFirsts_36 : decode cX7_nextFirsts 36 = .ok (.iastore, 1) := by decide +kernel
theorem dX7_nextFirsts_37 : decode cX7_nextFirsts 37 = .ok (.iinc 1 (-1), 3) := by decide +kernel
theorem dX7_nextFirsts_40 : decode cX7_nextFirsts 40 = .ok (.goto (-31), 3) := by decide +kernel
theorem dX7_nextFirsts_43 : decode cX7_nextFirsts 43 = .ok (.iload_n 1, 1) := by decide +kernel
theorem dX7_nextFirsts_44 : decode cX7_nextFirsts 44 = .ok (.ifCond .lt 13, 3) := by decide +kernel
theorem dX7_nextFirsts_47 : decode cX7_nextFirsts 47 = .ok (.aload_n 0, 1) := by decide +kernel
theorem dX7_nextFirsts_48 : decode cX7_nextFirsts 48 = .ok (.getfield 32, 3) := by decide +kernel
theorem dX7_nextFirsts_51 : decode cX7_nextFirsts 51 = .ok (.iload_n 1, 1) := by decide +kernel
theorem dX7_nextFirsts_52 : decode cX7_nextFirsts 52 = .ok (.dup2, 1) := by decide +kernel
theorem dX7_nextFirsts_53 : decode cX7_nextFirsts 53 = .ok (.iaload, 1) := by decide +kernel
theorem dX7_nextFirsts_54 : decode cX7_nextFirsts 54 = .ok (.iconst 1, 1) := by decide +kernel
theorem dX7_nextFirsts_55 : decode cX7_nextFirsts 55 = .ok (.iadd, 1) := by decide +kernel
theorem dX7_nextFirsts_56 : decode cX7_nextFirsts 56 = .ok (.iastore, 1) := by decide +kernel
theorem dX7_nextFirsts_57 : decode cX7_nextFirsts 57 = .ok (.iload_n 1, 1) := by decide +kernel
theorem dX7_nextFirsts_58 : decode cX7_nextFirsts 58 = .ok (.ifCond .lt 7, 3) := by decide +kernel
theorem dX7_nextFirsts_61 : decode cX7_nextFirsts 61 = .ok (.iconst 1, 1) := by decide +kernel
theorem dX7_nextFirsts_62 : decode cX7_nextFirsts 62 = .ok (.goto 4, 3) := by decide +kernel
theorem dX7_nextFirsts_65 : decode cX7_nextFirsts 65 = .ok (.iconst 0, 1) := by decide +kernel
theorem dX7_nextFirsts_66 : decode cX7_nextFirsts 66 = .ok (.ireturn, 1) := by decide +kernel
theorem dX7_changes_0 : decode cX7_changes 0 = .ok (.iconst 0, 1) := by decide +kernel
theorem dX7_changes_1 : decode cX7_changes 1 = .ok (.istore_n 1, 1) := by decide +kernel
theorem dX7_changes_2 : decode cX7_changes 2 = .ok (.iconst 0, 1) := by decide +kernel
theorem dX7_changes_3 : decode cX7_changes 3 = .ok (.istore_n 2, 1) := by decide +kernel
theorem dX7_changes_4 : decode cX7_changes 4 = .ok (.iload_n 2, 1) := by decide +kernel
theorem dX7_changes_5 : decode cX7_changes 5 = .ok (.aload_n 0, 1) := by decide +kernel
theorem dX7_changes_6 : decode cX7_changes 6 = .ok (.getfield 7, 3) := by decide +kernel
theorem dX7_changes_9 : decode cX7_changes 9 = .ok (.iconst 1, 1) := by decide +kernel
theorem dX7_changes_10 : decode cX7_changes 10 = .ok (.iaload, 1) := by decide +kernel
theorem dX7_changes_11 : decode cX7_changes 11 = .ok (.if_icmp .ge 35, 3) := by decide +kernel
theorem dX7_changes_14 : decode cX7_changes 14 = .ok (.iload_n 1, 1) := by decide +kernel
theorem dX7_changes_15 : decode cX7_changes 15 = .ok (.aload_n 0, 1) := by decide +kernel
theorem dX7_changes_16 : decode cX7_changes 16 = .ok (.getfield 32, 3) := by decide +kernel
theorem dX7_changes_19 : decode cX7_changes 19 = .ok (.iload_n 2, 1) := by decide +kernel
theorem dX7_changes_20 : decode cX7_changes 20 = .ok (.iaload, 1) := by decide +kernel
theorem dX7_changes_21 : decode cX7_changes 21 = .ok (.aload_n 0, 1) := by decide +kernel
theorem dX7_changes_22 : decode cX7_changes 22 = .ok (.getfield 7, 3) := by decide +kernel
theorem dX7_changes_25 : decode cX7_changes 25 = .ok (.bipush 32, 2) := by decide +kernel
theorem dX7_changes_27 : decode cX7_changes 27 = .ok (.iload_n 2, 1) := by decide +kernel
theorem dX7_changes_28 : decode cX7_changes 28 = .ok (.iadd, 1) := by decide +kernel
theorem dX7_changes_29 : decode cX7_changes 29 = .ok (.iaload, 1) := by decide +kernel
theorem dX7_changes_30 : decode cX7_changes 30 = .ok (.if_icmp .ne 7, 3) := by decide +kernel
theorem dX7_changes_33 : decode cX7_changes 33 = .ok (.iconst 0, 1) := by decide +kernel
theorem dX7_changes_34 : decode cX7_changes 34 = .ok (.goto 4, 3) := by decide +kernel
theorem dX7_changes_37 : decode cX7_changes 37 = .ok (.iconst 1, 1) := by decide +kernel
theorem dX7_changes_38 : decode cX7_changes 38 = .ok (.iadd, 1) := by decide +kernel
theorem dX7_changes_39 : decode cX7_changes 39 = .ok (.istore_n 1, 1) := by decide +kernel
theorem dX7_changes_40 : decode cX7_changes 40 = .ok (.iinc 2 1, 3) := by decide +kernel
theorem dX7_changes_43 : decode cX7_changes 43 = .ok (.goto (-39), 3) := by decide +kernel
theorem dX7_changes_46 : decode cX7_changes 46 = .ok (.iload_n 1, 1) := by decide +kernel
theorem dX7_changes_47 : decode cX7_changes 47 = .ok (.ireturn, 1) := by decide +kernel
theorem dX7_servesAll_0 : decode cX7_servesAll 0 = .ok (.aload_n 0, 1) := by decide +kernel
theorem dX7_servesAll_1 : decode cX7_servesAll 1 = .ok (.iconst 0, 1) := by decide +kernel
theorem dX7_servesAll_2 : decode cX7_servesAll 2 = .ok (.sipush 1512, 3) := by decide +kernel
theorem dX7_servesAll_5 : decode cX7_servesAll 5 = .ok (.invokevirtual 132, 3) := by decide +kernel
theorem dX7_servesAll_8 : decode cX7_servesAll 8 = .ok (.iconst 0, 1) := by decide +kernel
theorem dX7_servesAll_9 : decode cX7_servesAll 9 = .ok (.istore_n 3, 1) := by decide +kernel
theorem dX7_servesAll_10 : decode cX7_servesAll 10 = .ok (.iload_n 3, 1) := by decide +kernel
theorem dX7_servesAll_11 : decode cX7_servesAll 11 = .ok (.aload_n 0, 1) := by decide +kernel
theorem dX7_servesAll_12 : decode cX7_servesAll 12 = .ok (.getfield 7, 3) := by decide +kernel
theorem dX7_servesAll_15 : decode cX7_servesAll 15 = .ok (.iconst 1, 1) := by decide +kernel
theorem dX7_servesAll_16 : decode cX7_servesAll 16 = .ok (.iaload, 1) := by decide +kernel
theorem dX7_servesAll_17 : decode cX7_servesAll 17 = .ok (.if_icmp .ge 25, 3) := by decide +kernel
theorem dX7_servesAll_20 : decode cX7_servesAll 20 = .ok (.aload_n 0, 1) := by decide +kernel
theorem dX7_servesAll_21 : decode cX7_servesAll 21 = .ok (.getfield 7, 3) := by decide +kernel
theorem dX7_servesAll_24 : decode cX7_servesAll 24 = .ok (.sipush 1544, 3) := by decide +kernel
theorem dX7_servesAll_27 : decode cX7_servesAll 27 = .ok (.iload_n 3, 1) := by decide +kernel
theorem dX7_servesAll_28 : decode cX7_servesAll 28 = .ok (.iadd, 1) := by decide +kernel
theorem dX7_servesAll_29 : decode cX7_servesAll 29 = .ok (.aload_n 0, 1) := by decide +kernel
theorem dX7_servesAll_30 : decode cX7_servesAll 30 = .ok (.getfield 32, 3) := by decide +kernel
theorem dX7_servesAll_33 : decode cX7_servesAll 33 = .ok (.iload_n 3, 1) := by decide +kernel
theorem dX7_servesAll_34 : decode cX7_servesAll 34 = .ok (.iaload, 1) := by decide +kernel
theorem dX7_servesAll_35 : decode cX7_servesAll 35 = .ok (.iastore, 1) := by decide +kernel
theorem dX7_servesAll_36 : decode cX7_servesAll 36 = .ok (.iinc 3 1, 3) := by decide +kernel
theorem dX7_servesAll_39 : decode cX7_servesAll 39 = .ok (.goto (-29), 3) := by decide +kernel
theorem dX7_servesAll_42 : decode cX7_servesAll 42 = .ok (.iload_n 1, 1) := by decide +kernel
theorem dX7_servesAll_43 : decode cX7_servesAll 43 = .ok (.aload_n 0, 1) := by decide +kernel
theorem dX7_servesAll_44 : decode cX7_servesAll 44 = .ok (.iload_n 2, 1) := by decide +kernel
theorem dX7_servesAll_45 : decode cX7_servesAll 45 = .ok (.invokevirtual 207, 3) := by decide +kernel
theorem dX7_servesAll_48 : decode cX7_servesAll 48 = .ok (.iconst (-1), 1) := by decide +kernel
theorem dX7_servesAll_49 : decode cX7_servesAll 49 = .ok (.ixor, 1) := by decide +kernel
theorem dX7_servesAll_50 : decode cX7_servesAll 50 = .ok (.iand, 1) := by decide +kernel
theorem dX7_servesAll_51 : decode cX7_servesAll 51 = .ok (.ifCond .ne 7, 3) := by decide +kernel
theorem dX7_servesAll_54 : decode cX7_servesAll 54 = .ok (.iconst 1, 1) := by decide +kernel
theorem dX7_servesAll_55 : decode cX7_servesAll 55 = .ok (.goto 4, 3) := by decide +kernel
theorem dX7_servesAll_58 : decode cX7_servesAll 58 = .ok (.iconst 0, 1) := by decide +kernel
theorem dX7_servesAll_59 : decode cX7_servesAll 59 = .ok (.ireturn, 1) := by decide +kernel
theorem dX7_rota_0 : decode cX7_rota 0 = .ok (.aload_n 0, 1) := by decide +kernel
theorem dX7_rota_1 : decode cX7_rota 1 = .ok (.getfield 136, 3) := by decide +kernel
theorem dX7_rota_4 : decode cX7_rota 4 = .ok (.ifCond .ne 6, 3) := by decide +kernel
theorem dX7_rota_7 : decode cX7_rota 7 = .ok (.ldc 143, 2) := by decide +kernel
theorem dX7_rota_9 : decode cX7_rota 9 = .ok (.ireturn, 1) := by decide +kernel
theorem dX7_rota_10 : decode cX7_rota 10 = .ok (.iload_n 1, 1) := by decide +kernel
theorem dX7_rota_11 : decode cX7_rota 11 = .ok (.i2l, 1) := by decide +kernel
theorem dX7_rota_12 : decode cX7_rota 12 = .ok (.lconst 0, 1) := by decide +kernel
theorem dX7_rota_13 : decode cX7_rota 13 = .ok (.aload_n 0, 1) := by decide +kernel
theorem dX7_rota_14 : decode cX7_rota 14 = .ok (.invokevirtual 203, 3) := by decide +kernel
theorem dX7_rota_17 : decode cX7_rota 17 = .ok (.i2l, 1) := by decide +kernel
theorem dX7_rota_18 : decode cX7_rota 18 = .ok (.invokestatic 48, 3) := by decide +kernel
theorem dX7_rota_21 : decode cX7_rota 21 = .ok (.ifCond .eq 28, 3) := by decide +kernel
theorem dX7_rota_24 : decode cX7_rota 24 = .ok (.iload_n 2, 1) := by decide +kernel
theorem dX7_rota_25 : decode cX7_rota 25 = .ok (.i2l, 1) := by decide +kernel
theorem dX7_rota_26 : decode cX7_rota 26 = .ok (.lconst 1, 1) := by decide +kernel
theorem dX7_rota_27 : decode cX7_rota 27 = .ok (.ldc2_w 210, 3) := by decide +kernel
theorem dX7_rota_30 : decode cX7_rota 30 = .ok (.invokestatic 48, 3) := by decide +kernel
theorem dX7_rota_33 : decode cX7_rota 33 = .ok (.ifCond .eq 16, 3) := by decide +kernel
theorem dX7_rota_36 : decode cX7_rota 36 = .ok (.aload_n 0, 1) := by decide +kernel
theorem dX7_rota_37 : decode cX7_rota 37 = .ok (.iload_n 3, 1) := by decide +kernel
theorem dX7_rota_38 : decode cX7_rota 38 = .ok (.invokevirtual 176, 3) := by decide +kernel
theorem dX7_rota_41 : decode cX7_rota 41 = .ok (.ifCond .ne 11, 3) := by decide +kernel
theorem dX7_rota_44 : decode cX7_rota 44 = .ok (.iload_n 3, 1) := by decide +kernel
theorem dX7_rota_45 : decode cX7_rota 45 = .ok (.iconst (-1), 1) := by decide +kernel
theorem dX7_rota_46 : decode cX7_rota 46 = .ok (.if_icmp .eq 6, 3) := by decide +kernel
theorem dX7_rota_49 : decode cX7_rota 49 = .ok (.ldc 58, 2) := by decide +kernel
theorem dX7_rota_51 : decode cX7_rota 51 = .ok (.ireturn, 1) := by decide +kernel
theorem dX7_rota_52 : decode cX7_rota 52 = .ok (.bipush 7, 2) := by decide +kernel
theorem dX7_rota_54 : decode cX7_rota 54 = .ok (.istore 4, 2) := by decide +kernel
theorem dX7_rota_56 : decode cX7_rota 56 = .ok (.iconst 0, 1) := by decide +kernel
theorem dX7_rota_57 : decode cX7_rota 57 = .ok (.istore 5, 2) := by decide +kernel
theorem dX7_rota_59 : decode cX7_rota 59 = .ok (.iload 5, 2) := by decide +kernel
theorem dX7_rota_61 : decode cX7_rota 61 = .ok (.bipush 6, 2) := by decide +kernel
theorem dX7_rota_63 : decode cX7_rota 63 = .ok (.if_icmp .ge 17, 3) := by decide +kernel
theorem dX7_rota_66 : decode cX7_rota 66 = .ok (.aload_n 0, 1) := by decide +kernel
theorem dX7_rota_67 : decode cX7_rota 67 = .ok (.getfield 32, 3) := by decide +kernel
theorem dX7_rota_70 : decode cX7_rota 70 = .ok (.iload 5, 2) := by decide +kernel
theorem dX7_rota_72 : decode cX7_rota 72 = .ok (.iconst 0, 1) := by decide +kernel
theorem dX7_rota_73 : decode cX7_rota 73 = .ok (.iastore, 1) := by decide +kernel
theorem dX7_rota_74 : decode cX7_rota 74 = .ok (.iinc 5 1, 3) := by decide +kernel
theorem dX7_rota_77 : decode cX7_rota 77 = .ok (.goto (-18), 3) := by decide +kernel
theorem dX7_rota_80 : decode cX7_rota 80 = .ok (.iconst 1, 1) := by decide +kernel
theorem dX7_rota_81 : decode cX7_rota 81 = .ok (.istore 5, 2) := by decide +kernel
theorem dX7_rota_83 : decode cX7_rota 83 = .ok (.iload 5, 2) := by decide +kernel
theorem dX7_rota_85 : decode cX7_rota 85 = .ok (.ifCond .eq 68, 3) := by decide +kernel
theorem dX7_rota_88 : decode cX7_rota 88 = .ok (.aload_n 0, 1) := by decide +kernel
theorem dX7_rota_89 : decode cX7_rota 89 = .ok (.invokevirtual 212, 3) := by decide +kernel
theorem dX7_rota_92 : decode cX7_rota 92 = .ok (.istore 6, 2) := by decide +kernel
theorem dX7_rota_94 : decode cX7_rota 94 = .ok (.iload 6, 2) := by decide +kernel
theorem dX7_rota_96 : decode cX7_rota 96 = .ok (.iload 4, 2) := by decide +kernel
theorem dX7_rota_98 : decode cX7_rota 98 = .ok (.if_icmp .ge 46, 3) := by decide +kernel
theorem dX7_rota_101 : decode cX7_rota 101 = .ok (.aload_n 0, 1) := by decide +kernel
theorem dX7_rota_102 : decode cX7_rota 102 = .ok (.iload_n 1, 1) := by decide +kernel
theorem dX7_rota_103 : decode cX7_rota 103 = .ok (.iload_n 2, 1) := by decide +kernel
theorem dX7_rota_104 : decode cX7_rota 104 = .ok (.invokevirtual 215, 3) := by decide +kernel
theorem dX7_rota_107 : decode cX7_rota 107 = .ok (.ifCond .eq 37, 3) := by decide +kernel
theorem dX7_rota_110 : decode cX7_rota 110 = .ok (.iload 6, 2) := by decide +kernel
theorem dX7_rota_112 : decode cX7_rota 112 = .ok (.istore 4, 2) := by decide +kernel
theorem dX7_rota_114 : decode cX7_rota 114 = .ok (.iconst 0, 1) := by decide +kernel
theorem dX7_rota_115 : decode cX7_rota 115 = .ok (.istore 7, 2) := by decide +kernel
theorem dX7_rota_117 : decode cX7_rota 117 = .ok (.iload 7, 2) := by decide +kernel
theorem dX7_rota_119 : decode cX7_rota 119 = .ok (.bipush 6, 2) := by decide +kernel
theorem dX7_rota_121 : decode cX7_rota 121 = .ok (.if_icmp .ge 23, 3) := by decide +kernel
theorem dX7_rota_124 : decode cX7_rota 124 = .ok (.aload_n 0, 1) := by decide +kernel
theorem dX7_rota_125 : decode cX7_rota 125 = .ok (.getfield 35, 3) := by decide +kernel
theorem dX7_rota_128 : decode cX7_rota 128 = .ok (.iload 7, 2) := by decide +kernel
theorem dX7_rota_130 : decode cX7_rota 130 = .ok (.aload_n 0, 1) := by decide +kernel
theorem dX7_rota_131 : decode cX7_rota 131 = .ok (.getfield 32, 3) := by decide +kernel
theorem dX7_rota_134 : decode cX7_rota 134 = .ok (.iload 7, 2) := by decide +kernel
theorem dX7_rota_136 : decode cX7_rota 136 = .ok (.iaload, 1) := by decide +kernel
theorem dX7_rota_137 : decode cX7_rota 137 = .ok (.iastore, 1) := by decide +kernel
theorem dX7_rota_138 : decode cX7_rota 138 = .ok (.iinc 7 1, 3) := by decide +kernel
theorem dX7_rota_141 : decode cX7_rota 141 = .ok (.goto (-24), 3) := by decide +kernel
theorem dX7_rota_144 : decode cX7_rota 144 = .ok (.aload_n 0, 1) := by decide +kernel
theorem dX7_rota_145 : decode cX7_rota 145 = .ok (.invokevirtual 218, 3) := by decide +kernel
theorem dX7_rota_148 : decode cX7_rota 148 = .ok (.istore 5, 2) := by decide +kernel
theorem dX7_rota_150 : decode cX7_rota 150 = .ok (.goto (-67), 3) := by decide +kernel
theorem dX7_rota_153 : decode cX7_rota 153 = .ok (.iload 4, 2) := by decide +kernel
theorem dX7_rota_155 : decode cX7_rota 155 = .ok (.bipush 7, 2) := by decide +kernel
theorem dX7_rota_157 : decode cX7_rota 157 = .ok (.if_icmp .ne 8, 3) := by decide +kernel
theorem dX7_rota_160 : decode cX7_rota 160 = .ok (.ldc 144, 2) := by decide +kernel
theorem dX7_rota_162 : decode cX7_rota 162 = .ok (.goto 18, 3) := by decide +kernel
theorem dX7_rota_165 : decode cX7_rota 165 = .ok (.iload_n 3, 1) := by decide +kernel
theorem dX7_rota_166 : decode cX7_rota 166 = .ok (.ifCond .ge 8, 3) := by decide +kernel
theorem dX7_rota_169 : decode cX7_rota 169 = .ok (.iload 4, 2) := by decide +kernel
theorem dX7_rota_171 : decode cX7_rota 171 = .ok (.goto 9, 3) := by decide +kernel
theorem dX7_rota_174 : decode cX7_rota 174 = .ok (.aload_n 0, 1) := by decide +kernel
theorem dX7_rota_175 : decode cX7_rota 175 = .ok (.getfield 35, 3) := by decide +kernel
theorem dX7_rota_178 : decode cX7_rota 178 = .ok (.iload_n 3, 1) := by decide +kernel
theorem dX7_rota_179 : decode cX7_rota 179 = .ok (.iaload, 1) := by decide +kernel
theorem dX7_rota_180 : decode cX7_rota 180 = .ok (.ireturn, 1) := by decide +kernel
theorem dX7_meets_0 : decode cX7_meets 0 = .ok (.aload_n 0, 1) := by decide +kernel
theorem dX7_meets_1 : decode cX7_meets 1 = .ok (.iload_n 1, 1) := by decide +kernel
theorem dX7_meets_2 : decode cX7_meets 2 = .ok (.iload_n 2, 1) := by decide +kernel
theorem dX7_meets_3 : decode cX7_meets 3 = .ok (.invokevirtual 189, 3) := by decide +kernel
theorem dX7_meets_6 : decode cX7_meets 6 = .ok (.ifCond .ne 6, 3) := by decide +kernel
theorem dX7_meets_9 : decode cX7_meets 9 = .ok (.ldc 58, 2) := by decide +kernel
theorem dX7_meets_11 : decode cX7_meets 11 = .ok (.ireturn, 1) := by decide +kernel
theorem dX7_meets_12 : decode cX7_meets 12 = .ok (.aload_n 0, 1) := by decide +kernel
theorem dX7_meets_13 : decode cX7_meets 13 = .ok (.iconst 0, 1) := by decide +kernel
theorem dX7_meets_14 : decode cX7_meets 14 = .ok (.invokevirtual 197, 3) := by decide +kernel
theorem dX7_meets_17 : decode cX7_meets 17 = .ok (.iconst 0, 1) := by decide +kernel
theorem dX7_meets_18 : decode cX7_meets 18 = .ok (.istore_n 3, 1) := by decide +kernel
theorem dX7_meets_19 : decode cX7_meets 19 = .ok (.iload_n 3, 1) := by decide +kernel
theorem dX7_meets_20 : decode cX7_meets 20 = .ok (.bipush 61, 2) := by decide +kernel
theorem dX7_meets_22 : decode cX7_meets 22 = .ok (.if_icmp .ge 50, 3) := by decide +kernel
theorem dX7_meets_25 : decode cX7_meets 25 = .ok (.aload_n 0, 1) := by decide +kernel
theorem dX7_meets_26 : decode cX7_meets 26 = .ok (.sipush 1512, 3) := by decide +kernel
theorem dX7_meets_29 : decode cX7_meets 29 = .ok (.iload_n 1, 1) := by decide +kernel
theorem dX7_meets_30 : decode cX7_meets 30 = .ok (.invokevirtual 145, 3) := by decide +kernel
theorem dX7_meets_33 : decode cX7_meets 33 = .ok (.ldc 144, 2) := by decide +kernel
theorem dX7_meets_35 : decode cX7_meets 35 = .ok (.if_icmp .eq 24, 3) := by decide +kernel
theorem dX7_meets_38 : decode cX7_meets 38 = .ok (.aload_n 0, 1) := by decide +kernel
theorem dX7_meets_39 : decode cX7_meets 39 = .ok (.sipush 1512, 3) := by decide +kernel
theorem dX7_meets_42 : decode cX7_meets 42 = .ok (.iload_n 1, 1) := by decide +kernel
theorem dX7_meets_43 : decode cX7_meets 43 = .ok (.invokevirtual 145, 3) := by decide +kernel
theorem dX7_meets_46 : decode cX7_meets 46 = .ok (.aload_n 0, 1) := by decide +kernel
theorem dX7_meets_47 : decode cX7_meets 47 = .ok (.sipush 1512, 3) := by decide +kernel
theorem dX7_meets_50 : decode cX7_meets 50 = .ok (.iload_n 2, 1) := by decide +kernel
theorem dX7_meets_51 : decode cX7_meets 51 = .ok (.invokevirtual 145, 3) := by decide +kernel
theorem dX7_meets_54 : decode cX7_meets 54 = .ok (.if_icmp .ne 5, 3) := by decide +kernel
theorem dX7_meets_57 : decode cX7_meets 57 = .ok (.iload_n 3, 1) := by decide +kernel
theorem dX7_meets_58 : decode cX7_meets 58 = .ok (.ireturn, 1) := by decide +kernel
theorem dX7_meets_59 : decode cX7_meets 59 = .ok (.aload_n 0, 1) := by decide +kernel
theorem dX7_meets_60 : decode cX7_meets 60 = .ok (.sipush 1512, 3) := by decide +kernel
theorem dX7_meets_63 : decode cX7_meets 63 = .ok (.invokevirtual 172, 3) := by decide +kernel
theorem dX7_meets_66 : decode cX7_meets 66 = .ok (.iinc 3 1, 3) := by decide +kernel
theorem dX7_meets_69 : decode cX7_meets 69 = .ok (.goto (-50), 3) := by decide +kernel
theorem dX7_meets_72 : decode cX7_meets 72 = .ok (.ldc 144, 2) := by decide +kernel
theorem dX7_meets_74 : decode cX7_meets 74 = .ok (.ireturn, 1) := by decide +kernel
theorem dX7_lost_0 : decode cX7_lost 0 = .ok (.aload_n 0, 1) := by decide +kernel
theorem dX7_lost_1 : decode cX7_lost 1 = .ok (.getfield 136, 3) := by decide +kernel
theorem dX7_lost_4 : decode cX7_lost 4 = .ok (.ifCond .ne 6, 3) := by decide +kernel
theorem dX7_lost_7 : decode cX7_lost 7 = .ok (.ldc 143, 2) := by decide +kernel
theorem dX7_lost_9 : decode cX7_lost 9 = .ok (.ireturn, 1) := by decide +kernel
theorem dX7_lost_10 : decode cX7_lost 10 = .ok (.iload_n 1, 1) := by decide +kernel
theorem dX7_lost_11 : decode cX7_lost 11 = .ok (.i2l, 1) := by decide +kernel
theorem dX7_lost_12 : decode cX7_lost 12 = .ok (.lconst 1, 1) := by decide +kernel
theorem dX7_lost_13 : decode cX7_lost 13 = .ok (.ldc2_w 179, 3) := by decide +kernel
theorem dX7_lost_16 : decode cX7_lost 16 = .ok (.invokestatic 48, 3) := by decide +kernel
theorem dX7_lost_19 : decode cX7_lost 19 = .ok (.ifCond .ne 6, 3) := by decide +kernel
theorem dX7_lost_22 : decode cX7_lost 22 = .ok (.ldc 58, 2) := by decide +kernel
theorem dX7_lost_24 : decode cX7_lost 24 = .ok (.ireturn, 1) := by decide +kernel
theorem dX7_lost_25 : decode cX7_lost 25 = .ok (.aload_n 0, 1) := by decide +kernel
theorem dX7_lost_26 : decode cX7_lost 26 = .ok (.iconst 0, 1) := by decide +kernel
theorem dX7_lost_27 : decode cX7_lost 27 = .ok (.invokevirtual 197, 3) := by decide +kernel
theorem dX7_lost_30 : decode cX7_lost 30 = .ok (.iconst 0, 1) := by decide +kernel
theorem dX7_lost_31 : decode cX7_lost 31 = .ok (.istore_n 2, 1) := by decide +kernel
theorem dX7_lost_32 : decode cX7_lost 32 = .ok (.iconst 0, 1) := by decide +kernel
theorem dX7_lost_33 : decode cX7_lost 33 = .ok (.istore_n 3, 1) := by decide +kernel
theorem dX7_lost_34 : decode cX7_lost 34 = .ok (.iload_n 3, 1) := by decide +kernel
theorem dX7_lost_35 : decode cX7_lost 35 = .ok (.iload_n 1, 1) := by decide +kernel
theorem dX7_lost_36 : decode cX7_lost 36 = .ok (.if_icmp .ge 56, 3) := by decide +kernel
theorem dX7_lost_39 : decode cX7_lost 39 = .ok (.iconst 0, 1) := by decide +kernel
theorem dX7_lost_40 : decode cX7_lost 40 = .ok (.istore 4, 2) := by decide +kernel
theorem dX7_lost_42 : decode cX7_lost 42 = .ok (.iload 4, 2) := by decide +kernel
theorem dX7_lost_44 : decode cX7_lost 44 = .ok (.aload_n 0, 1) := by decide +kernel
theorem dX7_lost_45 : decode cX7_lost 45 = .ok (.getfield 7, 3) := by decide +kernel
theorem dX7_lost_48 : decode cX7_lost 48 = .ok (.iconst 1, 1) := by decide +kernel
theorem dX7_lost_49 : decode cX7_lost 49 = .ok (.iaload, 1) := by decide +kernel
theorem dX7_lost_50 : decode cX7_lost 50 = .ok (.if_icmp .ge 29, 3) := by decide +kernel
theorem dX7_lost_53 : decode cX7_lost 53 = .ok (.iload_n 2, 1) := by decide +kernel
theorem dX7_lost_54 : decode cX7_lost 54 = .ok (.aload_n 0, 1) := by decide +kernel
theorem dX7_lost_55 : decode cX7_lost 55 = .ok (.sipush 1512, 3) := by decide +kernel
theorem dX7_lost_58 : decode cX7_lost 58 = .ok (.iload 4, 2) := by decide +kernel
theorem dX7_lost_60 : decode cX7_lost 60 = .ok (.invokevirtual 161, 3) := by decide +kernel
theorem dX7_lost_63 : decode cX7_lost 63 = .ok (.ifCond .eq 7, 3) := by decide +kernel
theorem dX7_lost_66 : decode cX7_lost 66 = .ok (.iconst 1, 1) := by decide +kernel
theorem dX7_lost_67 : decode cX7_lost 67 = .ok (.goto 4, 3) := by decide +kernel
theorem dX7_lost_70 : decode cX7_lost 70 = .ok (.iconst 0, 1) := by decide +kernel
theorem dX7_lost_71 : decode cX7_lost 71 = .ok (.iadd, 1) := by decide +kernel
theorem dX7_lost_72 : decode cX7_lost 72 = .ok (.istore_n 2, 1) := by decide +kernel
theorem dX7_lost_73 : decode cX7_lost 73 = .ok (.iinc 4 1, 3) := by decide +kernel
theorem dX7_lost_76 : decode cX7_lost 76 = .ok (.goto (-34), 3) := by decide +kernel
theorem dX7_lost_79 : decode cX7_lost 79 = .ok (.aload_n 0, 1) := by decide +kernel
theorem dX7_lost_80 : decode cX7_lost 80 = .ok (.sipush 1512, 3) := by decide +kernel
theorem dX7_lost_83 : decode cX7_lost 83 = .ok (.invokevirtual 172, 3) := by decide +kernel
theorem dX7_lost_86 : decode cX7_lost 86 = .ok (.iinc 3 1, 3) := by decide +kernel
theorem dX7_lost_89 : decode cX7_lost 89 = .ok (.goto (-55), 3) := by decide +kernel
theorem dX7_lost_92 : decode cX7_lost 92 = .ok (.iload_n 2, 1) := by decide +kernel
theorem dX7_lost_93 : decode cX7_lost 93 = .ok (.ireturn, 1) := by decide +kernel
theorem dX7_isBetter_0 : decode cX7_isBetter 0 = .ok (.aload_n 0, 1) := by decide +kernel
theorem dX7_isBetter_1 : decode cX7_isBetter 1 = .ok (.iconst 0, 1) := by decide +kernel
theorem dX7_isBetter_2 : decode cX7_isBetter 2 = .ok (.sipush 1512, 3) := by decide +kernel
theorem dX7_isBetter_5 : decode cX7_isBetter 5 = .ok (.invokevirtual 132, 3) := by decide +kernel
theorem dX7_isBetter_8 : decode cX7_isBetter 8 = .ok (.aload_n 0, 1) := by decide +kernel
theorem dX7_isBetter_9 : decode cX7_isBetter 9 = .ok (.getfield 7, 3) := by decide +kernel
theorem dX7_isBetter_12 : decode cX7_isBetter 12 = .ok (.sipush 1544, 3) := by decide +kernel
theorem dX7_isBetter_15 : decode cX7_isBetter 15 = .ok (.iload_n 1, 1) := by decide +kernel
theorem dX7_isBetter_16 : decode cX7_isBetter 16 = .ok (.iadd, 1) := by decide +kernel
theorem dX7_isBetter_17 : decode cX7_isBetter 17 = .ok (.aload_n 0, 1) := by decide +kernel
theorem dX7_isBetter_18 : decode cX7_isBetter 18 = .ok (.getfield 7, 3) := by decide +kernel
theorem dX7_isBetter_21 : decode cX7_isBetter 21 = .ok (.bipush 32, 2) := by decide +kernel
theorem dX7_isBetter_23 : decode cX7_isBetter 23 = .ok (.iload_n 2, 1) := by decide +kernel
theorem dX7_isBetter_24 : decode cX7_isBetter 24 = .ok (.iadd, 1) := by decide +kernel
theorem dX7_isBetter_25 : decode cX7_isBetter 25 = .ok (.iaload, 1) := by decide +kernel
theorem dX7_isBetter_26 : decode cX7_isBetter 26 = .ok (.iastore, 1) := by decide +kernel
theorem dX7_isBetter_27 : decode cX7_isBetter 27 = .ok (.aload_n 0, 1) := by decide +kernel
theorem dX7_isBetter_28 : decode cX7_isBetter 28 = .ok (.getfield 7, 3) := by decide +kernel
theorem dX7_isBetter_31 : decode cX7_isBetter 31 = .ok (.sipush 1544, 3) := by decide +kernel
theorem dX7_isBetter_34 : decode cX7_isBetter 34 = .ok (.iload_n 2, 1) := by decide +kernel
theorem dX7_isBetter_35 : decode cX7_isBetter 35 = .ok (.iadd, 1) := by decide +kernel
theorem dX7_isBetter_36 : decode cX7_isBetter 36 = .ok (.aload_n 0, 1) := by decide +kernel
theorem dX7_isBetter_37 : decode cX7_isBetter 37 = .ok (.getfield 7, 3) := by decide +kernel
theorem dX7_isBetter_40 : decode cX7_isBetter 40 = .ok (.bipush 32, 2) := by decide +kernel
theorem dX7_isBetter_42 : decode cX7_isBetter 42 = .ok (.iload_n 1, 1) := by decide +kernel
theorem dX7_isBetter_43 : decode cX7_isBetter 43 = .ok (.iadd, 1) := by decide +kernel
theorem dX7_isBetter_44 : decode cX7_isBetter 44 = .ok (.iaload, 1) := by decide +kernel
theorem dX7_isBetter_45 : decode cX7_isBetter 45 = .ok (.iastore, 1) := by decide +kernel
theorem dX7_isBetter_46 : decode cX7_isBetter 46 = .ok (.iconst 0, 1) := by decide +kernel
theorem dX7_isBetter_47 : decode cX7_isBetter 47 = .ok (.istore 4, 2) := by decide +kernel
theorem dX7_isBetter_49 : decode cX7_isBetter 49 = .ok (.iload 4, 2) := by decide +kernel
theorem dX7_isBetter_51 : decode cX7_isBetter 51 = .ok (.iload_n 3, 1) := by decide +kernel
theorem dX7_isBetter_52 : decode cX7_isBetter 52 = .ok (.if_icmp .ge 16, 3) := by decide +kernel
theorem dX7_isBetter_55 : decode cX7_isBetter 55 = .ok (.aload_n 0, 1) := by decide +kernel
theorem dX7_isBetter_56 : decode cX7_isBetter 56 = .ok (.sipush 1512, 3) := by decide +kernel
theorem dX7_isBetter_59 : decode cX7_isBetter 59 = .ok (.invokevirtual 172, 3) := by decide +kernel
theorem dX7_isBetter_62 : decode cX7_isBetter 62 = .ok (.iinc 4 1, 3) := by decide +kernel
theorem dX7_isBetter_65 : decode cX7_isBetter 65 = .ok (.goto (-16), 3) := by decide +kernel
theorem dX7_isBetter_68 : decode cX7_isBetter 68 = .ok (.iconst 0, 1) := by decide +kernel
theorem dX7_isBetter_69 : decode cX7_isBetter 69 = .ok (.istore 4, 2) := by decide +kernel
theorem dX7_isBetter_71 : decode cX7_isBetter 71 = .ok (.iconst 0, 1) := by decide +kernel
theorem dX7_isBetter_72 : decode cX7_isBetter 72 = .ok (.istore 5, 2) := by decide +kernel
theorem dX7_isBetter_74 : decode cX7_isBetter 74 = .ok (.iconst 0, 1) := by decide +kernel
theorem dX7_isBetter_75 : decode cX7_isBetter 75 = .ok (.istore 6, 2) := by decide +kernel
theorem dX7_isBetter_77 : decode cX7_isBetter 77 = .ok (.iload 6, 2) := by decide +kernel
theorem dX7_isBetter_79 : decode cX7_isBetter 79 = .ok (.aload_n 0, 1) := by decide +kernel
theorem dX7_isBetter_80 : decode cX7_isBetter 80 = .ok (.getfield 7, 3) := by decide +kernel
theorem dX7_isBetter_83 : decode cX7_isBetter 83 = .ok (.iconst 0, 1) := by decide +kernel
theorem dX7_isBetter_84 : decode cX7_isBetter 84 = .ok (.iaload, 1) := by decide +kernel
theorem dX7_isBetter_85 : decode cX7_isBetter 85 = .ok (.if_icmp .ge 75, 3) := by decide +kernel
theorem dX7_isBetter_88 : decode cX7_isBetter 88 = .ok (.iload 4, 2) := by decide +kernel
theorem dX7_isBetter_90 : decode cX7_isBetter 90 = .ok (.ifCond .ne 24, 3) := by decide +kernel
theorem dX7_isBetter_93 : decode cX7_isBetter 93 = .ok (.aload_n 0, 1) := by decide +kernel
theorem dX7_isBetter_94 : decode cX7_isBetter 94 = .ok (.getfield 7, 3) := by decide +kernel
theorem dX7_isBetter_97 : decode cX7_isBetter 97 = .ok (.sipush 1517, 3) := by decide +kernel
theorem dX7_isBetter_100 : decode cX7_isBetter 100 = .ok (.iload 6, 2) := by decide +kernel
theorem dX7_isBetter_102 : decode cX7_isBetter 102 = .ok (.iadd, 1) := by decide +kernel
theorem dX7_isBetter_103 : decode cX7_isBetter 103 = .ok (.iaload, 1) := by decide +kernel
theorem dX7_isBetter_104 : decode cX7_isBetter 104 = .ok (.aload_n 0, 1) := by decide +kernel
theorem dX7_isBetter_105 : decode cX7_isBetter 105 = .ok (.getfield 38, 3) := by decide +kernel
theorem dX7_isBetter_108 : decode cX7_isBetter 108 = .ok (.iload 6, 2) := by decide +kernel
theorem dX7_isBetter_110 : decode cX7_isBetter 110 = .ok (.iaload, 1) := by decide +kernel
theorem dX7_isBetter_111 : decode cX7_isBetter 111 = .ok (.if_icmp .le 7, 3) := by decide +kernel
theorem dX7_isBetter_114 : decode cX7_isBetter 114 = .ok (.iconst 1, 1) := by decide +kernel
theorem dX7_isBetter_115 : decode cX7_isBetter 115 = .ok (.goto 4, 3) := by decide +kernel
theorem dX7_isBetter_118 : decode cX7_isBetter 118 = .ok (.iconst 0, 1) := by decide +kernel
theorem dX7_isBetter_119 : decode cX7_isBetter 119 = .ok (.istore 4, 2) := by decide +kernel
theorem dX7_isBetter_121 : decode cX7_isBetter 121 = .ok (.iload 5, 2) := by decide +kernel
theorem dX7_isBetter_123 : decode cX7_isBetter 123 = .ok (.ifCond .ne 24, 3) := by decide +kernel
theorem dX7_isBetter_126 : decode cX7_isBetter 126 = .ok (.aload_n 0, 1) := by decide +kernel
theorem dX7_isBetter_127 : decode cX7_isBetter 127 = .ok (.getfield 7, 3) := by decide +kernel
theorem dX7_isBetter_130 : decode cX7_isBetter 130 = .ok (.sipush 1517, 3) := by decide +kernel
theorem dX7_isBetter_133 : decode cX7_isBetter 133 = .ok (.iload 6, 2) := by decide +kernel
theorem dX7_isBetter_135 : decode cX7_isBetter 135 = .ok (.iadd, 1) := by decide +kernel
theorem dX7_isBetter_136 : decode cX7_isBetter 136 = .ok (.iaload, 1) := by decide +kernel
theorem dX7_isBetter_137 : decode cX7_isBetter 137 = .ok (.aload_n 0, 1) := by decide +kernel
theorem dX7_isBetter_138 : decode cX7_isBetter 138 = .ok (.getfield 38, 3) := by decide +kernel
theorem dX7_isBetter_141 : decode cX7_isBetter 141 = .ok (.iload 6, 2) := by decide +kernel
theorem dX7_isBetter_143 : decode cX7_isBetter 143 = .ok (.iaload, 1) := by decide +kernel
theorem dX7_isBetter_144 : decode cX7_isBetter 144 = .ok (.if_icmp .ge 7, 3) := by decide +kernel
theorem dX7_isBetter_147 : decode cX7_isBetter 147 = .ok (.iconst 1, 1) := by decide +kernel
theorem dX7_isBetter_148 : decode cX7_isBetter 148 = .ok (.goto 4, 3) := by decide +kernel
theorem dX7_isBetter_151 : decode cX7_isBetter 151 = .ok (.iconst 0, 1) := by decide +kernel
theorem dX7_isBetter_152 : decode cX7_isBetter 152 = .ok (.istore 5, 2) := by decide +kernel
theorem dX7_isBetter_154 : decode cX7_isBetter 154 = .ok (.iinc 6 1, 3) := by decide +kernel
theorem dX7_isBetter_157 : decode cX7_isBetter 157 = .ok (.goto (-80), 3) := by decide +kernel
theorem dX7_isBetter_160 : decode cX7_isBetter 160 = .ok (.iload 4, 2) := by decide +kernel
theorem dX7_isBetter_162 : decode cX7_isBetter 162 = .ok (.ifCond .eq 12, 3) := by decide +kernel
theorem dX7_isBetter_165 : decode cX7_isBetter 165 = .ok (.iload 5, 2) := by decide +kernel
theorem dX7_isBetter_167 : decode cX7_isBetter 167 = .ok (.ifCond .ne 7, 3) := by decide +kernel
theorem dX7_isBetter_170 : decode cX7_isBetter 170 = .ok (.iconst 1, 1) := by decide +kernel
theorem dX7_isBetter_171 : decode cX7_isBetter 171 = .ok (.goto 4, 3) := by decide +kernel
theorem dX7_isBetter_174 : decode cX7_isBetter 174 = .ok (.iconst 0, 1) := by decide +kernel
theorem dX7_isBetter_175 : decode cX7_isBetter 175 = .ok (.ireturn, 1) := by decide +kernel
theorem dX7_swaps_0 : decode cX7_swaps 0 = .ok (.aload_n 0, 1) := by decide +kernel
theorem dX7_swaps_1 : decode cX7_swaps 1 = .ok (.getfield 136, 3) := by decide +kernel
theorem dX7_swaps_4 : decode cX7_swaps 4 = .ok (.ifCond .ne 6, 3) := by decide +kernel
theorem dX7_swaps_7 : decode cX7_swaps 7 = .ok (.ldc 143, 2) := by decide +kernel
theorem dX7_swaps_9 : decode cX7_swaps 9 = .ok (.ireturn, 1) := by decide +kernel
theorem dX7_swaps_10 : decode cX7_swaps 10 = .ok (.iload_n 1, 1) := by decide +kernel
theorem dX7_swaps_11 : decode cX7_swaps 11 = .ok (.i2l, 1) := by decide +kernel
theorem dX7_swaps_12 : decode cX7_swaps 12 = .ok (.lconst 1, 1) := by decide +kernel
theorem dX7_swaps_13 : decode cX7_swaps 13 = .ok (.ldc2_w 179, 3) := by decide +kernel
theorem dX7_swaps_16 : decode cX7_swaps 16 = .ok (.invokestatic 48, 3) := by decide +kernel
theorem dX7_swaps_19 : decode cX7_swaps 19 = .ok (.ifCond .eq 13, 3) := by decide +kernel
theorem dX7_swaps_22 : decode cX7_swaps 22 = .ok (.iload_n 2, 1) := by decide +kernel
theorem dX7_swaps_23 : decode cX7_swaps 23 = .ok (.i2l, 1) := by decide +kernel
theorem dX7_swaps_24 : decode cX7_swaps 24 = .ok (.lconst 0, 1) := by decide +kernel
theorem dX7_swaps_25 : decode cX7_swaps 25 = .ok (.lconst 1, 1) := by decide +kernel
theorem dX7_swaps_26 : decode cX7_swaps 26 = .ok (.invokestatic 48, 3) := by decide +kernel
theorem dX7_swaps_29 : decode cX7_swaps 29 = .ok (.ifCond .ne 6, 3) := by decide +kernel
theorem dX7_swaps_32 : decode cX7_swaps 32 = .ok (.ldc 58, 2) := by decide +kernel
theorem dX7_swaps_34 : decode cX7_swaps 34 = .ok (.ireturn, 1) := by decide +kernel
theorem dX7_swaps_35 : decode cX7_swaps 35 = .ok (.aload_n 0, 1) := by decide +kernel
theorem dX7_swaps_36 : decode cX7_swaps 36 = .ok (.iload_n 1, 1) := by decide +kernel
theorem dX7_swaps_37 : decode cX7_swaps 37 = .ok (.invokevirtual 197, 3) := by decide +kernel
theorem dX7_swaps_40 : decode cX7_swaps 40 = .ok (.iconst 0, 1) := by decide +kernel
theorem dX7_swaps_41 : decode cX7_swaps 41 = .ok (.istore_n 3, 1) := by decide +kernel
theorem dX7_swaps_42 : decode cX7_swaps 42 = .ok (.iload_n 3, 1) := by decide +kernel
theorem dX7_swaps_43 : decode cX7_swaps 43 = .ok (.iconst 5, 1) := by decide +kernel
theorem dX7_swaps_44 : decode cX7_swaps 44 = .ok (.if_icmp .ge 25, 3) := by decide +kernel
theorem dX7_swaps_47 : decode cX7_swaps 47 = .ok (.aload_n 0, 1) := by decide +kernel
theorem dX7_swaps_48 : decode cX7_swaps 48 = .ok (.getfield 38, 3) := by decide +kernel
theorem dX7_swaps_51 : decode cX7_swaps 51 = .ok (.iload_n 3, 1) := by decide +kernel
theorem dX7_swaps_52 : decode cX7_swaps 52 = .ok (.aload_n 0, 1) := by decide +kernel
theorem dX7_swaps_53 : decode cX7_swaps 53 = .ok (.getfield 7, 3) := by decide +kernel
theorem dX7_swaps_56 : decode cX7_swaps 56 = .ok (.sipush 1517, 3) := by decide +kernel
theorem dX7_swaps_59 : decode cX7_swaps 59 = .ok (.iload_n 3, 1) := by decide +kernel
theorem dX7_swaps_60 : decode cX7_swaps 60 = .ok (.iadd, 1) := by decide +kernel
theorem dX7_swaps_61 : decode cX7_swaps 61 = .ok (.iaload, 1) := by decide +kernel
theorem dX7_swaps_62 : decode cX7_swaps 62 = .ok (.iastore, 1) := by decide +kernel
theorem dX7_swaps_63 : decode cX7_swaps 63 = .ok (.iinc 3 1, 3) := by decide +kernel
theorem dX7_swaps_66 : decode cX7_swaps 66 = .ok (.goto (-24), 3) := by decide +kernel
theorem dX7_swaps_69 : decode cX7_swaps 69 = .ok (.iconst 0, 1) := by decide +kernel
theorem dX7_swaps_70 : decode cX7_swaps 70 = .ok (.istore_n 3, 1) := by decide +kernel
theorem dX7_swaps_71 : decode cX7_swaps 71 = .ok (.ldc 144, 2) := by decide +kernel
theorem dX7_swaps_73 : decode cX7_swaps 73 = .ok (.istore 4, 2) := by decide +kernel
theorem dX7_swaps_75 : decode cX7_swaps 75 = .ok (.aload_n 0, 1) := by decide +kernel
theorem dX7_swaps_76 : decode cX7_swaps 76 = .ok (.getfield 7, 3) := by decide +kernel
theorem dX7_swaps_79 : decode cX7_swaps 79 = .ok (.iconst 1, 1) := by decide +kernel
theorem dX7_swaps_80 : decode cX7_swaps 80 = .ok (.iaload, 1) := by decide +kernel
theorem dX7_swaps_81 : decode cX7_swaps 81 = .ok (.iconst 1, 1) := by decide +kernel
theorem dX7_swaps_82 : decode cX7_swaps 82 = .ok (.isub, 1) := by decide +kernel
theorem dX7_swaps_83 : decode cX7_swaps 83 = .ok (.istore 5, 2) := by decide +kernel
theorem dX7_swaps_85 : decode cX7_swaps 85 = .ok (.iload 5, 2) := by decide +kernel
theorem dX7_swaps_87 : decode cX7_swaps 87 = .ok (.ifCond .lt 76, 3) := by decide +kernel
theorem dX7_swaps_90 : decode cX7_swaps 90 = .ok (.aload_n 0, 1) := by decide +kernel
theorem dX7_swaps_91 : decode cX7_swaps 91 = .ok (.getfield 7, 3) := by decide +kernel
theorem dX7_swaps_94 : decode cX7_swaps 94 = .ok (.iconst 1, 1) := by decide +kernel
theorem dX7_swaps_95 : decode cX7_swaps 95 = .ok (.iaload, 1) := by decide +kernel
theorem dX7_swaps_96 : decode cX7_swaps 96 = .ok (.iconst 1, 1) := by decide +kernel
theorem dX7_swaps_97 : decode cX7_swaps 97 = .ok (.isub, 1) := by decide +kernel
theorem dX7_swaps_98 : decode cX7_swaps 98 = .ok (.istore 6, 2) := by decide +kernel
theorem dX7_swaps_100 : decode cX7_swaps 100 = .ok (.iload 6, 2) := by decide +kernel
theorem dX7_swaps_102 : decode cX7_swaps 102 = .ok (.iload 5, 2) := by decide +kernel
theorem dX7_swaps_104 : decode cX7_swaps 104 = .ok (.if_icmp .le 53, 3) := by decide +kernel
theorem dX7_swaps_107 : decode cX7_swaps 107 = .ok (.aload_n 0, 1) := by decide +kernel
theorem dX7_swaps_108 : decode cX7_swaps 108 = .ok (.iload 5, 2) := by decide +kernel
theorem dX7_swaps_110 : decode cX7_swaps 110 = .ok (.iload 6, 2) := by decide +kernel
theorem dX7_swaps_112 : decode cX7_swaps 112 = .ok (.iload_n 1, 1) := by decide +kernel
theorem dX7_swaps_113 : decode cX7_swaps 113 = .ok (.invokevirtual 221, 3) := by decide +kernel
theorem dX7_swaps_116 : decode cX7_swaps 116 = .ok (.istore 7, 2) := by decide +kernel
theorem dX7_swaps_118 : decode cX7_swaps 118 = .ok (.iload_n 3, 1) := by decide +kernel
theorem dX7_swaps_119 : decode cX7_swaps 119 = .ok (.iload 7, 2) := by decide +kernel
theorem dX7_swaps_121 : decode cX7_swaps 121 = .ok (.ifCond .eq 7, 3) := by decide +kernel
theorem dX7_swaps_124 : decode cX7_swaps 124 = .ok (.iconst 1, 1) := by decide +kernel
theorem dX7_swaps_125 : decode cX7_swaps 125 = .ok (.goto 4, 3) := by decide +kernel
theorem dX7_swaps_128 : decode cX7_swaps 128 = .ok (.iconst 0, 1) := by decide +kernel
theorem dX7_swaps_129 : decode cX7_swaps 129 = .ok (.iadd, 1) := by decide +kernel
theorem dX7_swaps_130 : decode cX7_swaps 130 = .ok (.istore_n 3, 1) := by decide +kernel
theorem dX7_swaps_131 : decode cX7_swaps 131 = .ok (.iload 7, 2) := by decide +kernel
theorem dX7_swaps_133 : decode cX7_swaps 133 = .ok (.ifCond .eq 14, 3) := by decide +kernel
theorem dX7_swaps_136 : decode cX7_swaps 136 = .ok (.bipush 10, 2) := by decide +kernel
theorem dX7_swaps_138 : decode cX7_swaps 138 = .ok (.iload 5, 2) := by decide +kernel
theorem dX7_swaps_140 : decode cX7_swaps 140 = .ok (.imul, 1) := by decide +kernel
theorem dX7_swaps_141 : decode cX7_swaps 141 = .ok (.iload 6, 2) := by decide +kernel
theorem dX7_swaps_143 : decode cX7_swaps 143 = .ok (.iadd, 1) := by decide +kernel
theorem dX7_swaps_144 : decode cX7_swaps 144 = .ok (.goto 5, 3) := by decide +kernel
theorem dX7_swaps_147 : decode cX7_swaps 147 = .ok (.iload 4, 2) := by decide +kernel
theorem dX7_swaps_149 : decode cX7_swaps 149 = .ok (.istore 4, 2) := by decide +kernel
theorem dX7_swaps_151 : decode cX7_swaps 151 = .ok (.iinc 6 (-1), 3) := by decide +kernel
theorem dX7_swaps_154 : decode cX7_swaps 154 = .ok (.goto (-54), 3) := by decide +kernel
theorem dX7_swaps_157 : decode cX7_swaps 157 = .ok (.iinc 5 (-1), 3) := by decide +kernel
theorem dX7_swaps_160 : decode cX7_swaps 160 = .ok (.goto (-75), 3) := by decide +kernel
theorem dX7_swaps_163 : decode cX7_swaps 163 = .ok (.iload_n 2, 1) := by decide +kernel
theorem dX7_swaps_164 : decode cX7_swaps 164 = .ok (.ifCond .ne 7, 3) := by decide +kernel
theorem dX7_swaps_167 : decode cX7_swaps 167 = .ok (.iload_n 3, 1) := by decide +kernel
theorem dX7_swaps_168 : decode cX7_swaps 168 = .ok (.goto 5, 3) := by decide +kernel
theorem dX7_swaps_171 : decode cX7_swaps 171 = .ok (.iload 4, 2) := by decide +kernel
theorem dX7_swaps_173 : decode cX7_swaps 173 = .ok (.ireturn, 1) := by decide +kernel
theorem dX7_soon_0 : decode cX7_soon 0 = .ok (.aload_n 0, 1) := by decide +kernel
theorem dX7_soon_1 : decode cX7_soon 1 = .ok (.iload_n 1, 1) := by decide +kernel
theorem dX7_soon_2 : decode cX7_soon 2 = .ok (.invokevirtual 184, 3) := by decide +kernel
theorem dX7_soon_5 : decode cX7_soon 5 = .ok (.ifCond .eq 13, 3) := by decide +kernel
theorem dX7_soon_8 : decode cX7_soon 8 = .ok (.iload_n 2, 1) := by decide +kernel
theorem dX7_soon_9 : decode cX7_soon 9 = .ok (.i2l, 1) := by decide +kernel
theorem dX7_soon_10 : decode cX7_soon 10 = .ok (.lconst 0, 1) := by decide +kernel
theorem dX7_soon_11 : decode cX7_soon 11 = .ok (.lconst 1, 1) := by decide +kernel
theorem dX7_soon_12 : decode cX7_soon 12 = .ok (.invokestatic 48, 3) := by decide +kernel
theorem dX7_soon_15 : decode cX7_soon 15 = .ok (.ifCond .ne 6, 3) := by decide +kernel
theorem dX7_soon_18 : decode cX7_soon 18 = .ok (.ldc 58, 2) := by decide +kernel
theorem dX7_soon_20 : decode cX7_soon 20 = .ok (.ireturn, 1) := by decide +kernel
theorem dX7_soon_21 : decode cX7_soon 21 = .ok (.ldc 144, 2) := by decide +kernel
theorem dX7_soon_23 : decode cX7_soon 23 = .ok (.istore_n 3, 1) := by decide +kernel
theorem dX7_soon_24 : decode cX7_soon 24 = .ok (.ldc 144, 2) := by decide +kernel
theorem dX7_soon_26 : decode cX7_soon 26 = .ok (.istore 4, 2) := by decide +kernel
theorem dX7_soon_28 : decode cX7_soon 28 = .ok (.iconst 0, 1) := by decide +kernel
theorem dX7_soon_29 : decode cX7_soon 29 = .ok (.istore 5, 2) := by decide +kernel
theorem dX7_soon_31 : decode cX7_soon 31 = .ok (.iload 5, 2) := by decide +kernel
theorem dX7_soon_33 : decode cX7_soon 33 = .ok (.aload_n 0, 1) := by decide +kernel
theorem dX7_soon_34 : decode cX7_soon 34 = .ok (.getfield 7, 3) := by decide +kernel
theorem dX7_soon_37 : decode cX7_soon 37 = .ok (.iconst 1, 1) := by decide +kernel
theorem dX7_soon_38 : decode cX7_soon 38 = .ok (.iaload, 1) := by decide +kernel
theorem dX7_soon_39 : decode cX7_soon 39 = .ok (.if_icmp .ge 90, 3) := by decide +kernel
theorem dX7_soon_42 : decode cX7_soon 42 = .ok (.aload_n 0, 1) := by decide +kernel
theorem dX7_soon_43 : decode cX7_soon 43 = .ok (.iconst 0, 1) := by decide +kernel
theorem dX7_soon_44 : decode cX7_soon 44 = .ok (.sipush 1512, 3) := by decide +kernel
theorem dX7_soon_47 : decode cX7_soon 47 = .ok (.invokevirtual 132, 3) := by decide +kernel
theorem dX7_soon_50 : decode cX7_soon 50 = .ok (.aload_n 0, 1) := by decide +kernel
theorem dX7_soon_51 : decode cX7_soon 51 = .ok (.getfield 7, 3) := by decide +kernel
theorem dX7_soon_54 : decode cX7_soon 54 = .ok (.sipush 1544, 3) := by decide +kernel
theorem dX7_soon_57 : decode cX7_soon 57 = .ok (.iload 5, 2) := by decide +kernel
theorem dX7_soon_59 : decode cX7_soon 59 = .ok (.iadd, 1) := by decide +kernel
theorem dX7_soon_60 : decode cX7_soon 60 = .ok (.iload_n 1, 1) := by decide +kernel
theorem dX7_soon_61 : decode cX7_soon 61 = .ok (.iastore, 1) := by decide +kernel
theorem dX7_soon_62 : decode cX7_soon 62 = .ok (.aload_n 0, 1) := by decide +kernel
theorem dX7_soon_63 : decode cX7_soon 63 = .ok (.iload_n 1, 1) := by decide +kernel
theorem dX7_soon_64 : decode cX7_soon 64 = .ok (.invokevirtual 200, 3) := by decide +kernel
theorem dX7_soon_67 : decode cX7_soon 67 = .ok (.istore 6, 2) := by decide +kernel
theorem dX7_soon_69 : decode cX7_soon 69 = .ok (.iload 6, 2) := by decide +kernel
theorem dX7_soon_71 : decode cX7_soon 71 = .ok (.ldc 144, 2) := by decide +kernel
theorem dX7_soon_73 : decode cX7_soon 73 = .ok (.if_icmp .eq 21, 3) := by decide +kernel
theorem dX7_soon_76 : decode cX7_soon 76 = .ok (.iload 4, 2) := by decide +kernel
theorem dX7_soon_78 : decode cX7_soon 78 = .ok (.ldc 144, 2) := by decide +kernel
theorem dX7_soon_80 : decode cX7_soon 80 = .ok (.if_icmp .eq 10, 3) := by decide +kernel
theorem dX7_soon_83 : decode cX7_soon 83 = .ok (.iload 6, 2) := by decide +kernel
theorem dX7_soon_85 : decode cX7_soon 85 = .ok (.iload 4, 2) := by decide +kernel
theorem dX7_soon_87 : decode cX7_soon 87 = .ok (.if_icmp .ge 7, 3) := by decide +kernel
theorem dX7_soon_90 : decode cX7_soon 90 = .ok (.iconst 1, 1) := by decide +kernel
theorem dX7_soon_91 : decode cX7_soon 91 = .ok (.goto 4, 3) := by decide +kernel
theorem dX7_soon_94 : decode cX7_soon 94 = .ok (.iconst 0, 1) := by decide +kernel
theorem dX7_soon_95 : decode cX7_soon 95 = .ok (.istore 7, 2) := by decide +kernel
theorem dX7_soon_97 : decode cX7_soon 97 = .ok (.iload 7, 2) := by decide +kernel
theorem dX7_soon_99 : decode cX7_soon 99 = .ok (.ifCond .eq 8, 3) := by decide +kernel
theorem dX7_soon_102 : decode cX7_soon 102 = .ok (.iload 5, 2) := by decide +kernel
theorem dX7_soon_104 : decode cX7_soon 104 = .ok (.goto 4, 3) := by decide +kernel
theorem dX7_soon_107 : decode cX7_soon 107 = .ok (.iload_n 3, 1) := by decide +kernel
theorem dX7_soon_108 : decode cX7_soon 108 = .ok (.istore_n 3, 1) := by decide +kernel
theorem dX7_soon_109 : decode cX7_soon 109 = .ok (.iload 7, 2) := by decide +kernel
theorem dX7_soon_111 : decode cX7_soon 111 = .ok (.ifCond .eq 8, 3) := by decide +kernel
theorem dX7_soon_114 : decode cX7_soon 114 = .ok (.iload 6, 2) := by decide +kernel
theorem dX7_soon_116 : decode cX7_soon 116 = .ok (.goto 5, 3) := by decide +kernel
theorem dX7_soon_119 : decode cX7_soon 119 = .ok (.iload 4, 2) := by decide +kernel
theorem dX7_soon_121 : decode cX7_soon 121 = .ok (.istore 4, 2) := by decide +kernel
theorem dX7_soon_123 : decode cX7_soon 123 = .ok (.iinc 5 1, 3) := by decide +kernel
theorem dX7_soon_126 : decode cX7_soon 126 = .ok (.goto (-95), 3) := by decide +kernel
theorem dX7_soon_129 : decode cX7_soon 129 = .ok (.iload_n 2, 1) := by decide +kernel
theorem dX7_soon_130 : decode cX7_soon 130 = .ok (.ifCond .ne 7, 3) := by decide +kernel
theorem dX7_soon_133 : decode cX7_soon 133 = .ok (.iload_n 3, 1) := by decide +kernel
theorem dX7_soon_134 : decode cX7_soon 134 = .ok (.goto 5, 3) := by decide +kernel
theorem dX7_soon_137 : decode cX7_soon 137 = .ok (.iload 4, 2) := by decide +kernel
theorem dX7_soon_139 : decode cX7_soon 139 = .ok (.ireturn, 1) := by decide +kernel
theorem dX7_noItems_0 : decode cX7_noItems 0 = .ok (.aload_n 0, 1) := by decide +kernel
theorem dX7_noItems_1 : decode cX7_noItems 1 = .ok (.iload_n 1, 1) := by decide +kernel
theorem dX7_noItems_2 : decode cX7_noItems 2 = .ok (.invokevirtual 184, 3) := by decide +kernel
theorem dX7_noItems_5 : decode cX7_noItems 5 = .ok (.ifCond .eq 31, 3) := by decide +kernel
theorem dX7_noItems_8 : decode cX7_noItems 8 = .ok (.aload_n 0, 1) := by decide +kernel
theorem dX7_noItems_9 : decode cX7_noItems 9 = .ok (.iload_n 2, 1) := by decide +kernel
theorem dX7_noItems_10 : decode cX7_noItems 10 = .ok (.invokevirtual 176, 3) := by decide +kernel
theorem dX7_noItems_13 : decode cX7_noItems 13 = .ok (.ifCond .eq 23, 3) := by decide +kernel
theorem dX7_noItems_16 : decode cX7_noItems 16 = .ok (.iload_n 3, 1) := by decide +kernel
theorem dX7_noItems_17 : decode cX7_noItems 17 = .ok (.invokestatic 52, 3) := by decide +kernel
theorem dX7_noItems_20 : decode cX7_noItems 20 = .ok (.ifCond .eq 16, 3) := by decide +kernel
theorem dX7_noItems_23 : decode cX7_noItems 23 = .ok (.iload 5, 2) := by decide +kernel
theorem dX7_noItems_25 : decode cX7_noItems 25 = .ok (.i2l, 1) := by decide +kernel
theorem dX7_noItems_26 : decode cX7_noItems 26 = .ok (.lconst 1, 1) := by decide +kernel
theorem dX7_noItems_27 : decode cX7_noItems 27 = .ok (.ldc2_w 224, 3) := by decide +kernel
theorem dX7_noItems_30 : decode cX7_noItems 30 = .ok (.invokestatic 48, 3) := by decide +kernel
theorem dX7_noItems_33 : decode cX7_noItems 33 = .ok (.ifCond .ne 6, 3) := by decide +kernel
theorem dX7_noItems_36 : decode cX7_noItems 36 = .ok (.ldc 58, 2) := by decide +kernel
theorem dX7_noItems_38 : decode cX7_noItems 38 = .ok (.ireturn, 1) := by decide +kernel
theorem dX7_noItems_39 : decode cX7_noItems 39 = .ok (.aload_n 0, 1) := by decide +kernel
theorem dX7_noItems_40 : decode cX7_noItems 40 = .ok (.getfield 20, 3) := by decide +kernel
theorem dX7_noItems_43 : decode cX7_noItems 43 = .ok (.iload_n 3, 1) := by decide +kernel
theorem dX7_noItems_44 : decode cX7_noItems 44 = .ok (.iaload, 1) := by decide +kernel
theorem dX7_noItems_45 : decode cX7_noItems 45 = .ok (.ifCond .ge 11, 3) := by decide +kernel
theorem dX7_noItems_48 : decode cX7_noItems 48 = .ok (.aload_n 0, 1) := by decide +kernel
theorem dX7_noItems_49 : decode cX7_noItems 49 = .ok (.iconst 1, 1) := by decide +kernel
theorem dX7_noItems_50 : decode cX7_noItems 50 = .ok (.invokevirtual 59, 3) := by decide +kernel
theorem dX7_noItems_53 : decode cX7_noItems 53 = .ok (.goto 24, 3) := by decide +kernel
theorem dX7_noItems_56 : decode cX7_noItems 56 = .ok (.aload_n 0, 1) := by decide +kernel
theorem dX7_noItems_57 : decode cX7_noItems 57 = .ok (.iload_n 3, 1) := by decide +kernel
theorem dX7_noItems_58 : decode cX7_noItems 58 = .ok (.iload 4, 2) := by decide +kernel
theorem dX7_noItems_60 : decode cX7_noItems 60 = .ok (.iload 5, 2) := by decide +kernel
theorem dX7_noItems_62 : decode cX7_noItems 62 = .ok (.invokevirtual 70, 3) := by decide +kernel
theorem dX7_noItems_65 : decode cX7_noItems 65 = .ok (.ifCond .eq 7, 3) := by decide +kernel
theorem dX7_noItems_68 : decode cX7_noItems 68 = .ok (.iconst 0, 1) := by decide +kernel
theorem dX7_noItems_69 : decode cX7_noItems 69 = .ok (.goto 8, 3) := by decide +kernel
theorem dX7_noItems_72 : decode cX7_noItems 72 = .ok (.aload_n 0, 1) := by decide +kernel
theorem dX7_noItems_73 : decode cX7_noItems 73 = .ok (.iconst 2, 1) := by decide +kernel
theorem dX7_noItems_74 : decode cX7_noItems 74 = .ok (.invokevirtual 59, 3) := by decide +kernel
theorem dX7_noItems_77 : decode cX7_noItems 77 = .ok (.ireturn, 1) := by decide +kernel
theorem dX7_isFedSo_0 : decode cX7_isFedSo 0 = .ok (.aload_n 0, 1) := by decide +kernel
theorem dX7_isFedSo_1 : decode cX7_isFedSo 1 = .ok (.iconst 0, 1) := by decide +kernel
theorem dX7_isFedSo_2 : decode cX7_isFedSo 2 = .ok (.sipush 1512, 3) := by decide +kernel
theorem dX7_isFedSo_5 : decode cX7_isFedSo 5 = .ok (.invokevirtual 132, 3) := by decide +kernel
theorem dX7_isFedSo_8 : decode cX7_isFedSo 8 = .ok (.aload_n 0, 1) := by decide +kernel
theorem dX7_isFedSo_9 : decode cX7_isFedSo 9 = .ok (.getfield 7, 3) := by decide +kernel
theorem dX7_isFedSo_12 : decode cX7_isFedSo 12 = .ok (.sipush 1512, 3) := by decide +kernel
theorem dX7_isFedSo_15 : decode cX7_isFedSo 15 = .ok (.iload_n 2, 1) := by decide +kernel
theorem dX7_isFedSo_16 : decode cX7_isFedSo 16 = .ok (.iadd, 1) := by decide +kernel
theorem dX7_isFedSo_17 : decode cX7_isFedSo 17 = .ok (.iload_n 3, 1) := by decide +kernel
theorem dX7_isFedSo_18 : decode cX7_isFedSo 18 = .ok (.iastore, 1) := by decide +kernel
theorem dX7_isFedSo_19 : decode cX7_isFedSo 19 = .ok (.iconst 0, 1) := by decide +kernel
theorem dX7_isFedSo_20 : decode cX7_isFedSo 20 = .ok (.istore 7, 2) := by decide +kernel
theorem dX7_isFedSo_22 : decode cX7_isFedSo 22 = .ok (.iload 7, 2) := by decide +kernel
theorem dX7_isFedSo_24 : decode cX7_isFedSo 24 = .ok (.iload 6, 2) := by decide +kernel
theorem dX7_isFedSo_26 : decode cX7_isFedSo 26 = .ok (.if_icmp .ge 47, 3) := by decide +kernel
theorem dX7_isFedSo_29 : decode cX7_isFedSo 29 = .ok (.aload_n 0, 1) := by decide +kernel
theorem dX7_isFedSo_30 : decode cX7_isFedSo 30 = .ok (.sipush 1512, 3) := by decide +kernel
theorem dX7_isFedSo_33 : decode cX7_isFedSo 33 = .ok (.invokevirtual 172, 3) := by decide +kernel
theorem dX7_isFedSo_36 : decode cX7_isFedSo 36 = .ok (.aload_n 0, 1) := by decide +kernel
theorem dX7_isFedSo_37 : decode cX7_isFedSo 37 = .ok (.getfield 7, 3) := by decide +kernel
theorem dX7_isFedSo_40 : decode cX7_isFedSo 40 = .ok (.sipush 1517, 3) := by decide +kernel
theorem dX7_isFedSo_43 : decode cX7_isFedSo 43 = .ok (.iload_n 1, 1) := by decide +kernel
theorem dX7_isFedSo_44 : decode cX7_isFedSo 44 = .ok (.iadd, 1) := by decide +kernel
theorem dX7_isFedSo_45 : decode cX7_isFedSo 45 = .ok (.iaload, 1) := by decide +kernel
theorem dX7_isFedSo_46 : decode cX7_isFedSo 46 = .ok (.aload_n 0, 1) := by decide +kernel
theorem dX7_isFedSo_47 : decode cX7_isFedSo 47 = .ok (.getfield 23, 3) := by decide +kernel
theorem dX7_isFedSo_50 : decode cX7_isFedSo 50 = .ok (.bipush 40, 2) := by decide +kernel
theorem dX7_isFedSo_52 : decode cX7_isFedSo 52 = .ok (.iload 4, 2) := by decide +kernel
theorem dX7_isFedSo_54 : decode cX7_isFedSo 54 = .ok (.imul, 1) := by decide +kernel
theorem dX7_isFedSo_55 : decode cX7_isFedSo 55 = .ok (.iload 5, 2) := by decide +kernel
theorem dX7_isFedSo_57 : decode cX7_isFedSo 57 = .ok (.iadd, 1) := by decide +kernel
theorem dX7_isFedSo_58 : decode cX7_isFedSo 58 = .ok (.iload 7, 2) := by decide +kernel
theorem dX7_isFedSo_60 : decode cX7_isFedSo 60 = .ok (.iadd, 1) := by decide +kernel
theorem dX7_isFedSo_61 : decode cX7_isFedSo 61 = .ok (.iaload, 1) := by decide +kernel
theorem dX7_isFedSo_62 : decode cX7_isFedSo 62 = .ok (.if_icmp .eq 5, 3) := by decide +kernel
theorem dX7_isFedSo_65 : decode cX7_isFedSo 65 = .ok (.iconst 0, 1) := by decide +kernel
theorem dX7_isFedSo_66 : decode cX7_isFedSo 66 = .ok (.ireturn, 1) := by decide +kernel
theorem dX7_isFedSo_67 : decode cX7_isFedSo 67 = .ok (.iinc 7 1, 3) := by decide +kernel
theorem dX7_isFedSo_70 : decode cX7_isFedSo 70 = .ok (.goto (-48), 3) := by decide +kernel
theorem dX7_isFedSo_73 : decode cX7_isFedSo 73 = .ok (.iconst 1, 1) := by decide +kernel
theorem dX7_isFedSo_74 : decode cX7_isFedSo 74 = .ok (.ireturn, 1) := by decide +kernel
theorem dX7_who_0 : decode cX7_who 0 = .ok (.aload_n 0, 1) := by decide +kernel
theorem dX7_who_1 : decode cX7_who 1 = .ok (.iload_n 1, 1) := by decide +kernel
theorem dX7_who_2 : decode cX7_who 2 = .ok (.iload_n 2, 1) := by decide +kernel
theorem dX7_who_3 : decode cX7_who 3 = .ok (.iload_n 3, 1) := by decide +kernel
theorem dX7_who_4 : decode cX7_who 4 = .ok (.iload 4, 2) := by decide +kernel
theorem dX7_who_6 : decode cX7_who 6 = .ok (.iload 5, 2) := by decide +kernel
theorem dX7_who_8 : decode cX7_who 8 = .ok (.invokevirtual 226, 3) := by decide +kernel
theorem dX7_who_11 : decode cX7_who 11 = .ok (.istore 6, 2) := by decide +kernel
theorem dX7_who_13 : decode cX7_who 13 = .ok (.iload 6, 2) := by decide +kernel
theorem dX7_who_15 : decode cX7_who 15 = .ok (.ifCond .eq 6, 3) := by decide +kernel
theorem dX7_who_18 : decode cX7_who 18 = .ok (.iload 6, 2) := by decide +kernel
theorem dX7_who_20 : decode cX7_who 20 = .ok (.ireturn, 1) := by decide +kernel
theorem dX7_who_21 : decode cX7_who 21 = .ok (.iconst 0, 1) := by decide +kernel
theorem dX7_who_22 : decode cX7_who 22 = .ok (.istore 7, 2) := by decide +kernel
theorem dX7_who_24 : decode cX7_who 24 = .ok (.iconst 1, 1) := by decide +kernel
theorem dX7_who_25 : decode cX7_who 25 = .ok (.istore 8, 2) := by decide +kernel
theorem dX7_who_27 : decode cX7_who 27 = .ok (.iload 8, 2) := by decide +kernel
theorem dX7_who_29 : decode cX7_who 29 = .ok (.bipush 6, 2) := by decide +kernel
theorem dX7_who_31 : decode cX7_who 31 = .ok (.if_icmp .ge 41, 3) := by decide +kernel
theorem dX7_who_34 : decode cX7_who 34 = .ok (.iload 7, 2) := by decide +kernel
theorem dX7_who_36 : decode cX7_who 36 = .ok (.aload_n 0, 1) := by decide +kernel
theorem dX7_who_37 : decode cX7_who 37 = .ok (.iload_n 1, 1) := by decide +kernel
theorem dX7_who_38 : decode cX7_who 38 = .ok (.bipush 20, 2) := by decide +kernel
theorem dX7_who_40 : decode cX7_who 40 = .ok (.iload_n 2, 1) := by decide +kernel
theorem dX7_who_41 : decode cX7_who 41 = .ok (.iadd, 1) := by decide +kernel
theorem dX7_who_42 : decode cX7_who 42 = .ok (.iload 8, 2) := by decide +kernel
theorem dX7_who_44 : decode cX7_who 44 = .ok (.iload_n 3, 1) := by decide +kernel
theorem dX7_who_45 : decode cX7_who 45 = .ok (.iload 4, 2) := by decide +kernel
theorem dX7_who_47 : decode cX7_who 47 = .ok (.iload 5, 2) := by decide +kernel
theorem dX7_who_49 : decode cX7_who 49 = .ok (.invokevirtual 230, 3) := by decide +kernel
theorem dX7_who_52 : decode cX7_who 52 = .ok (.ifCond .eq 10, 3) := by decide +kernel
theorem dX7_who_55 : decode cX7_who 55 = .ok (.iconst 1, 1) := by decide +kernel
theorem dX7_who_56 : decode cX7_who 56 = .ok (.iload 8, 2) := by decide +kernel
theorem dX7_who_58 : decode cX7_who 58 = .ok (.ishl, 1) := by decide +kernel
theorem dX7_who_59 : decode cX7_who 59 = .ok (.goto 4, 3) := by decide +kernel
theorem dX7_who_62 : decode cX7_who 62 = .ok (.iconst 0, 1) := by decide +kernel
theorem dX7_who_63 : decode cX7_who 63 = .ok (.ior, 1) := by decide +kernel
theorem dX7_who_64 : decode cX7_who 64 = .ok (.istore 7, 2) := by decide +kernel
theorem dX7_who_66 : decode cX7_who 66 = .ok (.iinc 8 1, 3) := by decide +kernel
theorem dX7_who_69 : decode cX7_who 69 = .ok (.goto (-42), 3) := by decide +kernel
theorem dX7_who_72 : decode cX7_who 72 = .ok (.aload_n 0, 1) := by decide +kernel
theorem dX7_who_73 : decode cX7_who 73 = .ok (.iload 7, 2) := by decide +kernel
theorem dX7_who_75 : decode cX7_who 75 = .ok (.invokevirtual 63, 3) := by decide +kernel
theorem dX7_who_78 : decode cX7_who 78 = .ok (.ireturn, 1) := by decide +kernel
theorem dX7_firsts_0 : decode cX7_firsts 0 = .ok (.aload_n 0, 1) := by decide +kernel
theorem dX7_firsts_1 : decode cX7_firsts 1 = .ok (.iload_n 1, 1) := by decide +kernel
theorem dX7_firsts_2 : decode cX7_firsts 2 = .ok (.iload_n 2, 1) := by decide +kernel
theorem dX7_firsts_3 : decode cX7_firsts 3 = .ok (.iload_n 3, 1) := by decide +kernel
theorem dX7_firsts_4 : decode cX7_firsts 4 = .ok (.iload 4, 2) := by decide +kernel
theorem dX7_firsts_6 : decode cX7_firsts 6 = .ok (.iload 5, 2) := by decide +kernel
theorem dX7_firsts_8 : decode cX7_firsts 8 = .ok (.invokevirtual 226, 3) := by decide +kernel
theorem dX7_firsts_11 : decode cX7_firsts 11 = .ok (.istore 6, 2) := by decide +kernel
theorem dX7_firsts_13 : decode cX7_firsts 13 = .ok (.iload 6, 2) := by decide +kernel
theorem dX7_firsts_15 : decode cX7_firsts 15 = .ok (.ifCond .eq 6, 3) := by decide +kernel
theorem dX7_firsts_18 : decode cX7_firsts 18 = .ok (.iload 6, 2) := by decide +kernel
theorem dX7_firsts_20 : decode cX7_firsts 20 = .ok (.ireturn, 1) := by decide +kernel
theorem dX7_firsts_21 : decode cX7_firsts 21 = .ok (.iconst 0, 1) := by decide +kernel
theorem dX7_firsts_22 : decode cX7_firsts 22 = .ok (.istore 7, 2) := by decide +kernel
theorem dX7_firsts_24 : decode cX7_firsts 24 = .ok (.iconst 0, 1) := by decide +kernel
theorem dX7_firsts_25 : decode cX7_firsts 25 = .ok (.istore 8, 2) := by decide +kernel
theorem dX7_firsts_27 : decode cX7_firsts 27 = .ok (.iload 8, 2) := by decide +kernel
theorem dX7_firsts_29 : decode cX7_firsts 29 = .ok (.aload_n 0, 1) := by decide +kernel
theorem dX7_firsts_30 : decode cX7_firsts 30 = .ok (.getfield 7, 3) := by decide +kernel
theorem dX7_firsts_33 : decode cX7_firsts 33 = .ok (.iconst 0, 1) := by decide +kernel
theorem dX7_firsts_34 : decode cX7_firsts 34 = .ok (.iaload, 1) := by decide +kernel
theorem dX7_firsts_35 : decode cX7_firsts 35 = .ok (.if_icmp .ge 41, 3) := by decide +kernel
theorem dX7_firsts_38 : decode cX7_firsts 38 = .ok (.iload 7, 2) := by decide +kernel
theorem dX7_firsts_40 : decode cX7_firsts 40 = .ok (.aload_n 0, 1) := by decide +kernel
theorem dX7_firsts_41 : decode cX7_firsts 41 = .ok (.iload_n 1, 1) := by decide +kernel
theorem dX7_firsts_42 : decode cX7_firsts 42 = .ok (.bipush 32, 2) := by decide +kernel
theorem dX7_firsts_44 : decode cX7_firsts 44 = .ok (.iload_n 2, 1) := by decide +kernel
theorem dX7_firsts_45 : decode cX7_firsts 45 = .ok (.iadd, 1) := by decide +kernel
theorem dX7_firsts_46 : decode cX7_firsts 46 = .ok (.iload 8, 2) := by decide +kernel
theorem dX7_firsts_48 : decode cX7_firsts 48 = .ok (.iload_n 3, 1) := by decide +kernel
theorem dX7_firsts_49 : decode cX7_firsts 49 = .ok (.iload 4, 2) := by decide +kernel
theorem dX7_firsts_51 : decode cX7_firsts 51 = .ok (.iload 5, 2) := by decide +kernel
theorem dX7_firsts_53 : decode cX7_firsts 53 = .ok (.invokevirtual 230, 3) := by decide +kernel
theorem dX7_firsts_56 : decode cX7_firsts 56 = .ok (.ifCond .eq 10, 3) := by decide +kernel
theorem dX7_firsts_59 : decode cX7_firsts 59 = .ok (.iconst 1, 1) := by decide +kernel
theorem dX7_firsts_60 : decode cX7_firsts 60 = .ok (.iload 8, 2) := by decide +kernel
theorem dX7_firsts_62 : decode cX7_firsts 62 = .ok (.ishl, 1) := by decide +kernel
theorem dX7_firsts_63 : decode cX7_firsts 63 = .ok (.goto 4, 3) := by decide +kernel
theorem dX7_firsts_66 : decode cX7_firsts 66 = .ok (.iconst 0, 1) := by decide +kernel
theorem dX7_firsts_67 : decode cX7_firsts 67 = .ok (.ior, 1) := by decide +kernel
theorem dX7_firsts_68 : decode cX7_firsts 68 = .ok (.istore 7, 2) := by decide +kernel
theorem dX7_firsts_70 : decode cX7_firsts 70 = .ok (.iinc 8 1, 3) := by decide +kernel
theorem dX7_firsts_73 : decode cX7_firsts 73 = .ok (.goto (-46), 3) := by decide +kernel
theorem dX7_firsts_76 : decode cX7_firsts 76 = .ok (.aload_n 0, 1) := by decide +kernel
theorem dX7_firsts_77 : decode cX7_firsts 77 = .ok (.iload 7, 2) := by decide +kernel
theorem dX7_firsts_79 : decode cX7_firsts 79 = .ok (.invokevirtual 63, 3) := by decide +kernel
theorem dX7_firsts_82 : decode cX7_firsts 82 = .ok (.ireturn, 1) := by decide +kernel
theorem dX7_steps_0 : decode cX7_steps 0 = .ok (.aload_n 0, 1) := by decide +kernel
theorem dX7_steps_1 : decode cX7_steps 1 = .ok (.iload_n 1, 1) := by decide +kernel
theorem dX7_steps_2 : decode cX7_steps 2 = .ok (.iload_n 2, 1) := by decide +kernel
end
section
theorem dX7_steps_3 : decode cX7_steps 3 = .ok (.iload_n 3, 1) := by decide +kernel
theorem dX7_steps_4 : decode cX7_steps 4 = .ok (.iload 4, 2) := by decide +kernel
theorem dX7_steps_6 : decode cX7_steps 6 = .ok (.iload 5, 2) := by decide +kernel
theorem dX7_steps_8 : decode cX7_steps 8 = .ok (.invokevirtual 226, 3) := by decide +kernel
theorem dX7_steps_11 : decode cX7_steps 11 = .ok (.istore 6, 2) := by decide +kernel
theorem dX7_steps_13 : decode cX7_steps 13 = .ok (.iload 6, 2) := by decide +kernel
theorem dX7_steps_15 : decode cX7_steps 15 = .ok (.ifCond .eq 6, 3) := by decide +kernel
theorem dX7_steps_18 : decode cX7_steps 18 = .ok (.iload 6, 2) := by decide +kernel
theorem dX7_steps_20 : decode cX7_steps 20 = .ok (.ireturn, 1) := by decide +kernel
theorem dX7_steps_21 : decode cX7_steps 21 = .ok (.iconst 0, 1) := by decide +kernel
theorem dX7_steps_22 : decode cX7_steps 22 = .ok (.istore 7, 2) := by decide +kernel
theorem dX7_steps_24 : decode cX7_steps 24 = .ok (.iconst 0, 1) := by decide +kernel
theorem dX7_steps_25 : decode cX7_steps 25 = .ok (.istore 8, 2) := by decide +kernel
theorem dX7_steps_27 : decode cX7_steps 27 = .ok (.iload 8, 2) := by decide +kernel
theorem dX7_steps_29 : decode cX7_steps 29 = .ok (.iconst 5, 1) := by decide +kernel
theorem dX7_steps_30 : decode cX7_steps 30 = .ok (.if_icmp .ge 41, 3) := by decide +kernel
theorem dX7_steps_33 : decode cX7_steps 33 = .ok (.iload 7, 2) := by decide +kernel
theorem dX7_steps_35 : decode cX7_steps 35 = .ok (.aload_n 0, 1) := by decide +kernel
theorem dX7_steps_36 : decode cX7_steps 36 = .ok (.iload_n 1, 1) := by decide +kernel
theorem dX7_steps_37 : decode cX7_steps 37 = .ok (.bipush 38, 2) := by decide +kernel
theorem dX7_steps_39 : decode cX7_steps 39 = .ok (.iload_n 2, 1) := by decide +kernel
theorem dX7_steps_40 : decode cX7_steps 40 = .ok (.iadd, 1) := by decide +kernel
theorem dX7_steps_41 : decode cX7_steps 41 = .ok (.iload 8, 2) := by decide +kernel
theorem dX7_steps_43 : decode cX7_steps 43 = .ok (.iload_n 3, 1) := by decide +kernel
theorem dX7_steps_44 : decode cX7_steps 44 = .ok (.iload 4, 2) := by decide +kernel
theorem dX7_steps_46 : decode cX7_steps 46 = .ok (.iload 5, 2) := by decide +kernel
theorem dX7_steps_48 : decode cX7_steps 48 = .ok (.invokevirtual 230, 3) := by decide +kernel
theorem dX7_steps_51 : decode cX7_steps 51 = .ok (.ifCond .eq 10, 3) := by decide +kernel
theorem dX7_steps_54 : decode cX7_steps 54 = .ok (.iconst 1, 1) := by decide +kernel
theorem dX7_steps_55 : decode cX7_steps 55 = .ok (.iload 8, 2) := by decide +kernel
theorem dX7_steps_57 : decode cX7_steps 57 = .ok (.ishl, 1) := by decide +kernel
theorem dX7_steps_58 : decode cX7_steps 58 = .ok (.goto 4, 3) := by decide +kernel
theorem dX7_steps_61 : decode cX7_steps 61 = .ok (.iconst 0, 1) := by decide +kernel
theorem dX7_steps_62 : decode cX7_steps 62 = .ok (.ior, 1) := by decide +kernel
theorem dX7_steps_63 : decode cX7_steps 63 = .ok (.istore 7, 2) := by decide +kernel
theorem dX7_steps_65 : decode cX7_steps 65 = .ok (.iinc 8 1, 3) := by decide +kernel
theorem dX7_steps_68 : decode cX7_steps 68 = .ok (.goto (-41), 3) := by decide +kernel
theorem dX7_steps_71 : decode cX7_steps 71 = .ok (.aload_n 0, 1) := by decide +kernel
theorem dX7_steps_72 : decode cX7_steps 72 = .ok (.iload 7, 2) := by decide +kernel
theorem dX7_steps_74 : decode cX7_steps 74 = .ok (.invokevirtual 63, 3) := by decide +kernel
theorem dX7_steps_77 : decode cX7_steps 77 = .ok (.ireturn, 1) := by decide +kernel
theorem dX7_even_0 : decode cX7_even 0 = .ok (.aload_n 0, 1) := by decide +kernel
theorem dX7_even_1 : decode cX7_even 1 = .ok (.getfield 136, 3) := by decide +kernel
theorem dX7_even_4 : decode cX7_even 4 = .ok (.ifCond .ne 6, 3) := by decide +kernel
theorem dX7_even_7 : decode cX7_even 7 = .ok (.ldc 143, 2) := by decide +kernel
theorem dX7_even_9 : decode cX7_even 9 = .ok (.ireturn, 1) := by decide +kernel
theorem dX7_even_10 : decode cX7_even 10 = .ok (.iload_n 1, 1) := by decide +kernel
theorem dX7_even_11 : decode cX7_even 11 = .ok (.i2l, 1) := by decide +kernel
theorem dX7_even_12 : decode cX7_even 12 = .ok (.lconst 0, 1) := by decide +kernel
theorem dX7_even_13 : decode cX7_even 13 = .ok (.ldc2_w 179, 3) := by decide +kernel
theorem dX7_even_16 : decode cX7_even 16 = .ok (.invokestatic 48, 3) := by decide +kernel
theorem dX7_even_19 : decode cX7_even 19 = .ok (.ifCond .ne 6, 3) := by decide +kernel
theorem dX7_even_22 : decode cX7_even 22 = .ok (.ldc 58, 2) := by decide +kernel
theorem dX7_even_24 : decode cX7_even 24 = .ok (.ireturn, 1) := by decide +kernel
theorem dX7_even_25 : decode cX7_even 25 = .ok (.aload_n 0, 1) := by decide +kernel
theorem dX7_even_26 : decode cX7_even 26 = .ok (.iload_n 1, 1) := by decide +kernel
theorem dX7_even_27 : decode cX7_even 27 = .ok (.invokevirtual 197, 3) := by decide +kernel
theorem dX7_even_30 : decode cX7_even 30 = .ok (.iconst 0, 1) := by decide +kernel
theorem dX7_even_31 : decode cX7_even 31 = .ok (.istore_n 2, 1) := by decide +kernel
theorem dX7_even_32 : decode cX7_even 32 = .ok (.bipush 99, 2) := by decide +kernel
theorem dX7_even_34 : decode cX7_even 34 = .ok (.istore_n 3, 1) := by decide +kernel
theorem dX7_even_35 : decode cX7_even 35 = .ok (.iconst 0, 1) := by decide +kernel
theorem dX7_even_36 : decode cX7_even 36 = .ok (.istore 4, 2) := by decide +kernel
theorem dX7_even_38 : decode cX7_even 38 = .ok (.iload 4, 2) := by decide +kernel
theorem dX7_even_40 : decode cX7_even 40 = .ok (.aload_n 0, 1) := by decide +kernel
theorem dX7_even_41 : decode cX7_even 41 = .ok (.getfield 7, 3) := by decide +kernel
theorem dX7_even_44 : decode cX7_even 44 = .ok (.iconst 0, 1) := by decide +kernel
theorem dX7_even_45 : decode cX7_even 45 = .ok (.iaload, 1) := by decide +kernel
theorem dX7_even_46 : decode cX7_even 46 = .ok (.if_icmp .ge 48, 3) := by decide +kernel
theorem dX7_even_49 : decode cX7_even 49 = .ok (.aload_n 0, 1) := by decide +kernel
theorem dX7_even_50 : decode cX7_even 50 = .ok (.getfield 7, 3) := by decide +kernel
theorem dX7_even_53 : decode cX7_even 53 = .ok (.sipush 1517, 3) := by decide +kernel
theorem dX7_even_56 : decode cX7_even 56 = .ok (.iload 4, 2) := by decide +kernel
theorem dX7_even_58 : decode cX7_even 58 = .ok (.iadd, 1) := by decide +kernel
theorem dX7_even_59 : decode cX7_even 59 = .ok (.iaload, 1) := by decide +kernel
theorem dX7_even_60 : decode cX7_even 60 = .ok (.istore 5, 2) := by decide +kernel
theorem dX7_even_62 : decode cX7_even 62 = .ok (.iload 5, 2) := by decide +kernel
theorem dX7_even_64 : decode cX7_even 64 = .ok (.iload_n 2, 1) := by decide +kernel
theorem dX7_even_65 : decode cX7_even 65 = .ok (.if_icmp .le 8, 3) := by decide +kernel
theorem dX7_even_68 : decode cX7_even 68 = .ok (.iload 5, 2) := by decide +kernel
theorem dX7_even_70 : decode cX7_even 70 = .ok (.goto 4, 3) := by decide +kernel
theorem dX7_even_73 : decode cX7_even 73 = .ok (.iload_n 2, 1) := by decide +kernel
theorem dX7_even_74 : decode cX7_even 74 = .ok (.istore_n 2, 1) := by decide +kernel
theorem dX7_even_75 : decode cX7_even 75 = .ok (.iload 5, 2) := by decide +kernel
theorem dX7_even_77 : decode cX7_even 77 = .ok (.iload_n 3, 1) := by decide +kernel
theorem dX7_even_78 : decode cX7_even 78 = .ok (.if_icmp .ge 8, 3) := by decide +kernel
theorem dX7_even_81 : decode cX7_even 81 = .ok (.iload 5, 2) := by decide +kernel
theorem dX7_even_83 : decode cX7_even 83 = .ok (.goto 4, 3) := by decide +kernel
theorem dX7_even_86 : decode cX7_even 86 = .ok (.iload_n 3, 1) := by decide +kernel
theorem dX7_even_87 : decode cX7_even 87 = .ok (.istore_n 3, 1) := by decide +kernel
theorem dX7_even_88 : decode cX7_even 88 = .ok (.iinc 4 1, 3) := by decide +kernel
theorem dX7_even_91 : decode cX7_even 91 = .ok (.goto (-53), 3) := by decide +kernel
theorem dX7_even_94 : decode cX7_even 94 = .ok (.iload_n 2, 1) := by decide +kernel
theorem dX7_even_95 : decode cX7_even 95 = .ok (.iload_n 3, 1) := by decide +kernel
theorem dX7_even_96 : decode cX7_even 96 = .ok (.isub, 1) := by decide +kernel
theorem dX7_even_97 : decode cX7_even 97 = .ok (.ireturn, 1) := by decide +kernel
theorem dX7_isVisited_0 : decode cX7_isVisited 0 = .ok (.iconst 0, 1) := by decide +kernel
theorem dX7_isVisited_1 : decode cX7_isVisited 1 = .ok (.istore_n 2, 1) := by decide +kernel
theorem dX7_isVisited_2 : decode cX7_isVisited 2 = .ok (.iconst 0, 1) := by decide +kernel
theorem dX7_isVisited_3 : decode cX7_isVisited 3 = .ok (.istore_n 3, 1) := by decide +kernel
theorem dX7_isVisited_4 : decode cX7_isVisited 4 = .ok (.iload_n 3, 1) := by decide +kernel
theorem dX7_isVisited_5 : decode cX7_isVisited 5 = .ok (.aload_n 0, 1) := by decide +kernel
theorem dX7_isVisited_6 : decode cX7_isVisited 6 = .ok (.getfield 7, 3) := by decide +kernel
theorem dX7_isVisited_9 : decode cX7_isVisited 9 = .ok (.iconst 1, 1) := by decide +kernel
theorem dX7_isVisited_10 : decode cX7_isVisited 10 = .ok (.iaload, 1) := by decide +kernel
theorem dX7_isVisited_11 : decode cX7_isVisited 11 = .ok (.if_icmp .ge 42, 3) := by decide +kernel
theorem dX7_isVisited_14 : decode cX7_isVisited 14 = .ok (.iload_n 2, 1) := by decide +kernel
theorem dX7_isVisited_15 : decode cX7_isVisited 15 = .ok (.ifCond .ne 26, 3) := by decide +kernel
theorem dX7_isVisited_18 : decode cX7_isVisited 18 = .ok (.aload_n 0, 1) := by decide +kernel
theorem dX7_isVisited_19 : decode cX7_isVisited 19 = .ok (.sipush 1512, 3) := by decide +kernel
theorem dX7_isVisited_22 : decode cX7_isVisited 22 = .ok (.iload_n 3, 1) := by decide +kernel
theorem dX7_isVisited_23 : decode cX7_isVisited 23 = .ok (.invokevirtual 145, 3) := by decide +kernel
theorem dX7_isVisited_26 : decode cX7_isVisited 26 = .ok (.iload_n 1, 1) := by decide +kernel
theorem dX7_isVisited_27 : decode cX7_isVisited 27 = .ok (.if_icmp .ne 18, 3) := by decide +kernel
theorem dX7_isVisited_30 : decode cX7_isVisited 30 = .ok (.aload_n 0, 1) := by decide +kernel
theorem dX7_isVisited_31 : decode cX7_isVisited 31 = .ok (.sipush 1512, 3) := by decide +kernel
theorem dX7_isVisited_34 : decode cX7_isVisited 34 = .ok (.iload_n 3, 1) := by decide +kernel
theorem dX7_isVisited_35 : decode cX7_isVisited 35 = .ok (.invokevirtual 161, 3) := by decide +kernel
theorem dX7_isVisited_38 : decode cX7_isVisited 38 = .ok (.ifCond .ne 7, 3) := by decide +kernel
theorem dX7_isVisited_41 : decode cX7_isVisited 41 = .ok (.iconst 1, 1) := by decide +kernel
theorem dX7_isVisited_42 : decode cX7_isVisited 42 = .ok (.goto 4, 3) := by decide +kernel
theorem dX7_isVisited_45 : decode cX7_isVisited 45 = .ok (.iconst 0, 1) := by decide +kernel
theorem dX7_isVisited_46 : decode cX7_isVisited 46 = .ok (.istore_n 2, 1) := by decide +kernel
theorem dX7_isVisited_47 : decode cX7_isVisited 47 = .ok (.iinc 3 1, 3) := by decide +kernel
theorem dX7_isVisited_50 : decode cX7_isVisited 50 = .ok (.goto (-46), 3) := by decide +kernel
theorem dX7_isVisited_53 : decode cX7_isVisited 53 = .ok (.iload_n 2, 1) := by decide +kernel
theorem dX7_isVisited_54 : decode cX7_isVisited 54 = .ok (.ireturn, 1) := by decide +kernel
theorem dX7_fever_0 : decode cX7_fever 0 = .ok (.aload_n 0, 1) := by decide +kernel
theorem dX7_fever_1 : decode cX7_fever 1 = .ok (.iload_n 1, 1) := by decide +kernel
theorem dX7_fever_2 : decode cX7_fever 2 = .ok (.invokevirtual 184, 3) := by decide +kernel
theorem dX7_fever_5 : decode cX7_fever 5 = .ok (.ifCond .eq 25, 3) := by decide +kernel
theorem dX7_fever_8 : decode cX7_fever 8 = .ok (.iload_n 2, 1) := by decide +kernel
theorem dX7_fever_9 : decode cX7_fever 9 = .ok (.i2l, 1) := by decide +kernel
theorem dX7_fever_10 : decode cX7_fever 10 = .ok (.lconst 0, 1) := by decide +kernel
theorem dX7_fever_11 : decode cX7_fever 11 = .ok (.ldc2_w 234, 3) := by decide +kernel
theorem dX7_fever_14 : decode cX7_fever 14 = .ok (.invokestatic 48, 3) := by decide +kernel
theorem dX7_fever_17 : decode cX7_fever 17 = .ok (.ifCond .eq 13, 3) := by decide +kernel
theorem dX7_fever_20 : decode cX7_fever 20 = .ok (.iload_n 3, 1) := by decide +kernel
theorem dX7_fever_21 : decode cX7_fever 21 = .ok (.i2l, 1) := by decide +kernel
theorem dX7_fever_22 : decode cX7_fever 22 = .ok (.lconst 0, 1) := by decide +kernel
theorem dX7_fever_23 : decode cX7_fever 23 = .ok (.lconst 1, 1) := by decide +kernel
theorem dX7_fever_24 : decode cX7_fever 24 = .ok (.invokestatic 48, 3) := by decide +kernel
theorem dX7_fever_27 : decode cX7_fever 27 = .ok (.ifCond .ne 7, 3) := by decide +kernel
theorem dX7_fever_30 : decode cX7_fever 30 = .ok (.ldc2_w 236, 3) := by decide +kernel
theorem dX7_fever_33 : decode cX7_fever 33 = .ok (.lreturn, 1) := by decide +kernel
theorem dX7_fever_34 : decode cX7_fever 34 = .ok (.lconst 0, 1) := by decide +kernel
theorem dX7_fever_35 : decode cX7_fever 35 = .ok (.lstore 4, 2) := by decide +kernel
theorem dX7_fever_37 : decode cX7_fever 37 = .ok (.lconst 0, 1) := by decide +kernel
theorem dX7_fever_38 : decode cX7_fever 38 = .ok (.lstore 6, 2) := by decide +kernel
theorem dX7_fever_40 : decode cX7_fever 40 = .ok (.iconst 0, 1) := by decide +kernel
theorem dX7_fever_41 : decode cX7_fever 41 = .ok (.istore 8, 2) := by decide +kernel
theorem dX7_fever_43 : decode cX7_fever 43 = .ok (.iload 8, 2) := by decide +kernel
theorem dX7_fever_45 : decode cX7_fever 45 = .ok (.iconst 1, 1) := by decide +kernel
theorem dX7_fever_46 : decode cX7_fever 46 = .ok (.aload_n 0, 1) := by decide +kernel
theorem dX7_fever_47 : decode cX7_fever 47 = .ok (.getfield 7, 3) := by decide +kernel
theorem dX7_fever_50 : decode cX7_fever 50 = .ok (.iconst 1, 1) := by decide +kernel
theorem dX7_fever_51 : decode cX7_fever 51 = .ok (.iaload, 1) := by decide +kernel
theorem dX7_fever_52 : decode cX7_fever 52 = .ok (.ishl, 1) := by decide +kernel
theorem dX7_fever_53 : decode cX7_fever 53 = .ok (.if_icmp .ge 151, 3) := by decide +kernel
theorem dX7_fever_56 : decode cX7_fever 56 = .ok (.lconst 1, 1) := by decide +kernel
theorem dX7_fever_57 : decode cX7_fever 57 = .ok (.lstore 9, 2) := by decide +kernel
theorem dX7_fever_59 : decode cX7_fever 59 = .ok (.aload_n 0, 1) := by decide +kernel
theorem dX7_fever_60 : decode cX7_fever 60 = .ok (.iconst 0, 1) := by decide +kernel
theorem dX7_fever_61 : decode cX7_fever 61 = .ok (.sipush 1512, 3) := by decide +kernel
theorem dX7_fever_64 : decode cX7_fever 64 = .ok (.invokevirtual 132, 3) := by decide +kernel
theorem dX7_fever_67 : decode cX7_fever 67 = .ok (.iconst 0, 1) := by decide +kernel
theorem dX7_fever_68 : decode cX7_fever 68 = .ok (.istore 11, 2) := by decide +kernel
theorem dX7_fever_70 : decode cX7_fever 70 = .ok (.iload 11, 2) := by decide +kernel
theorem dX7_fever_72 : decode cX7_fever 72 = .ok (.aload_n 0, 1) := by decide +kernel
theorem dX7_fever_73 : decode cX7_fever 73 = .ok (.getfield 7, 3) := by decide +kernel
theorem dX7_fever_76 : decode cX7_fever 76 = .ok (.iconst 1, 1) := by decide +kernel
theorem dX7_fever_77 : decode cX7_fever 77 = .ok (.iaload, 1) := by decide +kernel
theorem dX7_fever_78 : decode cX7_fever 78 = .ok (.if_icmp .ge 94, 3) := by decide +kernel
theorem dX7_fever_81 : decode cX7_fever 81 = .ok (.iload 8, 2) := by decide +kernel
theorem dX7_fever_83 : decode cX7_fever 83 = .ok (.iload 11, 2) := by decide +kernel
theorem dX7_fever_85 : decode cX7_fever 85 = .ok (.invokestatic 148, 3) := by decide +kernel
theorem dX7_fever_88 : decode cX7_fever 88 = .ok (.istore 12, 2) := by decide +kernel
theorem dX7_fever_90 : decode cX7_fever 90 = .ok (.lload 9, 2) := by decide +kernel
theorem dX7_fever_92 : decode cX7_fever 92 = .ok (.aload_n 0, 1) := by decide +kernel
theorem dX7_fever_93 : decode cX7_fever 93 = .ok (.getfield 7, 3) := by decide +kernel
theorem dX7_fever_96 : decode cX7_fever 96 = .ok (.bipush 44, 2) := by decide +kernel
theorem dX7_fever_98 : decode cX7_fever 98 = .ok (.iload 11, 2) := by decide +kernel
theorem dX7_fever_100 : decode cX7_fever 100 = .ok (.iadd, 1) := by decide +kernel
theorem dX7_fever_101 : decode cX7_fever 101 = .ok (.iaload, 1) := by decide +kernel
theorem dX7_fever_102 : decode cX7_fever 102 = .ok (.ifCond .le 16, 3) := by decide +kernel
theorem dX7_fever_105 : decode cX7_fever 105 = .ok (.iload 12, 2) := by decide +kernel
theorem dX7_fever_107 : decode cX7_fever 107 = .ok (.ifCond .eq 7, 3) := by decide +kernel
theorem dX7_fever_110 : decode cX7_fever 110 = .ok (.lconst 0, 1) := by decide +kernel
theorem dX7_fever_111 : decode cX7_fever 111 = .ok (.goto 22, 3) := by decide +kernel
theorem dX7_fever_114 : decode cX7_fever 114 = .ok (.lconst 1, 1) := by decide +kernel
theorem dX7_fever_115 : decode cX7_fever 115 = .ok (.goto 18, 3) := by decide +kernel
theorem dX7_fever_118 : decode cX7_fever 118 = .ok (.iload 12, 2) := by decide +kernel
theorem dX7_fever_120 : decode cX7_fever 120 = .ok (.ifCond .eq 8, 3) := by decide +kernel
theorem dX7_fever_123 : decode cX7_fever 123 = .ok (.iload_n 2, 1) := by decide +kernel
theorem dX7_fever_124 : decode cX7_fever 124 = .ok (.i2l, 1) := by decide +kernel
theorem dX7_fever_125 : decode cX7_fever 125 = .ok (.goto 8, 3) := by decide +kernel
theorem dX7_fever_128 : decode cX7_fever 128 = .ok (.bipush 10, 2) := by decide +kernel
theorem dX7_fever_130 : decode cX7_fever 130 = .ok (.iload_n 2, 1) := by decide +kernel
theorem dX7_fever_131 : decode cX7_fever 131 = .ok (.isub, 1) := by decide +kernel
theorem dX7_fever_132 : decode cX7_fever 132 = .ok (.i2l, 1) := by decide +kernel
theorem dX7_fever_133 : decode cX7_fever 133 = .ok (.lmul, 1) := by decide +kernel
theorem dX7_fever_134 : decode cX7_fever 134 = .ok (.lstore 9, 2) := by decide +kernel
theorem dX7_fever_136 : decode cX7_fever 136 = .ok (.aload_n 0, 1) := by decide +kernel
theorem dX7_fever_137 : decode cX7_fever 137 = .ok (.getfield 7, 3) := by decide +kernel
theorem dX7_fever_140 : decode cX7_fever 140 = .ok (.sipush 1556, 3) := by decide +kernel
theorem dX7_fever_143 : decode cX7_fever 143 = .ok (.iload 11, 2) := by decide +kernel
theorem dX7_fever_145 : decode cX7_fever 145 = .ok (.iadd, 1) := by decide +kernel
theorem dX7_fever_146 : decode cX7_fever 146 = .ok (.iload 12, 2) := by decide +kernel
theorem dX7_fever_148 : decode cX7_fever 148 = .ok (.ifCond .eq 7, 3) := by decide +kernel
theorem dX7_fever_151 : decode cX7_fever 151 = .ok (.iconst 1, 1) := by decide +kernel
theorem dX7_fever_152 : decode cX7_fever 152 = .ok (.goto 13, 3) := by decide +kernel
theorem dX7_fever_155 : decode cX7_fever 155 = .ok (.aload_n 0, 1) := by decide +kernel
theorem dX7_fever_156 : decode cX7_fever 156 = .ok (.getfield 7, 3) := by decide +kernel
theorem dX7_fever_159 : decode cX7_fever 159 = .ok (.bipush 44, 2) := by decide +kernel
theorem dX7_fever_161 : decode cX7_fever 161 = .ok (.iload 11, 2) := by decide +kernel
theorem dX7_fever_163 : decode cX7_fever 163 = .ok (.iadd, 1) := by decide +kernel
theorem dX7_fever_164 : decode cX7_fever 164 = .ok (.iaload, 1) := by decide +kernel
theorem dX7_fever_165 : decode cX7_fever 165 = .ok (.iastore, 1) := by decide +kernel
theorem dX7_fever_166 : decode cX7_fever 166 = .ok (.iinc 11 1, 3) := by decide +kernel
theorem dX7_fever_169 : decode cX7_fever 169 = .ok (.goto (-99), 3) := by decide +kernel
theorem dX7_fever_172 : decode cX7_fever 172 = .ok (.lload 4, 2) := by decide +kernel
theorem dX7_fever_174 : decode cX7_fever 174 = .ok (.aload_n 0, 1) := by decide +kernel
theorem dX7_fever_175 : decode cX7_fever 175 = .ok (.iload_n 1, 1) := by decide +kernel
theorem dX7_fever_176 : decode cX7_fever 176 = .ok (.invokevirtual 238, 3) := by decide +kernel
theorem dX7_fever_179 : decode cX7_fever 179 = .ok (.ifCond .eq 8, 3) := by decide +kernel
theorem dX7_fever_182 : decode cX7_fever 182 = .ok (.lload 9, 2) := by decide +kernel
theorem dX7_fever_184 : decode cX7_fever 184 = .ok (.goto 4, 3) := by decide +kernel
theorem dX7_fever_187 : decode cX7_fever 187 = .ok (.lconst 0, 1) := by decide +kernel
theorem dX7_fever_188 : decode cX7_fever 188 = .ok (.ladd, 1) := by decide +kernel
theorem dX7_fever_189 : decode cX7_fever 189 = .ok (.lstore 4, 2) := by decide +kernel
theorem dX7_fever_191 : decode cX7_fever 191 = .ok (.lload 6, 2) := by decide +kernel
theorem dX7_fever_193 : decode cX7_fever 193 = .ok (.lload 9, 2) := by decide +kernel
theorem dX7_fever_195 : decode cX7_fever 195 = .ok (.ladd, 1) := by decide +kernel
theorem dX7_fever_196 : decode cX7_fever 196 = .ok (.lstore 6, 2) := by decide +kernel
theorem dX7_fever_198 : decode cX7_fever 198 = .ok (.iinc 8 1, 3) := by decide +kernel
theorem dX7_fever_201 : decode cX7_fever 201 = .ok (.goto (-158), 3) := by decide +kernel
theorem dX7_fever_204 : decode cX7_fever 204 = .ok (.lload 4, 2) := by decide +kernel
theorem dX7_fever_206 : decode cX7_fever 206 = .ok (.lstore 8, 2) := by decide +kernel
theorem dX7_fever_208 : decode cX7_fever 208 = .ok (.lload 6, 2) := by decide +kernel
theorem dX7_fever_210 : decode cX7_fever 210 = .ok (.lstore 10, 2) := by decide +kernel
theorem dX7_fever_212 : decode cX7_fever 212 = .ok (.lload 10, 2) := by decide +kernel
theorem dX7_fever_214 : decode cX7_fever 214 = .ok (.lconst 0, 1) := by decide +kernel
theorem dX7_fever_215 : decode cX7_fever 215 = .ok (.lcmp, 1) := by decide +kernel
theorem dX7_fever_216 : decode cX7_fever 216 = .ok (.ifCond .eq 21, 3) := by decide +kernel
theorem dX7_fever_219 : decode cX7_fever 219 = .ok (.lload 8, 2) := by decide +kernel
theorem dX7_fever_221 : decode cX7_fever 221 = .ok (.lload 10, 2) := by decide +kernel
theorem dX7_fever_223 : decode cX7_fever 223 = .ok (.lrem, 1) := by decide +kernel
theorem dX7_fever_224 : decode cX7_fever 224 = .ok (.lstore 12, 2) := by decide +kernel
theorem dX7_fever_226 : decode cX7_fever 226 = .ok (.lload 10, 2) := by decide +kernel
theorem dX7_fever_228 : decode cX7_fever 228 = .ok (.lstore 8, 2) := by decide +kernel
theorem dX7_fever_230 : decode cX7_fever 230 = .ok (.lload 12, 2) := by decide +kernel
theorem dX7_fever_232 : decode cX7_fever 232 = .ok (.lstore 10, 2) := by decide +kernel
theorem dX7_fever_234 : decode cX7_fever 234 = .ok (.goto (-22), 3) := by decide +kernel
theorem dX7_fever_237 : decode cX7_fever 237 = .ok (.iload_n 3, 1) := by decide +kernel
theorem dX7_fever_238 : decode cX7_fever 238 = .ok (.ifCond .ne 11, 3) := by decide +kernel
theorem dX7_fever_241 : decode cX7_fever 241 = .ok (.lload 4, 2) := by decide +kernel
theorem dX7_fever_243 : decode cX7_fever 243 = .ok (.lload 8, 2) := by decide +kernel
theorem dX7_fever_245 : decode cX7_fever 245 = .ok (.ldiv, 1) := by decide +kernel
theorem dX7_fever_246 : decode cX7_fever 246 = .ok (.goto 8, 3) := by decide +kernel
theorem dX7_fever_249 : decode cX7_fever 249 = .ok (.lload 6, 2) := by decide +kernel
theorem dX7_fever_251 : decode cX7_fever 251 = .ok (.lload 8, 2) := by decide +kernel
theorem dX7_fever_253 : decode cX7_fever 253 = .ok (.ldiv, 1) := by decide +kernel
theorem dX7_fever_254 : decode cX7_fever 254 = .ok (.lreturn, 1) := by decide +kernel
theorem dX7_sumOf_0 : decode cX7_sumOf 0 = .ok (.iconst 0, 1) := by decide +kernel
theorem dX7_sumOf_1 : decode cX7_sumOf 1 = .ok (.istore_n 2, 1) := by decide +kernel
theorem dX7_sumOf_2 : decode cX7_sumOf 2 = .ok (.iconst 0, 1) := by decide +kernel
theorem dX7_sumOf_3 : decode cX7_sumOf 3 = .ok (.istore_n 3, 1) := by decide +kernel
theorem dX7_sumOf_4 : decode cX7_sumOf 4 = .ok (.iload_n 3, 1) := by decide +kernel
theorem dX7_sumOf_5 : decode cX7_sumOf 5 = .ok (.iconst 5, 1) := by decide +kernel
theorem dX7_sumOf_6 : decode cX7_sumOf 6 = .ok (.if_icmp .ge 20, 3) := by decide +kernel
theorem dX7_sumOf_9 : decode cX7_sumOf 9 = .ok (.iload_n 2, 1) := by decide +kernel
theorem dX7_sumOf_10 : decode cX7_sumOf 10 = .ok (.aload_n 0, 1) := by decide +kernel
theorem dX7_sumOf_11 : decode cX7_sumOf 11 = .ok (.getfield 7, 3) := by decide +kernel
theorem dX7_sumOf_14 : decode cX7_sumOf 14 = .ok (.iload_n 1, 1) := by decide +kernel
theorem dX7_sumOf_15 : decode cX7_sumOf 15 = .ok (.iload_n 3, 1) := by decide +kernel
theorem dX7_sumOf_16 : decode cX7_sumOf 16 = .ok (.iadd, 1) := by decide +kernel
theorem dX7_sumOf_17 : decode cX7_sumOf 17 = .ok (.iaload, 1) := by decide +kernel
theorem dX7_sumOf_18 : decode cX7_sumOf 18 = .ok (.iadd, 1) := by decide +kernel
theorem dX7_sumOf_19 : decode cX7_sumOf 19 = .ok (.istore_n 2, 1) := by decide +kernel
theorem dX7_sumOf_20 : decode cX7_sumOf 20 = .ok (.iinc 3 1, 3) := by decide +kernel
theorem dX7_sumOf_23 : decode cX7_sumOf 23 = .ok (.goto (-19), 3) := by decide +kernel
theorem dX7_sumOf_26 : decode cX7_sumOf 26 = .ok (.iload_n 2, 1) := by decide +kernel
theorem dX7_sumOf_27 : decode cX7_sumOf 27 = .ok (.ireturn, 1) := by decide +kernel
theorem dX7_drawn_0 : decode cX7_drawn 0 = .ok (.aload_n 0, 1) := by decide +kernel
theorem dX7_drawn_1 : decode cX7_drawn 1 = .ok (.getfield 136, 3) := by decide +kernel
theorem dX7_drawn_4 : decode cX7_drawn 4 = .ok (.ifCond .ne 6, 3) := by decide +kernel
theorem dX7_drawn_7 : decode cX7_drawn 7 = .ok (.ldc 143, 2) := by decide +kernel
theorem dX7_drawn_9 : decode cX7_drawn 9 = .ok (.ireturn, 1) := by decide +kernel
theorem dX7_drawn_10 : decode cX7_drawn 10 = .ok (.iload_n 1, 1) := by decide +kernel
theorem dX7_drawn_11 : decode cX7_drawn 11 = .ok (.i2l, 1) := by decide +kernel
theorem dX7_drawn_12 : decode cX7_drawn 12 = .ok (.lconst 0, 1) := by decide +kernel
theorem dX7_drawn_13 : decode cX7_drawn 13 = .ok (.ldc2_w 179, 3) := by decide +kernel
theorem dX7_drawn_16 : decode cX7_drawn 16 = .ok (.invokestatic 48, 3) := by decide +kernel
theorem dX7_drawn_19 : decode cX7_drawn 19 = .ok (.ifCond .eq 25, 3) := by decide +kernel
theorem dX7_drawn_22 : decode cX7_drawn 22 = .ok (.iload_n 2, 1) := by decide +kernel
theorem dX7_drawn_23 : decode cX7_drawn 23 = .ok (.i2l, 1) := by decide +kernel
theorem dX7_drawn_24 : decode cX7_drawn 24 = .ok (.lconst 1, 1) := by decide +kernel
theorem dX7_drawn_25 : decode cX7_drawn 25 = .ok (.ldc2_w 241, 3) := by decide +kernel
theorem dX7_drawn_28 : decode cX7_drawn 28 = .ok (.invokestatic 48, 3) := by decide +kernel
theorem dX7_drawn_31 : decode cX7_drawn 31 = .ok (.ifCond .eq 13, 3) := by decide +kernel
theorem dX7_drawn_34 : decode cX7_drawn 34 = .ok (.iload_n 3, 1) := by decide +kernel
theorem dX7_drawn_35 : decode cX7_drawn 35 = .ok (.i2l, 1) := by decide +kernel
theorem dX7_drawn_36 : decode cX7_drawn 36 = .ok (.lconst 0, 1) := by decide +kernel
theorem dX7_drawn_37 : decode cX7_drawn 37 = .ok (.lconst 1, 1) := by decide +kernel
theorem dX7_drawn_38 : decode cX7_drawn 38 = .ok (.invokestatic 48, 3) := by decide +kernel
theorem dX7_drawn_41 : decode cX7_drawn 41 = .ok (.ifCond .ne 6, 3) := by decide +kernel
theorem dX7_drawn_44 : decode cX7_drawn 44 = .ok (.ldc 58, 2) := by decide +kernel
theorem dX7_drawn_46 : decode cX7_drawn 46 = .ok (.ireturn, 1) := by decide +kernel
theorem dX7_drawn_47 : decode cX7_drawn 47 = .ok (.aload_n 0, 1) := by decide +kernel
theorem dX7_drawn_48 : decode cX7_drawn 48 = .ok (.iconst 0, 1) := by decide +kernel
theorem dX7_drawn_49 : decode cX7_drawn 49 = .ok (.sipush 1512, 3) := by decide +kernel
theorem dX7_drawn_52 : decode cX7_drawn 52 = .ok (.invokevirtual 132, 3) := by decide +kernel
theorem dX7_drawn_55 : decode cX7_drawn 55 = .ok (.iload_n 2, 1) := by decide +kernel
theorem dX7_drawn_56 : decode cX7_drawn 56 = .ok (.i2l, 1) := by decide +kernel
theorem dX7_drawn_57 : decode cX7_drawn 57 = .ok (.lstore 4, 2) := by decide +kernel
theorem dX7_drawn_59 : decode cX7_drawn 59 = .ok (.iconst 0, 1) := by decide +kernel
theorem dX7_drawn_60 : decode cX7_drawn 60 = .ok (.istore 6, 2) := by decide +kernel
theorem dX7_drawn_62 : decode cX7_drawn 62 = .ok (.iload 6, 2) := by decide +kernel
theorem dX7_drawn_64 : decode cX7_drawn 64 = .ok (.iload_n 1, 1) := by decide +kernel
theorem dX7_drawn_65 : decode cX7_drawn 65 = .ok (.if_icmp .ge 66, 3) := by decide +kernel
theorem dX7_drawn_68 : decode cX7_drawn 68 = .ok (.lload 4, 2) := by decide +kernel
theorem dX7_drawn_70 : decode cX7_drawn 70 = .ok (.ldc2_w 243, 3) := by decide +kernel
theorem dX7_drawn_73 : decode cX7_drawn 73 = .ok (.lmul, 1) := by decide +kernel
theorem dX7_drawn_74 : decode cX7_drawn 74 = .ok (.ldc2_w 245, 3) := by decide +kernel
theorem dX7_drawn_77 : decode cX7_drawn 77 = .ok (.lrem, 1) := by decide +kernel
theorem dX7_drawn_78 : decode cX7_drawn 78 = .ok (.lstore 4, 2) := by decide +kernel
theorem dX7_drawn_80 : decode cX7_drawn 80 = .ok (.lload 4, 2) := by decide +kernel
theorem dX7_drawn_82 : decode cX7_drawn 82 = .ok (.ldc2_w 187, 3) := by decide +kernel
theorem dX7_drawn_85 : decode cX7_drawn 85 = .ok (.lrem, 1) := by decide +kernel
theorem dX7_drawn_86 : decode cX7_drawn 86 = .ok (.lconst 0, 1) := by decide +kernel
theorem dX7_drawn_87 : decode cX7_drawn 87 = .ok (.lcmp, 1) := by decide +kernel
theorem dX7_drawn_88 : decode cX7_drawn 88 = .ok (.ifCond .ne 30, 3) := by decide +kernel
theorem dX7_drawn_91 : decode cX7_drawn 91 = .ok (.aload_n 0, 1) := by decide +kernel
theorem dX7_drawn_92 : decode cX7_drawn 92 = .ok (.getfield 7, 3) := by decide +kernel
theorem dX7_drawn_95 : decode cX7_drawn 95 = .ok (.sipush 1556, 3) := by decide +kernel
theorem dX7_drawn_98 : decode cX7_drawn 98 = .ok (.lload 4, 2) := by decide +kernel
theorem dX7_drawn_100 : decode cX7_drawn 100 = .ok (.aload_n 0, 1) := by decide +kernel
theorem dX7_drawn_101 : decode cX7_drawn 101 = .ok (.getfield 7, 3) := by decide +kernel
theorem dX7_drawn_104 : decode cX7_drawn 104 = .ok (.iconst 1, 1) := by decide +kernel
theorem dX7_drawn_105 : decode cX7_drawn 105 = .ok (.iaload, 1) := by decide +kernel
theorem dX7_drawn_106 : decode cX7_drawn 106 = .ok (.i2l, 1) := by decide +kernel
theorem dX7_drawn_107 : decode cX7_drawn 107 = .ok (.lrem, 1) := by decide +kernel
theorem dX7_drawn_108 : decode cX7_drawn 108 = .ok (.l2i, 1) := by decide +kernel
theorem dX7_drawn_109 : decode cX7_drawn 109 = .ok (.iadd, 1) := by decide +kernel
theorem dX7_drawn_110 : decode cX7_drawn 110 = .ok (.lload 4, 2) := by decide +kernel
theorem dX7_drawn_112 : decode cX7_drawn 112 = .ok (.ldc2_w 247, 3) := by decide +kernel
theorem dX7_drawn_115 : decode cX7_drawn 115 = .ok (.lrem, 1) := by decide +kernel
theorem dX7_drawn_116 : decode cX7_drawn 116 = .ok (.l2i, 1) := by decide +kernel
theorem dX7_drawn_117 : decode cX7_drawn 117 = .ok (.iastore, 1) := by decide +kernel
theorem dX7_drawn_118 : decode cX7_drawn 118 = .ok (.aload_n 0, 1) := by decide +kernel
theorem dX7_drawn_119 : decode cX7_drawn 119 = .ok (.sipush 1512, 3) := by decide +kernel
theorem dX7_drawn_122 : decode cX7_drawn 122 = .ok (.invokevirtual 172, 3) := by decide +kernel
theorem dX7_drawn_125 : decode cX7_drawn 125 = .ok (.iinc 6 1, 3) := by decide +kernel
theorem dX7_drawn_128 : decode cX7_drawn 128 = .ok (.goto (-66), 3) := by decide +kernel
theorem dX7_drawn_131 : decode cX7_drawn 131 = .ok (.iload_n 3, 1) := by decide +kernel
theorem dX7_drawn_132 : decode cX7_drawn 132 = .ok (.ifCond .ne 13, 3) := by decide +kernel
theorem dX7_drawn_135 : decode cX7_drawn 135 = .ok (.aload_n 0, 1) := by decide +kernel
theorem dX7_drawn_136 : decode cX7_drawn 136 = .ok (.sipush 1517, 3) := by decide +kernel
theorem dX7_drawn_139 : decode cX7_drawn 139 = .ok (.invokevirtual 249, 3) := by decide +kernel
theorem dX7_drawn_142 : decode cX7_drawn 142 = .ok (.goto 10, 3) := by decide +kernel
theorem dX7_drawn_145 : decode cX7_drawn 145 = .ok (.aload_n 0, 1) := by decide +kernel
theorem dX7_drawn_146 : decode cX7_drawn 146 = .ok (.sipush 1522, 3) := by decide +kernel
theorem dX7_drawn_149 : decode cX7_drawn 149 = .ok (.invokevirtual 249, 3) := by decide +kernel
theorem dX7_drawn_152 : decode cX7_drawn 152 = .ok (.ireturn, 1) := by decide +kernel
theorem dX7_image_0 : decode cX7_image 0 = .ok (.iload_n 1, 1) := by decide +kernel
theorem dX7_image_1 : decode cX7_image 1 = .ok (.i2l, 1) := by decide +kernel
theorem dX7_image_2 : decode cX7_image 2 = .ok (.lconst 0, 1) := by decide +kernel
theorem dX7_image_3 : decode cX7_image 3 = .ok (.lconst 1, 1) := by decide +kernel
theorem dX7_image_4 : decode cX7_image 4 = .ok (.invokestatic 48, 3) := by decide +kernel
theorem dX7_image_7 : decode cX7_image 7 = .ok (.ifCond .ne 6, 3) := by decide +kernel
theorem dX7_image_10 : decode cX7_image 10 = .ok (.ldc 58, 2) := by decide +kernel
theorem dX7_image_12 : decode cX7_image 12 = .ok (.ireturn, 1) := by decide +kernel
theorem dX7_image_13 : decode cX7_image 13 = .ok (.aload_n 0, 1) := by decide +kernel
theorem dX7_image_14 : decode cX7_image 14 = .ok (.getfield 136, 3) := by decide +kernel
theorem dX7_image_17 : decode cX7_image 17 = .ok (.ifCond .ne 6, 3) := by decide +kernel
theorem dX7_image_20 : decode cX7_image 20 = .ok (.ldc 143, 2) := by decide +kernel
theorem dX7_image_22 : decode cX7_image 22 = .ok (.ireturn, 1) := by decide +kernel
theorem dX7_image_23 : decode cX7_image 23 = .ok (.aload_n 0, 1) := by decide +kernel
theorem dX7_image_24 : decode cX7_image 24 = .ok (.iconst 0, 1) := by decide +kernel
theorem dX7_image_25 : decode cX7_image 25 = .ok (.sipush 1400, 3) := by decide +kernel
theorem dX7_image_28 : decode cX7_image 28 = .ok (.bipush 56, 2) := by decide +kernel
theorem dX7_image_30 : decode cX7_image 30 = .ok (.iload_n 1, 1) := by decide +kernel
theorem dX7_image_31 : decode cX7_image 31 = .ok (.imul, 1) := by decide +kernel
theorem dX7_image_32 : decode cX7_image 32 = .ok (.iadd, 1) := by decide +kernel
theorem dX7_image_33 : decode cX7_image 33 = .ok (.invokevirtual 132, 3) := by decide +kernel
theorem dX7_image_36 : decode cX7_image 36 = .ok (.aload_n 0, 1) := by decide +kernel
theorem dX7_image_37 : decode cX7_image 37 = .ok (.getfield 13, 3) := by decide +kernel
theorem dX7_image_40 : decode cX7_image 40 = .ok (.iload_n 1, 1) := by decide +kernel
theorem dX7_image_41 : decode cX7_image 41 = .ok (.iconst 1, 1) := by decide +kernel
theorem dX7_image_42 : decode cX7_image 42 = .ok (.bastore, 1) := by decide +kernel
theorem dX7_image_43 : decode cX7_image 43 = .ok (.iconst 1, 1) := by decide +kernel
theorem dX7_image_44 : decode cX7_image 44 = .ok (.ireturn, 1) := by decide +kernel
theorem dX7_restore_0 : decode cX7_restore 0 = .ok (.iload_n 1, 1) := by decide +kernel
theorem dX7_restore_1 : decode cX7_restore 1 = .ok (.i2l, 1) := by decide +kernel
theorem dX7_restore_2 : decode cX7_restore 2 = .ok (.lconst 0, 1) := by decide +kernel
theorem dX7_restore_3 : decode cX7_restore 3 = .ok (.lconst 1, 1) := by decide +kernel
theorem dX7_restore_4 : decode cX7_restore 4 = .ok (.invokestatic 48, 3) := by decide +kernel
theorem dX7_restore_7 : decode cX7_restore 7 = .ok (.ifCond .ne 6, 3) := by decide +kernel
theorem dX7_restore_10 : decode cX7_restore 10 = .ok (.ldc 58, 2) := by decide +kernel
theorem dX7_restore_12 : decode cX7_restore 12 = .ok (.ireturn, 1) := by decide +kernel
theorem dX7_restore_13 : decode cX7_restore 13 = .ok (.aload_n 0, 1) := by decide +kernel
theorem dX7_restore_14 : decode cX7_restore 14 = .ok (.getfield 13, 3) := by decide +kernel
theorem dX7_restore_17 : decode cX7_restore 17 = .ok (.iload_n 1, 1) := by decide +kernel
theorem dX7_restore_18 : decode cX7_restore 18 = .ok (.baload, 1) := by decide +kernel
theorem dX7_restore_19 : decode cX7_restore 19 = .ok (.ifCond .ne 6, 3) := by decide +kernel
theorem dX7_restore_22 : decode cX7_restore 22 = .ok (.ldc 143, 2) := by decide +kernel
theorem dX7_restore_24 : decode cX7_restore 24 = .ok (.ireturn, 1) := by decide +kernel
theorem dX7_restore_25 : decode cX7_restore 25 = .ok (.aload_n 0, 1) := by decide +kernel
theorem dX7_restore_26 : decode cX7_restore 26 = .ok (.sipush 1400, 3) := by decide +kernel
theorem dX7_restore_29 : decode cX7_restore 29 = .ok (.bipush 56, 2) := by decide +kernel
theorem dX7_restore_31 : decode cX7_restore 31 = .ok (.iload_n 1, 1) := by decide +kernel
theorem dX7_restore_32 : decode cX7_restore 32 = .ok (.imul, 1) := by decide +kernel
theorem dX7_restore_33 : decode cX7_restore 33 = .ok (.iadd, 1) := by decide +kernel
theorem dX7_restore_34 : decode cX7_restore 34 = .ok (.iconst 0, 1) := by decide +kernel
theorem dX7_restore_35 : decode cX7_restore 35 = .ok (.invokevirtual 132, 3) := by decide +kernel
theorem dX7_restore_38 : decode cX7_restore 38 = .ok (.aload_n 0, 1) := by decide +kernel
theorem dX7_restore_39 : decode cX7_restore 39 = .ok (.iconst 0, 1) := by decide +kernel
theorem dX7_restore_40 : decode cX7_restore 40 = .ok (.putfield 140, 3) := by decide +kernel
theorem dX7_restore_43 : decode cX7_restore 43 = .ok (.iconst 1, 1) := by decide +kernel
theorem dX7_restore_44 : decode cX7_restore 44 = .ok (.ireturn, 1) := by decide +kernel
theorem dX7_kind_0 : decode cX7_kind 0 = .ok (.aload_n 0, 1) := by decide +kernel
theorem dX7_kind_1 : decode cX7_kind 1 = .ok (.iload_n 1, 1) := by decide +kernel
theorem dX7_kind_2 : decode cX7_kind 2 = .ok (.invokevirtual 176, 3) := by decide +kernel
theorem dX7_kind_5 : decode cX7_kind 5 = .ok (.ifCond .eq 15, 3) := by decide +kernel
theorem dX7_kind_8 : decode cX7_kind 8 = .ok (.aload_n 0, 1) := by decide +kernel
theorem dX7_kind_9 : decode cX7_kind 9 = .ok (.getfield 7, 3) := by decide +kernel
theorem dX7_kind_12 : decode cX7_kind 12 = .ok (.bipush 20, 2) := by decide +kernel
theorem dX7_kind_14 : decode cX7_kind 14 = .ok (.iload_n 1, 1) := by decide +kernel
theorem dX7_kind_15 : decode cX7_kind 15 = .ok (.iadd, 1) := by decide +kernel
theorem dX7_kind_16 : decode cX7_kind 16 = .ok (.iaload, 1) := by decide +kernel
theorem dX7_kind_17 : decode cX7_kind 17 = .ok (.goto 5, 3) := by decide +kernel
theorem dX7_kind_20 : decode cX7_kind 20 = .ok (.ldc 58, 2) := by decide +kernel
theorem dX7_kind_22 : decode cX7_kind 22 = .ok (.ireturn, 1) := by decide +kernel
theorem dX7_isOf_0 : decode cX7_isOf 0 = .ok (.aload_n 0, 1) := by decide +kernel
theorem dX7_isOf_1 : decode cX7_isOf 1 = .ok (.getfield 7, 3) := by decide +kernel
theorem dX7_isOf_4 : decode cX7_isOf 4 = .ok (.bipush 20, 2) := by decide +kernel
theorem dX7_isOf_6 : decode cX7_isOf 6 = .ok (.iload_n 1, 1) := by decide +kernel
theorem dX7_isOf_7 : decode cX7_isOf 7 = .ok (.iadd, 1) := by decide +kernel
theorem dX7_isOf_8 : decode cX7_isOf 8 = .ok (.iaload, 1) := by decide +kernel
theorem dX7_isOf_9 : decode cX7_isOf 9 = .ok (.istore_n 3, 1) := by decide +kernel
theorem dX7_isOf_10 : decode cX7_isOf 10 = .ok (.iload_n 2, 1) := by decide +kernel
theorem dX7_isOf_11 : decode cX7_isOf 11 = .ok (.ifCond .eq 33, 3) := by decide +kernel
theorem dX7_isOf_14 : decode cX7_isOf 14 = .ok (.iload_n 2, 1) := by decide +kernel
theorem dX7_isOf_15 : decode cX7_isOf 15 = .ok (.iload_n 3, 1) := by decide +kernel
theorem dX7_isOf_16 : decode cX7_isOf 16 = .ok (.if_icmp .eq 28, 3) := by decide +kernel
theorem dX7_isOf_19 : decode cX7_isOf 19 = .ok (.iload_n 2, 1) := by decide +kernel
theorem dX7_isOf_20 : decode cX7_isOf 20 = .ok (.iconst 1, 1) := by decide +kernel
theorem dX7_isOf_21 : decode cX7_isOf 21 = .ok (.if_icmp .ne 13, 3) := by decide +kernel
theorem dX7_isOf_24 : decode cX7_isOf 24 = .ok (.iload_n 3, 1) := by decide +kernel
theorem dX7_isOf_25 : decode cX7_isOf 25 = .ok (.iconst 2, 1) := by decide +kernel
theorem dX7_isOf_26 : decode cX7_isOf 26 = .ok (.if_icmp .eq 18, 3) := by decide +kernel
theorem dX7_isOf_29 : decode cX7_isOf 29 = .ok (.iload_n 3, 1) := by decide +kernel
theorem dX7_isOf_30 : decode cX7_isOf 30 = .ok (.iconst 3, 1) := by decide +kernel
theorem dX7_isOf_31 : decode cX7_isOf 31 = .ok (.if_icmp .eq 13, 3) := by decide +kernel
theorem dX7_isOf_34 : decode cX7_isOf 34 = .ok (.iload_n 2, 1) := by decide +kernel
theorem dX7_isOf_35 : decode cX7_isOf 35 = .ok (.iconst 4, 1) := by decide +kernel
theorem dX7_isOf_36 : decode cX7_isOf 36 = .ok (.if_icmp .ne 12, 3) := by decide +kernel
theorem dX7_isOf_39 : decode cX7_isOf 39 = .ok (.iload_n 3, 1) := by decide +kernel
theorem dX7_isOf_40 : decode cX7_isOf 40 = .ok (.iconst 5, 1) := by decide +kernel
theorem dX7_isOf_41 : decode cX7_isOf 41 = .ok (.if_icmp .ne 7, 3) := by decide +kernel
theorem dX7_isOf_44 : decode cX7_isOf 44 = .ok (.iconst 1, 1) := by decide +kernel
theorem dX7_isOf_45 : decode cX7_isOf 45 = .ok (.goto 4, 3) := by decide +kernel
theorem dX7_isOf_48 : decode cX7_isOf 48 = .ok (.iconst 0, 1) := by decide +kernel
theorem dX7_isOf_49 : decode cX7_isOf 49 = .ok (.ireturn, 1) := by decide +kernel
theorem dX7_as_0 : decode cX7_as 0 = .ok (.aload_n 0, 1) := by decide +kernel
theorem dX7_as_1 : decode cX7_as 1 = .ok (.iload_n 1, 1) := by decide +kernel
theorem dX7_as_2 : decode cX7_as 2 = .ok (.invokevirtual 176, 3) := by decide +kernel
theorem dX7_as_5 : decode cX7_as 5 = .ok (.ifCond .eq 15, 3) := by decide +kernel
theorem dX7_as_8 : decode cX7_as 8 = .ok (.iload_n 2, 1) := by decide +kernel
theorem dX7_as_9 : decode cX7_as 9 = .ok (.i2l, 1) := by decide +kernel
theorem dX7_as_10 : decode cX7_as 10 = .ok (.lconst 0, 1) := by decide +kernel
theorem dX7_as_11 : decode cX7_as 11 = .ok (.ldc2_w 247, 3) := by decide +kernel
theorem dX7_as_14 : decode cX7_as 14 = .ok (.invokestatic 48, 3) := by decide +kernel
theorem dX7_as_17 : decode cX7_as 17 = .ok (.ifCond .ne 6, 3) := by decide +kernel
theorem dX7_as_20 : decode cX7_as 20 = .ok (.ldc 58, 2) := by decide +kernel
theorem dX7_as_22 : decode cX7_as 22 = .ok (.ireturn, 1) := by decide +kernel
theorem dX7_as_23 : decode cX7_as 23 = .ok (.aload_n 0, 1) := by decide +kernel
theorem dX7_as_24 : decode cX7_as 24 = .ok (.iload_n 1, 1) := by decide +kernel
theorem dX7_as_25 : decode cX7_as 25 = .ok (.iload_n 2, 1) := by decide +kernel
theorem dX7_as_26 : decode cX7_as 26 = .ok (.invokevirtual 252, 3) := by decide +kernel
theorem dX7_as_29 : decode cX7_as 29 = .ok (.ifCond .eq 11, 3) := by decide +kernel
theorem dX7_as_32 : decode cX7_as 32 = .ok (.aload_n 0, 1) := by decide +kernel
theorem dX7_as_33 : decode cX7_as 33 = .ok (.iload_n 1, 1) := by decide +kernel
theorem dX7_as_34 : decode cX7_as 34 = .ok (.invokevirtual 63, 3) := by decide +kernel
theorem dX7_as_37 : decode cX7_as 37 = .ok (.goto 8, 3) := by decide +kernel
theorem dX7_as_40 : decode cX7_as 40 = .ok (.aload_n 0, 1) := by decide +kernel
theorem dX7_as_41 : decode cX7_as 41 = .ok (.iconst 3, 1) := by decide +kernel
theorem dX7_as_42 : decode cX7_as 42 = .ok (.invokevirtual 59, 3) := by decide +kernel
theorem dX7_as_45 : decode cX7_as 45 = .ok (.ireturn, 1) := by decide +kernel
theorem dX7_begin_0 : decode cX7_begin 0 = .ok (.aload_n 0, 1) := by decide +kernel
theorem dX7_begin_1 : decode cX7_begin 1 = .ok (.getfield 255, 3) := by decide +kernel
theorem dX7_begin_4 : decode cX7_begin 4 = .ok (.bipush 16, 2) := by decide +kernel
theorem dX7_begin_6 : decode cX7_begin 6 = .ok (.if_icmp .ge 23, 3) := by decide +kernel
theorem dX7_begin_9 : decode cX7_begin 9 = .ok (.aload_n 0, 1) := by decide +kernel
theorem dX7_begin_10 : decode cX7_begin 10 = .ok (.getfield 29, 3) := by decide +kernel
theorem dX7_begin_13 : decode cX7_begin 13 = .ok (.aload_n 0, 1) := by decide +kernel
theorem dX7_begin_14 : decode cX7_begin 14 = .ok (.getfield 255, 3) := by decide +kernel
theorem dX7_begin_17 : decode cX7_begin 17 = .ok (.iload_n 1, 1) := by decide +kernel
theorem dX7_begin_18 : decode cX7_begin 18 = .ok (.iastore, 1) := by decide +kernel
theorem dX7_begin_19 : decode cX7_begin 19 = .ok (.aload_n 0, 1) := by decide +kernel
theorem dX7_begin_20 : decode cX7_begin 20 = .ok (.dup, 1) := by decide +kernel
theorem dX7_begin_21 : decode cX7_begin 21 = .ok (.getfield 255, 3) := by decide +kernel
theorem dX7_begin_24 : decode cX7_begin 24 = .ok (.iconst 1, 1) := by decide +kernel
theorem dX7_begin_25 : decode cX7_begin 25 = .ok (.iadd, 1) := by decide +kernel
theorem dX7_begin_26 : decode cX7_begin 26 = .ok (.putfield 255, 3) := by decide +kernel
theorem dX7_begin_29 : decode cX7_begin 29 = .ok (.return_, 1) := by decide +kernel
theorem dX7_lentSize_0 : decode cX7_lentSize 0 = .ok (.aload_n 0, 1) := by decide +kernel
theorem dX7_lentSize_1 : decode cX7_lentSize 1 = .ok (.bipush 10, 2) := by decide +kernel
theorem dX7_lentSize_3 : decode cX7_lentSize 3 = .ok (.invokevirtual 258, 3) := by decide +kernel
theorem dX7_lentSize_6 : decode cX7_lentSize 6 = .ok (.aload_n 0, 1) := by decide +kernel
theorem dX7_lentSize_7 : decode cX7_lentSize 7 = .ok (.getfield 7, 3) := by decide +kernel
theorem dX7_lentSize_10 : decode cX7_lentSize 10 = .ok (.bipush 26, 2) := by decide +kernel
theorem dX7_lentSize_12 : decode cX7_lentSize 12 = .ok (.iload_n 1, 1) := by decide +kernel
theorem dX7_lentSize_13 : decode cX7_lentSize 13 = .ok (.iadd, 1) := by decide +kernel
theorem dX7_lentSize_14 : decode cX7_lentSize 14 = .ok (.iaload, 1) := by decide +kernel
theorem dX7_lentSize_15 : decode cX7_lentSize 15 = .ok (.ireturn, 1) := by decide +kernel
theorem dX7_soupsSize_0 : decode cX7_soupsSize 0 = .ok (.aload_n 0, 1) := by decide +kernel
theorem dX7_soupsSize_1 : decode cX7_soupsSize 1 = .ok (.bipush 11, 2) := by decide +kernel
theorem dX7_soupsSize_3 : decode cX7_soupsSize 3 = .ok (.invokevirtual 258, 3) := by decide +kernel
theorem dX7_soupsSize_6 : decode cX7_soupsSize 6 = .ok (.aload_n 0, 1) := by decide +kernel
theorem dX7_soupsSize_7 : decode cX7_soupsSize 7 = .ok (.iload_n 1, 1) := by decide +kernel
theorem dX7_soupsSize_8 : decode cX7_soupsSize 8 = .ok (.invokevirtual 261, 3) := by decide +kernel
theorem dX7_soupsSize_11 : decode cX7_soupsSize 11 = .ok (.istore_n 2, 1) := by decide +kernel
theorem dX7_soupsSize_12 : decode cX7_soupsSize 12 = .ok (.iload_n 2, 1) := by decide +kernel
theorem dX7_soupsSize_13 : decode cX7_soupsSize 13 = .ok (.aload_n 0, 1) := by decide +kernel
theorem dX7_soupsSize_14 : decode cX7_soupsSize 14 = .ok (.iload_n 1, 1) := by decide +kernel
theorem dX7_soupsSize_15 : decode cX7_soupsSize 15 = .ok (.invokevirtual 264, 3) := by decide +kernel
theorem dX7_soupsSize_18 : decode cX7_soupsSize 18 = .ok (.iadd, 1) := by decide +kernel
theorem dX7_soupsSize_19 : decode cX7_soupsSize 19 = .ok (.ireturn, 1) := by decide +kernel
theorem dX7_sternSize_0 : decode cX7_sternSize 0 = .ok (.aload_n 0, 1) := by decide +kernel
theorem dX7_sternSize_1 : decode cX7_sternSize 1 = .ok (.bipush 13, 2) := by decide +kernel
theorem dX7_sternSize_3 : decode cX7_sternSize 3 = .ok (.invokevirtual 258, 3) := by decide +kernel
theorem dX7_sternSize_6 : decode cX7_sternSize 6 = .ok (.aload_n 0, 1) := by decide +kernel
theorem dX7_sternSize_7 : decode cX7_sternSize 7 = .ok (.iload_n 1, 1) := by decide +kernel
theorem dX7_sternSize_8 : decode cX7_sternSize 8 = .ok (.invokevirtual 261, 3) := by decide +kernel
theorem dX7_sternSize_11 : decode cX7_sternSize 11 = .ok (.bipush 100, 2) := by decide +kernel
theorem dX7_sternSize_13 : decode cX7_sternSize 13 = .ok (.isub, 1) := by decide +kernel
theorem dX7_sternSize_14 : decode cX7_sternSize 14 = .ok (.ireturn, 1) := by decide +kernel
theorem dX7_sizeOf_0 : decode cX7_sizeOf 0 = .ok (.aload_n 0, 1) := by decide +kernel
theorem dX7_sizeOf_1 : decode cX7_sizeOf 1 = .ok (.getfield 7, 3) := by decide +kernel
theorem dX7_sizeOf_4 : decode cX7_sizeOf 4 = .ok (.bipush 20, 2) := by decide +kernel
theorem dX7_sizeOf_6 : decode cX7_sizeOf 6 = .ok (.iload_n 1, 1) := by decide +kernel
theorem dX7_sizeOf_7 : decode cX7_sizeOf 7 = .ok (.iadd, 1) := by decide +kernel
theorem dX7_sizeOf_8 : decode cX7_sizeOf 8 = .ok (.iaload, 1) := by decide +kernel
theorem dX7_sizeOf_9 : decode cX7_sizeOf 9 = .ok (.tableswitch 64 2 5 #[31, 64, 44, 50], 31) := by decide +kernel
theorem dX7_sizeOf_40 : decode cX7_sizeOf 40 = .ok (.aload_n 0, 1) := by decide +kernel
theorem dX7_sizeOf_41 : decode cX7_sizeOf 41 = .ok (.bipush 12, 2) := by decide +kernel
theorem dX7_sizeOf_43 : decode cX7_sizeOf 43 = .ok (.invokevirtual 258, 3) := by decide +kernel
theorem dX7_sizeOf_46 : decode cX7_sizeOf 46 = .ok (.aload_n 0, 1) := by decide +kernel
theorem dX7_sizeOf_47 : decode cX7_sizeOf 47 = .ok (.iload_n 1, 1) := by decide +kernel
theorem dX7_sizeOf_48 : decode cX7_sizeOf 48 = .ok (.invokevirtual 267, 3) := by decide +kernel
theorem dX7_sizeOf_51 : decode cX7_sizeOf 51 = .ok (.ineg, 1) := by decide +kernel
theorem dX7_sizeOf_52 : decode cX7_sizeOf 52 = .ok (.ireturn, 1) := by decide +kernel
theorem dX7_sizeOf_53 : decode cX7_sizeOf 53 = .ok (.aload_n 0, 1) := by decide +kernel
theorem dX7_sizeOf_54 : decode cX7_sizeOf 54 = .ok (.iload_n 1, 1) := by decide +kernel
theorem dX7_sizeOf_55 : decode cX7_sizeOf 55 = .ok (.invokevirtual 270, 3) := by decide +kernel
theorem dX7_sizeOf_58 : decode cX7_sizeOf 58 = .ok (.ireturn, 1) := by decide +kernel
theorem dX7_sizeOf_59 : decode cX7_sizeOf 59 = .ok (.aload_n 0, 1) := by decide +kernel
theorem dX7_sizeOf_60 : decode cX7_sizeOf 60 = .ok (.bipush 14, 2) := by decide +kernel
theorem dX7_sizeOf_62 : decode cX7_sizeOf 62 = .ok (.invokevirtual 258, 3) := by decide +kernel
theorem dX7_sizeOf_65 : decode cX7_sizeOf 65 = .ok (.iconst 2, 1) := by decide +kernel
theorem dX7_sizeOf_66 : decode cX7_sizeOf 66 = .ok (.aload_n 0, 1) := by decide +kernel
theorem dX7_sizeOf_67 : decode cX7_sizeOf 67 = .ok (.iload_n 1, 1) := by decide +kernel
theorem dX7_sizeOf_68 : decode cX7_sizeOf 68 = .ok (.invokevirtual 270, 3) := by decide +kernel
theorem dX7_sizeOf_71 : decode cX7_sizeOf 71 = .ok (.imul, 1) := by decide +kernel
theorem dX7_sizeOf_72 : decode cX7_sizeOf 72 = .ok (.ireturn, 1) := by decide +kernel
theorem dX7_sizeOf_73 : decode cX7_sizeOf 73 = .ok (.aload_n 0, 1) := by decide +kernel
theorem dX7_sizeOf_74 : decode cX7_sizeOf 74 = .ok (.iload_n 1, 1) := by decide +kernel
theorem dX7_sizeOf_75 : decode cX7_sizeOf 75 = .ok (.invokevirtual 267, 3) := by decide +kernel
theorem dX7_sizeOf_78 : decode cX7_sizeOf 78 = .ok (.ireturn, 1) := by decide +kernel
theorem dX7_lentMark_0 : decode cX7_lentMark 0 = .ok (.aload_n 0, 1) := by decide +kernel
theorem dX7_lentMark_1 : decode cX7_lentMark 1 = .ok (.bipush 20, 2) := by decide +kernel
theorem dX7_lentMark_3 : decode cX7_lentMark 3 = .ok (.invokevirtual 258, 3) := by decide +kernel
theorem dX7_lentMark_6 : decode cX7_lentMark 6 = .ok (.iload_n 1, 1) := by decide +kernel
theorem dX7_lentMark_7 : decode cX7_lentMark 7 = .ok (.ireturn, 1) := by decide +kernel
theorem dX7_soupsMark_0 : decode cX7_soupsMark 0 = .ok (.aload_n 0, 1) := by decide +kernel
theorem dX7_soupsMark_1 : decode cX7_soupsMark 1 = .ok (.bipush 21, 2) := by decide +kernel
theorem dX7_soupsMark_3 : decode cX7_soupsMark 3 = .ok (.invokevirtual 258, 3) := by decide +kernel
theorem dX7_soupsMark_6 : decode cX7_soupsMark 6 = .ok (.aload_n 0, 1) := by decide +kernel
theorem dX7_soupsMark_7 : decode cX7_soupsMark 7 = .ok (.iload_n 1, 1) := by decide +kernel
theorem dX7_soupsMark_8 : decode cX7_soupsMark 8 = .ok (.invokevirtual 273, 3) := by decide +kernel
theorem dX7_soupsMark_11 : decode cX7_soupsMark 11 = .ok (.aload_n 0, 1) := by decide +kernel
theorem dX7_soupsMark_12 : decode cX7_soupsMark 12 = .ok (.getfield 7, 3) := by decide +kernel
theorem dX7_soupsMark_15 : decode cX7_soupsMark 15 = .ok (.bipush 32, 2) := by decide +kernel
theorem dX7_soupsMark_17 : decode cX7_soupsMark 17 = .ok (.iload_n 1, 1) := by decide +kernel
theorem dX7_soupsMark_18 : decode cX7_soupsMark 18 = .ok (.iadd, 1) := by decide +kernel
theorem dX7_soupsMark_19 : decode cX7_soupsMark 19 = .ok (.iaload, 1) := by decide +kernel
theorem dX7_soupsMark_20 : decode cX7_soupsMark 20 = .ok (.iadd, 1) := by decide +kernel
theorem dX7_soupsMark_21 : decode cX7_soupsMark 21 = .ok (.ireturn, 1) := by decide +kernel
theorem dX7_mark_0 : decode cX7_mark 0 = .ok (.aload_n 0, 1) := by decide +kernel
theorem dX7_mark_1 : decode cX7_mark 1 = .ok (.getfield 7, 3) := by decide +kernel
theorem dX7_mark_4 : decode cX7_mark 4 = .ok (.bipush 20, 2) := by decide +kernel
theorem dX7_mark_6 : decode cX7_mark 6 = .ok (.iload_n 1, 1) := by decide +kernel
theorem dX7_mark_7 : decode cX7_mark 7 = .ok (.iadd, 1) := by decide +kernel
theorem dX7_mark_8 : decode cX7_mark 8 = .ok (.iaload, 1) := by decide +kernel
theorem dX7_mark_9 : decode cX7_mark 9 = .ok (.lookupswitch 57 #[(2, 43), (3, 27)], 27) := by decide +kernel
theorem dX7_mark_36 : decode cX7_mark 36 = .ok (.aload_n 0, 1) := by decide +kernel
theorem dX7_mark_37 : decode cX7_mark 37 = .ok (.bipush 22, 2) := by decide +kernel
theorem dX7_mark_39 : decode cX7_mark 39 = .ok (.invokevirtual 258, 3) := by decide +kernel
theorem dX7_mark_42 : decode cX7_mark 42 = .ok (.aload_n 0, 1) := by decide +kernel
theorem dX7_mark_43 : decode cX7_mark 43 = .ok (.iload_n 1, 1) := by decide +kernel
theorem dX7_mark_44 : decode cX7_mark 44 = .ok (.invokevirtual 276, 3) := by decide +kernel
theorem dX7_mark_47 : decode cX7_mark 47 = .ok (.sipush 1000, 3) := by decide +kernel
theorem dX7_mark_50 : decode cX7_mark 50 = .ok (.isub, 1) := by decide +kernel
theorem dX7_mark_51 : decode cX7_mark 51 = .ok (.ireturn, 1) := by decide +kernel
theorem dX7_mark_52 : decode cX7_mark 52 = .ok (.aload_n 0, 1) := by decide +kernel
theorem dX7_mark_53 : decode cX7_mark 53 = .ok (.bipush 24, 2) := by decide +kernel
theorem dX7_mark_55 : decode cX7_mark 55 = .ok (.invokevirtual 258, 3) := by decide +kernel
theorem dX7_mark_58 : decode cX7_mark 58 = .ok (.iconst 2, 1) := by decide +kernel
theorem dX7_mark_59 : decode cX7_mark 59 = .ok (.aload_n 0, 1) := by decide +kernel
theorem dX7_mark_60 : decode cX7_mark 60 = .ok (.iload_n 1, 1) := by decide +kernel
theorem dX7_mark_61 : decode cX7_mark 61 = .ok (.invokevirtual 276, 3) := by decide +kernel
theorem dX7_mark_64 : decode cX7_mark 64 = .ok (.imul, 1) := by decide +kernel
theorem dX7_mark_65 : decode cX7_mark 65 = .ok (.ireturn, 1) := by decide +kernel
theorem dX7_mark_66 : decode cX7_mark 66 = .ok (.aload_n 0, 1) := by decide +kernel
theorem dX7_mark_67 : decode cX7_mark 67 = .ok (.iload_n 1, 1) := by decide +kernel
theorem dX7_mark_68 : decode cX7_mark 68 = .ok (.invokevirtual 276, 3) := by decide +kernel
theorem dX7_mark_71 : decode cX7_mark 71 = .ok (.ireturn, 1) := by decide +kernel
theorem dX7_sternMark_0 : decode cX7_sternMark 0 = .ok (.aload_n 0, 1) := by decide +kernel
theorem dX7_sternMark_1 : decode cX7_sternMark 1 = .ok (.bipush 23, 2) := by decide +kernel
theorem dX7_sternMark_3 : decode cX7_sternMark 3 = .ok (.invokevirtual 258, 3) := by decide +kernel
theorem dX7_sternMark_6 : decode cX7_sternMark 6 = .ok (.aload_n 0, 1) := by decide +kernel
theorem dX7_sternMark_7 : decode cX7_sternMark 7 = .ok (.iload_n 1, 1) := by decide +kernel
theorem dX7_sternMark_8 : decode cX7_sternMark 8 = .ok (.invokevirtual 273, 3) := by decide +kernel
theorem dX7_sternMark_11 : decode cX7_sternMark 11 = .ok (.istore_n 2, 1) := by decide +kernel
theorem dX7_sternMark_12 : decode cX7_sternMark 12 = .ok (.iload_n 2, 1) := by decide +kernel
theorem dX7_sternMark_13 : decode cX7_sternMark 13 = .ok (.aload_n 0, 1) := by decide +kernel
theorem dX7_sternMark_14 : decode cX7_sternMark 14 = .ok (.iload_n 1, 1) := by decide +kernel
theorem dX7_sternMark_15 : decode cX7_sternMark 15 = .ok (.invokevirtual 279, 3) := by decide +kernel
theorem dX7_sternMark_18 : decode cX7_sternMark 18 = .ok (.isub, 1) := by decide +kernel
theorem dX7_sternMark_19 : decode cX7_sternMark 19 = .ok (.ireturn, 1) := by decide +kernel
theorem dX7_ask_0 : decode cX7_ask 0 = .ok (.aload_n 0, 1) := by decide +kernel
theorem dX7_ask_1 : decode cX7_ask 1 = .ok (.iload_n 1, 1) := by decide +kernel
theorem dX7_ask_2 : decode cX7_ask 2 = .ok (.invokevirtual 176, 3) := by decide +kernel
theorem dX7_ask_5 : decode cX7_ask 5 = .ok (.ifCond .eq 13, 3) := by decide +kernel
theorem dX7_ask_8 : decode cX7_ask 8 = .ok (.iload_n 2, 1) := by decide +kernel
theorem dX7_ask_9 : decode cX7_ask 9 = .ok (.i2l, 1) := by decide +kernel
theorem dX7_ask_10 : decode cX7_ask 10 = .ok (.lconst 0, 1) := by decide +kernel
theorem dX7_ask_11 : decode cX7_ask 11 = .ok (.lconst 1, 1) := by decide +kernel
theorem dX7_ask_12 : decode cX7_ask 12 = .ok (.invokestatic 48, 3) := by decide +kernel
theorem dX7_ask_15 : decode cX7_ask 15 = .ok (.ifCond .ne 6, 3) := by decide +kernel
theorem dX7_ask_18 : decode cX7_ask 18 = .ok (.ldc 58, 2) := by decide +kernel
theorem dX7_ask_20 : decode cX7_ask 20 = .ok (.ireturn, 1) := by decide +kernel
theorem dX7_ask_21 : decode cX7_ask 21 = .ok (.aload_n 0, 1) := by decide +kernel
theorem dX7_ask_22 : decode cX7_ask 22 = .ok (.iconst 0, 1) := by decide +kernel
theorem dX7_ask_23 : decode cX7_ask 23 = .ok (.putfield 255, 3) := by decide +kernel
theorem dX7_ask_26 : decode cX7_ask 26 = .ok (.iload_n 2, 1) := by decide +kernel
theorem dX7_ask_27 : decode cX7_ask 27 = .ok (.ifCond .ne 11, 3) := by decide +kernel
theorem dX7_ask_30 : decode cX7_ask 30 = .ok (.aload_n 0, 1) := by decide +kernel
theorem dX7_ask_31 : decode cX7_ask 31 = .ok (.iload_n 1, 1) := by decide +kernel
theorem dX7_ask_32 : decode cX7_ask 32 = .ok (.invokevirtual 279, 3) := by decide +kernel
theorem dX7_ask_35 : decode cX7_ask 35 = .ok (.goto 25, 3) := by decide +kernel
theorem dX7_ask_38 : decode cX7_ask 38 = .ok (.aload_n 0, 1) := by decide +kernel
theorem dX7_ask_39 : decode cX7_ask 39 = .ok (.iload_n 1, 1) := by decide +kernel
theorem dX7_ask_40 : decode cX7_ask 40 = .ok (.iconst 4, 1) := by decide +kernel
theorem dX7_ask_41 : decode cX7_ask 41 = .ok (.invokevirtual 252, 3) := by decide +kernel
theorem dX7_ask_44 : decode cX7_ask 44 = .ok (.ifCond .eq 11, 3) := by decide +kernel
theorem dX7_ask_47 : decode cX7_ask 47 = .ok (.aload_n 0, 1) := by decide +kernel
theorem dX7_ask_48 : decode cX7_ask 48 = .ok (.iload_n 1, 1) := by decide +kernel
theorem dX7_ask_49 : decode cX7_ask 49 = .ok (.invokevirtual 282, 3) := by decide +kernel
theorem dX7_ask_52 : decode cX7_ask 52 = .ok (.goto 8, 3) := by decide +kernel
theorem dX7_ask_55 : decode cX7_ask 55 = .ok (.aload_n 0, 1) := by decide +kernel
theorem dX7_ask_56 : decode cX7_ask 56 = .ok (.iload_n 1, 1) := by decide +kernel
theorem dX7_ask_57 : decode cX7_ask 57 = .ok (.invokevirtual 264, 3) := by decide +kernel
theorem dX7_ask_60 : decode cX7_ask 60 = .ok (.ireturn, 1) := by decide +kernel
theorem dX7_trace_0 : decode cX7_trace 0 = .ok (.iload_n 1, 1) := by decide +kernel
theorem dX7_trace_1 : decode cX7_trace 1 = .ok (.i2l, 1) := by decide +kernel
theorem dX7_trace_2 : decode cX7_trace 2 = .ok (.lconst 0, 1) := by decide +kernel
theorem dX7_trace_3 : decode cX7_trace 3 = .ok (.aload_n 0, 1) := by decide +kernel
theorem dX7_trace_4 : decode cX7_trace 4 = .ok (.getfield 255, 3) := by decide +kernel
theorem dX7_trace_7 : decode cX7_trace 7 = .ok (.iconst 1, 1) := by decide +kernel
theorem dX7_trace_8 : decode cX7_trace 8 = .ok (.isub, 1) := by decide +kernel
theorem dX7_trace_9 : decode cX7_trace 9 = .ok (.i2l, 1) := by decide +kernel
theorem dX7_trace_10 : decode cX7_trace 10 = .ok (.invokestatic 48, 3) := by decide +kernel
theorem dX7_trace_13 : decode cX7_trace 13 = .ok (.ifCond .eq 12, 3) := by decide +kernel
theorem dX7_trace_16 : decode cX7_trace 16 = .ok (.aload_n 0, 1) := by decide +kernel
theorem dX7_trace_17 : decode cX7_trace 17 = .ok (.getfield 29, 3) := by decide +kernel
theorem dX7_trace_20 : decode cX7_trace 20 = .ok (.iload_n 1, 1) := by decide +kernel
theorem dX7_trace_21 : decode cX7_trace 21 = .ok (.iaload, 1) := by decide +kernel
theorem dX7_trace_22 : decode cX7_trace 22 = .ok (.goto 5, 3) := by decide +kernel
theorem dX7_trace_25 : decode cX7_trace 25 = .ok (.ldc 144, 2) := by decide +kernel
theorem dX7_trace_27 : decode cX7_trace 27 = .ok (.ireturn, 1) := by decide +kernel
theorem dX7_count_0 : decode cX7_count 0 = .ok (.iconst 0, 1) := by decide +kernel
theorem dX7_count_1 : decode cX7_count 1 = .ok (.istore_n 2, 1) := by decide +kernel
theorem dX7_count_2 : decode cX7_count 2 = .ok (.iload_n 1, 1) := by decide +kernel
theorem dX7_count_3 : decode cX7_count 3 = .ok (.tableswitch 122 0 7 #[45, 78, 85, 92, 99, 105, 112, 117], 45) := by decide +kernel
theorem dX7_count_48 : decode cX7_count 48 = .ok (.iconst 0, 1) := by decide +kernel
theorem dX7_count_49 : decode cX7_count 49 = .ok (.istore_n 3, 1) := by decide +kernel
theorem dX7_count_50 : decode cX7_count 50 = .ok (.iload_n 3, 1) := by decide +kernel
theorem dX7_count_51 : decode cX7_count 51 = .ok (.bipush 8, 2) := by decide +kernel
theorem dX7_count_53 : decode cX7_count 53 = .ok (.if_icmp .ge 26, 3) := by decide +kernel
theorem dX7_count_56 : decode cX7_count 56 = .ok (.iload_n 2, 1) := by decide +kernel
theorem dX7_count_57 : decode cX7_count 57 = .ok (.aload_n 0, 1) := by decide +kernel
theorem dX7_count_58 : decode cX7_count 58 = .ok (.getfield 20, 3) := by decide +kernel
theorem dX7_count_61 : decode cX7_count 61 = .ok (.iload_n 3, 1) := by decide +kernel
theorem dX7_count_62 : decode cX7_count 62 = .ok (.iaload, 1) := by decide +kernel
theorem dX7_count_63 : decode cX7_count 63 = .ok (.ifCond .ge 7, 3) := by decide +kernel
theorem dX7_count_66 : decode cX7_count 66 = .ok (.iconst 0, 1) := by decide +kernel
theorem dX7_count_67 : decode cX7_count 67 = .ok (.goto 4, 3) := by decide +kernel
theorem dX7_count_70 : decode cX7_count 70 = .ok (.iconst 1, 1) := by decide +kernel
theorem dX7_count_71 : decode cX7_count 71 = .ok (.iadd, 1) := by decide +kernel
theorem dX7_count_72 : decode cX7_count 72 = .ok (.istore_n 2, 1) := by decide +kernel
theorem dX7_count_73 : decode cX7_count 73 = .ok (.iinc 3 1, 3) := by decide +kernel
theorem dX7_count_76 : decode cX7_count 76 = .ok (.goto (-26), 3) := by decide +kernel
theorem dX7_count_79 : decode cX7_count 79 = .ok (.iload_n 2, 1) := by decide +kernel
theorem dX7_count_80 : decode cX7_count 80 = .ok (.ireturn, 1) := by decide +kernel
theorem dX7_count_81 : decode cX7_count 81 = .ok (.aload_n 0, 1) := by decide +kernel
theorem dX7_count_82 : decode cX7_count 82 = .ok (.getfield 7, 3) := by decide +kernel
theorem dX7_count_85 : decode cX7_count 85 = .ok (.iconst 0, 1) := by decide +kernel
theorem dX7_count_86 : decode cX7_count 86 = .ok (.iaload, 1) := by decide +kernel
theorem dX7_count_87 : decode cX7_count 87 = .ok (.ireturn, 1) := by decide +kernel
theorem dX7_count_88 : decode cX7_count 88 = .ok (.aload_n 0, 1) := by decide +kernel
theorem dX7_count_89 : decode cX7_count 89 = .ok (.getfield 7, 3) := by decide +kernel
theorem dX7_count_92 : decode cX7_count 92 = .ok (.iconst 1, 1) := by decide +kernel
theorem dX7_count_93 : decode cX7_count 93 = .ok (.iaload, 1) := by decide +kernel
theorem dX7_count_94 : decode cX7_count 94 = .ok (.ireturn, 1) := by decide +kernel
theorem dX7_count_95 : decode cX7_count 95 = .ok (.aload_n 0, 1) := by decide +kernel
theorem dX7_count_96 : decode cX7_count 96 = .ok (.getfield 7, 3) := by decide +kernel
theorem dX7_count_99 : decode cX7_count 99 = .ok (.iconst 4, 1) := by decide +kernel
theorem dX7_count_100 : decode cX7_count 100 = .ok (.iaload, 1) := by decide +kernel
theorem dX7_count_101 : decode cX7_count 101 = .ok (.ireturn, 1) := by decide +kernel
theorem dX7_count_102 : decode cX7_count 102 = .ok (.aload_n 0, 1) := by decide +kernel
theorem dX7_count_103 : decode cX7_count 103 = .ok (.iconst 5, 1) := by decide +kernel
theorem dX7_count_104 : decode cX7_count 104 = .ok (.invokevirtual 249, 3) := by decide +kernel
theorem dX7_count_107 : decode cX7_count 107 = .ok (.ireturn, 1) := by decide +kernel
theorem dX7_count_108 : decode cX7_count 108 = .ok (.aload_n 0, 1) := by decide +kernel
theorem dX7_count_109 : decode cX7_count 109 = .ok (.bipush 10, 2) := by decide +kernel
theorem dX7_count_111 : decode cX7_count 111 = .ok (.invokevirtual 249, 3) := by decide +kernel
theorem dX7_count_114 : decode cX7_count 114 = .ok (.ireturn, 1) := by decide +kernel
theorem dX7_count_115 : decode cX7_count 115 = .ok (.aload_n 0, 1) := by decide +kernel
theorem dX7_count_116 : decode cX7_count 116 = .ok (.getfield 140, 3) := by decide +kernel
theorem dX7_count_119 : decode cX7_count 119 = .ok (.ireturn, 1) := by decide +kernel
theorem dX7_count_120 : decode cX7_count 120 = .ok (.aload_n 0, 1) := by decide +kernel
theorem dX7_count_121 : decode cX7_count 121 = .ok (.getfield 76, 3) := by decide +kernel
theorem dX7_count_124 : decode cX7_count 124 = .ok (.ireturn, 1) := by decide +kernel
theorem dX7_count_125 : decode cX7_count 125 = .ok (.ldc 58, 2) := by decide +kernel
theorem dX7_count_127 : decode cX7_count 127 = .ok (.ireturn, 1) := by decide +kernel
theorem dX7_status_0 : decode cX7_status 0 = .ok (.aload_n 0, 1) := by decide +kernel
theorem dX7_status_1 : decode cX7_status 1 = .ok (.getfield 41, 3) := by decide +kernel
theorem dX7_status_4 : decode cX7_status 4 = .ok (.ireturn, 1) := by decide +kernel
theorem dJ6_bitCount_0f7a4_0 : decode cJ6_bitCount_0f7a4 0 = .ok (.iload_n 0, 1) := by decide +kernel
theorem dJ6_bitCount_0f7a4_1 : decode cJ6_bitCount_0f7a4 1 = .ok (.iload_n 0, 1) := by decide +kernel
theorem dJ6_bitCount_0f7a4_2 : decode cJ6_bitCount_0f7a4 2 = .ok (.iconst 1, 1) := by decide +kernel
theorem dJ6_bitCount_0f7a4_3 : decode cJ6_bitCount_0f7a4 3 = .ok (.iushr, 1) := by decide +kernel
theorem dJ6_bitCount_0f7a4_4 : decode cJ6_bitCount_0f7a4 4 = .ok (.ldc_w 265, 3) := by decide +kernel
theorem dJ6_bitCount_0f7a4_7 : decode cJ6_bitCount_0f7a4 7 = .ok (.iand, 1) := by decide +kernel
theorem dJ6_bitCount_0f7a4_8 : decode cJ6_bitCount_0f7a4 8 = .ok (.isub, 1) := by decide +kernel
theorem dJ6_bitCount_0f7a4_9 : decode cJ6_bitCount_0f7a4 9 = .ok (.istore_n 0, 1) := by decide +kernel
theorem dJ6_bitCount_0f7a4_10 : decode cJ6_bitCount_0f7a4 10 = .ok (.iload_n 0, 1) := by decide +kernel
theorem dJ6_bitCount_0f7a4_11 : decode cJ6_bitCount_0f7a4 11 = .ok (.ldc_w 266, 3) := by decide +kernel
theorem dJ6_bitCount_0f7a4_14 : decode cJ6_bitCount_0f7a4 14 = .ok (.iand, 1) := by decide +kernel
theorem dJ6_bitCount_0f7a4_15 : decode cJ6_bitCount_0f7a4 15 = .ok (.iload_n 0, 1) := by decide +kernel
theorem dJ6_bitCount_0f7a4_16 : decode cJ6_bitCount_0f7a4 16 = .ok (.iconst 2, 1) := by decide +kernel
theorem dJ6_bitCount_0f7a4_17 : decode cJ6_bitCount_0f7a4 17 = .ok (.iushr, 1) := by decide +kernel
theorem dJ6_bitCount_0f7a4_18 : decode cJ6_bitCount_0f7a4 18 = .ok (.ldc_w 266, 3) := by decide +kernel
theorem dJ6_bitCount_0f7a4_21 : decode cJ6_bitCount_0f7a4 21 = .ok (.iand, 1) := by decide +kernel
theorem dJ6_bitCount_0f7a4_22 : decode cJ6_bitCount_0f7a4 22 = .ok (.iadd, 1) := by decide +kernel
theorem dJ6_bitCount_0f7a4_23 : decode cJ6_bitCount_0f7a4 23 = .ok (.istore_n 0, 1) := by decide +kernel
theorem dJ6_bitCount_0f7a4_24 : decode cJ6_bitCount_0f7a4 24 = .ok (.iload_n 0, 1) := by decide +kernel
theorem dJ6_bitCount_0f7a4_25 : decode cJ6_bitCount_0f7a4 25 = .ok (.iload_n 0, 1) := by decide +kernel
theorem dJ6_bitCount_0f7a4_26 : decode cJ6_bitCount_0f7a4 26 = .ok (.iconst 4, 1) := by decide +kernel
theorem dJ6_bitCount_0f7a4_27 : decode cJ6_bitCount_0f7a4 27 = .ok (.iushr, 1) := by decide +kernel
theorem dJ6_bitCount_0f7a4_28 : decode cJ6_bitCount_0f7a4 28 = .ok (.iadd, 1) := by decide +kernel
theorem dJ6_bitCount_0f7a4_29 : decode cJ6_bitCount_0f7a4 29 = .ok (.ldc_w 267, 3) := by decide +kernel
theorem dJ6_bitCount_0f7a4_32 : decode cJ6_bitCount_0f7a4 32 = .ok (.iand, 1) := by decide +kernel
theorem dJ6_bitCount_0f7a4_33 : decode cJ6_bitCount_0f7a4 33 = .ok (.istore_n 0, 1) := by decide +kernel
theorem dJ6_bitCount_0f7a4_34 : decode cJ6_bitCount_0f7a4 34 = .ok (.iload_n 0, 1) := by decide +kernel
theorem dJ6_bitCount_0f7a4_35 : decode cJ6_bitCount_0f7a4 35 = .ok (.iload_n 0, 1) := by decide +kernel
theorem dJ6_bitCount_0f7a4_36 : decode cJ6_bitCount_0f7a4 36 = .ok (.bipush 8, 2) := by decide +kernel
theorem dJ6_bitCount_0f7a4_38 : decode cJ6_bitCount_0f7a4 38 = .ok (.iushr, 1) := by decide +kernel
theorem dJ6_bitCount_0f7a4_39 : decode cJ6_bitCount_0f7a4 39 = .ok (.iadd, 1) := by decide +kernel
theorem dJ6_bitCount_0f7a4_40 : decode cJ6_bitCount_0f7a4 40 = .ok (.istore_n 0, 1) := by decide +kernel
theorem dJ6_bitCount_0f7a4_41 : decode cJ6_bitCount_0f7a4 41 = .ok (.iload_n 0, 1) := by decide +kernel
theorem dJ6_bitCount_0f7a4_42 : decode cJ6_bitCount_0f7a4 42 = .ok (.iload_n 0, 1) := by decide +kernel
theorem dJ6_bitCount_0f7a4_43 : decode cJ6_bitCount_0f7a4 43 = .ok (.bipush 16, 2) := by decide +kernel
theorem dJ6_bitCount_0f7a4_45 : decode cJ6_bitCount_0f7a4 45 = .ok (.iushr, 1) := by decide +kernel
theorem dJ6_bitCount_0f7a4_46 : decode cJ6_bitCount_0f7a4 46 = .ok (.iadd, 1) := by decide +kernel
theorem dJ6_bitCount_0f7a4_47 : decode cJ6_bitCount_0f7a4 47 = .ok (.istore_n 0, 1) := by decide +kernel
theorem dJ6_bitCount_0f7a4_48 : decode cJ6_bitCount_0f7a4 48 = .ok (.iload_n 0, 1) := by decide +kernel
theorem dJ6_bitCount_0f7a4_49 : decode cJ6_bitCount_0f7a4 49 = .ok (.bipush 63, 2) := by decide +kernel
theorem dJ6_bitCount_0f7a4_51 : decode cJ6_bitCount_0f7a4 51 = .ok (.iand, 1) := by decide +kernel
theorem dJ6_bitCount_0f7a4_52 : decode cJ6_bitCount_0f7a4 52 = .ok (.ireturn, 1) := by decide +kernel
theorem dJ9_max_7cf53_0 : decode cJ9_max_7cf53 0 = .ok (.iload_n 0, 1) := by decide +kernel
theorem dJ9_max_7cf53_1 : decode cJ9_max_7cf53 1 = .ok (.iload_n 1, 1) := by decide +kernel
theorem dJ9_max_7cf53_2 : decode cJ9_max_7cf53 2 = .ok (.if_icmp .lt 7, 3) := by decide +kernel
theorem dJ9_max_7cf53_5 : decode cJ9_max_7cf53 5 = .ok (.iload_n 0, 1) := by decide +kernel
theorem dJ9_max_7cf53_6 : decode cJ9_max_7cf53 6 = .ok (.goto 4, 3) := by decide +kernel
theorem dJ9_max_7cf53_9 : decode cJ9_max_7cf53 9 = .ok (.iload_n 1, 1) := by decide +kernel
theorem dJ9_max_7cf53_10 : decode cJ9_max_7cf53 10 = .ok (.ireturn, 1) := by decide +kernel
theorem dJ9_max_f86c9_0 : decode cJ9_max_f86c9 0 = .ok (.lload_n 0, 1) := by decide +kernel
theorem dJ9_max_f86c9_1 : decode cJ9_max_f86c9 1 = .ok (.lload_n 2, 1) := by decide +kernel
theorem dJ9_max_f86c9_2 : decode cJ9_max_f86c9 2 = .ok (.lcmp, 1) := by decide +kernel
theorem dJ9_max_f86c9_3 : decode cJ9_max_f86c9 3 = .ok (.ifCond .lt 7, 3) := by decide +kernel
theorem dJ9_max_f86c9_6 : decode cJ9_max_f86c9 6 = .ok (.lload_n 0, 1) := by decide +kernel
theorem dJ9_max_f86c9_7 : decode cJ9_max_f86c9 7 = .ok (.goto 4, 3) := by decide +kernel
theorem dJ9_max_f86c9_10 : decode cJ9_max_f86c9 10 = .ok (.lload_n 2, 1) := by decide +kernel
theorem dJ9_max_f86c9_11 : decode cJ9_max_f86c9 11 = .ok (.lreturn, 1) := by decide +kernel
theorem dJ9_min_7cf53_0 : decode cJ9_min_7cf53 0 = .ok (.iload_n 0, 1) := by decide +kernel
theorem dJ9_min_7cf53_1 : decode cJ9_min_7cf53 1 = .ok (.iload_n 1, 1) := by decide +kernel
theorem dJ9_min_7cf53_2 : decode cJ9_min_7cf53 2 = .ok (.if_icmp .gt 7, 3) := by decide +kernel
theorem dJ9_min_7cf53_5 : decode cJ9_min_7cf53 5 = .ok (.iload_n 0, 1) := by decide +kernel
theorem dJ9_min_7cf53_6 : decode cJ9_min_7cf53 6 = .ok (.goto 4, 3) := by decide +kernel
theorem dJ9_min_7cf53_9 : decode cJ9_min_7cf53 9 = .ok (.iload_n 1, 1) := by decide +kernel
theorem dJ9_min_7cf53_10 : decode cJ9_min_7cf53 10 = .ok (.ireturn, 1) := by decide +kernel
theorem dL_law_0 : decode cL_law 0 = .ok (.new 7, 3) := by decide +kernel
theorem dL_law_3 : decode cL_law 3 = .ok (.dup, 1) := by decide +kernel
theorem dL_law_4 : decode cL_law 4 = .ok (.invokespecial 9, 3) := by decide +kernel
theorem dL_law_7 : decode cL_law 7 = .ok (.astore_n 1, 1) := by decide +kernel
theorem dL_law_8 : decode cL_law 8 = .ok (.new 10, 3) := by decide +kernel
theorem dL_law_11 : decode cL_law 11 = .ok (.dup, 1) := by decide +kernel
theorem dL_law_12 : decode cL_law 12 = .ok (.invokespecial 12, 3) := by decide +kernel
theorem dL_law_15 : decode cL_law 15 = .ok (.astore_n 2, 1) := by decide +kernel
theorem dL_law_16 : decode cL_law 16 = .ok (.iconst 0, 1) := by decide +kernel
theorem dL_law_17 : decode cL_law 17 = .ok (.istore_n 3, 1) := by decide +kernel
theorem dL_law_18 : decode cL_law 18 = .ok (.iload_n 3, 1) := by decide +kernel
theorem dL_law_19 : decode cL_law 19 = .ok (.aload_n 0, 1) := by decide +kernel
theorem dL_law_20 : decode cL_law 20 = .ok (.arraylength, 1) := by decide +kernel
theorem dL_law_21 : decode cL_law 21 = .ok (.bipush 6, 2) := by decide +kernel
theorem dL_law_23 : decode cL_law 23 = .ok (.isub, 1) := by decide +kernel
theorem dL_law_24 : decode cL_law 24 = .ok (.if_icmp .gt 1491, 3) := by decide +kernel
theorem dL_law_27 : decode cL_law 27 = .ok (.aload_n 0, 1) := by decide +kernel
theorem dL_law_28 : decode cL_law 28 = .ok (.iload_n 3, 1) := by decide +kernel
theorem dL_law_29 : decode cL_law 29 = .ok (.iaload, 1) := by decide +kernel
theorem dL_law_30 : decode cL_law 30 = .ok (.bipush 63, 2) := by decide +kernel
theorem dL_law_32 : decode cL_law 32 = .ok (.iand, 1) := by decide +kernel
theorem dL_law_33 : decode cL_law 33 = .ok (.tableswitch 1476 0 39 #[175, 218, 261, 324, 347, 370, 383, 396, 409, 432, 465, 498, 531, 574, 607, 640, 673, 716, 749, 772, 795, 818, 861, 894, 917, 950, 983, 1046, 1109, 1172, 1195, 1239, 1282, 1305, 1328, 1351, 1384, 1417, 1440, 1463], 175) := by decide +kernel
theorem dL_law_208 : decode cL_law 208 = .ok (.aload_n 1, 1) := by decide +kernel
theorem dL_law_209 : decode cL_law 209 = .ok (.aload_n 0, 1) := by decide +kernel
theorem dL_law_210 : decode cL_law 210 = .ok (.iload_n 3, 1) := by decide +kernel
theorem dL_law_211 : decode cL_law 211 = .ok (.iconst 1, 1) := by decide +kernel
theorem dL_law_212 : decode cL_law 212 = .ok (.iadd, 1) := by decide +kernel
theorem dL_law_213 : decode cL_law 213 = .ok (.iaload, 1) := by decide +kernel
theorem dL_law_214 : decode cL_law 214 = .ok (.aload_n 0, 1) := by decide +kernel
theorem dL_law_215 : decode cL_law 215 = .ok (.iload_n 3, 1) := by decide +kernel
theorem dL_law_216 : decode cL_law 216 = .ok (.iconst 2, 1) := by decide +kernel
theorem dL_law_217 : decode cL_law 217 = .ok (.iadd, 1) := by decide +kernel
theorem dL_law_218 : decode cL_law 218 = .ok (.iaload, 1) := by decide +kernel
theorem dL_law_219 : decode cL_law 219 = .ok (.aload_n 0, 1) := by decide +kernel
theorem dL_law_220 : decode cL_law 220 = .ok (.iload_n 3, 1) := by decide +kernel
theorem dL_law_221 : decode cL_law 221 = .ok (.iconst 3, 1) := by decide +kernel
theorem dL_law_222 : decode cL_law 222 = .ok (.iadd, 1) := by decide +kernel
theorem dL_law_223 : decode cL_law 223 = .ok (.iaload, 1) := by decide +kernel
theorem dL_law_224 : decode cL_law 224 = .ok (.invokevirtual 13, 3) := by decide +kernel
theorem dL_law_227 : decode cL_law 227 = .ok (.aload_n 2, 1) := by decide +kernel
theorem dL_law_228 : decode cL_law 228 = .ok (.aload_n 0, 1) := by decide +kernel
theorem dL_law_229 : decode cL_law 229 = .ok (.iload_n 3, 1) := by decide +kernel
theorem dL_law_230 : decode cL_law 230 = .ok (.iconst 1, 1) := by decide +kernel
theorem dL_law_231 : decode cL_law 231 = .ok (.iadd, 1) := by decide +kernel
theorem dL_law_232 : decode cL_law 232 = .ok (.iaload, 1) := by decide +kernel
theorem dL_law_233 : decode cL_law 233 = .ok (.aload_n 0, 1) := by decide +kernel
theorem dL_law_234 : decode cL_law 234 = .ok (.iload_n 3, 1) := by decide +kernel
theorem dL_law_235 : decode cL_law 235 = .ok (.iconst 2, 1) := by decide +kernel
theorem dL_law_236 : decode cL_law 236 = .ok (.iadd, 1) := by decide +kernel
theorem dL_law_237 : decode cL_law 237 = .ok (.iaload, 1) := by decide +kernel
theorem dL_law_238 : decode cL_law 238 = .ok (.aload_n 0, 1) := by decide +kernel
theorem dL_law_239 : decode cL_law 239 = .ok (.iload_n 3, 1) := by decide +kernel
theorem dL_law_240 : decode cL_law 240 = .ok (.iconst 3, 1) := by decide +kernel
theorem dL_law_241 : decode cL_law 241 = .ok (.iadd, 1) := by decide +kernel
theorem dL_law_242 : decode cL_law 242 = .ok (.iaload, 1) := by decide +kernel
theorem dL_law_243 : decode cL_law 243 = .ok (.invokevirtual 17, 3) := by decide +kernel
theorem dL_law_246 : decode cL_law 246 = .ok (.if_icmp .eq 1263, 3) := by decide +kernel
theorem dL_law_249 : decode cL_law 249 = .ok (.iconst 0, 1) := by decide +kernel
theorem dL_law_250 : decode cL_law 250 = .ok (.ireturn, 1) := by decide +kernel
theorem dL_law_251 : decode cL_law 251 = .ok (.aload_n 1, 1) := by decide +kernel
theorem dL_law_252 : decode cL_law 252 = .ok (.aload_n 0, 1) := by decide +kernel
theorem dL_law_253 : decode cL_law 253 = .ok (.iload_n 3, 1) := by decide +kernel
theorem dL_law_254 : decode cL_law 254 = .ok (.iconst 1, 1) := by decide +kernel
theorem dL_law_255 : decode cL_law 255 = .ok (.iadd, 1) := by decide +kernel
theorem dL_law_256 : decode cL_law 256 = .ok (.iaload, 1) := by decide +kernel
theorem dL_law_257 : decode cL_law 257 = .ok (.aload_n 0, 1) := by decide +kernel
theorem dL_law_258 : decode cL_law 258 = .ok (.iload_n 3, 1) := by decide +kernel
theorem dL_law_259 : decode cL_law 259 = .ok (.iconst 2, 1) := by decide +kernel
theorem dL_law_260 : decode cL_law 260 = .ok (.iadd, 1) := by decide +kernel
theorem dL_law_261 : decode cL_law 261 = .ok (.iaload, 1) := by decide +kernel
theorem dL_law_262 : decode cL_law 262 = .ok (.aload_n 0, 1) := by decide +kernel
theorem dL_law_263 : decode cL_law 263 = .ok (.iload_n 3, 1) := by decide +kernel
theorem dL_law_264 : decode cL_law 264 = .ok (.iconst 3, 1) := by decide +kernel
theorem dL_law_265 : decode cL_law 265 = .ok (.iadd, 1) := by decide +kernel
theorem dL_law_266 : decode cL_law 266 = .ok (.iaload, 1) := by decide +kernel
theorem dL_law_267 : decode cL_law 267 = .ok (.invokevirtual 18, 3) := by decide +kernel
theorem dL_law_270 : decode cL_law 270 = .ok (.aload_n 2, 1) := by decide +kernel
theorem dL_law_271 : decode cL_law 271 = .ok (.aload_n 0, 1) := by decide +kernel
theorem dL_law_272 : decode cL_law 272 = .ok (.iload_n 3, 1) := by decide +kernel
theorem dL_law_273 : decode cL_law 273 = .ok (.iconst 1, 1) := by decide +kernel
theorem dL_law_274 : decode cL_law 274 = .ok (.iadd, 1) := by decide +kernel
theorem dL_law_275 : decode cL_law 275 = .ok (.iaload, 1) := by decide +kernel
theorem dL_law_276 : decode cL_law 276 = .ok (.aload_n 0, 1) := by decide +kernel
theorem dL_law_277 : decode cL_law 277 = .ok (.iload_n 3, 1) := by decide +kernel
theorem dL_law_278 : decode cL_law 278 = .ok (.iconst 2, 1) := by decide +kernel
theorem dL_law_279 : decode cL_law 279 = .ok (.iadd, 1) := by decide +kernel
theorem dL_law_280 : decode cL_law 280 = .ok (.iaload, 1) := by decide +kernel
theorem dL_law_281 : decode cL_law 281 = .ok (.aload_n 0, 1) := by decide +kernel
theorem dL_law_282 : decode cL_law 282 = .ok (.iload_n 3, 1) := by decide +kernel
theorem dL_law_283 : decode cL_law 283 = .ok (.iconst 3, 1) := by decide +kernel
theorem dL_law_284 : decode cL_law 284 = .ok (.iadd, 1) := by decide +kernel
theorem dL_law_285 : decode cL_law 285 = .ok (.iaload, 1) := by decide +kernel
theorem dL_law_286 : decode cL_law 286 = .ok (.invokevirtual 21, 3) := by decide +kernel
theorem dL_law_289 : decode cL_law 289 = .ok (.if_icmp .eq 1220, 3) := by decide +kernel
theorem dL_law_292 : decode cL_law 292 = .ok (.iconst 0, 1) := by decide +kernel
theorem dL_law_293 : decode cL_law 293 = .ok (.ireturn, 1) := by decide +kernel
theorem dL_law_294 : decode cL_law 294 = .ok (.aload_n 1, 1) := by decide +kernel
theorem dL_law_295 : decode cL_law 295 = .ok (.aload_n 0, 1) := by decide +kernel
theorem dL_law_296 : decode cL_law 296 = .ok (.iload_n 3, 1) := by decide +kernel
theorem dL_law_297 : decode cL_law 297 = .ok (.iconst 1, 1) := by decide +kernel
theorem dL_law_298 : decode cL_law 298 = .ok (.iadd, 1) := by decide +kernel
theorem dL_law_299 : decode cL_law 299 = .ok (.iaload, 1) := by decide +kernel
theorem dL_law_300 : decode cL_law 300 = .ok (.aload_n 0, 1) := by decide +kernel
theorem dL_law_301 : decode cL_law 301 = .ok (.iload_n 3, 1) := by decide +kernel
theorem dL_law_302 : decode cL_law 302 = .ok (.iconst 2, 1) := by decide +kernel
theorem dL_law_303 : decode cL_law 303 = .ok (.iadd, 1) := by decide +kernel
theorem dL_law_304 : decode cL_law 304 = .ok (.iaload, 1) := by decide +kernel
theorem dL_law_305 : decode cL_law 305 = .ok (.aload_n 0, 1) := by decide +kernel
theorem dL_law_306 : decode cL_law 306 = .ok (.iload_n 3, 1) := by decide +kernel
theorem dL_law_307 : decode cL_law 307 = .ok (.iconst 3, 1) := by decide +kernel
theorem dL_law_308 : decode cL_law 308 = .ok (.iadd, 1) := by decide +kernel
theorem dL_law_309 : decode cL_law 309 = .ok (.iaload, 1) := by decide +kernel
theorem dL_law_310 : decode cL_law 310 = .ok (.aload_n 0, 1) := by decide +kernel
theorem dL_law_311 : decode cL_law 311 = .ok (.iload_n 3, 1) := by decide +kernel
theorem dL_law_312 : decode cL_law 312 = .ok (.iconst 4, 1) := by decide +kernel
theorem dL_law_313 : decode cL_law 313 = .ok (.iadd, 1) := by decide +kernel
theorem dL_law_314 : decode cL_law 314 = .ok (.iaload, 1) := by decide +kernel
theorem dL_law_315 : decode cL_law 315 = .ok (.aload_n 0, 1) := by decide +kernel
theorem dL_law_316 : decode cL_law 316 = .ok (.iload_n 3, 1) := by decide +kernel
theorem dL_law_317 : decode cL_law 317 = .ok (.iconst 5, 1) := by decide +kernel
theorem dL_law_318 : decode cL_law 318 = .ok (.iadd, 1) := by decide +kernel
theorem dL_law_319 : decode cL_law 319 = .ok (.iaload, 1) := by decide +kernel
theorem dL_law_320 : decode cL_law 320 = .ok (.invokevirtual 22, 3) := by decide +kernel
theorem dL_law_323 : decode cL_law 323 = .ok (.aload_n 2, 1) := by decide +kernel
theorem dL_law_324 : decode cL_law 324 = .ok (.aload_n 0, 1) := by decide +kernel
theorem dL_law_325 : decode cL_law 325 = .ok (.iload_n 3, 1) := by decide +kernel
theorem dL_law_326 : decode cL_law 326 = .ok (.iconst 1, 1) := by decide +kernel
theorem dL_law_327 : decode cL_law 327 = .ok (.iadd, 1) := by decide +kernel
theorem dL_law_328 : decode cL_law 328 = .ok (.iaload, 1) := by decide +kernel
theorem dL_law_329 : decode cL_law 329 = .ok (.aload_n 0, 1) := by decide +kernel
theorem dL_law_330 : decode cL_law 330 = .ok (.iload_n 3, 1) := by decide +kernel
theorem dL_law_331 : decode cL_law 331 = .ok (.iconst 2, 1) := by decide +kernel
theorem dL_law_332 : decode cL_law 332 = .ok (.iadd, 1) := by decide +kernel
theorem dL_law_333 : decode cL_law 333 = .ok (.iaload, 1) := by decide +kernel
theorem dL_law_334 : decode cL_law 334 = .ok (.aload_n 0, 1) := by decide +kernel
theorem dL_law_335 : decode cL_law 335 = .ok (.iload_n 3, 1) := by decide +kernel
theorem dL_law_336 : decode cL_law 336 = .ok (.iconst 3, 1) := by decide +kernel
theorem dL_law_337 : decode cL_law 337 = .ok (.iadd, 1) := by decide +kernel
theorem dL_law_338 : decode cL_law 338 = .ok (.iaload, 1) := by decide +kernel
theorem dL_law_339 : decode cL_law 339 = .ok (.aload_n 0, 1) := by decide +kernel
theorem dL_law_340 : decode cL_law 340 = .ok (.iload_n 3, 1) := by decide +kernel
theorem dL_law_341 : decode cL_law 341 = .ok (.iconst 4, 1) := by decide +kernel
theorem dL_law_342 : decode cL_law 342 = .ok (.iadd, 1) := by decide +kernel
theorem dL_law_343 : decode cL_law 343 = .ok (.iaload, 1) := by decide +kernel
theorem dL_law_344 : decode cL_law 344 = .ok (.aload_n 0, 1) := by decide +kernel
theorem dL_law_345 : decode cL_law 345 = .ok (.iload_n 3, 1) := by decide +kernel
theorem dL_law_346 : decode cL_law 346 = .ok (.iconst 5, 1) := by decide +kernel
theorem dL_law_347 : decode cL_law 347 = .ok (.iadd, 1) := by decide +kernel
theorem dL_law_348 : decode cL_law 348 = .ok (.iaload, 1) := by decide +kernel
theorem dL_law_349 : decode cL_law 349 = .ok (.invokevirtual 26, 3) := by decide +kernel
theorem dL_law_352 : decode cL_law 352 = .ok (.if_icmp .eq 1157, 3) := by decide +kernel
theorem dL_law_355 : decode cL_law 355 = .ok (.iconst 0, 1) := by decide +kernel
theorem dL_law_356 : decode cL_law 356 = .ok (.ireturn, 1) := by decide +kernel
theorem dL_law_357 : decode cL_law 357 = .ok (.aload_n 1, 1) := by decide +kernel
theorem dL_law_358 : decode cL_law 358 = .ok (.aload_n 0, 1) := by decide +kernel
theorem dL_law_359 : decode cL_law 359 = .ok (.iload_n 3, 1) := by decide +kernel
theorem dL_law_360 : decode cL_law 360 = .ok (.iconst 1, 1) := by decide +kernel
theorem dL_law_361 : decode cL_law 361 = .ok (.iadd, 1) := by decide +kernel
theorem dL_law_362 : decode cL_law 362 = .ok (.iaload, 1) := by decide +kernel
theorem dL_law_363 : decode cL_law 363 = .ok (.invokevirtual 27, 3) := by decide +kernel
theorem dL_law_366 : decode cL_law 366 = .ok (.aload_n 2, 1) := by decide +kernel
theorem dL_law_367 : decode cL_law 367 = .ok (.aload_n 0, 1) := by decide +kernel
theorem dL_law_368 : decode cL_law 368 = .ok (.iload_n 3, 1) := by decide +kernel
theorem dL_law_369 : decode cL_law 369 = .ok (.iconst 1, 1) := by decide +kernel
theorem dL_law_370 : decode cL_law 370 = .ok (.iadd, 1) := by decide +kernel
theorem dL_law_371 : decode cL_law 371 = .ok (.iaload, 1) := by decide +kernel
theorem dL_law_372 : decode cL_law 372 = .ok (.invokevirtual 31, 3) := by decide +kernel
theorem dL_law_375 : decode cL_law 375 = .ok (.if_icmp .eq 1134, 3) := by decide +kernel
theorem dL_law_378 : decode cL_law 378 = .ok (.iconst 0, 1) := by decide +kernel
theorem dL_law_379 : decode cL_law 379 = .ok (.ireturn, 1) := by decide +kernel
theorem dL_law_380 : decode cL_law 380 = .ok (.aload_n 1, 1) := by decide +kernel
theorem dL_law_381 : decode cL_law 381 = .ok (.aload_n 0, 1) := by decide +kernel
theorem dL_law_382 : decode cL_law 382 = .ok (.iload_n 3, 1) := by decide +kernel
theorem dL_law_383 : decode cL_law 383 = .ok (.iconst 1, 1) := by decide +kernel
theorem dL_law_384 : decode cL_law 384 = .ok (.iadd, 1) := by decide +kernel
theorem dL_law_385 : decode cL_law 385 = .ok (.iaload, 1) := by decide +kernel
theorem dL_law_386 : decode cL_law 386 = .ok (.invokevirtual 32, 3) := by decide +kernel
theorem dL_law_389 : decode cL_law 389 = .ok (.aload_n 2, 1) := by decide +kernel
theorem dL_law_390 : decode cL_law 390 = .ok (.aload_n 0, 1) := by decide +kernel
theorem dL_law_391 : decode cL_law 391 = .ok (.iload_n 3, 1) := by decide +kernel
theorem dL_law_392 : decode cL_law 392 = .ok (.iconst 1, 1) := by decide +kernel
theorem dL_law_393 : decode cL_law 393 = .ok (.iadd, 1) := by decide +kernel
theorem dL_law_394 : decode cL_law 394 = .ok (.iaload, 1) := by decide +kernel
theorem dL_law_395 : decode cL_law 395 = .ok (.invokevirtual 35, 3) := by decide +kernel
theorem dL_law_398 : decode cL_law 398 = .ok (.if_icmp .eq 1111, 3) := by decide +kernel
theorem dL_law_401 : decode cL_law 401 = .ok (.iconst 0, 1) := by decide +kernel
theorem dL_law_402 : decode cL_law 402 = .ok (.ireturn, 1) := by decide +kernel
theorem dL_law_403 : decode cL_law 403 = .ok (.aload_n 1, 1) := by decide +kernel
theorem dL_law_404 : decode cL_law 404 = .ok (.invokevirtual 36, 3) := by decide +kernel
theorem dL_law_407 : decode cL_law 407 = .ok (.aload_n 2, 1) := by decide +kernel
theorem dL_law_408 : decode cL_law 408 = .ok (.invokevirtual 40, 3) := by decide +kernel
theorem dL_law_411 : decode cL_law 411 = .ok (.if_icmp .eq 1098, 3) := by decide +kernel
theorem dL_law_414 : decode cL_law 414 = .ok (.iconst 0, 1) := by decide +kernel
theorem dL_law_415 : decode cL_law 415 = .ok (.ireturn, 1) := by decide +kernel
theorem dL_law_416 : decode cL_law 416 = .ok (.aload_n 1, 1) := by decide +kernel
theorem dL_law_417 : decode cL_law 417 = .ok (.invokevirtual 41, 3) := by decide +kernel
theorem dL_law_420 : decode cL_law 420 = .ok (.aload_n 2, 1) := by decide +kernel
theorem dL_law_421 : decode cL_law 421 = .ok (.invokevirtual 44, 3) := by decide +kernel
theorem dL_law_424 : decode cL_law 424 = .ok (.if_icmp .eq 1085, 3) := by decide +kernel
theorem dL_law_427 : decode cL_law 427 = .ok (.iconst 0, 1) := by decide +kernel
theorem dL_law_428 : decode cL_law 428 = .ok (.ireturn, 1) := by decide +kernel
theorem dL_law_429 : decode cL_law 429 = .ok (.aload_n 1, 1) := by decide +kernel
theorem dL_law_430 : decode cL_law 430 = .ok (.invokevirtual 45, 3) := by decide +kernel
theorem dL_law_433 : decode cL_law 433 = .ok (.aload_n 2, 1) := by decide +kernel
theorem dL_law_434 : decode cL_law 434 = .ok (.invokevirtual 48, 3) := by decide +kernel
theorem dL_law_437 : decode cL_law 437 = .ok (.if_icmp .eq 1072, 3) := by decide +kernel
theorem dL_law_440 : decode cL_law 440 = .ok (.iconst 0, 1) := by decide +kernel
theorem dL_law_441 : decode cL_law 441 = .ok (.ireturn, 1) := by decide +kernel
theorem dL_law_442 : decode cL_law 442 = .ok (.aload_n 1, 1) := by decide +kernel
theorem dL_law_443 : decode cL_law 443 = .ok (.aload_n 0, 1) := by decide +kernel
theorem dL_law_444 : decode cL_law 444 = .ok (.iload_n 3, 1) := by decide +kernel
theorem dL_law_445 : decode cL_law 445 = .ok (.iconst 1, 1) := by decide +kernel
theorem dL_law_446 : decode cL_law 446 = .ok (.iadd, 1) := by decide +kernel
theorem dL_law_447 : decode cL_law 447 = .ok (.iaload, 1) := by decide +kernel
theorem dL_law_448 : decode cL_law 448 = .ok (.invokevirtual 49, 3) := by decide +kernel
theorem dL_law_451 : decode cL_law 451 = .ok (.aload_n 2, 1) := by decide +kernel
theorem dL_law_452 : decode cL_law 452 = .ok (.aload_n 0, 1) := by decide +kernel
theorem dL_law_453 : decode cL_law 453 = .ok (.iload_n 3, 1) := by decide +kernel
theorem dL_law_454 : decode cL_law 454 = .ok (.iconst 1, 1) := by decide +kernel
theorem dL_law_455 : decode cL_law 455 = .ok (.iadd, 1) := by decide +kernel
theorem dL_law_456 : decode cL_law 456 = .ok (.iaload, 1) := by decide +kernel
theorem dL_law_457 : decode cL_law 457 = .ok (.invokevirtual 52, 3) := by decide +kernel
theorem dL_law_460 : decode cL_law 460 = .ok (.if_icmp .eq 1049, 3) := by decide +kernel
theorem dL_law_463 : decode cL_law 463 = .ok (.iconst 0, 1) := by decide +kernel
theorem dL_law_464 : decode cL_law 464 = .ok (.ireturn, 1) := by decide +kernel
theorem dL_law_465 : decode cL_law 465 = .ok (.aload_n 1, 1) := by decide +kernel
theorem dL_law_466 : decode cL_law 466 = .ok (.aload_n 0, 1) := by decide +kernel
theorem dL_law_467 : decode cL_law 467 = .ok (.iload_n 3, 1) := by decide +kernel
theorem dL_law_468 : decode cL_law 468 = .ok (.iconst 1, 1) := by decide +kernel
theorem dL_law_469 : decode cL_law 469 = .ok (.iadd, 1) := by decide +kernel
theorem dL_law_470 : decode cL_law 470 = .ok (.iaload, 1) := by decide +kernel
theorem dL_law_471 : decode cL_law 471 = .ok (.aload_n 0, 1) := by decide +kernel
theorem dL_law_472 : decode cL_law 472 = .ok (.iload_n 3, 1) := by decide +kernel
theorem dL_law_473 : decode cL_law 473 = .ok (.iconst 2, 1) := by decide +kernel
theorem dL_law_474 : decode cL_law 474 = .ok (.iadd, 1) := by decide +kernel
theorem dL_law_475 : decode cL_law 475 = .ok (.iaload, 1) := by decide +kernel
theorem dL_law_476 : decode cL_law 476 = .ok (.invokevirtual 53, 3) := by decide +kernel
theorem dL_law_479 : decode cL_law 479 = .ok (.aload_n 2, 1) := by decide +kernel
theorem dL_law_480 : decode cL_law 480 = .ok (.aload_n 0, 1) := by decide +kernel
theorem dL_law_481 : decode cL_law 481 = .ok (.iload_n 3, 1) := by decide +kernel
theorem dL_law_482 : decode cL_law 482 = .ok (.iconst 1, 1) := by decide +kernel
theorem dL_law_483 : decode cL_law 483 = .ok (.iadd, 1) := by decide +kernel
theorem dL_law_484 : decode cL_law 484 = .ok (.iaload, 1) := by decide +kernel
theorem dL_law_485 : decode cL_law 485 = .ok (.aload_n 0, 1) := by decide +kernel
theorem dL_law_486 : decode cL_law 486 = .ok (.iload_n 3, 1) := by decide +kernel
theorem dL_law_487 : decode cL_law 487 = .ok (.iconst 2, 1) := by decide +kernel
theorem dL_law_488 : decode cL_law 488 = .ok (.iadd, 1) := by decide +kernel
theorem dL_law_489 : decode cL_law 489 = .ok (.iaload, 1) := by decide +kernel
theorem dL_law_490 : decode cL_law 490 = .ok (.invokevirtual 57, 3) := by decide +kernel
theorem dL_law_493 : decode cL_law 493 = .ok (.if_icmp .eq 1016, 3) := by decide +kernel
theorem dL_law_496 : decode cL_law 496 = .ok (.iconst 0, 1) := by decide +kernel
theorem dL_law_497 : decode cL_law 497 = .ok (.ireturn, 1) := by decide +kernel
theorem dL_law_498 : decode cL_law 498 = .ok (.aload_n 1, 1) := by decide +kernel
theorem dL_law_499 : decode cL_law 499 = .ok (.aload_n 0, 1) := by decide +kernel
theorem dL_law_500 : decode cL_law 500 = .ok (.iload_n 3, 1) := by decide +kernel
theorem dL_law_501 : decode cL_law 501 = .ok (.iconst 1, 1) := by decide +kernel
theorem dL_law_502 : decode cL_law 502 = .ok (.iadd, 1) := by decide +kernel
theorem dL_law_503 : decode cL_law 503 = .ok (.iaload, 1) := by decide +kernel
theorem dL_law_504 : decode cL_law 504 = .ok (.aload_n 0, 1) := by decide +kernel
theorem dL_law_505 : decode cL_law 505 = .ok (.iload_n 3, 1) := by decide +kernel
theorem dL_law_506 : decode cL_law 506 = .ok (.iconst 2, 1) := by decide +kernel
theorem dL_law_507 : decode cL_law 507 = .ok (.iadd, 1) := by decide +kernel
theorem dL_law_508 : decode cL_law 508 = .ok (.iaload, 1) := by decide +kernel
theorem dL_law_509 : decode cL_law 509 = .ok (.invokevirtual 58, 3) := by decide +kernel
theorem dL_law_512 : decode cL_law 512 = .ok (.aload_n 2, 1) := by decide +kernel
theorem dL_law_513 : decode cL_law 513 = .ok (.aload_n 0, 1) := by decide +kernel
theorem dL_law_514 : decode cL_law 514 = .ok (.iload_n 3, 1) := by decide +kernel
theorem dL_law_515 : decode cL_law 515 = .ok (.iconst 1, 1) := by decide +kernel
theorem dL_law_516 : decode cL_law 516 = .ok (.iadd, 1) := by decide +kernel
theorem dL_law_517 : decode cL_law 517 = .ok (.iaload, 1) := by decide +kernel
theorem dL_law_518 : decode cL_law 518 = .ok (.aload_n 0, 1) := by decide +kernel
theorem dL_law_519 : decode cL_law 519 = .ok (.iload_n 3, 1) := by decide +kernel
theorem dL_law_520 : decode cL_law 520 = .ok (.iconst 2, 1) := by decide +kernel
theorem dL_law_521 : decode cL_law 521 = .ok (.iadd, 1) := by decide +kernel
theorem dL_law_522 : decode cL_law 522 = .ok (.iaload, 1) := by decide +kernel
theorem dL_law_523 : decode cL_law 523 = .ok (.invokevirtual 61, 3) := by decide +kernel
theorem dL_law_526 : decode cL_law 526 = .ok (.if_icmp .eq 983, 3) := by decide +kernel
theorem dL_law_529 : decode cL_law 529 = .ok (.iconst 0, 1) := by decide +kernel
theorem dL_law_530 : decode cL_law 530 = .ok (.ireturn, 1) := by decide +kernel
theorem dL_law_531 : decode cL_law 531 = .ok (.aload_n 1, 1) := by decide +kernel
theorem dL_law_532 : decode cL_law 532 = .ok (.aload_n 0, 1) := by decide +kernel
theorem dL_law_533 : decode cL_law 533 = .ok (.iload_n 3, 1) := by decide +kernel
theorem dL_law_534 : decode cL_law 534 = .ok (.iconst 1, 1) := by decide +kernel
theorem dL_law_535 : decode cL_law 535 = .ok (.iadd, 1) := by decide +kernel
theorem dL_law_536 : decode cL_law 536 = .ok (.iaload, 1) := by decide +kernel
theorem dL_law_537 : decode cL_law 537 = .ok (.aload_n 0, 1) := by decide +kernel
theorem dL_law_538 : decode cL_law 538 = .ok (.iload_n 3, 1) := by decide +kernel
theorem dL_law_539 : decode cL_law 539 = .ok (.iconst 2, 1) := by decide +kernel
theorem dL_law_540 : decode cL_law 540 = .ok (.iadd, 1) := by decide +kernel
theorem dL_law_541 : decode cL_law 541 = .ok (.iaload, 1) := by decide +kernel
theorem dL_law_542 : decode cL_law 542 = .ok (.invokevirtual 62, 3) := by decide +kernel
theorem dL_law_545 : decode cL_law 545 = .ok (.aload_n 2, 1) := by decide +kernel
theorem dL_law_546 : decode cL_law 546 = .ok (.aload_n 0, 1) := by decide +kernel
theorem dL_law_547 : decode cL_law 547 = .ok (.iload_n 3, 1) := by decide +kernel
theorem dL_law_548 : decode cL_law 548 = .ok (.iconst 1, 1) := by decide +kernel
theorem dL_law_549 : decode cL_law 549 = .ok (.iadd, 1) := by decide +kernel
theorem dL_law_550 : decode cL_law 550 = .ok (.iaload, 1) := by decide +kernel
theorem dL_law_551 : decode cL_law 551 = .ok (.aload_n 0, 1) := by decide +kernel
theorem dL_law_552 : decode cL_law 552 = .ok (.iload_n 3, 1) := by decide +kernel
theorem dL_law_553 : decode cL_law 553 = .ok (.iconst 2, 1) := by decide +kernel
theorem dL_law_554 : decode cL_law 554 = .ok (.iadd, 1) := by decide +kernel
theorem dL_law_555 : decode cL_law 555 = .ok (.iaload, 1) := by decide +kernel
theorem dL_law_556 : decode cL_law 556 = .ok (.invokevirtual 65, 3) := by decide +kernel
theorem dL_law_559 : decode cL_law 559 = .ok (.if_icmp .eq 950, 3) := by decide +kernel
theorem dL_law_562 : decode cL_law 562 = .ok (.iconst 0, 1) := by decide +kernel
theorem dL_law_563 : decode cL_law 563 = .ok (.ireturn, 1) := by decide +kernel
theorem dL_law_564 : decode cL_law 564 = .ok (.aload_n 1, 1) := by decide +kernel
theorem dL_law_565 : decode cL_law 565 = .ok (.aload_n 0, 1) := by decide +kernel
theorem dL_law_566 : decode cL_law 566 = .ok (.iload_n 3, 1) := by decide +kernel
theorem dL_law_567 : decode cL_law 567 = .ok (.iconst 1, 1) := by decide +kernel
theorem dL_law_568 : decode cL_law 568 = .ok (.iadd, 1) := by decide +kernel
theorem dL_law_569 : decode cL_law 569 = .ok (.iaload, 1) := by decide +kernel
theorem dL_law_570 : decode cL_law 570 = .ok (.aload_n 0, 1) := by decide +kernel
theorem dL_law_571 : decode cL_law 571 = .ok (.iload_n 3, 1) := by decide +kernel
theorem dL_law_572 : decode cL_law 572 = .ok (.iconst 2, 1) := by decide +kernel
theorem dL_law_573 : decode cL_law 573 = .ok (.iadd, 1) := by decide +kernel
theorem dL_law_574 : decode cL_law 574 = .ok (.iaload, 1) := by decide +kernel
theorem dL_law_575 : decode cL_law 575 = .ok (.aload_n 0, 1) := by decide +kernel
theorem dL_law_576 : decode cL_law 576 = .ok (.iload_n 3, 1) := by decide +kernel
theorem dL_law_577 : decode cL_law 577 = .ok (.iconst 3, 1) := by decide +kernel
theorem dL_law_578 : decode cL_law 578 = .ok (.iadd, 1) := by decide +kernel
theorem dL_law_579 : decode cL_law 579 = .ok (.iaload, 1) := by decide +kernel
theorem dL_law_580 : decode cL_law 580 = .ok (.invokevirtual 66, 3) := by decide +kernel
theorem dL_law_583 : decode cL_law 583 = .ok (.aload_n 2, 1) := by decide +kernel
theorem dL_law_584 : decode cL_law 584 = .ok (.aload_n 0, 1) := by decide +kernel
theorem dL_law_585 : decode cL_law 585 = .ok (.iload_n 3, 1) := by decide +kernel
theorem dL_law_586 : decode cL_law 586 = .ok (.iconst 1, 1) := by decide +kernel
theorem dL_law_587 : decode cL_law 587 = .ok (.iadd, 1) := by decide +kernel
theorem dL_law_588 : decode cL_law 588 = .ok (.iaload, 1) := by decide +kernel
theorem dL_law_589 : decode cL_law 589 = .ok (.aload_n 0, 1) := by decide +kernel
theorem dL_law_590 : decode cL_law 590 = .ok (.iload_n 3, 1) := by decide +kernel
theorem dL_law_591 : decode cL_law 591 = .ok (.iconst 2, 1) := by decide +kernel
theorem dL_law_592 : decode cL_law 592 = .ok (.iadd, 1) := by decide +kernel
theorem dL_law_593 : decode cL_law 593 = .ok (.iaload, 1) := by decide +kernel
theorem dL_law_594 : decode cL_law 594 = .ok (.aload_n 0, 1) := by decide +kernel
theorem dL_law_595 : decode cL_law 595 = .ok (.iload_n 3, 1) := by decide +kernel
theorem dL_law_596 : decode cL_law 596 = .ok (.iconst 3, 1) := by decide +kernel
theorem dL_law_597 : decode cL_law 597 = .ok (.iadd, 1) := by decide +kernel
theorem dL_law_598 : decode cL_law 598 = .ok (.iaload, 1) := by decide +kernel
theorem dL_law_599 : decode cL_law 599 = .ok (.invokevirtual 69, 3) := by decide +kernel
theorem dL_law_602 : decode cL_law 602 = .ok (.if_icmp .eq 907, 3) := by decide +kernel
theorem dL_law_605 : decode cL_law 605 = .ok (.iconst 0, 1) := by decide +kernel
theorem dL_law_606 : decode cL_law 606 = .ok (.ireturn, 1) := by decide +kernel
theorem dL_law_607 : decode cL_law 607 = .ok (.aload_n 1, 1) := by decide +kernel
theorem dL_law_608 : decode cL_law 608 = .ok (.aload_n 0, 1) := by decide +kernel
theorem dL_law_609 : decode cL_law 609 = .ok (.iload_n 3, 1) := by decide +kernel
theorem dL_law_610 : decode cL_law 610 = .ok (.iconst 1, 1) := by decide +kernel
theorem dL_law_611 : decode cL_law 611 = .ok (.iadd, 1) := by decide +kernel
theorem dL_law_612 : decode cL_law 612 = .ok (.iaload, 1) := by decide +kernel
theorem dL_law_613 : decode cL_law 613 = .ok (.aload_n 0, 1) := by decide +kernel
theorem dL_law_614 : decode cL_law 614 = .ok (.iload_n 3, 1) := by decide +kernel
theorem dL_law_615 : decode cL_law 615 = .ok (.iconst 2, 1) := by decide +kernel
theorem dL_law_616 : decode cL_law 616 = .ok (.iadd, 1) := by decide +kernel
theorem dL_law_617 : decode cL_law 617 = .ok (.iaload, 1) := by decide +kernel
theorem dL_law_618 : decode cL_law 618 = .ok (.invokevirtual 70, 3) := by decide +kernel
theorem dL_law_621 : decode cL_law 621 = .ok (.aload_n 2, 1) := by decide +kernel
theorem dL_law_622 : decode cL_law 622 = .ok (.aload_n 0, 1) := by decide +kernel
theorem dL_law_623 : decode cL_law 623 = .ok (.iload_n 3, 1) := by decide +kernel
theorem dL_law_624 : decode cL_law 624 = .ok (.iconst 1, 1) := by decide +kernel
theorem dL_law_625 : decode cL_law 625 = .ok (.iadd, 1) := by decide +kernel
theorem dL_law_626 : decode cL_law 626 = .ok (.iaload, 1) := by decide +kernel
theorem dL_law_627 : decode cL_law 627 = .ok (.aload_n 0, 1) := by decide +kernel
theorem dL_law_628 : decode cL_law 628 = .ok (.iload_n 3, 1) := by decide +kernel
theorem dL_law_629 : decode cL_law 629 = .ok (.iconst 2, 1) := by decide +kernel
theorem dL_law_630 : decode cL_law 630 = .ok (.iadd, 1) := by decide +kernel
theorem dL_law_631 : decode cL_law 631 = .ok (.iaload, 1) := by decide +kernel
theorem dL_law_632 : decode cL_law 632 = .ok (.invokevirtual 73, 3) := by decide +kernel
theorem dL_law_635 : decode cL_law 635 = .ok (.if_icmp .eq 874, 3) := by decide +kernel
theorem dL_law_638 : decode cL_law 638 = .ok (.iconst 0, 1) := by decide +kernel
theorem dL_law_639 : decode cL_law 639 = .ok (.ireturn, 1) := by decide +kernel
theorem dL_law_640 : decode cL_law 640 = .ok (.aload_n 1, 1) := by decide +kernel
theorem dL_law_641 : decode cL_law 641 = .ok (.aload_n 0, 1) := by decide +kernel
theorem dL_law_642 : decode cL_law 642 = .ok (.iload_n 3, 1) := by decide +kernel
theorem dL_law_643 : decode cL_law 643 = .ok (.iconst 1, 1) := by decide +kernel
theorem dL_law_644 : decode cL_law 644 = .ok (.iadd, 1) := by decide +kernel
theorem dL_law_645 : decode cL_law 645 = .ok (.iaload, 1) := by decide +kernel
theorem dL_law_646 : decode cL_law 646 = .ok (.aload_n 0, 1) := by decide +kernel
theorem dL_law_647 : decode cL_law 647 = .ok (.iload_n 3, 1) := by decide +kernel
theorem dL_law_648 : decode cL_law 648 = .ok (.iconst 2, 1) := by decide +kernel
theorem dL_law_649 : decode cL_law 649 = .ok (.iadd, 1) := by decide +kernel
theorem dL_law_650 : decode cL_law 650 = .ok (.iaload, 1) := by decide +kernel
theorem dL_law_651 : decode cL_law 651 = .ok (.invokevirtual 74, 3) := by decide +kernel
theorem dL_law_654 : decode cL_law 654 = .ok (.aload_n 2, 1) := by decide +kernel
theorem dL_law_655 : decode cL_law 655 = .ok (.aload_n 0, 1) := by decide +kernel
theorem dL_law_656 : decode cL_law 656 = .ok (.iload_n 3, 1) := by decide +kernel
theorem dL_law_657 : decode cL_law 657 = .ok (.iconst 1, 1) := by decide +kernel
theorem dL_law_658 : decode cL_law 658 = .ok (.iadd, 1) := by decide +kernel
theorem dL_law_659 : decode cL_law 659 = .ok (.iaload, 1) := by decide +kernel
theorem dL_law_660 : decode cL_law 660 = .ok (.aload_n 0, 1) := by decide +kernel
theorem dL_law_661 : decode cL_law 661 = .ok (.iload_n 3, 1) := by decide +kernel
theorem dL_law_662 : decode cL_law 662 = .ok (.iconst 2, 1) := by decide +kernel
theorem dL_law_663 : decode cL_law 663 = .ok (.iadd, 1) := by decide +kernel
theorem dL_law_664 : decode cL_law 664 = .ok (.iaload, 1) := by decide +kernel
theorem dL_law_665 : decode cL_law 665 = .ok (.invokevirtual 77, 3) := by decide +kernel
theorem dL_law_668 : decode cL_law 668 = .ok (.if_icmp .eq 841, 3) := by decide +kernel
theorem dL_law_671 : decode cL_law 671 = .ok (.iconst 0, 1) := by decide +kernel
theorem dL_law_672 : decode cL_law 672 = .ok (.ireturn, 1) := by decide +kernel
theorem dL_law_673 : decode cL_law 673 = .ok (.aload_n 1, 1) := by decide +kernel
theorem dL_law_674 : decode cL_law 674 = .ok (.aload_n 0, 1) := by decide +kernel
theorem dL_law_675 : decode cL_law 675 = .ok (.iload_n 3, 1) := by decide +kernel
theorem dL_law_676 : decode cL_law 676 = .ok (.iconst 1, 1) := by decide +kernel
theorem dL_law_677 : decode cL_law 677 = .ok (.iadd, 1) := by decide +kernel
theorem dL_law_678 : decode cL_law 678 = .ok (.iaload, 1) := by decide +kernel
theorem dL_law_679 : decode cL_law 679 = .ok (.aload_n 0, 1) := by decide +kernel
theorem dL_law_680 : decode cL_law 680 = .ok (.iload_n 3, 1) := by decide +kernel
theorem dL_law_681 : decode cL_law 681 = .ok (.iconst 2, 1) := by decide +kernel
theorem dL_law_682 : decode cL_law 682 = .ok (.iadd, 1) := by decide +kernel
theorem dL_law_683 : decode cL_law 683 = .ok (.iaload, 1) := by decide +kernel
theorem dL_law_684 : decode cL_law 684 = .ok (.invokevirtual 78, 3) := by decide +kernel
theorem dL_law_687 : decode cL_law 687 = .ok (.aload_n 2, 1) := by decide +kernel
theorem dL_law_688 : decode cL_law 688 = .ok (.aload_n 0, 1) := by decide +kernel
theorem dL_law_689 : decode cL_law 689 = .ok (.iload_n 3, 1) := by decide +kernel
theorem dL_law_690 : decode cL_law 690 = .ok (.iconst 1, 1) := by decide +kernel
theorem dL_law_691 : decode cL_law 691 = .ok (.iadd, 1) := by decide +kernel
theorem dL_law_692 : decode cL_law 692 = .ok (.iaload, 1) := by decide +kernel
theorem dL_law_693 : decode cL_law 693 = .ok (.aload_n 0, 1) := by decide +kernel
theorem dL_law_694 : decode cL_law 694 = .ok (.iload_n 3, 1) := by decide +kernel
theorem dL_law_695 : decode cL_law 695 = .ok (.iconst 2, 1) := by decide +kernel
theorem dL_law_696 : decode cL_law 696 = .ok (.iadd, 1) := by decide +kernel
theorem dL_law_697 : decode cL_law 697 = .ok (.iaload, 1) := by decide +kernel
theorem dL_law_698 : decode cL_law 698 = .ok (.invokevirtual 81, 3) := by decide +kernel
theorem dL_law_701 : decode cL_law 701 = .ok (.if_icmp .eq 808, 3) := by decide +kernel
theorem dL_law_704 : decode cL_law 704 = .ok (.iconst 0, 1) := by decide +kernel
theorem dL_law_705 : decode cL_law 705 = .ok (.ireturn, 1) := by decide +kernel
theorem dL_law_706 : decode cL_law 706 = .ok (.aload_n 1, 1) := by decide +kernel
theorem dL_law_707 : decode cL_law 707 = .ok (.aload_n 0, 1) := by decide +kernel
theorem dL_law_708 : decode cL_law 708 = .ok (.iload_n 3, 1) := by decide +kernel
theorem dL_law_709 : decode cL_law 709 = .ok (.iconst 1, 1) := by decide +kernel
theorem dL_law_710 : decode cL_law 710 = .ok (.iadd, 1) := by decide +kernel
theorem dL_law_711 : decode cL_law 711 = .ok (.iaload, 1) := by decide +kernel
theorem dL_law_712 : decode cL_law 712 = .ok (.aload_n 0, 1) := by decide +kernel
theorem dL_law_713 : decode cL_law 713 = .ok (.iload_n 3, 1) := by decide +kernel
theorem dL_law_714 : decode cL_law 714 = .ok (.iconst 2, 1) := by decide +kernel
theorem dL_law_715 : decode cL_law 715 = .ok (.iadd, 1) := by decide +kernel
theorem dL_law_716 : decode cL_law 716 = .ok (.iaload, 1) := by decide +kernel
theorem dL_law_717 : decode cL_law 717 = .ok (.aload_n 0, 1) := by decide +kernel
theorem dL_law_718 : decode cL_law 718 = .ok (.iload_n 3, 1) := by decide +kernel
theorem dL_law_719 : decode cL_law 719 = .ok (.iconst 3, 1) := by decide +kernel
theorem dL_law_720 : decode cL_law 720 = .ok (.iadd, 1) := by decide +kernel
theorem dL_law_721 : decode cL_law 721 = .ok (.iaload, 1) := by decide +kernel
theorem dL_law_722 : decode cL_law 722 = .ok (.invokevirtual 82, 3) := by decide +kernel
theorem dL_law_725 : decode cL_law 725 = .ok (.aload_n 2, 1) := by decide +kernel
theorem dL_law_726 : decode cL_law 726 = .ok (.aload_n 0, 1) := by decide +kernel
theorem dL_law_727 : decode cL_law 727 = .ok (.iload_n 3, 1) := by decide +kernel
theorem dL_law_728 : decode cL_law 728 = .ok (.iconst 1, 1) := by decide +kernel
theorem dL_law_729 : decode cL_law 729 = .ok (.iadd, 1) := by decide +kernel
theorem dL_law_730 : decode cL_law 730 = .ok (.iaload, 1) := by decide +kernel
theorem dL_law_731 : decode cL_law 731 = .ok (.aload_n 0, 1) := by decide +kernel
theorem dL_law_732 : decode cL_law 732 = .ok (.iload_n 3, 1) := by decide +kernel
theorem dL_law_733 : decode cL_law 733 = .ok (.iconst 2, 1) := by decide +kernel
theorem dL_law_734 : decode cL_law 734 = .ok (.iadd, 1) := by decide +kernel
theorem dL_law_735 : decode cL_law 735 = .ok (.iaload, 1) := by decide +kernel
theorem dL_law_736 : decode cL_law 736 = .ok (.aload_n 0, 1) := by decide +kernel
theorem dL_law_737 : decode cL_law 737 = .ok (.iload_n 3, 1) := by decide +kernel
theorem dL_law_738 : decode cL_law 738 = .ok (.iconst 3, 1) := by decide +kernel
theorem dL_law_739 : decode cL_law 739 = .ok (.iadd, 1) := by decide +kernel
theorem dL_law_740 : decode cL_law 740 = .ok (.iaload, 1) := by decide +kernel
theorem dL_law_741 : decode cL_law 741 = .ok (.invokevirtual 85, 3) := by decide +kernel
theorem dL_law_744 : decode cL_law 744 = .ok (.if_icmp .eq 765, 3) := by decide +kernel
theorem dL_law_747 : decode cL_law 747 = .ok (.iconst 0, 1) := by decide +kernel
theorem dL_law_748 : decode cL_law 748 = .ok (.ireturn, 1) := by decide +kernel
theorem dL_law_749 : decode cL_law 749 = .ok (.aload_n 1, 1) := by decide +kernel
theorem dL_law_750 : decode cL_law 750 = .ok (.aload_n 0, 1) := by decide +kernel
theorem dL_law_751 : decode cL_law 751 = .ok (.iload_n 3, 1) := by decide +kernel
theorem dL_law_752 : decode cL_law 752 = .ok (.iconst 1, 1) := by decide +kernel
theorem dL_law_753 : decode cL_law 753 = .ok (.iadd, 1) := by decide +kernel
theorem dL_law_754 : decode cL_law 754 = .ok (.iaload, 1) := by decide +kernel
theorem dL_law_755 : decode cL_law 755 = .ok (.aload_n 0, 1) := by decide +kernel
theorem dL_law_756 : decode cL_law 756 = .ok (.iload_n 3, 1) := by decide +kernel
theorem dL_law_757 : decode cL_law 757 = .ok (.iconst 2, 1) := by decide +kernel
theorem dL_law_758 : decode cL_law 758 = .ok (.iadd, 1) := by decide +kernel
theorem dL_law_759 : decode cL_law 759 = .ok (.iaload, 1) := by decide +kernel
theorem dL_law_760 : decode cL_law 760 = .ok (.invokevirtual 86, 3) := by decide +kernel
theorem dL_law_763 : decode cL_law 763 = .ok (.aload_n 2, 1) := by decide +kernel
theorem dL_law_764 : decode cL_law 764 = .ok (.aload_n 0, 1) := by decide +kernel
theorem dL_law_765 : decode cL_law 765 = .ok (.iload_n 3, 1) := by decide +kernel
theorem dL_law_766 : decode cL_law 766 = .ok (.iconst 1, 1) := by decide +kernel
theorem dL_law_767 : decode cL_law 767 = .ok (.iadd, 1) := by decide +kernel
theorem dL_law_768 : decode cL_law 768 = .ok (.iaload, 1) := by decide +kernel
theorem dL_law_769 : decode cL_law 769 = .ok (.aload_n 0, 1) := by decide +kernel
theorem dL_law_770 : decode cL_law 770 = .ok (.iload_n 3, 1) := by decide +kernel
theorem dL_law_771 : decode cL_law 771 = .ok (.iconst 2, 1) := by decide +kernel
theorem dL_law_772 : decode cL_law 772 = .ok (.iadd, 1) := by decide +kernel
theorem dL_law_773 : decode cL_law 773 = .ok (.iaload, 1) := by decide +kernel
theorem dL_law_774 : decode cL_law 774 = .ok (.invokevirtual 89, 3) := by decide +kernel
theorem dL_law_777 : decode cL_law 777 = .ok (.if_icmp .eq 732, 3) := by decide +kernel
theorem dL_law_780 : decode cL_law 780 = .ok (.iconst 0, 1) := by decide +kernel
theorem dL_law_781 : decode cL_law 781 = .ok (.ireturn, 1) := by decide +kernel
theorem dL_law_782 : decode cL_law 782 = .ok (.aload_n 1, 1) := by decide +kernel
theorem dL_law_783 : decode cL_law 783 = .ok (.aload_n 0, 1) := by decide +kernel
theorem dL_law_784 : decode cL_law 784 = .ok (.iload_n 3, 1) := by decide +kernel
theorem dL_law_785 : decode cL_law 785 = .ok (.iconst 1, 1) := by decide +kernel
theorem dL_law_786 : decode cL_law 786 = .ok (.iadd, 1) := by decide +kernel
theorem dL_law_787 : decode cL_law 787 = .ok (.iaload, 1) := by decide +kernel
theorem dL_law_788 : decode cL_law 788 = .ok (.invokevirtual 90, 3) := by decide +kernel
theorem dL_law_791 : decode cL_law 791 = .ok (.aload_n 2, 1) := by decide +kernel
theorem dL_law_792 : decode cL_law 792 = .ok (.aload_n 0, 1) := by decide +kernel
theorem dL_law_793 : decode cL_law 793 = .ok (.iload_n 3, 1) := by decide +kernel
theorem dL_law_794 : decode cL_law 794 = .ok (.iconst 1, 1) := by decide +kernel
theorem dL_law_795 : decode cL_law 795 = .ok (.iadd, 1) := by decide +kernel
theorem dL_law_796 : decode cL_law 796 = .ok (.iaload, 1) := by decide +kernel
theorem dL_law_797 : decode cL_law 797 = .ok (.invokevirtual 93, 3) := by decide +kernel
theorem dL_law_800 : decode cL_law 800 = .ok (.if_icmp .eq 709, 3) := by decide +kernel
theorem dL_law_803 : decode cL_law 803 = .ok (.iconst 0, 1) := by decide +kernel
theorem dL_law_804 : decode cL_law 804 = .ok (.ireturn, 1) := by decide +kernel
theorem dL_law_805 : decode cL_law 805 = .ok (.aload_n 1, 1) := by decide +kernel
theorem dL_law_806 : decode cL_law 806 = .ok (.aload_n 0, 1) := by decide +kernel
theorem dL_law_807 : decode cL_law 807 = .ok (.iload_n 3, 1) := by decide +kernel
theorem dL_law_808 : decode cL_law 808 = .ok (.iconst 1, 1) := by decide +kernel
theorem dL_law_809 : decode cL_law 809 = .ok (.iadd, 1) := by decide +kernel
theorem dL_law_810 : decode cL_law 810 = .ok (.iaload, 1) := by decide +kernel
theorem dL_law_811 : decode cL_law 811 = .ok (.invokevirtual 94, 3) := by decide +kernel
theorem dL_law_814 : decode cL_law 814 = .ok (.aload_n 2, 1) := by decide +kernel
theorem dL_law_815 : decode cL_law 815 = .ok (.aload_n 0, 1) := by decide +kernel
theorem dL_law_816 : decode cL_law 816 = .ok (.iload_n 3, 1) := by decide +kernel
theorem dL_law_817 : decode cL_law 817 = .ok (.iconst 1, 1) := by decide +kernel
theorem dL_law_818 : decode cL_law 818 = .ok (.iadd, 1) := by decide +kernel
theorem dL_law_819 : decode cL_law 819 = .ok (.iaload, 1) := by decide +kernel
theorem dL_law_820 : decode cL_law 820 = .ok (.invokevirtual 97, 3) := by decide +kernel
theorem dL_law_823 : decode cL_law 823 = .ok (.if_icmp .eq 686, 3) := by decide +kernel
theorem dL_law_826 : decode cL_law 826 = .ok (.iconst 0, 1) := by decide +kernel
theorem dL_law_827 : decode cL_law 827 = .ok (.ireturn, 1) := by decide +kernel
theorem dL_law_828 : decode cL_law 828 = .ok (.aload_n 1, 1) := by decide +kernel
theorem dL_law_829 : decode cL_law 829 = .ok (.aload_n 0, 1) := by decide +kernel
theorem dL_law_830 : decode cL_law 830 = .ok (.iload_n 3, 1) := by decide +kernel
theorem dL_law_831 : decode cL_law 831 = .ok (.iconst 1, 1) := by decide +kernel
theorem dL_law_832 : decode cL_law 832 = .ok (.iadd, 1) := by decide +kernel
theorem dL_law_833 : decode cL_law 833 = .ok (.iaload, 1) := by decide +kernel
theorem dL_law_834 : decode cL_law 834 = .ok (.invokevirtual 98, 3) := by decide +kernel
theorem dL_law_837 : decode cL_law 837 = .ok (.aload_n 2, 1) := by decide +kernel
theorem dL_law_838 : decode cL_law 838 = .ok (.aload_n 0, 1) := by decide +kernel
theorem dL_law_839 : decode cL_law 839 = .ok (.iload_n 3, 1) := by decide +kernel
theorem dL_law_840 : decode cL_law 840 = .ok (.iconst 1, 1) := by decide +kernel
theorem dL_law_841 : decode cL_law 841 = .ok (.iadd, 1) := by decide +kernel
theorem dL_law_842 : decode cL_law 842 = .ok (.iaload, 1) := by decide +kernel
theorem dL_law_843 : decode cL_law 843 = .ok (.invokevirtual 101, 3) := by decide +kernel
theorem dL_law_846 : decode cL_law 846 = .ok (.if_icmp .eq 663, 3) := by decide +kernel
theorem dL_law_849 : decode cL_law 849 = .ok (.iconst 0, 1) := by decide +kernel
theorem dL_law_850 : decode cL_law 850 = .ok (.ireturn, 1) := by decide +kernel
theorem dL_law_851 : decode cL_law 851 = .ok (.aload_n 1, 1) := by decide +kernel
theorem dL_law_852 : decode cL_law 852 = .ok (.aload_n 0, 1) := by decide +kernel
theorem dL_law_853 : decode cL_law 853 = .ok (.iload_n 3, 1) := by decide +kernel
theorem dL_law_854 : decode cL_law 854 = .ok (.iconst 1, 1) := by decide +kernel
theorem dL_law_855 : decode cL_law 855 = .ok (.iadd, 1) := by decide +kernel
theorem dL_law_856 : decode cL_law 856 = .ok (.iaload, 1) := by decide +kernel
theorem dL_law_857 : decode cL_law 857 = .ok (.aload_n 0, 1) := by decide +kernel
theorem dL_law_858 : decode cL_law 858 = .ok (.iload_n 3, 1) := by decide +kernel
theorem dL_law_859 : decode cL_law 859 = .ok (.iconst 2, 1) := by decide +kernel
theorem dL_law_860 : decode cL_law 860 = .ok (.iadd, 1) := by decide +kernel
theorem dL_law_861 : decode cL_law 861 = .ok (.iaload, 1) := by decide +kernel
theorem dL_law_862 : decode cL_law 862 = .ok (.aload_n 0, 1) := by decide +kernel
theorem dL_law_863 : decode cL_law 863 = .ok (.iload_n 3, 1) := by decide +kernel
theorem dL_law_864 : decode cL_law 864 = .ok (.iconst 3, 1) := by decide +kernel
theorem dL_law_865 : decode cL_law 865 = .ok (.iadd, 1) := by decide +kernel
theorem dL_law_866 : decode cL_law 866 = .ok (.iaload, 1) := by decide +kernel
theorem dL_law_867 : decode cL_law 867 = .ok (.invokevirtual 102, 3) := by decide +kernel
theorem dL_law_870 : decode cL_law 870 = .ok (.aload_n 2, 1) := by decide +kernel
theorem dL_law_871 : decode cL_law 871 = .ok (.aload_n 0, 1) := by decide +kernel
theorem dL_law_872 : decode cL_law 872 = .ok (.iload_n 3, 1) := by decide +kernel
theorem dL_law_873 : decode cL_law 873 = .ok (.iconst 1, 1) := by decide +kernel
theorem dL_law_874 : decode cL_law 874 = .ok (.iadd, 1) := by decide +kernel
theorem dL_law_875 : decode cL_law 875 = .ok (.iaload, 1) := by decide +kernel
theorem dL_law_876 : decode cL_law 876 = .ok (.aload_n 0, 1) := by decide +kernel
theorem dL_law_877 : decode cL_law 877 = .ok (.iload_n 3, 1) := by decide +kernel
theorem dL_law_878 : decode cL_law 878 = .ok (.iconst 2, 1) := by decide +kernel
theorem dL_law_879 : decode cL_law 879 = .ok (.iadd, 1) := by decide +kernel
theorem dL_law_880 : decode cL_law 880 = .ok (.iaload, 1) := by decide +kernel
theorem dL_law_881 : decode cL_law 881 = .ok (.aload_n 0, 1) := by decide +kernel
theorem dL_law_882 : decode cL_law 882 = .ok (.iload_n 3, 1) := by decide +kernel
theorem dL_law_883 : decode cL_law 883 = .ok (.iconst 3, 1) := by decide +kernel
theorem dL_law_884 : decode cL_law 884 = .ok (.iadd, 1) := by decide +kernel
theorem dL_law_885 : decode cL_law 885 = .ok (.iaload, 1) := by decide +kernel
theorem dL_law_886 : decode cL_law 886 = .ok (.invokevirtual 105, 3) := by decide +kernel
theorem dL_law_889 : decode cL_law 889 = .ok (.if_icmp .eq 620, 3) := by decide +kernel
theorem dL_law_892 : decode cL_law 892 = .ok (.iconst 0, 1) := by decide +kernel
theorem dL_law_893 : decode cL_law 893 = .ok (.ireturn, 1) := by decide +kernel
theorem dL_law_894 : decode cL_law 894 = .ok (.aload_n 1, 1) := by decide +kernel
theorem dL_law_895 : decode cL_law 895 = .ok (.aload_n 0, 1) := by decide +kernel
theorem dL_law_896 : decode cL_law 896 = .ok (.iload_n 3, 1) := by decide +kernel
theorem dL_law_897 : decode cL_law 897 = .ok (.iconst 1, 1) := by decide +kernel
theorem dL_law_898 : decode cL_law 898 = .ok (.iadd, 1) := by decide +kernel
theorem dL_law_899 : decode cL_law 899 = .ok (.iaload, 1) := by decide +kernel
theorem dL_law_900 : decode cL_law 900 = .ok (.aload_n 0, 1) := by decide +kernel
theorem dL_law_901 : decode cL_law 901 = .ok (.iload_n 3, 1) := by decide +kernel
theorem dL_law_902 : decode cL_law 902 = .ok (.iconst 2, 1) := by decide +kernel
theorem dL_law_903 : decode cL_law 903 = .ok (.iadd, 1) := by decide +kernel
theorem dL_law_904 : decode cL_law 904 = .ok (.iaload, 1) := by decide +kernel
theorem dL_law_905 : decode cL_law 905 = .ok (.invokevirtual 106, 3) := by decide +kernel
theorem dL_law_908 : decode cL_law 908 = .ok (.aload_n 2, 1) := by decide +kernel
theorem dL_law_909 : decode cL_law 909 = .ok (.aload_n 0, 1) := by decide +kernel
theorem dL_law_910 : decode cL_law 910 = .ok (.iload_n 3, 1) := by decide +kernel
theorem dL_law_911 : decode cL_law 911 = .ok (.iconst 1, 1) := by decide +kernel
theorem dL_law_912 : decode cL_law 912 = .ok (.iadd, 1) := by decide +kernel
theorem dL_law_913 : decode cL_law 913 = .ok (.iaload, 1) := by decide +kernel
theorem dL_law_914 : decode cL_law 914 = .ok (.aload_n 0, 1) := by decide +kernel
theorem dL_law_915 : decode cL_law 915 = .ok (.iload_n 3, 1) := by decide +kernel
theorem dL_law_916 : decode cL_law 916 = .ok (.iconst 2, 1) := by decide +kernel
theorem dL_law_917 : decode cL_law 917 = .ok (.iadd, 1) := by decide +kernel
theorem dL_law_918 : decode cL_law 918 = .ok (.iaload, 1) := by decide +kernel
theorem dL_law_919 : decode cL_law 919 = .ok (.invokevirtual 109, 3) := by decide +kernel
theorem dL_law_922 : decode cL_law 922 = .ok (.if_icmp .eq 587, 3) := by decide +kernel
theorem dL_law_925 : decode cL_law 925 = .ok (.iconst 0, 1) := by decide +kernel
theorem dL_law_926 : decode cL_law 926 = .ok (.ireturn, 1) := by decide +kernel
theorem dL_law_927 : decode cL_law 927 = .ok (.aload_n 1, 1) := by decide +kernel
theorem dL_law_928 : decode cL_law 928 = .ok (.aload_n 0, 1) := by decide +kernel
theorem dL_law_929 : decode cL_law 929 = .ok (.iload_n 3, 1) := by decide +kernel
theorem dL_law_930 : decode cL_law 930 = .ok (.iconst 1, 1) := by decide +kernel
theorem dL_law_931 : decode cL_law 931 = .ok (.iadd, 1) := by decide +kernel
theorem dL_law_932 : decode cL_law 932 = .ok (.iaload, 1) := by decide +kernel
theorem dL_law_933 : decode cL_law 933 = .ok (.invokevirtual 110, 3) := by decide +kernel
theorem dL_law_936 : decode cL_law 936 = .ok (.aload_n 2, 1) := by decide +kernel
theorem dL_law_937 : decode cL_law 937 = .ok (.aload_n 0, 1) := by decide +kernel
theorem dL_law_938 : decode cL_law 938 = .ok (.iload_n 3, 1) := by decide +kernel
theorem dL_law_939 : decode cL_law 939 = .ok (.iconst 1, 1) := by decide +kernel
theorem dL_law_940 : decode cL_law 940 = .ok (.iadd, 1) := by decide +kernel
theorem dL_law_941 : decode cL_law 941 = .ok (.iaload, 1) := by decide +kernel
theorem dL_law_942 : decode cL_law 942 = .ok (.invokevirtual 113, 3) := by decide +kernel
theorem dL_law_945 : decode cL_law 945 = .ok (.if_icmp .eq 564, 3) := by decide +kernel
theorem dL_law_948 : decode cL_law 948 = .ok (.iconst 0, 1) := by decide +kernel
theorem dL_law_949 : decode cL_law 949 = .ok (.ireturn, 1) := by decide +kernel
theorem dL_law_950 : decode cL_law 950 = .ok (.aload_n 1, 1) := by decide +kernel
theorem dL_law_951 : decode cL_law 951 = .ok (.aload_n 0, 1) := by decide +kernel
theorem dL_law_952 : decode cL_law 952 = .ok (.iload_n 3, 1) := by decide +kernel
theorem dL_law_953 : decode cL_law 953 = .ok (.iconst 1, 1) := by decide +kernel
theorem dL_law_954 : decode cL_law 954 = .ok (.iadd, 1) := by decide +kernel
theorem dL_law_955 : decode cL_law 955 = .ok (.iaload, 1) := by decide +kernel
theorem dL_law_956 : decode cL_law 956 = .ok (.aload_n 0, 1) := by decide +kernel
theorem dL_law_957 : decode cL_law 957 = .ok (.iload_n 3, 1) := by decide +kernel
theorem dL_law_958 : decode cL_law 958 = .ok (.iconst 2, 1) := by decide +kernel
theorem dL_law_959 : decode cL_law 959 = .ok (.iadd, 1) := by decide +kernel
theorem dL_law_960 : decode cL_law 960 = .ok (.iaload, 1) := by decide +kernel
theorem dL_law_961 : decode cL_law 961 = .ok (.invokevirtual 114, 3) := by decide +kernel
theorem dL_law_964 : decode cL_law 964 = .ok (.aload_n 2, 1) := by decide +kernel
theorem dL_law_965 : decode cL_law 965 = .ok (.aload_n 0, 1) := by decide +kernel
theorem dL_law_966 : decode cL_law 966 = .ok (.iload_n 3, 1) := by decide +kernel
theorem dL_law_967 : decode cL_law 967 = .ok (.iconst 1, 1) := by decide +kernel
theorem dL_law_968 : decode cL_law 968 = .ok (.iadd, 1) := by decide +kernel
theorem dL_law_969 : decode cL_law 969 = .ok (.iaload, 1) := by decide +kernel
theorem dL_law_970 : decode cL_law 970 = .ok (.aload_n 0, 1) := by decide +kernel
theorem dL_law_971 : decode cL_law 971 = .ok (.iload_n 3, 1) := by decide +kernel
theorem dL_law_972 : decode cL_law 972 = .ok (.iconst 2, 1) := by decide +kernel
theorem dL_law_973 : decode cL_law 973 = .ok (.iadd, 1) := by decide +kernel
theorem dL_law_974 : decode cL_law 974 = .ok (.iaload, 1) := by decide +kernel
theorem dL_law_975 : decode cL_law 975 = .ok (.invokevirtual 117, 3) := by decide +kernel
theorem dL_law_978 : decode cL_law 978 = .ok (.if_icmp .eq 531, 3) := by decide +kernel
theorem dL_law_981 : decode cL_law 981 = .ok (.iconst 0, 1) := by decide +kernel
theorem dL_law_982 : decode cL_law 982 = .ok (.ireturn, 1) := by decide +kernel
theorem dL_law_983 : decode cL_law 983 = .ok (.aload_n 1, 1) := by decide +kernel
theorem dL_law_984 : decode cL_law 984 = .ok (.aload_n 0, 1) := by decide +kernel
theorem dL_law_985 : decode cL_law 985 = .ok (.iload_n 3, 1) := by decide +kernel
theorem dL_law_986 : decode cL_law 986 = .ok (.iconst 1, 1) := by decide +kernel
theorem dL_law_987 : decode cL_law 987 = .ok (.iadd, 1) := by decide +kernel
theorem dL_law_988 : decode cL_law 988 = .ok (.iaload, 1) := by decide +kernel
theorem dL_law_989 : decode cL_law 989 = .ok (.aload_n 0, 1) := by decide +kernel
theorem dL_law_990 : decode cL_law 990 = .ok (.iload_n 3, 1) := by decide +kernel
theorem dL_law_991 : decode cL_law 991 = .ok (.iconst 2, 1) := by decide +kernel
theorem dL_law_992 : decode cL_law 992 = .ok (.iadd, 1) := by decide +kernel
theorem dL_law_993 : decode cL_law 993 = .ok (.iaload, 1) := by decide +kernel
theorem dL_law_994 : decode cL_law 994 = .ok (.invokevirtual 118, 3) := by decide +kernel
theorem dL_law_997 : decode cL_law 997 = .ok (.aload_n 2, 1) := by decide +kernel
theorem dL_law_998 : decode cL_law 998 = .ok (.aload_n 0, 1) := by decide +kernel
theorem dL_law_999 : decode cL_law 999 = .ok (.iload_n 3, 1) := by decide +kernel
theorem dL_law_1000 : decode cL_law 1000 = .ok (.iconst 1, 1) := by decide +kernel
theorem dL_law_1001 : decode cL_law 1001 = .ok (.iadd, 1) := by decide +kernel
theorem dL_law_1002 : decode cL_law 1002 = .ok (.iaload, 1) := by decide +kernel
theorem dL_law_1003 : decode cL_law 1003 = .ok (.aload_n 0, 1) := by decide +kernel
theorem dL_law_1004 : decode cL_law 1004 = .ok (.iload_n 3, 1) := by decide +kernel
theorem dL_law_1005 : decode cL_law 1005 = .ok (.iconst 2, 1) := by decide +kernel
theorem dL_law_1006 : decode cL_law 1006 = .ok (.iadd, 1) := by decide +kernel
theorem dL_law_1007 : decode cL_law 1007 = .ok (.iaload, 1) := by decide +kernel
theorem dL_law_1008 : decode cL_law 1008 = .ok (.invokevirtual 121, 3) := by decide +kernel
theorem dL_law_1011 : decode cL_law 1011 = .ok (.if_icmp .eq 498, 3) := by decide +kernel
theorem dL_law_1014 : decode cL_law 1014 = .ok (.iconst 0, 1) := by decide +kernel
theorem dL_law_1015 : decode cL_law 1015 = .ok (.ireturn, 1) := by decide +kernel
theorem dL_law_1016 : decode cL_law 1016 = .ok (.aload_n 1, 1) := by decide +kernel
theorem dL_law_1017 : decode cL_law 1017 = .ok (.aload_n 0, 1) := by decide +kernel
theorem dL_law_1018 : decode cL_law 1018 = .ok (.iload_n 3, 1) := by decide +kernel
theorem dL_law_1019 : decode cL_law 1019 = .ok (.iconst 1, 1) := by decide +kernel
theorem dL_law_1020 : decode cL_law 1020 = .ok (.iadd, 1) := by decide +kernel
theorem dL_law_1021 : decode cL_law 1021 = .ok (.iaload, 1) := by decide +kernel
theorem dL_law_1022 : decode cL_law 1022 = .ok (.aload_n 0, 1) := by decide +kernel
theorem dL_law_1023 : decode cL_law 1023 = .ok (.iload_n 3, 1) := by decide +kernel
theorem dL_law_1024 : decode cL_law 1024 = .ok (.iconst 2, 1) := by decide +kernel
theorem dL_law_1025 : decode cL_law 1025 = .ok (.iadd, 1) := by decide +kernel
theorem dL_law_1026 : decode cL_law 1026 = .ok (.iaload, 1) := by decide +kernel
theorem dL_law_1027 : decode cL_law 1027 = .ok (.aload_n 0, 1) := by decide +kernel
theorem dL_law_1028 : decode cL_law 1028 = .ok (.iload_n 3, 1) := by decide +kernel
theorem dL_law_1029 : decode cL_law 1029 = .ok (.iconst 3, 1) := by decide +kernel
theorem dL_law_1030 : decode cL_law 1030 = .ok (.iadd, 1) := by decide +kernel
theorem dL_law_1031 : decode cL_law 1031 = .ok (.iaload, 1) := by decide +kernel
theorem dL_law_1032 : decode cL_law 1032 = .ok (.aload_n 0, 1) := by decide +kernel
theorem dL_law_1033 : decode cL_law 1033 = .ok (.iload_n 3, 1) := by decide +kernel
theorem dL_law_1034 : decode cL_law 1034 = .ok (.iconst 4, 1) := by decide +kernel
theorem dL_law_1035 : decode cL_law 1035 = .ok (.iadd, 1) := by decide +kernel
theorem dL_law_1036 : decode cL_law 1036 = .ok (.iaload, 1) := by decide +kernel
theorem dL_law_1037 : decode cL_law 1037 = .ok (.aload_n 0, 1) := by decide +kernel
theorem dL_law_1038 : decode cL_law 1038 = .ok (.iload_n 3, 1) := by decide +kernel
theorem dL_law_1039 : decode cL_law 1039 = .ok (.iconst 5, 1) := by decide +kernel
theorem dL_law_1040 : decode cL_law 1040 = .ok (.iadd, 1) := by decide +kernel
theorem dL_law_1041 : decode cL_law 1041 = .ok (.iaload, 1) := by decide +kernel
theorem dL_law_1042 : decode cL_law 1042 = .ok (.invokevirtual 122, 3) := by decide +kernel
theorem dL_law_1045 : decode cL_law 1045 = .ok (.aload_n 2, 1) := by decide +kernel
theorem dL_law_1046 : decode cL_law 1046 = .ok (.aload_n 0, 1) := by decide +kernel
theorem dL_law_1047 : decode cL_law 1047 = .ok (.iload_n 3, 1) := by decide +kernel
theorem dL_law_1048 : decode cL_law 1048 = .ok (.iconst 1, 1) := by decide +kernel
theorem dL_law_1049 : decode cL_law 1049 = .ok (.iadd, 1) := by decide +kernel
theorem dL_law_1050 : decode cL_law 1050 = .ok (.iaload, 1) := by decide +kernel
theorem dL_law_1051 : decode cL_law 1051 = .ok (.aload_n 0, 1) := by decide +kernel
theorem dL_law_1052 : decode cL_law 1052 = .ok (.iload_n 3, 1) := by decide +kernel
theorem dL_law_1053 : decode cL_law 1053 = .ok (.iconst 2, 1) := by decide +kernel
theorem dL_law_1054 : decode cL_law 1054 = .ok (.iadd, 1) := by decide +kernel
theorem dL_law_1055 : decode cL_law 1055 = .ok (.iaload, 1) := by decide +kernel
theorem dL_law_1056 : decode cL_law 1056 = .ok (.aload_n 0, 1) := by decide +kernel
theorem dL_law_1057 : decode cL_law 1057 = .ok (.iload_n 3, 1) := by decide +kernel
theorem dL_law_1058 : decode cL_law 1058 = .ok (.iconst 3, 1) := by decide +kernel
theorem dL_law_1059 : decode cL_law 1059 = .ok (.iadd, 1) := by decide +kernel
theorem dL_law_1060 : decode cL_law 1060 = .ok (.iaload, 1) := by decide +kernel
theorem dL_law_1061 : decode cL_law 1061 = .ok (.aload_n 0, 1) := by decide +kernel
theorem dL_law_1062 : decode cL_law 1062 = .ok (.iload_n 3, 1) := by decide +kernel
theorem dL_law_1063 : decode cL_law 1063 = .ok (.iconst 4, 1) := by decide +kernel
theorem dL_law_1064 : decode cL_law 1064 = .ok (.iadd, 1) := by decide +kernel
theorem dL_law_1065 : decode cL_law 1065 = .ok (.iaload, 1) := by decide +kernel
theorem dL_law_1066 : decode cL_law 1066 = .ok (.aload_n 0, 1) := by decide +kernel
theorem dL_law_1067 : decode cL_law 1067 = .ok (.iload_n 3, 1) := by decide +kernel
theorem dL_law_1068 : decode cL_law 1068 = .ok (.iconst 5, 1) := by decide +kernel
theorem dL_law_1069 : decode cL_law 1069 = .ok (.iadd, 1) := by decide +kernel
theorem dL_law_1070 : decode cL_law 1070 = .ok (.iaload, 1) := by decide +kernel
theorem dL_law_1071 : decode cL_law 1071 = .ok (.invokevirtual 125, 3) := by decide +kernel
theorem dL_law_1074 : decode cL_law 1074 = .ok (.if_icmp .eq 435, 3) := by decide +kernel
theorem dL_law_1077 : decode cL_law 1077 = .ok (.iconst 0, 1) := by decide +kernel
theorem dL_law_1078 : decode cL_law 1078 = .ok (.ireturn, 1) := by decide +kernel
theorem dL_law_1079 : decode cL_law 1079 = .ok (.aload_n 1, 1) := by decide +kernel
theorem dL_law_1080 : decode cL_law 1080 = .ok (.aload_n 0, 1) := by decide +kernel
theorem dL_law_1081 : decode cL_law 1081 = .ok (.iload_n 3, 1) := by decide +kernel
theorem dL_law_1082 : decode cL_law 1082 = .ok (.iconst 1, 1) := by decide +kernel
theorem dL_law_1083 : decode cL_law 1083 = .ok (.iadd, 1) := by decide +kernel
theorem dL_law_1084 : decode cL_law 1084 = .ok (.iaload, 1) := by decide +kernel
theorem dL_law_1085 : decode cL_law 1085 = .ok (.aload_n 0, 1) := by decide +kernel
theorem dL_law_1086 : decode cL_law 1086 = .ok (.iload_n 3, 1) := by decide +kernel
theorem dL_law_1087 : decode cL_law 1087 = .ok (.iconst 2, 1) := by decide +kernel
theorem dL_law_1088 : decode cL_law 1088 = .ok (.iadd, 1) := by decide +kernel
theorem dL_law_1089 : decode cL_law 1089 = .ok (.iaload, 1) := by decide +kernel
theorem dL_law_1090 : decode cL_law 1090 = .ok (.aload_n 0, 1) := by decide +kernel
theorem dL_law_1091 : decode cL_law 1091 = .ok (.iload_n 3, 1) := by decide +kernel
theorem dL_law_1092 : decode cL_law 1092 = .ok (.iconst 3, 1) := by decide +kernel
theorem dL_law_1093 : decode cL_law 1093 = .ok (.iadd, 1) := by decide +kernel
theorem dL_law_1094 : decode cL_law 1094 = .ok (.iaload, 1) := by decide +kernel
theorem dL_law_1095 : decode cL_law 1095 = .ok (.aload_n 0, 1) := by decide +kernel
theorem dL_law_1096 : decode cL_law 1096 = .ok (.iload_n 3, 1) := by decide +kernel
theorem dL_law_1097 : decode cL_law 1097 = .ok (.iconst 4, 1) := by decide +kernel
theorem dL_law_1098 : decode cL_law 1098 = .ok (.iadd, 1) := by decide +kernel
theorem dL_law_1099 : decode cL_law 1099 = .ok (.iaload, 1) := by decide +kernel
theorem dL_law_1100 : decode cL_law 1100 = .ok (.aload_n 0, 1) := by decide +kernel
theorem dL_law_1101 : decode cL_law 1101 = .ok (.iload_n 3, 1) := by decide +kernel
theorem dL_law_1102 : decode cL_law 1102 = .ok (.iconst 5, 1) := by decide +kernel
theorem dL_law_1103 : decode cL_law 1103 = .ok (.iadd, 1) := by decide +kernel
theorem dL_law_1104 : decode cL_law 1104 = .ok (.iaload, 1) := by decide +kernel
theorem dL_law_1105 : decode cL_law 1105 = .ok (.invokevirtual 126, 3) := by decide +kernel
theorem dL_law_1108 : decode cL_law 1108 = .ok (.aload_n 2, 1) := by decide +kernel
theorem dL_law_1109 : decode cL_law 1109 = .ok (.aload_n 0, 1) := by decide +kernel
theorem dL_law_1110 : decode cL_law 1110 = .ok (.iload_n 3, 1) := by decide +kernel
theorem dL_law_1111 : decode cL_law 1111 = .ok (.iconst 1, 1) := by decide +kernel
theorem dL_law_1112 : decode cL_law 1112 = .ok (.iadd, 1) := by decide +kernel
theorem dL_law_1113 : decode cL_law 1113 = .ok (.iaload, 1) := by decide +kernel
theorem dL_law_1114 : decode cL_law 1114 = .ok (.aload_n 0, 1) := by decide +kernel
theorem dL_law_1115 : decode cL_law 1115 = .ok (.iload_n 3, 1) := by decide +kernel
theorem dL_law_1116 : decode cL_law 1116 = .ok (.iconst 2, 1) := by decide +kernel
theorem dL_law_1117 : decode cL_law 1117 = .ok (.iadd, 1) := by decide +kernel
theorem dL_law_1118 : decode cL_law 1118 = .ok (.iaload, 1) := by decide +kernel
theorem dL_law_1119 : decode cL_law 1119 = .ok (.aload_n 0, 1) := by decide +kernel
theorem dL_law_1120 : decode cL_law 1120 = .ok (.iload_n 3, 1) := by decide +kernel
theorem dL_law_1121 : decode cL_law 1121 = .ok (.iconst 3, 1) := by decide +kernel
theorem dL_law_1122 : decode cL_law 1122 = .ok (.iadd, 1) := by decide +kernel
theorem dL_law_1123 : decode cL_law 1123 = .ok (.iaload, 1) := by decide +kernel
theorem dL_law_1124 : decode cL_law 1124 = .ok (.aload_n 0, 1) := by decide +kernel
theorem dL_law_1125 : decode cL_law 1125 = .ok (.iload_n 3, 1) := by decide +kernel
theorem dL_law_1126 : decode cL_law 1126 = .ok (.iconst 4, 1) := by decide +kernel
theorem dL_law_1127 : decode cL_law 1127 = .ok (.iadd, 1) := by decide +kernel
theorem dL_law_1128 : decode cL_law 1128 = .ok (.iaload, 1) := by decide +kernel
theorem dL_law_1129 : decode cL_law 1129 = .ok (.aload_n 0, 1) := by decide +kernel
theorem dL_law_1130 : decode cL_law 1130 = .ok (.iload_n 3, 1) := by decide +kernel
theorem dL_law_1131 : decode cL_law 1131 = .ok (.iconst 5, 1) := by decide +kernel
theorem dL_law_1132 : decode cL_law 1132 = .ok (.iadd, 1) := by decide +kernel
theorem dL_law_1133 : decode cL_law 1133 = .ok (.iaload, 1) := by decide +kernel
theorem dL_law_1134 : decode cL_law 1134 = .ok (.invokevirtual 129, 3) := by decide +kernel
theorem dL_law_1137 : decode cL_law 1137 = .ok (.if_icmp .eq 372, 3) := by decide +kernel
theorem dL_law_1140 : decode cL_law 1140 = .ok (.iconst 0, 1) := by decide +kernel
theorem dL_law_1141 : decode cL_law 1141 = .ok (.ireturn, 1) := by decide +kernel
theorem dL_law_1142 : decode cL_law 1142 = .ok (.aload_n 1, 1) := by decide +kernel
theorem dL_law_1143 : decode cL_law 1143 = .ok (.aload_n 0, 1) := by decide +kernel
theorem dL_law_1144 : decode cL_law 1144 = .ok (.iload_n 3, 1) := by decide +kernel
theorem dL_law_1145 : decode cL_law 1145 = .ok (.iconst 1, 1) := by decide +kernel
theorem dL_law_1146 : decode cL_law 1146 = .ok (.iadd, 1) := by decide +kernel
theorem dL_law_1147 : decode cL_law 1147 = .ok (.iaload, 1) := by decide +kernel
theorem dL_law_1148 : decode cL_law 1148 = .ok (.aload_n 0, 1) := by decide +kernel
theorem dL_law_1149 : decode cL_law 1149 = .ok (.iload_n 3, 1) := by decide +kernel
theorem dL_law_1150 : decode cL_law 1150 = .ok (.iconst 2, 1) := by decide +kernel
theorem dL_law_1151 : decode cL_law 1151 = .ok (.iadd, 1) := by decide +kernel
theorem dL_law_1152 : decode cL_law 1152 = .ok (.iaload, 1) := by decide +kernel
theorem dL_law_1153 : decode cL_law 1153 = .ok (.aload_n 0, 1) := by decide +kernel
theorem dL_law_1154 : decode cL_law 1154 = .ok (.iload_n 3, 1) := by decide +kernel
theorem dL_law_1155 : decode cL_law 1155 = .ok (.iconst 3, 1) := by decide +kernel
theorem dL_law_1156 : decode cL_law 1156 = .ok (.iadd, 1) := by decide +kernel
theorem dL_law_1157 : decode cL_law 1157 = .ok (.iaload, 1) := by decide +kernel
theorem dL_law_1158 : decode cL_law 1158 = .ok (.aload_n 0, 1) := by decide +kernel
theorem dL_law_1159 : decode cL_law 1159 = .ok (.iload_n 3, 1) := by decide +kernel
theorem dL_law_1160 : decode cL_law 1160 = .ok (.iconst 4, 1) := by decide +kernel
theorem dL_law_1161 : decode cL_law 1161 = .ok (.iadd, 1) := by decide +kernel
theorem dL_law_1162 : decode cL_law 1162 = .ok (.iaload, 1) := by decide +kernel
theorem dL_law_1163 : decode cL_law 1163 = .ok (.aload_n 0, 1) := by decide +kernel
theorem dL_law_1164 : decode cL_law 1164 = .ok (.iload_n 3, 1) := by decide +kernel
theorem dL_law_1165 : decode cL_law 1165 = .ok (.iconst 5, 1) := by decide +kernel
theorem dL_law_1166 : decode cL_law 1166 = .ok (.iadd, 1) := by decide +kernel
theorem dL_law_1167 : decode cL_law 1167 = .ok (.iaload, 1) := by decide +kernel
theorem dL_law_1168 : decode cL_law 1168 = .ok (.invokevirtual 130, 3) := by decide +kernel
theorem dL_law_1171 : decode cL_law 1171 = .ok (.aload_n 2, 1) := by decide +kernel
theorem dL_law_1172 : decode cL_law 1172 = .ok (.aload_n 0, 1) := by decide +kernel
theorem dL_law_1173 : decode cL_law 1173 = .ok (.iload_n 3, 1) := by decide +kernel
theorem dL_law_1174 : decode cL_law 1174 = .ok (.iconst 1, 1) := by decide +kernel
theorem dL_law_1175 : decode cL_law 1175 = .ok (.iadd, 1) := by decide +kernel
theorem dL_law_1176 : decode cL_law 1176 = .ok (.iaload, 1) := by decide +kernel
theorem dL_law_1177 : decode cL_law 1177 = .ok (.aload_n 0, 1) := by decide +kernel
theorem dL_law_1178 : decode cL_law 1178 = .ok (.iload_n 3, 1) := by decide +kernel
theorem dL_law_1179 : decode cL_law 1179 = .ok (.iconst 2, 1) := by decide +kernel
theorem dL_law_1180 : decode cL_law 1180 = .ok (.iadd, 1) := by decide +kernel
theorem dL_law_1181 : decode cL_law 1181 = .ok (.iaload, 1) := by decide +kernel
theorem dL_law_1182 : decode cL_law 1182 = .ok (.aload_n 0, 1) := by decide +kernel
theorem dL_law_1183 : decode cL_law 1183 = .ok (.iload_n 3, 1) := by decide +kernel
theorem dL_law_1184 : decode cL_law 1184 = .ok (.iconst 3, 1) := by decide +kernel
theorem dL_law_1185 : decode cL_law 1185 = .ok (.iadd, 1) := by decide +kernel
theorem dL_law_1186 : decode cL_law 1186 = .ok (.iaload, 1) := by decide +kernel
theorem dL_law_1187 : decode cL_law 1187 = .ok (.aload_n 0, 1) := by decide +kernel
theorem dL_law_1188 : decode cL_law 1188 = .ok (.iload_n 3, 1) := by decide +kernel
theorem dL_law_1189 : decode cL_law 1189 = .ok (.iconst 4, 1) := by decide +kernel
theorem dL_law_1190 : decode cL_law 1190 = .ok (.iadd, 1) := by decide +kernel
theorem dL_law_1191 : decode cL_law 1191 = .ok (.iaload, 1) := by decide +kernel
theorem dL_law_1192 : decode cL_law 1192 = .ok (.aload_n 0, 1) := by decide +kernel
theorem dL_law_1193 : decode cL_law 1193 = .ok (.iload_n 3, 1) := by decide +kernel
theorem dL_law_1194 : decode cL_law 1194 = .ok (.iconst 5, 1) := by decide +kernel
theorem dL_law_1195 : decode cL_law 1195 = .ok (.iadd, 1) := by decide +kernel
theorem dL_law_1196 : decode cL_law 1196 = .ok (.iaload, 1) := by decide +kernel
theorem dL_law_1197 : decode cL_law 1197 = .ok (.invokevirtual 133, 3) := by decide +kernel
theorem dL_law_1200 : decode cL_law 1200 = .ok (.if_icmp .eq 309, 3) := by decide +kernel
theorem dL_law_1203 : decode cL_law 1203 = .ok (.iconst 0, 1) := by decide +kernel
theorem dL_law_1204 : decode cL_law 1204 = .ok (.ireturn, 1) := by decide +kernel
theorem dL_law_1205 : decode cL_law 1205 = .ok (.aload_n 1, 1) := by decide +kernel
theorem dL_law_1206 : decode cL_law 1206 = .ok (.aload_n 0, 1) := by decide +kernel
theorem dL_law_1207 : decode cL_law 1207 = .ok (.iload_n 3, 1) := by decide +kernel
theorem dL_law_1208 : decode cL_law 1208 = .ok (.iconst 1, 1) := by decide +kernel
theorem dL_law_1209 : decode cL_law 1209 = .ok (.iadd, 1) := by decide +kernel
theorem dL_law_1210 : decode cL_law 1210 = .ok (.iaload, 1) := by decide +kernel
theorem dL_law_1211 : decode cL_law 1211 = .ok (.invokevirtual 134, 3) := by decide +kernel
theorem dL_law_1214 : decode cL_law 1214 = .ok (.aload_n 2, 1) := by decide +kernel
theorem dL_law_1215 : decode cL_law 1215 = .ok (.aload_n 0, 1) := by decide +kernel
theorem dL_law_1216 : decode cL_law 1216 = .ok (.iload_n 3, 1) := by decide +kernel
theorem dL_law_1217 : decode cL_law 1217 = .ok (.iconst 1, 1) := by decide +kernel
theorem dL_law_1218 : decode cL_law 1218 = .ok (.iadd, 1) := by decide +kernel
theorem dL_law_1219 : decode cL_law 1219 = .ok (.iaload, 1) := by decide +kernel
theorem dL_law_1220 : decode cL_law 1220 = .ok (.invokevirtual 137, 3) := by decide +kernel
theorem dL_law_1223 : decode cL_law 1223 = .ok (.if_icmp .eq 286, 3) := by decide +kernel
theorem dL_law_1226 : decode cL_law 1226 = .ok (.iconst 0, 1) := by decide +kernel
theorem dL_law_1227 : decode cL_law 1227 = .ok (.ireturn, 1) := by decide +kernel
theorem dL_law_1228 : decode cL_law 1228 = .ok (.aload_n 1, 1) := by decide +kernel
theorem dL_law_1229 : decode cL_law 1229 = .ok (.aload_n 0, 1) := by decide +kernel
theorem dL_law_1230 : decode cL_law 1230 = .ok (.iload_n 3, 1) := by decide +kernel
theorem dL_law_1231 : decode cL_law 1231 = .ok (.iconst 1, 1) := by decide +kernel
theorem dL_law_1232 : decode cL_law 1232 = .ok (.iadd, 1) := by decide +kernel
theorem dL_law_1233 : decode cL_law 1233 = .ok (.iaload, 1) := by decide +kernel
theorem dL_law_1234 : decode cL_law 1234 = .ok (.aload_n 0, 1) := by decide +kernel
theorem dL_law_1235 : decode cL_law 1235 = .ok (.iload_n 3, 1) := by decide +kernel
theorem dL_law_1236 : decode cL_law 1236 = .ok (.iconst 2, 1) := by decide +kernel
theorem dL_law_1237 : decode cL_law 1237 = .ok (.iadd, 1) := by decide +kernel
theorem dL_law_1238 : decode cL_law 1238 = .ok (.iaload, 1) := by decide +kernel
theorem dL_law_1239 : decode cL_law 1239 = .ok (.aload_n 0, 1) := by decide +kernel
theorem dL_law_1240 : decode cL_law 1240 = .ok (.iload_n 3, 1) := by decide +kernel
theorem dL_law_1241 : decode cL_law 1241 = .ok (.iconst 3, 1) := by decide +kernel
theorem dL_law_1242 : decode cL_law 1242 = .ok (.iadd, 1) := by decide +kernel
theorem dL_law_1243 : decode cL_law 1243 = .ok (.iaload, 1) := by decide +kernel
theorem dL_law_1244 : decode cL_law 1244 = .ok (.invokevirtual 138, 3) := by decide +kernel
theorem dL_law_1247 : decode cL_law 1247 = .ok (.aload_n 2, 1) := by decide +kernel
theorem dL_law_1248 : decode cL_law 1248 = .ok (.aload_n 0, 1) := by decide +kernel
theorem dL_law_1249 : decode cL_law 1249 = .ok (.iload_n 3, 1) := by decide +kernel
theorem dL_law_1250 : decode cL_law 1250 = .ok (.iconst 1, 1) := by decide +kernel
theorem dL_law_1251 : decode cL_law 1251 = .ok (.iadd, 1) := by decide +kernel
theorem dL_law_1252 : decode cL_law 1252 = .ok (.iaload, 1) := by decide +kernel
theorem dL_law_1253 : decode cL_law 1253 = .ok (.aload_n 0, 1) := by decide +kernel
theorem dL_law_1254 : decode cL_law 1254 = .ok (.iload_n 3, 1) := by decide +kernel
theorem dL_law_1255 : decode cL_law 1255 = .ok (.iconst 2, 1) := by decide +kernel
theorem dL_law_1256 : decode cL_law 1256 = .ok (.iadd, 1) := by decide +kernel
theorem dL_law_1257 : decode cL_law 1257 = .ok (.iaload, 1) := by decide +kernel
theorem dL_law_1258 : decode cL_law 1258 = .ok (.aload_n 0, 1) := by decide +kernel
theorem dL_law_1259 : decode cL_law 1259 = .ok (.iload_n 3, 1) := by decide +kernel
theorem dL_law_1260 : decode cL_law 1260 = .ok (.iconst 3, 1) := by decide +kernel
theorem dL_law_1261 : decode cL_law 1261 = .ok (.iadd, 1) := by decide +kernel
theorem dL_law_1262 : decode cL_law 1262 = .ok (.iaload, 1) := by decide +kernel
theorem dL_law_1263 : decode cL_law 1263 = .ok (.invokevirtual 142, 3) := by decide +kernel
theorem dL_law_1266 : decode cL_law 1266 = .ok (.lcmp, 1) := by decide +kernel
theorem dL_law_1267 : decode cL_law 1267 = .ok (.ifCond .eq 242, 3) := by decide +kernel
theorem dL_law_1270 : decode cL_law 1270 = .ok (.iconst 0, 1) := by decide +kernel
theorem dL_law_1271 : decode cL_law 1271 = .ok (.ireturn, 1) := by decide +kernel
theorem dL_law_1272 : decode cL_law 1272 = .ok (.aload_n 1, 1) := by decide +kernel
theorem dL_law_1273 : decode cL_law 1273 = .ok (.aload_n 0, 1) := by decide +kernel
theorem dL_law_1274 : decode cL_law 1274 = .ok (.iload_n 3, 1) := by decide +kernel
theorem dL_law_1275 : decode cL_law 1275 = .ok (.iconst 1, 1) := by decide +kernel
theorem dL_law_1276 : decode cL_law 1276 = .ok (.iadd, 1) := by decide +kernel
theorem dL_law_1277 : decode cL_law 1277 = .ok (.iaload, 1) := by decide +kernel
theorem dL_law_1278 : decode cL_law 1278 = .ok (.aload_n 0, 1) := by decide +kernel
theorem dL_law_1279 : decode cL_law 1279 = .ok (.iload_n 3, 1) := by decide +kernel
theorem dL_law_1280 : decode cL_law 1280 = .ok (.iconst 2, 1) := by decide +kernel
theorem dL_law_1281 : decode cL_law 1281 = .ok (.iadd, 1) := by decide +kernel
theorem dL_law_1282 : decode cL_law 1282 = .ok (.iaload, 1) := by decide +kernel
theorem dL_law_1283 : decode cL_law 1283 = .ok (.aload_n 0, 1) := by decide +kernel
theorem dL_law_1284 : decode cL_law 1284 = .ok (.iload_n 3, 1) := by decide +kernel
theorem dL_law_1285 : decode cL_law 1285 = .ok (.iconst 3, 1) := by decide +kernel
theorem dL_law_1286 : decode cL_law 1286 = .ok (.iadd, 1) := by decide +kernel
theorem dL_law_1287 : decode cL_law 1287 = .ok (.iaload, 1) := by decide +kernel
theorem dL_law_1288 : decode cL_law 1288 = .ok (.invokevirtual 143, 3) := by decide +kernel
theorem dL_law_1291 : decode cL_law 1291 = .ok (.aload_n 2, 1) := by decide +kernel
theorem dL_law_1292 : decode cL_law 1292 = .ok (.aload_n 0, 1) := by decide +kernel
theorem dL_law_1293 : decode cL_law 1293 = .ok (.iload_n 3, 1) := by decide +kernel
theorem dL_law_1294 : decode cL_law 1294 = .ok (.iconst 1, 1) := by decide +kernel
theorem dL_law_1295 : decode cL_law 1295 = .ok (.iadd, 1) := by decide +kernel
theorem dL_law_1296 : decode cL_law 1296 = .ok (.iaload, 1) := by decide +kernel
theorem dL_law_1297 : decode cL_law 1297 = .ok (.aload_n 0, 1) := by decide +kernel
theorem dL_law_1298 : decode cL_law 1298 = .ok (.iload_n 3, 1) := by decide +kernel
theorem dL_law_1299 : decode cL_law 1299 = .ok (.iconst 2, 1) := by decide +kernel
theorem dL_law_1300 : decode cL_law 1300 = .ok (.iadd, 1) := by decide +kernel
theorem dL_law_1301 : decode cL_law 1301 = .ok (.iaload, 1) := by decide +kernel
theorem dL_law_1302 : decode cL_law 1302 = .ok (.aload_n 0, 1) := by decide +kernel
theorem dL_law_1303 : decode cL_law 1303 = .ok (.iload_n 3, 1) := by decide +kernel
theorem dL_law_1304 : decode cL_law 1304 = .ok (.iconst 3, 1) := by decide +kernel
theorem dL_law_1305 : decode cL_law 1305 = .ok (.iadd, 1) := by decide +kernel
theorem dL_law_1306 : decode cL_law 1306 = .ok (.iaload, 1) := by decide +kernel
theorem dL_law_1307 : decode cL_law 1307 = .ok (.invokevirtual 146, 3) := by decide +kernel
theorem dL_law_1310 : decode cL_law 1310 = .ok (.if_icmp .eq 199, 3) := by decide +kernel
theorem dL_law_1313 : decode cL_law 1313 = .ok (.iconst 0, 1) := by decide +kernel
theorem dL_law_1314 : decode cL_law 1314 = .ok (.ireturn, 1) := by decide +kernel
theorem dL_law_1315 : decode cL_law 1315 = .ok (.aload_n 1, 1) := by decide +kernel
theorem dL_law_1316 : decode cL_law 1316 = .ok (.aload_n 0, 1) := by decide +kernel
theorem dL_law_1317 : decode cL_law 1317 = .ok (.iload_n 3, 1) := by decide +kernel
theorem dL_law_1318 : decode cL_law 1318 = .ok (.iconst 1, 1) := by decide +kernel
theorem dL_law_1319 : decode cL_law 1319 = .ok (.iadd, 1) := by decide +kernel
theorem dL_law_1320 : decode cL_law 1320 = .ok (.iaload, 1) := by decide +kernel
theorem dL_law_1321 : decode cL_law 1321 = .ok (.invokevirtual 147, 3) := by decide +kernel
theorem dL_law_1324 : decode cL_law 1324 = .ok (.aload_n 2, 1) := by decide +kernel
theorem dL_law_1325 : decode cL_law 1325 = .ok (.aload_n 0, 1) := by decide +kernel
theorem dL_law_1326 : decode cL_law 1326 = .ok (.iload_n 3, 1) := by decide +kernel
theorem dL_law_1327 : decode cL_law 1327 = .ok (.iconst 1, 1) := by decide +kernel
theorem dL_law_1328 : decode cL_law 1328 = .ok (.iadd, 1) := by decide +kernel
theorem dL_law_1329 : decode cL_law 1329 = .ok (.iaload, 1) := by decide +kernel
theorem dL_law_1330 : decode cL_law 1330 = .ok (.invokevirtual 150, 3) := by decide +kernel
theorem dL_law_1333 : decode cL_law 1333 = .ok (.if_icmp .eq 176, 3) := by decide +kernel
theorem dL_law_1336 : decode cL_law 1336 = .ok (.iconst 0, 1) := by decide +kernel
theorem dL_law_1337 : decode cL_law 1337 = .ok (.ireturn, 1) := by decide +kernel
theorem dL_law_1338 : decode cL_law 1338 = .ok (.aload_n 1, 1) := by decide +kernel
theorem dL_law_1339 : decode cL_law 1339 = .ok (.aload_n 0, 1) := by decide +kernel
theorem dL_law_1340 : decode cL_law 1340 = .ok (.iload_n 3, 1) := by decide +kernel
theorem dL_law_1341 : decode cL_law 1341 = .ok (.iconst 1, 1) := by decide +kernel
theorem dL_law_1342 : decode cL_law 1342 = .ok (.iadd, 1) := by decide +kernel
theorem dL_law_1343 : decode cL_law 1343 = .ok (.iaload, 1) := by decide +kernel
theorem dL_law_1344 : decode cL_law 1344 = .ok (.invokevirtual 151, 3) := by decide +kernel
theorem dL_law_1347 : decode cL_law 1347 = .ok (.aload_n 2, 1) := by decide +kernel
theorem dL_law_1348 : decode cL_law 1348 = .ok (.aload_n 0, 1) := by decide +kernel
theorem dL_law_1349 : decode cL_law 1349 = .ok (.iload_n 3, 1) := by decide +kernel
theorem dL_law_1350 : decode cL_law 1350 = .ok (.iconst 1, 1) := by decide +kernel
theorem dL_law_1351 : decode cL_law 1351 = .ok (.iadd, 1) := by decide +kernel
theorem dL_law_1352 : decode cL_law 1352 = .ok (.iaload, 1) := by decide +kernel
theorem dL_law_1353 : decode cL_law 1353 = .ok (.invokevirtual 154, 3) := by decide +kernel
theorem dL_law_1356 : decode cL_law 1356 = .ok (.if_icmp .eq 153, 3) := by decide +kernel
theorem dL_law_1359 : decode cL_law 1359 = .ok (.iconst 0, 1) := by decide +kernel
theorem dL_law_1360 : decode cL_law 1360 = .ok (.ireturn, 1) := by decide +kernel
theorem dL_law_1361 : decode cL_law 1361 = .ok (.aload_n 1, 1) := by decide +kernel
theorem dL_law_1362 : decode cL_law 1362 = .ok (.aload_n 0, 1) := by decide +kernel
theorem dL_law_1363 : decode cL_law 1363 = .ok (.iload_n 3, 1) := by decide +kernel
theorem dL_law_1364 : decode cL_law 1364 = .ok (.iconst 1, 1) := by decide +kernel
theorem dL_law_1365 : decode cL_law 1365 = .ok (.iadd, 1) := by decide +kernel
theorem dL_law_1366 : decode cL_law 1366 = .ok (.iaload, 1) := by decide +kernel
theorem dL_law_1367 : decode cL_law 1367 = .ok (.invokevirtual 155, 3) := by decide +kernel
theorem dL_law_1370 : decode cL_law 1370 = .ok (.aload_n 2, 1) := by decide +kernel
theorem dL_law_1371 : decode cL_law 1371 = .ok (.aload_n 0, 1) := by decide +kernel
theorem dL_law_1372 : decode cL_law 1372 = .ok (.iload_n 3, 1) := by decide +kernel
theorem dL_law_1373 : decode cL_law 1373 = .ok (.iconst 1, 1) := by decide +kernel
theorem dL_law_1374 : decode cL_law 1374 = .ok (.iadd, 1) := by decide +kernel
theorem dL_law_1375 : decode cL_law 1375 = .ok (.iaload, 1) := by decide +kernel
theorem dL_law_1376 : decode cL_law 1376 = .ok (.invokevirtual 158, 3) := by decide +kernel
theorem dL_law_1379 : decode cL_law 1379 = .ok (.if_icmp .eq 130, 3) := by decide +kernel
theorem dL_law_1382 : decode cL_law 1382 = .ok (.iconst 0, 1) := by decide +kernel
theorem dL_law_1383 : decode cL_law 1383 = .ok (.ireturn, 1) := by decide +kernel
theorem dL_law_1384 : decode cL_law 1384 = .ok (.aload_n 1, 1) := by decide +kernel
theorem dL_law_1385 : decode cL_law 1385 = .ok (.aload_n 0, 1) := by decide +kernel
theorem dL_law_1386 : decode cL_law 1386 = .ok (.iload_n 3, 1) := by decide +kernel
theorem dL_law_1387 : decode cL_law 1387 = .ok (.iconst 1, 1) := by decide +kernel
theorem dL_law_1388 : decode cL_law 1388 = .ok (.iadd, 1) := by decide +kernel
theorem dL_law_1389 : decode cL_law 1389 = .ok (.iaload, 1) := by decide +kernel
theorem dL_law_1390 : decode cL_law 1390 = .ok (.aload_n 0, 1) := by decide +kernel
theorem dL_law_1391 : decode cL_law 1391 = .ok (.iload_n 3, 1) := by decide +kernel
theorem dL_law_1392 : decode cL_law 1392 = .ok (.iconst 2, 1) := by decide +kernel
theorem dL_law_1393 : decode cL_law 1393 = .ok (.iadd, 1) := by decide +kernel
theorem dL_law_1394 : decode cL_law 1394 = .ok (.iaload, 1) := by decide +kernel
theorem dL_law_1395 : decode cL_law 1395 = .ok (.invokevirtual 159, 3) := by decide +kernel
theorem dL_law_1398 : decode cL_law 1398 = .ok (.aload_n 2, 1) := by decide +kernel
theorem dL_law_1399 : decode cL_law 1399 = .ok (.aload_n 0, 1) := by decide +kernel
theorem dL_law_1400 : decode cL_law 1400 = .ok (.iload_n 3, 1) := by decide +kernel
theorem dL_law_1401 : decode cL_law 1401 = .ok (.iconst 1, 1) := by decide +kernel
theorem dL_law_1402 : decode cL_law 1402 = .ok (.iadd, 1) := by decide +kernel
theorem dL_law_1403 : decode cL_law 1403 = .ok (.iaload, 1) := by decide +kernel
theorem dL_law_1404 : decode cL_law 1404 = .ok (.aload_n 0, 1) := by decide +kernel
theorem dL_law_1405 : decode cL_law 1405 = .ok (.iload_n 3, 1) := by decide +kernel
theorem dL_law_1406 : decode cL_law 1406 = .ok (.iconst 2, 1) := by decide +kernel
theorem dL_law_1407 : decode cL_law 1407 = .ok (.iadd, 1) := by decide +kernel
theorem dL_law_1408 : decode cL_law 1408 = .ok (.iaload, 1) := by decide +kernel
theorem dL_law_1409 : decode cL_law 1409 = .ok (.invokevirtual 162, 3) := by decide +kernel
theorem dL_law_1412 : decode cL_law 1412 = .ok (.if_icmp .eq 97, 3) := by decide +kernel
theorem dL_law_1415 : decode cL_law 1415 = .ok (.iconst 0, 1) := by decide +kernel
theorem dL_law_1416 : decode cL_law 1416 = .ok (.ireturn, 1) := by decide +kernel
theorem dL_law_1417 : decode cL_law 1417 = .ok (.aload_n 1, 1) := by decide +kernel
theorem dL_law_1418 : decode cL_law 1418 = .ok (.aload_n 0, 1) := by decide +kernel
theorem dL_law_1419 : decode cL_law 1419 = .ok (.iload_n 3, 1) := by decide +kernel
theorem dL_law_1420 : decode cL_law 1420 = .ok (.iconst 1, 1) := by decide +kernel
theorem dL_law_1421 : decode cL_law 1421 = .ok (.iadd, 1) := by decide +kernel
theorem dL_law_1422 : decode cL_law 1422 = .ok (.iaload, 1) := by decide +kernel
theorem dL_law_1423 : decode cL_law 1423 = .ok (.aload_n 0, 1) := by decide +kernel
theorem dL_law_1424 : decode cL_law 1424 = .ok (.iload_n 3, 1) := by decide +kernel
theorem dL_law_1425 : decode cL_law 1425 = .ok (.iconst 2, 1) := by decide +kernel
theorem dL_law_1426 : decode cL_law 1426 = .ok (.iadd, 1) := by decide +kernel
theorem dL_law_1427 : decode cL_law 1427 = .ok (.iaload, 1) := by decide +kernel
theorem dL_law_1428 : decode cL_law 1428 = .ok (.invokevirtual 163, 3) := by decide +kernel
theorem dL_law_1431 : decode cL_law 1431 = .ok (.aload_n 2, 1) := by decide +kernel
theorem dL_law_1432 : decode cL_law 1432 = .ok (.aload_n 0, 1) := by decide +kernel
theorem dL_law_1433 : decode cL_law 1433 = .ok (.iload_n 3, 1) := by decide +kernel
theorem dL_law_1434 : decode cL_law 1434 = .ok (.iconst 1, 1) := by decide +kernel
theorem dL_law_1435 : decode cL_law 1435 = .ok (.iadd, 1) := by decide +kernel
theorem dL_law_1436 : decode cL_law 1436 = .ok (.iaload, 1) := by decide +kernel
theorem dL_law_1437 : decode cL_law 1437 = .ok (.aload_n 0, 1) := by decide +kernel
theorem dL_law_1438 : decode cL_law 1438 = .ok (.iload_n 3, 1) := by decide +kernel
theorem dL_law_1439 : decode cL_law 1439 = .ok (.iconst 2, 1) := by decide +kernel
theorem dL_law_1440 : decode cL_law 1440 = .ok (.iadd, 1) := by decide +kernel
theorem dL_law_1441 : decode cL_law 1441 = .ok (.iaload, 1) := by decide +kernel
theorem dL_law_1442 : decode cL_law 1442 = .ok (.invokevirtual 166, 3) := by decide +kernel
theorem dL_law_1445 : decode cL_law 1445 = .ok (.if_icmp .eq 64, 3) := by decide +kernel
theorem dL_law_1448 : decode cL_law 1448 = .ok (.iconst 0, 1) := by decide +kernel
theorem dL_law_1449 : decode cL_law 1449 = .ok (.ireturn, 1) := by decide +kernel
theorem dL_law_1450 : decode cL_law 1450 = .ok (.aload_n 1, 1) := by decide +kernel
theorem dL_law_1451 : decode cL_law 1451 = .ok (.aload_n 0, 1) := by decide +kernel
theorem dL_law_1452 : decode cL_law 1452 = .ok (.iload_n 3, 1) := by decide +kernel
theorem dL_law_1453 : decode cL_law 1453 = .ok (.iconst 1, 1) := by decide +kernel
theorem dL_law_1454 : decode cL_law 1454 = .ok (.iadd, 1) := by decide +kernel
theorem dL_law_1455 : decode cL_law 1455 = .ok (.iaload, 1) := by decide +kernel
theorem dL_law_1456 : decode cL_law 1456 = .ok (.invokevirtual 167, 3) := by decide +kernel
theorem dL_law_1459 : decode cL_law 1459 = .ok (.aload_n 2, 1) := by decide +kernel
theorem dL_law_1460 : decode cL_law 1460 = .ok (.aload_n 0, 1) := by decide +kernel
theorem dL_law_1461 : decode cL_law 1461 = .ok (.iload_n 3, 1) := by decide +kernel
theorem dL_law_1462 : decode cL_law 1462 = .ok (.iconst 1, 1) := by decide +kernel
theorem dL_law_1463 : decode cL_law 1463 = .ok (.iadd, 1) := by decide +kernel
theorem dL_law_1464 : decode cL_law 1464 = .ok (.iaload, 1) := by decide +kernel
theorem dL_law_1465 : decode cL_law 1465 = .ok (.invokevirtual 170, 3) := by decide +kernel
theorem dL_law_1468 : decode cL_law 1468 = .ok (.if_icmp .eq 41, 3) := by decide +kernel
theorem dL_law_1471 : decode cL_law 1471 = .ok (.iconst 0, 1) := by decide +kernel
theorem dL_law_1472 : decode cL_law 1472 = .ok (.ireturn, 1) := by decide +kernel
theorem dL_law_1473 : decode cL_law 1473 = .ok (.aload_n 1, 1) := by decide +kernel
theorem dL_law_1474 : decode cL_law 1474 = .ok (.aload_n 0, 1) := by decide +kernel
theorem dL_law_1475 : decode cL_law 1475 = .ok (.iload_n 3, 1) := by decide +kernel
theorem dL_law_1476 : decode cL_law 1476 = .ok (.iconst 1, 1) := by decide +kernel
theorem dL_law_1477 : decode cL_law 1477 = .ok (.iadd, 1) := by decide +kernel
theorem dL_law_1478 : decode cL_law 1478 = .ok (.iaload, 1) := by decide +kernel
theorem dL_law_1479 : decode cL_law 1479 = .ok (.invokevirtual 171, 3) := by decide +kernel
theorem dL_law_1482 : decode cL_law 1482 = .ok (.aload_n 2, 1) := by decide +kernel
theorem dL_law_1483 : decode cL_law 1483 = .ok (.aload_n 0, 1) := by decide +kernel
theorem dL_law_1484 : decode cL_law 1484 = .ok (.iload_n 3, 1) := by decide +kernel
theorem dL_law_1485 : decode cL_law 1485 = .ok (.iconst 1, 1) := by decide +kernel
theorem dL_law_1486 : decode cL_law 1486 = .ok (.iadd, 1) := by decide +kernel
theorem dL_law_1487 : decode cL_law 1487 = .ok (.iaload, 1) := by decide +kernel
theorem dL_law_1488 : decode cL_law 1488 = .ok (.invokevirtual 174, 3) := by decide +kernel
theorem dL_law_1491 : decode cL_law 1491 = .ok (.if_icmp .eq 18, 3) := by decide +kernel
theorem dL_law_1494 : decode cL_law 1494 = .ok (.iconst 0, 1) := by decide +kernel
theorem dL_law_1495 : decode cL_law 1495 = .ok (.ireturn, 1) := by decide +kernel
theorem dL_law_1496 : decode cL_law 1496 = .ok (.aload_n 1, 1) := by decide +kernel
theorem dL_law_1497 : decode cL_law 1497 = .ok (.invokevirtual 175, 3) := by decide +kernel
theorem dL_law_1500 : decode cL_law 1500 = .ok (.aload_n 2, 1) := by decide +kernel
theorem dL_law_1501 : decode cL_law 1501 = .ok (.invokevirtual 178, 3) := by decide +kernel
theorem dL_law_1504 : decode cL_law 1504 = .ok (.if_icmp .eq 5, 3) := by decide +kernel
theorem dL_law_1507 : decode cL_law 1507 = .ok (.iconst 0, 1) := by decide +kernel
theorem dL_law_1508 : decode cL_law 1508 = .ok (.ireturn, 1) := by decide +kernel
theorem dL_law_1509 : decode cL_law 1509 = .ok (.iinc 3 6, 3) := by decide +kernel
theorem dL_law_1512 : decode cL_law 1512 = .ok (.goto (-1494), 3) := by decide +kernel
theorem dL_law_1515 : decode cL_law 1515 = .ok (.iconst 1, 1) := by decide +kernel
theorem dL_law_1516 : decode cL_law 1516 = .ok (.ireturn, 1) := by decide +kernel
end
section
theorem zz_0 : True := trivial
end
