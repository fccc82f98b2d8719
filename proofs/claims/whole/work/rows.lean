section
-- ===== PART A: goes FIRST, ahead of the names: the tables' words, and 'selects' of the private methods out of them =====
/-- a private method of a class that the tables say can be made, by its rows of tables_1 -/
def lw_okq (q : MethodName × Nat) : Prop := (q.1.cls ≠ "java/lang/invoke/MethodHandle" ∧ q.1.cls ≠ "java/lang/invoke/VarHandle") ∧ Cond.instantiable q.1.cls q.2 ∈ tables_1 ∧ Cond.privateMethod q.1 ∈ tables_1 ∧ Cond.instanceMethod q.1 ∈ tables_1
theorem lw_p0 : lw_okq (⟨"CrossDock", "arrivalsFor", "(I)I"⟩, 11) := ⟨⟨by decide +kernel, by decide +kernel⟩, List.mem_of_getElem? (i := 17) (by decide +kernel), List.mem_of_getElem? (i := 204) (by decide +kernel), List.mem_of_getElem? (i := 205) (by decide +kernel)⟩
theorem lw_p1 : lw_okq (⟨"CrossDock", "mayServe", "(II)Z"⟩, 11) := ⟨⟨by decide +kernel, by decide +kernel⟩, List.mem_of_getElem? (i := 17) (by decide +kernel), List.mem_of_getElem? (i := 208) (by decide +kernel), List.mem_of_getElem? (i := 209) (by decide +kernel)⟩
theorem lw_p2 : lw_okq (⟨"CrossDock", "obstacle", "(II)I"⟩, 11) := ⟨⟨by decide +kernel, by decide +kernel⟩, List.mem_of_getElem? (i := 17) (by decide +kernel), List.mem_of_getElem? (i := 212) (by decide +kernel), List.mem_of_getElem? (i := 213) (by decide +kernel)⟩
theorem lw_p3 : lw_okq (⟨"CrossDock$Order", "takesLot", "(I)Z"⟩, 6) := ⟨⟨by decide +kernel, by decide +kernel⟩, List.mem_of_getElem? (i := 57) (by decide +kernel), List.mem_of_getElem? (i := 216) (by decide +kernel), List.mem_of_getElem? (i := 217) (by decide +kernel)⟩
theorem lw_p4 : lw_okq (⟨"CrossDock$Arrival", "isBarredFor", "(I)Z"⟩, 6) := ⟨⟨by decide +kernel, by decide +kernel⟩, List.mem_of_getElem? (i := 26) (by decide +kernel), List.mem_of_getElem? (i := 220) (by decide +kernel), List.mem_of_getElem? (i := 221) (by decide +kernel)⟩
theorem lw_p5 : lw_okq (⟨"CrossDock", "ordersFor", "(I)I"⟩, 11) := ⟨⟨by decide +kernel, by decide +kernel⟩, List.mem_of_getElem? (i := 17) (by decide +kernel), List.mem_of_getElem? (i := 224) (by decide +kernel), List.mem_of_getElem? (i := 225) (by decide +kernel)⟩
theorem lw_p6 : lw_okq (⟨"CrossDock", "touchesSaved", "()I"⟩, 11) := ⟨⟨by decide +kernel, by decide +kernel⟩, List.mem_of_getElem? (i := 17) (by decide +kernel), List.mem_of_getElem? (i := 236) (by decide +kernel), List.mem_of_getElem? (i := 237) (by decide +kernel)⟩
theorem lw_p7 : lw_okq (⟨"CrossDock$Pairs", "palletsInAll", "()I"⟩, 4) := ⟨⟨by decide +kernel, by decide +kernel⟩, List.mem_of_getElem? (i := 139) (by decide +kernel), List.mem_of_getElem? (i := 240) (by decide +kernel), List.mem_of_getElem? (i := 241) (by decide +kernel)⟩
theorem lw_p8 : lw_okq (⟨"CrossDock$Pairs", "palletsFor", "(I)I"⟩, 4) := ⟨⟨by decide +kernel, by decide +kernel⟩, List.mem_of_getElem? (i := 139) (by decide +kernel), List.mem_of_getElem? (i := 244) (by decide +kernel), List.mem_of_getElem? (i := 245) (by decide +kernel)⟩
theorem lw_p9 : lw_okq (⟨"CrossDock$Arrival", "toGive", "()I"⟩, 6) := ⟨⟨by decide +kernel, by decide +kernel⟩, List.mem_of_getElem? (i := 26) (by decide +kernel), List.mem_of_getElem? (i := 248) (by decide +kernel), List.mem_of_getElem? (i := 249) (by decide +kernel)⟩
theorem lw_p10 : lw_okq (⟨"CrossDock", "fullLanes", "()I"⟩, 11) := ⟨⟨by decide +kernel, by decide +kernel⟩, List.mem_of_getElem? (i := 17) (by decide +kernel), List.mem_of_getElem? (i := 256) (by decide +kernel), List.mem_of_getElem? (i := 257) (by decide +kernel)⟩
theorem lw_p11 : lw_okq (⟨"java/lang/Throwable", "fillInStackTrace", "(I)Ljava/lang/Throwable;"⟩, 6) := ⟨⟨by decide +kernel, by decide +kernel⟩, List.mem_of_getElem? (i := 311) (by decide +kernel), List.mem_of_getElem? (i := 309) (by decide +kernel), List.mem_of_getElem? (i := 310) (by decide +kernel)⟩
theorem lw_p12 : lw_okq (⟨"CrossDock$Pairs", "palletsOf", "(I)I"⟩, 4) := ⟨⟨by decide +kernel, by decide +kernel⟩, List.mem_of_getElem? (i := 139) (by decide +kernel), List.mem_of_getElem? (i := 402) (by decide +kernel), List.mem_of_getElem? (i := 403) (by decide +kernel)⟩
theorem lw_p13 : lw_okq (⟨"CrossDock$Arrival", "setBarred", "(IZ)V"⟩, 6) := ⟨⟨by decide +kernel, by decide +kernel⟩, List.mem_of_getElem? (i := 26) (by decide +kernel), List.mem_of_getElem? (i := 429) (by decide +kernel), List.mem_of_getElem? (i := 430) (by decide +kernel)⟩
theorem lw_p14 : lw_okq (⟨"CrossDock", "layOutPairs", "()V"⟩, 11) := ⟨⟨by decide +kernel, by decide +kernel⟩, List.mem_of_getElem? (i := 17) (by decide +kernel), List.mem_of_getElem? (i := 447) (by decide +kernel), List.mem_of_getElem? (i := 448) (by decide +kernel)⟩
theorem lw_p15 : lw_okq (⟨"CrossDock", "sortOrders", "()V"⟩, 11) := ⟨⟨by decide +kernel, by decide +kernel⟩, List.mem_of_getElem? (i := 17) (by decide +kernel), List.mem_of_getElem? (i := 451) (by decide +kernel), List.mem_of_getElem? (i := 452) (by decide +kernel)⟩
def lw_privs_1 : List (MethodName × Nat) := [(⟨"CrossDock", "arrivalsFor", "(I)I"⟩, 11), (⟨"CrossDock", "mayServe", "(II)Z"⟩, 11), (⟨"CrossDock", "obstacle", "(II)I"⟩, 11), (⟨"CrossDock$Order", "takesLot", "(I)Z"⟩, 6), (⟨"CrossDock$Arrival", "isBarredFor", "(I)Z"⟩, 6), (⟨"CrossDock", "ordersFor", "(I)I"⟩, 11), (⟨"CrossDock", "touchesSaved", "()I"⟩, 11), (⟨"CrossDock$Pairs", "palletsInAll", "()I"⟩, 4), (⟨"CrossDock$Pairs", "palletsFor", "(I)I"⟩, 4), (⟨"CrossDock$Arrival", "toGive", "()I"⟩, 6), (⟨"CrossDock", "fullLanes", "()I"⟩, 11), (⟨"java/lang/Throwable", "fillInStackTrace", "(I)Ljava/lang/Throwable;"⟩, 6), (⟨"CrossDock$Pairs", "palletsOf", "(I)I"⟩, 4), (⟨"CrossDock$Arrival", "setBarred", "(IZ)V"⟩, 6), (⟨"CrossDock", "layOutPairs", "()V"⟩, 11), (⟨"CrossDock", "sortOrders", "()V"⟩, 11)]
theorem lw_r1 : ∀ q ∈ lw_privs_1, lw_okq q := List.forall_mem_cons.mpr ⟨lw_p0, List.forall_mem_cons.mpr ⟨lw_p1, List.forall_mem_cons.mpr ⟨lw_p2, List.forall_mem_cons.mpr ⟨lw_p3, List.forall_mem_cons.mpr ⟨lw_p4, List.forall_mem_cons.mpr ⟨lw_p5, List.forall_mem_cons.mpr ⟨lw_p6, List.forall_mem_cons.mpr ⟨lw_p7, List.forall_mem_cons.mpr ⟨lw_p8, List.forall_mem_cons.mpr ⟨lw_p9, List.forall_mem_cons.mpr ⟨lw_p10, List.forall_mem_cons.mpr ⟨lw_p11, List.forall_mem_cons.mpr ⟨lw_p12, List.forall_mem_cons.mpr ⟨lw_p13, List.forall_mem_cons.mpr ⟨lw_p14, List.forall_mem_cons.mpr ⟨lw_p15, fun _ h => absurd h List.not_mem_nil⟩⟩⟩⟩⟩⟩⟩⟩⟩⟩⟩⟩⟩⟩⟩⟩
theorem lw_p16 : lw_okq (⟨"CrossDock", "sortArrivals", "()V"⟩, 11) := ⟨⟨by decide +kernel, by decide +kernel⟩, List.mem_of_getElem? (i := 17) (by decide +kernel), List.mem_of_getElem? (i := 455) (by decide +kernel), List.mem_of_getElem? (i := 456) (by decide +kernel)⟩
theorem lw_p17 : lw_okq (⟨"CrossDock$Search", "addPair", "(II)V"⟩, 13) := ⟨⟨by decide +kernel, by decide +kernel⟩, List.mem_of_getElem? (i := 83) (by decide +kernel), List.mem_of_getElem? (i := 459) (by decide +kernel), List.mem_of_getElem? (i := 460) (by decide +kernel)⟩
theorem lw_p18 : lw_okq (⟨"CrossDock$Search", "lookAtAll", "(I)Z"⟩, 13) := ⟨⟨by decide +kernel, by decide +kernel⟩, List.mem_of_getElem? (i := 83) (by decide +kernel), List.mem_of_getElem? (i := 463) (by decide +kernel), List.mem_of_getElem? (i := 464) (by decide +kernel)⟩
theorem lw_p19 : lw_okq (⟨"CrossDock$Search", "putAllBack", "()V"⟩, 13) := ⟨⟨by decide +kernel, by decide +kernel⟩, List.mem_of_getElem? (i := 83) (by decide +kernel), List.mem_of_getElem? (i := 467) (by decide +kernel), List.mem_of_getElem? (i := 468) (by decide +kernel)⟩
theorem lw_p20 : lw_okq (⟨"CrossDock$Search", "greatest", "(I)I"⟩, 13) := ⟨⟨by decide +kernel, by decide +kernel⟩, List.mem_of_getElem? (i := 83) (by decide +kernel), List.mem_of_getElem? (i := 474) (by decide +kernel), List.mem_of_getElem? (i := 475) (by decide +kernel)⟩
theorem lw_p21 : lw_okq (⟨"CrossDock$Search", "backToUntried", "(I)I"⟩, 13) := ⟨⟨by decide +kernel, by decide +kernel⟩, List.mem_of_getElem? (i := 83) (by decide +kernel), List.mem_of_getElem? (i := 481) (by decide +kernel), List.mem_of_getElem? (i := 482) (by decide +kernel)⟩
theorem lw_p22 : lw_okq (⟨"CrossDock$Search", "putBack", "(I)V"⟩, 13) := ⟨⟨by decide +kernel, by decide +kernel⟩, List.mem_of_getElem? (i := 83) (by decide +kernel), List.mem_of_getElem? (i := 485) (by decide +kernel), List.mem_of_getElem? (i := 486) (by decide +kernel)⟩
theorem lw_p23 : lw_okq (⟨"CrossDock$Search", "touchesBy", "(I)I"⟩, 13) := ⟨⟨by decide +kernel, by decide +kernel⟩, List.mem_of_getElem? (i := 83) (by decide +kernel), List.mem_of_getElem? (i := 489) (by decide +kernel), List.mem_of_getElem? (i := 490) (by decide +kernel)⟩
theorem lw_p24 : lw_okq (⟨"CrossDock$Search", "take", "(II)V"⟩, 13) := ⟨⟨by decide +kernel, by decide +kernel⟩, List.mem_of_getElem? (i := 83) (by decide +kernel), List.mem_of_getElem? (i := 493) (by decide +kernel), List.mem_of_getElem? (i := 494) (by decide +kernel)⟩
theorem lw_p25 : lw_okq (⟨"CrossDock$Search", "chooseIfBetter", "()V"⟩, 13) := ⟨⟨by decide +kernel, by decide +kernel⟩, List.mem_of_getElem? (i := 83) (by decide +kernel), List.mem_of_getElem? (i := 497) (by decide +kernel), List.mem_of_getElem? (i := 498) (by decide +kernel)⟩
theorem lw_p26 : lw_okq (⟨"CrossDock$Search", "chooseByRule", "()V"⟩, 13) := ⟨⟨by decide +kernel, by decide +kernel⟩, List.mem_of_getElem? (i := 83) (by decide +kernel), List.mem_of_getElem? (i := 501) (by decide +kernel), List.mem_of_getElem? (i := 502) (by decide +kernel)⟩
theorem lw_p27 : lw_okq (⟨"CrossDock$Pairs", "replaceBy", "(LCrossDock$Search;)V"⟩, 4) := ⟨⟨by decide +kernel, by decide +kernel⟩, List.mem_of_getElem? (i := 139) (by decide +kernel), List.mem_of_getElem? (i := 505) (by decide +kernel), List.mem_of_getElem? (i := 506) (by decide +kernel)⟩
theorem lw_p28 : lw_okq (⟨"CrossDock$Pairs", "removeAt", "(I)V"⟩, 4) := ⟨⟨by decide +kernel, by decide +kernel⟩, List.mem_of_getElem? (i := 139) (by decide +kernel), List.mem_of_getElem? (i := 523) (by decide +kernel), List.mem_of_getElem? (i := 524) (by decide +kernel)⟩
theorem lw_p29 : lw_okq (⟨"CrossDock$Arrival", "moveTo", "(LCrossDock$Arrival;I)V"⟩, 6) := ⟨⟨by decide +kernel, by decide +kernel⟩, List.mem_of_getElem? (i := 26) (by decide +kernel), List.mem_of_getElem? (i := 535) (by decide +kernel), List.mem_of_getElem? (i := 536) (by decide +kernel)⟩
theorem lw_p30 : lw_okq (⟨"CrossDock", "isUnfit", "(II)Z"⟩, 11) := ⟨⟨by decide +kernel, by decide +kernel⟩, List.mem_of_getElem? (i := 17) (by decide +kernel), List.mem_of_getElem? (i := 547) (by decide +kernel), List.mem_of_getElem? (i := 548) (by decide +kernel)⟩
theorem lw_p31 : lw_okq (⟨"CrossDock", "whatBarsAll", "(I)I"⟩, 11) := ⟨⟨by decide +kernel, by decide +kernel⟩, List.mem_of_getElem? (i := 17) (by decide +kernel), List.mem_of_getElem? (i := 565) (by decide +kernel), List.mem_of_getElem? (i := 566) (by decide +kernel)⟩
def lw_privs_2 : List (MethodName × Nat) := [(⟨"CrossDock", "sortArrivals", "()V"⟩, 11), (⟨"CrossDock$Search", "addPair", "(II)V"⟩, 13), (⟨"CrossDock$Search", "lookAtAll", "(I)Z"⟩, 13), (⟨"CrossDock$Search", "putAllBack", "()V"⟩, 13), (⟨"CrossDock$Search", "greatest", "(I)I"⟩, 13), (⟨"CrossDock$Search", "backToUntried", "(I)I"⟩, 13), (⟨"CrossDock$Search", "putBack", "(I)V"⟩, 13), (⟨"CrossDock$Search", "touchesBy", "(I)I"⟩, 13), (⟨"CrossDock$Search", "take", "(II)V"⟩, 13), (⟨"CrossDock$Search", "chooseIfBetter", "()V"⟩, 13), (⟨"CrossDock$Search", "chooseByRule", "()V"⟩, 13), (⟨"CrossDock$Pairs", "replaceBy", "(LCrossDock$Search;)V"⟩, 4), (⟨"CrossDock$Pairs", "removeAt", "(I)V"⟩, 4), (⟨"CrossDock$Arrival", "moveTo", "(LCrossDock$Arrival;I)V"⟩, 6), (⟨"CrossDock", "isUnfit", "(II)Z"⟩, 11), (⟨"CrossDock", "whatBarsAll", "(I)I"⟩, 11)]
theorem lw_r2 : ∀ q ∈ lw_privs_2, lw_okq q := List.forall_mem_cons.mpr ⟨lw_p16, List.forall_mem_cons.mpr ⟨lw_p17, List.forall_mem_cons.mpr ⟨lw_p18, List.forall_mem_cons.mpr ⟨lw_p19, List.forall_mem_cons.mpr ⟨lw_p20, List.forall_mem_cons.mpr ⟨lw_p21, List.forall_mem_cons.mpr ⟨lw_p22, List.forall_mem_cons.mpr ⟨lw_p23, List.forall_mem_cons.mpr ⟨lw_p24, List.forall_mem_cons.mpr ⟨lw_p25, List.forall_mem_cons.mpr ⟨lw_p26, List.forall_mem_cons.mpr ⟨lw_p27, List.forall_mem_cons.mpr ⟨lw_p28, List.forall_mem_cons.mpr ⟨lw_p29, List.forall_mem_cons.mpr ⟨lw_p30, List.forall_mem_cons.mpr ⟨lw_p31, fun _ h => absurd h List.not_mem_nil⟩⟩⟩⟩⟩⟩⟩⟩⟩⟩⟩⟩⟩⟩⟩⟩
theorem lw_p32 : lw_okq (⟨"CrossDockModel", "isOrder", "(I)Z"⟩, 28) := ⟨⟨by decide +kernel, by decide +kernel⟩, List.mem_of_getElem? (i := 572) (by decide +kernel), List.mem_of_getElem? (i := 682) (by decide +kernel), List.mem_of_getElem? (i := 683) (by decide +kernel)⟩
theorem lw_p33 : lw_okq (⟨"CrossDockModel", "isArrival", "(I)Z"⟩, 28) := ⟨⟨by decide +kernel, by decide +kernel⟩, List.mem_of_getElem? (i := 572) (by decide +kernel), List.mem_of_getElem? (i := 690) (by decide +kernel), List.mem_of_getElem? (i := 691) (by decide +kernel)⟩
theorem lw_p34 : lw_okq (⟨"CrossDockModel", "held", "(I)I"⟩, 28) := ⟨⟨by decide +kernel, by decide +kernel⟩, List.mem_of_getElem? (i := 572) (by decide +kernel), List.mem_of_getElem? (i := 694) (by decide +kernel), List.mem_of_getElem? (i := 695) (by decide +kernel)⟩
theorem lw_p35 : lw_okq (⟨"CrossDockModel", "mayServe", "(II)Z"⟩, 28) := ⟨⟨by decide +kernel, by decide +kernel⟩, List.mem_of_getElem? (i := 572) (by decide +kernel), List.mem_of_getElem? (i := 702) (by decide +kernel), List.mem_of_getElem? (i := 703) (by decide +kernel)⟩
theorem lw_p36 : lw_okq (⟨"CrossDockModel", "passes", "(III)Z"⟩, 28) := ⟨⟨by decide +kernel, by decide +kernel⟩, List.mem_of_getElem? (i := 572) (by decide +kernel), List.mem_of_getElem? (i := 706) (by decide +kernel), List.mem_of_getElem? (i := 707) (by decide +kernel)⟩
theorem lw_p37 : lw_okq (⟨"CrossDockModel", "layOut", "()V"⟩, 28) := ⟨⟨by decide +kernel, by decide +kernel⟩, List.mem_of_getElem? (i := 572) (by decide +kernel), List.mem_of_getElem? (i := 718) (by decide +kernel), List.mem_of_getElem? (i := 719) (by decide +kernel)⟩
theorem lw_p38 : lw_okq (⟨"CrossDockModel", "orderAt", "(I)I"⟩, 28) := ⟨⟨by decide +kernel, by decide +kernel⟩, List.mem_of_getElem? (i := 572) (by decide +kernel), List.mem_of_getElem? (i := 722) (by decide +kernel), List.mem_of_getElem? (i := 723) (by decide +kernel)⟩
theorem lw_p39 : lw_okq (⟨"CrossDockModel", "isOrderBefore", "(II)Z"⟩, 28) := ⟨⟨by decide +kernel, by decide +kernel⟩, List.mem_of_getElem? (i := 572) (by decide +kernel), List.mem_of_getElem? (i := 726) (by decide +kernel), List.mem_of_getElem? (i := 727) (by decide +kernel)⟩
theorem lw_p40 : lw_okq (⟨"CrossDockModel", "arrivalAt", "(I)I"⟩, 28) := ⟨⟨by decide +kernel, by decide +kernel⟩, List.mem_of_getElem? (i := 572) (by decide +kernel), List.mem_of_getElem? (i := 730) (by decide +kernel), List.mem_of_getElem? (i := 731) (by decide +kernel)⟩
theorem lw_p41 : lw_okq (⟨"CrossDockModel", "isArrivalBefore", "(II)Z"⟩, 28) := ⟨⟨by decide +kernel, by decide +kernel⟩, List.mem_of_getElem? (i := 572) (by decide +kernel), List.mem_of_getElem? (i := 734) (by decide +kernel), List.mem_of_getElem? (i := 735) (by decide +kernel)⟩
theorem lw_p42 : lw_okq (⟨"CrossDockModel", "lookAtAll", "(I)Z"⟩, 28) := ⟨⟨by decide +kernel, by decide +kernel⟩, List.mem_of_getElem? (i := 572) (by decide +kernel), List.mem_of_getElem? (i := 738) (by decide +kernel), List.mem_of_getElem? (i := 739) (by decide +kernel)⟩
theorem lw_p43 : lw_okq (⟨"CrossDockModel", "greatest", "(I)I"⟩, 28) := ⟨⟨by decide +kernel, by decide +kernel⟩, List.mem_of_getElem? (i := 572) (by decide +kernel), List.mem_of_getElem? (i := 742) (by decide +kernel), List.mem_of_getElem? (i := 743) (by decide +kernel)⟩
theorem lw_p44 : lw_okq (⟨"CrossDockModel", "has", "(I)I"⟩, 28) := ⟨⟨by decide +kernel, by decide +kernel⟩, List.mem_of_getElem? (i := 572) (by decide +kernel), List.mem_of_getElem? (i := 746) (by decide +kernel), List.mem_of_getElem? (i := 747) (by decide +kernel)⟩
theorem lw_p45 : lw_okq (⟨"CrossDockModel", "worth", "()I"⟩, 28) := ⟨⟨by decide +kernel, by decide +kernel⟩, List.mem_of_getElem? (i := 572) (by decide +kernel), List.mem_of_getElem? (i := 750) (by decide +kernel), List.mem_of_getElem? (i := 751) (by decide +kernel)⟩
theorem lw_p46 : lw_okq (⟨"CrossDockModel", "byRule", "()V"⟩, 28) := ⟨⟨by decide +kernel, by decide +kernel⟩, List.mem_of_getElem? (i := 572) (by decide +kernel), List.mem_of_getElem? (i := 754) (by decide +kernel), List.mem_of_getElem? (i := 755) (by decide +kernel)⟩
theorem lw_p47 : lw_okq (⟨"CrossDockModel", "savedNow", "()I"⟩, 28) := ⟨⟨by decide +kernel, by decide +kernel⟩, List.mem_of_getElem? (i := 572) (by decide +kernel), List.mem_of_getElem? (i := 758) (by decide +kernel), List.mem_of_getElem? (i := 759) (by decide +kernel)⟩
def lw_privs_3 : List (MethodName × Nat) := [(⟨"CrossDockModel", "isOrder", "(I)Z"⟩, 28), (⟨"CrossDockModel", "isArrival", "(I)Z"⟩, 28), (⟨"CrossDockModel", "held", "(I)I"⟩, 28), (⟨"CrossDockModel", "mayServe", "(II)Z"⟩, 28), (⟨"CrossDockModel", "passes", "(III)Z"⟩, 28), (⟨"CrossDockModel", "layOut", "()V"⟩, 28), (⟨"CrossDockModel", "orderAt", "(I)I"⟩, 28), (⟨"CrossDockModel", "isOrderBefore", "(II)Z"⟩, 28), (⟨"CrossDockModel", "arrivalAt", "(I)I"⟩, 28), (⟨"CrossDockModel", "isArrivalBefore", "(II)Z"⟩, 28), (⟨"CrossDockModel", "lookAtAll", "(I)Z"⟩, 28), (⟨"CrossDockModel", "greatest", "(I)I"⟩, 28), (⟨"CrossDockModel", "has", "(I)I"⟩, 28), (⟨"CrossDockModel", "worth", "()I"⟩, 28), (⟨"CrossDockModel", "byRule", "()V"⟩, 28), (⟨"CrossDockModel", "savedNow", "()I"⟩, 28)]
theorem lw_r3 : ∀ q ∈ lw_privs_3, lw_okq q := List.forall_mem_cons.mpr ⟨lw_p32, List.forall_mem_cons.mpr ⟨lw_p33, List.forall_mem_cons.mpr ⟨lw_p34, List.forall_mem_cons.mpr ⟨lw_p35, List.forall_mem_cons.mpr ⟨lw_p36, List.forall_mem_cons.mpr ⟨lw_p37, List.forall_mem_cons.mpr ⟨lw_p38, List.forall_mem_cons.mpr ⟨lw_p39, List.forall_mem_cons.mpr ⟨lw_p40, List.forall_mem_cons.mpr ⟨lw_p41, List.forall_mem_cons.mpr ⟨lw_p42, List.forall_mem_cons.mpr ⟨lw_p43, List.forall_mem_cons.mpr ⟨lw_p44, List.forall_mem_cons.mpr ⟨lw_p45, List.forall_mem_cons.mpr ⟨lw_p46, List.forall_mem_cons.mpr ⟨lw_p47, fun _ h => absurd h List.not_mem_nil⟩⟩⟩⟩⟩⟩⟩⟩⟩⟩⟩⟩⟩⟩⟩⟩
theorem lw_p48 : lw_okq (⟨"CrossDockModel", "hasGot", "(I)I"⟩, 28) := ⟨⟨by decide +kernel, by decide +kernel⟩, List.mem_of_getElem? (i := 572) (by decide +kernel), List.mem_of_getElem? (i := 762) (by decide +kernel), List.mem_of_getElem? (i := 763) (by decide +kernel)⟩
theorem lw_p49 : lw_okq (⟨"CrossDockModel", "drop", "(I)V"⟩, 28) := ⟨⟨by decide +kernel, by decide +kernel⟩, List.mem_of_getElem? (i := 572) (by decide +kernel), List.mem_of_getElem? (i := 786) (by decide +kernel), List.mem_of_getElem? (i := 787) (by decide +kernel)⟩
theorem lw_p50 : lw_okq (⟨"CrossDockModel", "passing", "(II)I"⟩, 28) := ⟨⟨by decide +kernel, by decide +kernel⟩, List.mem_of_getElem? (i := 572) (by decide +kernel), List.mem_of_getElem? (i := 806) (by decide +kernel), List.mem_of_getElem? (i := 807) (by decide +kernel)⟩
def lw_privs_4 : List (MethodName × Nat) := [(⟨"CrossDockModel", "hasGot", "(I)I"⟩, 28), (⟨"CrossDockModel", "drop", "(I)V"⟩, 28), (⟨"CrossDockModel", "passing", "(II)I"⟩, 28)]
theorem lw_r4 : ∀ q ∈ lw_privs_4, lw_okq q := List.forall_mem_cons.mpr ⟨lw_p48, List.forall_mem_cons.mpr ⟨lw_p49, List.forall_mem_cons.mpr ⟨lw_p50, fun _ h => absurd h List.not_mem_nil⟩⟩⟩
def lw_privs : List (MethodName × Nat) := lw_privs_1 ++ (lw_privs_2 ++ (lw_privs_3 ++ (lw_privs_4)))
def lw_tbl : List Cond := k2_sels lw_privs ++ tables_1
theorem lw_privs_ok : ∀ q ∈ lw_privs, lw_okq q := by
  show ∀ q ∈ lw_privs_1 ++ (lw_privs_2 ++ (lw_privs_3 ++ (lw_privs_4))), lw_okq q
  exact List.forall_mem_append.mpr ⟨lw_r1, List.forall_mem_append.mpr ⟨lw_r2, List.forall_mem_append.mpr ⟨lw_r3, lw_r4⟩⟩⟩
end
section
/-! names: fields, classes, methods, words (printed by wip/whole/names.py) -/
/-- words that hold on when the tables grow warmer -/
def xok : Cond → Bool
  | .castable .. => true
  | .declares _ => true
  | .arrayClass _ => true
  | c => c.onTables && c.keepsH
def xT : List Cond := lw_tbl.filter xok
def T_D : u_T := fun k => match k with
  | 0 => ("CrossDock", "arrivals", "[LCrossDock$Arrival;", true)
  | 1 => ("CrossDock", "orders", "[LCrossDock$Order;", true)
  | 2 => ("CrossDock", "laneFull", "[Z", true)
  | 3 => ("CrossDock", "ordersByRank", "[I", true)
  | 4 => ("CrossDock", "arrivalsByTime", "[I", true)
  | 5 => ("CrossDock", "search", "LCrossDock$Search;", true)
  | 6 => ("CrossDock", "pairs", "LCrossDock$Pairs;", true)
  | 7 => ("CrossDock", "arrivalCount", "I", false)
  | 8 => ("CrossDock", "orderCount", "I", false)
  | 9 => ("CrossDock", "latestExact", "Z", false)
  | _ => ("CrossDock", "latestSteps", "I", false)
def ty_D : Nat → FieldType := fun k => match k with
  | 0 => .array (.object "CrossDock$Arrival")
  | 1 => .array (.object "CrossDock$Order")
  | 2 => .array .boolean
  | 3 => .array .int
  | 4 => .array .int
  | 5 => .object "CrossDock$Search"
  | 6 => .object "CrossDock$Pairs"
  | 7 => .int
  | 8 => .int
  | 9 => .boolean
  | _ => .int
theorem nm_D : ∀ a, a < 11 → ∀ b, b < 11 → a ≠ b → (T_D a).2.1 ≠ (T_D b).2.1 := by decide +kernel
theorem ty_D_ok : ∀ k, k < 11 → parseFieldDescriptor (T_D k).2.2.1 = some (ty_D k) := by decide +kernel
theorem in_D : ∀ w ∈ u_ws "CrossDock" T_D 11, w ∈ xT := by decide +kernel
def T_A : u_T := fun k => match k with
  | 0 => ("CrossDock$Arrival", "good", "I", false)
  | 1 => ("CrossDock$Arrival", "lot", "I", false)
  | 2 => ("CrossDock$Arrival", "time", "I", false)
  | 3 => ("CrossDock$Arrival", "pallets", "I", false)
  | 4 => ("CrossDock$Arrival", "kept", "I", false)
  | _ => ("CrossDock$Arrival", "barredOrders", "I", false)
def ty_A : Nat → FieldType := fun k => match k with
  | 0 => .int
  | 1 => .int
  | 2 => .int
  | 3 => .int
  | 4 => .int
  | _ => .int
theorem nm_A : ∀ a, a < 6 → ∀ b, b < 6 → a ≠ b → (T_A a).2.1 ≠ (T_A b).2.1 := by decide +kernel
theorem ty_A_ok : ∀ k, k < 6 → parseFieldDescriptor (T_A k).2.2.1 = some (ty_A k) := by decide +kernel
theorem in_A : ∀ w ∈ u_ws "CrossDock$Arrival" T_A 6, w ∈ xT := by decide +kernel
def T_O : u_T := fun k => match k with
  | 0 => ("CrossDock$Order", "good", "I", false)
  | 1 => ("CrossDock$Order", "pallets", "I", false)
  | 2 => ("CrossDock$Order", "rank", "I", false)
  | 3 => ("CrossDock$Order", "lane", "I", false)
  | 4 => ("CrossDock$Order", "due", "I", false)
  | _ => ("CrossDock$Order", "lots", "I", false)
def ty_O : Nat → FieldType := fun k => match k with
  | 0 => .int
  | 1 => .int
  | 2 => .int
  | 3 => .int
  | 4 => .int
  | _ => .int
theorem nm_O : ∀ a, a < 6 → ∀ b, b < 6 → a ≠ b → (T_O a).2.1 ≠ (T_O b).2.1 := by decide +kernel
theorem ty_O_ok : ∀ k, k < 6 → parseFieldDescriptor (T_O k).2.2.1 = some (ty_O k) := by decide +kernel
theorem in_O : ∀ w ∈ u_ws "CrossDock$Order" T_O 6, w ∈ xT := by decide +kernel
def T_P : u_T := fun k => match k with
  | 0 => ("CrossDock$Pairs", "arrivalOf", "[I", true)
  | 1 => ("CrossDock$Pairs", "orderOf", "[I", true)
  | 2 => ("CrossDock$Pairs", "palletsIn", "[I", true)
  | _ => ("CrossDock$Pairs", "size", "I", false)
def ty_P : Nat → FieldType := fun k => match k with
  | 0 => .array .int
  | 1 => .array .int
  | 2 => .array .int
  | _ => .int
theorem nm_P : ∀ a, a < 4 → ∀ b, b < 4 → a ≠ b → (T_P a).2.1 ≠ (T_P b).2.1 := by decide +kernel
theorem ty_P_ok : ∀ k, k < 4 → parseFieldDescriptor (T_P k).2.2.1 = some (ty_P k) := by decide +kernel
theorem in_P : ∀ w ∈ u_ws "CrossDock$Pairs" T_P 4, w ∈ xT := by decide +kernel
def T_S : u_T := fun k => match k with
  | 0 => ("CrossDock$Search", "arrivalOf", "[I", true)
  | 1 => ("CrossDock$Search", "orderOf", "[I", true)
  | 2 => ("CrossDock$Search", "give", "[I", true)
  | 3 => ("CrossDock$Search", "want", "[I", true)
  | 4 => ("CrossDock$Search", "giveLeft", "[I", true)
  | 5 => ("CrossDock$Search", "wantLeft", "[I", true)
  | 6 => ("CrossDock$Search", "taken", "[I", true)
  | 7 => ("CrossDock$Search", "untried", "[I", true)
  | 8 => ("CrossDock$Search", "chosen", "[I", true)
  | 9 => ("CrossDock$Search", "size", "I", false)
  | 10 => ("CrossDock$Search", "touches", "I", false)
  | 11 => ("CrossDock$Search", "mostTouches", "I", false)
  | _ => ("CrossDock$Search", "used", "I", false)
def ty_S : Nat → FieldType := fun k => match k with
  | 0 => .array .int
  | 1 => .array .int
  | 2 => .array .int
  | 3 => .array .int
  | 4 => .array .int
  | 5 => .array .int
  | 6 => .array .int
  | 7 => .array .int
  | 8 => .array .int
  | 9 => .int
  | 10 => .int
  | 11 => .int
  | _ => .int
theorem nm_S : ∀ a, a < 13 → ∀ b, b < 13 → a ≠ b → (T_S a).2.1 ≠ (T_S b).2.1 := by decide +kernel
theorem ty_S_ok : ∀ k, k < 13 → parseFieldDescriptor (T_S k).2.2.1 = some (ty_S k) := by decide +kernel
theorem in_S : ∀ w ∈ u_ws "CrossDock$Search" T_S 13, w ∈ xT := by decide +kernel
def T_M : u_T := fun k => match k with
  | 0 => ("CrossDockModel", "code", "I", false)
  | 1 => ("CrossDockModel", "arrivals", "I", false)
  | 2 => ("CrossDockModel", "good", "[I", true)
  | 3 => ("CrossDockModel", "lot", "[I", true)
  | 4 => ("CrossDockModel", "time", "[I", true)
  | 5 => ("CrossDockModel", "pallets", "[I", true)
  | 6 => ("CrossDockModel", "promise", "[I", true)
  | 7 => ("CrossDockModel", "orders", "I", false)
  | 8 => ("CrossDockModel", "wish", "[I", true)
  | 9 => ("CrossDockModel", "many", "[I", true)
  | 10 => ("CrossDockModel", "rank", "[I", true)
  | 11 => ("CrossDockModel", "lane", "[I", true)
  | 12 => ("CrossDockModel", "due", "[I", true)
  | 13 => ("CrossDockModel", "lots", "[I", true)
  | 14 => ("CrossDockModel", "bars", "[Z", true)
  | 15 => ("CrossDockModel", "isFull", "[Z", true)
  | 16 => ("CrossDockModel", "pairs", "I", false)
  | 17 => ("CrossDockModel", "pairArrival", "[I", true)
  | 18 => ("CrossDockModel", "pairOrder", "[I", true)
  | 19 => ("CrossDockModel", "pairMany", "[I", true)
  | 20 => ("CrossDockModel", "exact", "Z", false)
  | 21 => ("CrossDockModel", "steps", "I", false)
  | 22 => ("CrossDockModel", "places", "I", false)
  | 23 => ("CrossDockModel", "from", "[I", true)
  | 24 => ("CrossDockModel", "to", "[I", true)
  | 25 => ("CrossDockModel", "plan", "[I", true)
  | 26 => ("CrossDockModel", "best", "[I", true)
  | _ => ("CrossDockModel", "got", "[I", true)
def ty_M : Nat → FieldType := fun k => match k with
  | 0 => .int
  | 1 => .int
  | 2 => .array .int
  | 3 => .array .int
  | 4 => .array .int
  | 5 => .array .int
  | 6 => .array .int
  | 7 => .int
  | 8 => .array .int
  | 9 => .array .int
  | 10 => .array .int
  | 11 => .array .int
  | 12 => .array .int
  | 13 => .array .int
  | 14 => .array .boolean
  | 15 => .array .boolean
  | 16 => .int
  | 17 => .array .int
  | 18 => .array .int
  | 19 => .array .int
  | 20 => .boolean
  | 21 => .int
  | 22 => .int
  | 23 => .array .int
  | 24 => .array .int
  | 25 => .array .int
  | 26 => .array .int
  | _ => .array .int
theorem nm_M : ∀ a, a < 28 → ∀ b, b < 28 → a ≠ b → (T_M a).2.1 ≠ (T_M b).2.1 := by decide +kernel
theorem ty_M_ok : ∀ k, k < 28 → parseFieldDescriptor (T_M k).2.2.1 = some (ty_M k) := by decide +kernel
theorem in_M : ∀ w ∈ u_ws "CrossDockModel" T_M 28, w ∈ xT := by decide +kernel
abbrev xcl : List vw_C := [("CrossDock", T_D, 11), ("CrossDock$Arrival", T_A, 6), ("CrossDock$Order", T_O, 6), ("CrossDock$Pairs", T_P, 4), ("CrossDock$Search", T_S, 13), ("CrossDockModel", T_M, 28)]
abbrev b_D_init : ByteArray := prog_1_method_1_code
abbrev y_D_init : MethodName := ⟨"CrossDock", "<init>", "()V"⟩
abbrev b_A_init : ByteArray := prog_2_method_1_code
abbrev y_A_init : MethodName := ⟨"CrossDock$Arrival", "<init>", "()V"⟩
abbrev b_O_init : ByteArray := prog_3_method_1_code
abbrev y_O_init : MethodName := ⟨"CrossDock$Order", "<init>", "()V"⟩
abbrev b_S_init : ByteArray := prog_5_method_1_code
abbrev y_S_init : MethodName := ⟨"CrossDock$Search", "<init>", "()V"⟩
abbrev b_P_init : ByteArray := prog_4_method_1_code
abbrev y_P_init : MethodName := ⟨"CrossDock$Pairs", "<init>", "()V"⟩
abbrev b_D_exact : ByteArray := prog_1_method_9_code
abbrev y_D_exact : MethodName := ⟨"CrossDock", "exact", "()Z"⟩
abbrev b_D_bound : ByteArray := prog_1_method_10_code
abbrev y_D_bound : MethodName := ⟨"CrossDock", "bound", "()I"⟩
abbrev b_D_arrivalsFor : ByteArray := prog_1_method_28_code
abbrev y_D_arrivalsFor : MethodName := ⟨"CrossDock", "arrivalsFor", "(I)I"⟩
abbrev b_D_mayServe : ByteArray := prog_1_method_24_code
abbrev y_D_mayServe : MethodName := ⟨"CrossDock", "mayServe", "(II)Z"⟩
abbrev b_D_obstacle : ByteArray := prog_1_method_23_code
abbrev y_D_obstacle : MethodName := ⟨"CrossDock", "obstacle", "(II)I"⟩
abbrev b_O_takesLot : ByteArray := prog_3_method_2_code
abbrev y_O_takesLot : MethodName := ⟨"CrossDock$Order", "takesLot", "(I)Z"⟩
abbrev b_A_isBarredFor : ByteArray := prog_2_method_3_code
abbrev y_A_isBarredFor : MethodName := ⟨"CrossDock$Arrival", "isBarredFor", "(I)Z"⟩
abbrev b_D_ordersFor : ByteArray := prog_1_method_27_code
abbrev y_D_ordersFor : MethodName := ⟨"CrossDock", "ordersFor", "(I)I"⟩
abbrev b_D_steps : ByteArray := prog_1_method_11_code
abbrev y_D_steps : MethodName := ⟨"CrossDock", "steps", "()I"⟩
abbrev b_D_saved : ByteArray := prog_1_method_18_code
abbrev y_D_saved : MethodName := ⟨"CrossDock", "saved", "()I"⟩
abbrev b_D_touchesSaved : ByteArray := prog_1_method_30_code
abbrev y_D_touchesSaved : MethodName := ⟨"CrossDock", "touchesSaved", "()I"⟩
abbrev b_P_palletsInAll : ByteArray := prog_4_method_6_code
abbrev y_P_palletsInAll : MethodName := ⟨"CrossDock$Pairs", "palletsInAll", "()I"⟩
abbrev b_P_palletsFor : ByteArray := prog_4_method_5_code
abbrev y_P_palletsFor : MethodName := ⟨"CrossDock$Pairs", "palletsFor", "(I)I"⟩
abbrev b_A_toGive : ByteArray := prog_2_method_2_code
abbrev y_A_toGive : MethodName := ⟨"CrossDock$Arrival", "toGive", "()I"⟩
abbrev b_D_count : ByteArray := prog_1_method_19_code
abbrev y_D_count : MethodName := ⟨"CrossDock", "count", "(I)I"⟩
abbrev b_D_fullLanes : ByteArray := prog_1_method_29_code
abbrev y_D_fullLanes : MethodName := ⟨"CrossDock", "fullLanes", "()I"⟩
abbrev b_L_arrive : ByteArray := method_3_code
abbrev y_L_arrive : MethodName := ⟨"CrossDockLaw", "arrive", "(LCrossDock;IIII[J)I"⟩
abbrev b_D_arrive : ByteArray := prog_1_method_2_code
abbrev y_D_arrive : MethodName := ⟨"CrossDock", "arrive", "(IIII)I"⟩
abbrev b_D_checkRange : ByteArray := prog_1_method_21_code
abbrev y_D_checkRange : MethodName := ⟨"CrossDock", "checkRange", "(III)V"⟩
abbrev b_D_checkRoom : ByteArray := prog_1_method_22_code
abbrev y_D_checkRoom : MethodName := ⟨"CrossDock", "checkRoom", "(II)V"⟩
abbrev b_L_order : ByteArray := method_4_code
abbrev y_L_order : MethodName := ⟨"CrossDockLaw", "order", "(LCrossDock;IIII[J)I"⟩
abbrev b_D_order : ByteArray := prog_1_method_3_code
abbrev y_D_order : MethodName := ⟨"CrossDock", "order", "(IIII)I"⟩
abbrev b_L_wants : ByteArray := method_5_code
abbrev y_L_wants : MethodName := ⟨"CrossDockLaw", "wants", "(LCrossDock;III)I"⟩
abbrev b_D_wants : ByteArray := prog_1_method_4_code
abbrev y_D_wants : MethodName := ⟨"CrossDock", "wants", "(III)V"⟩
abbrev b_D_checkThere : ByteArray := prog_1_method_20_code
abbrev y_D_checkThere : MethodName := ⟨"CrossDock", "checkThere", "(II)V"⟩
abbrev b_L_promised : ByteArray := method_6_code
abbrev y_L_promised : MethodName := ⟨"CrossDockLaw", "promised", "(LCrossDock;II)I"⟩
abbrev b_D_promised : ByteArray := prog_1_method_5_code
abbrev y_D_promised : MethodName := ⟨"CrossDock", "promised", "(II)V"⟩
abbrev b_P_palletsOf : ByteArray := prog_4_method_4_code
abbrev y_P_palletsOf : MethodName := ⟨"CrossDock$Pairs", "palletsOf", "(I)I"⟩
abbrev b_L_rule : ByteArray := method_7_code
abbrev y_L_rule : MethodName := ⟨"CrossDockLaw", "rule", "(LCrossDock;IIZ[J)I"⟩
abbrev b_D_rule : ByteArray := prog_1_method_6_code
abbrev y_D_rule : MethodName := ⟨"CrossDock", "rule", "(IIZ)Z"⟩
abbrev b_A_setBarred : ByteArray := prog_2_method_4_code
abbrev y_A_setBarred : MethodName := ⟨"CrossDock$Arrival", "setBarred", "(IZ)V"⟩
abbrev b_L_full : ByteArray := method_8_code
abbrev y_L_full : MethodName := ⟨"CrossDockLaw", "full", "(LCrossDock;IZ[J)I"⟩
abbrev b_D_full : ByteArray := prog_1_method_7_code
abbrev y_D_full : MethodName := ⟨"CrossDock", "full", "(IZ)I"⟩
abbrev b_L_match : ByteArray := method_9_code
abbrev y_L_match : MethodName := ⟨"CrossDockLaw", "match", "(LCrossDock;I[J)I"⟩
abbrev b_D_match : ByteArray := prog_1_method_8_code
abbrev y_D_match : MethodName := ⟨"CrossDock", "match", "(I)I"⟩
abbrev b_D_layOutPairs : ByteArray := prog_1_method_31_code
abbrev y_D_layOutPairs : MethodName := ⟨"CrossDock", "layOutPairs", "()V"⟩
abbrev b_D_sortOrders : ByteArray := prog_1_method_32_code
abbrev y_D_sortOrders : MethodName := ⟨"CrossDock", "sortOrders", "()V"⟩
abbrev b_D_sortArrivals : ByteArray := prog_1_method_33_code
abbrev y_D_sortArrivals : MethodName := ⟨"CrossDock", "sortArrivals", "()V"⟩
abbrev b_S_addPair : ByteArray := prog_5_method_2_code
abbrev y_S_addPair : MethodName := ⟨"CrossDock$Search", "addPair", "(II)V"⟩
abbrev b_S_lookAtAll : ByteArray := prog_5_method_3_code
abbrev y_S_lookAtAll : MethodName := ⟨"CrossDock$Search", "lookAtAll", "(I)Z"⟩
abbrev b_S_putAllBack : ByteArray := prog_5_method_5_code
abbrev y_S_putAllBack : MethodName := ⟨"CrossDock$Search", "putAllBack", "()V"⟩
abbrev b_S_greatest : ByteArray := prog_5_method_6_code
abbrev y_S_greatest : MethodName := ⟨"CrossDock$Search", "greatest", "(I)I"⟩
abbrev b_S_backToUntried : ByteArray := prog_5_method_7_code
abbrev y_S_backToUntried : MethodName := ⟨"CrossDock$Search", "backToUntried", "(I)I"⟩
abbrev b_S_putBack : ByteArray := prog_5_method_9_code
abbrev y_S_putBack : MethodName := ⟨"CrossDock$Search", "putBack", "(I)V"⟩
abbrev b_S_touchesBy : ByteArray := prog_5_method_10_code
abbrev y_S_touchesBy : MethodName := ⟨"CrossDock$Search", "touchesBy", "(I)I"⟩
abbrev b_S_take : ByteArray := prog_5_method_8_code
abbrev y_S_take : MethodName := ⟨"CrossDock$Search", "take", "(II)V"⟩
abbrev b_S_chooseIfBetter : ByteArray := prog_5_method_11_code
abbrev y_S_chooseIfBetter : MethodName := ⟨"CrossDock$Search", "chooseIfBetter", "()V"⟩
abbrev b_S_chooseByRule : ByteArray := prog_5_method_4_code
abbrev y_S_chooseByRule : MethodName := ⟨"CrossDock$Search", "chooseByRule", "()V"⟩
abbrev b_P_replaceBy : ByteArray := prog_4_method_2_code
abbrev y_P_replaceBy : MethodName := ⟨"CrossDock$Pairs", "replaceBy", "(LCrossDock$Search;)V"⟩
abbrev b_L_pair : ByteArray := method_10_code
abbrev y_L_pair : MethodName := ⟨"CrossDockLaw", "pair", "(LCrossDock;II[J)I"⟩
abbrev b_D_pair : ByteArray := prog_1_method_12_code
abbrev y_D_pair : MethodName := ⟨"CrossDock", "pair", "(II)I"⟩
abbrev b_L_undo : ByteArray := method_11_code
abbrev y_L_undo : MethodName := ⟨"CrossDockLaw", "undo", "(LCrossDock;I[J)I"⟩
abbrev b_D_undo : ByteArray := prog_1_method_13_code
abbrev y_D_undo : MethodName := ⟨"CrossDock", "undo", "(I)I"⟩
abbrev b_P_removeAt : ByteArray := prog_4_method_3_code
abbrev y_P_removeAt : MethodName := ⟨"CrossDock$Pairs", "removeAt", "(I)V"⟩
abbrev b_L_split : ByteArray := method_12_code
abbrev y_L_split : MethodName := ⟨"CrossDockLaw", "split", "(LCrossDock;II[J)I"⟩
abbrev b_D_split : ByteArray := prog_1_method_14_code
abbrev y_D_split : MethodName := ⟨"CrossDock", "split", "(II)I"⟩
abbrev b_A_moveTo : ByteArray := prog_2_method_5_code
abbrev y_A_moveTo : MethodName := ⟨"CrossDock$Arrival", "moveTo", "(LCrossDock$Arrival;I)V"⟩
abbrev b_L_late : ByteArray := method_13_code
abbrev y_L_late : MethodName := ⟨"CrossDockLaw", "late", "(LCrossDock;II[J)I"⟩
abbrev b_D_late : ByteArray := prog_1_method_15_code
abbrev y_D_late : MethodName := ⟨"CrossDock", "late", "(II)I"⟩
abbrev b_D_isUnfit : ByteArray := prog_1_method_25_code
abbrev y_D_isUnfit : MethodName := ⟨"CrossDock", "isUnfit", "(II)Z"⟩
abbrev b_L_arrival : ByteArray := method_14_code
abbrev y_L_arrival : MethodName := ⟨"CrossDockLaw", "arrival", "(LCrossDock;II[J)I"⟩
abbrev b_D_arrival : ByteArray := prog_1_method_16_code
abbrev y_D_arrival : MethodName := ⟨"CrossDock", "arrival", "(II)I"⟩
abbrev b_L_wanted : ByteArray := method_15_code
abbrev y_L_wanted : MethodName := ⟨"CrossDockLaw", "wanted", "(LCrossDock;II[J)I"⟩
abbrev b_D_wanted : ByteArray := prog_1_method_17_code
abbrev y_D_wanted : MethodName := ⟨"CrossDock", "wanted", "(II)I"⟩
abbrev b_D_whatBarsAll : ByteArray := prog_1_method_26_code
abbrev y_D_whatBarsAll : MethodName := ⟨"CrossDock", "whatBarsAll", "(I)I"⟩
abbrev b_M_init : ByteArray := prog_7_method_1_code
abbrev y_M_init : MethodName := ⟨"CrossDockModel", "<init>", "()V"⟩
abbrev b_M_thrown : ByteArray := prog_7_method_2_code
abbrev y_M_thrown : MethodName := ⟨"CrossDockModel", "thrown", "()I"⟩
abbrev b_M_arrive : ByteArray := prog_7_method_6_code
abbrev y_M_arrive : MethodName := ⟨"CrossDockModel", "arrive", "(IIII)I"⟩
abbrev b_M_in : ByteArray := prog_7_method_3_code
abbrev y_M_in : MethodName := ⟨"CrossDockModel", "in", "(III)Z"⟩
abbrev b_M_order : ByteArray := prog_7_method_7_code
abbrev y_M_order : MethodName := ⟨"CrossDockModel", "order", "(IIII)I"⟩
abbrev b_M_wants : ByteArray := prog_7_method_8_code
abbrev y_M_wants : MethodName := ⟨"CrossDockModel", "wants", "(III)V"⟩
abbrev b_M_isOrder : ByteArray := prog_7_method_5_code
abbrev y_M_isOrder : MethodName := ⟨"CrossDockModel", "isOrder", "(I)Z"⟩
abbrev b_M_promised : ByteArray := prog_7_method_11_code
abbrev y_M_promised : MethodName := ⟨"CrossDockModel", "promised", "(II)V"⟩
abbrev b_M_isArrival : ByteArray := prog_7_method_4_code
abbrev y_M_isArrival : MethodName := ⟨"CrossDockModel", "isArrival", "(I)Z"⟩
abbrev b_M_held : ByteArray := prog_7_method_9_code
abbrev y_M_held : MethodName := ⟨"CrossDockModel", "held", "(I)I"⟩
abbrev b_M_rule : ByteArray := prog_7_method_14_code
abbrev y_M_rule : MethodName := ⟨"CrossDockModel", "rule", "(IIZ)Z"⟩
abbrev b_M_mayServe : ByteArray := prog_7_method_13_code
abbrev y_M_mayServe : MethodName := ⟨"CrossDockModel", "mayServe", "(II)Z"⟩
abbrev b_M_passes : ByteArray := prog_7_method_12_code
abbrev y_M_passes : MethodName := ⟨"CrossDockModel", "passes", "(III)Z"⟩
abbrev b_M_full : ByteArray := prog_7_method_15_code
abbrev y_M_full : MethodName := ⟨"CrossDockModel", "full", "(IZ)I"⟩
abbrev b_M_match : ByteArray := prog_7_method_26_code
abbrev y_M_match : MethodName := ⟨"CrossDockModel", "match", "(I)I"⟩
abbrev b_M_layOut : ByteArray := prog_7_method_20_code
abbrev y_M_layOut : MethodName := ⟨"CrossDockModel", "layOut", "()V"⟩
abbrev b_M_orderAt : ByteArray := prog_7_method_18_code
abbrev y_M_orderAt : MethodName := ⟨"CrossDockModel", "orderAt", "(I)I"⟩
abbrev b_M_isOrderBefore : ByteArray := prog_7_method_16_code
abbrev y_M_isOrderBefore : MethodName := ⟨"CrossDockModel", "isOrderBefore", "(II)Z"⟩
abbrev b_M_arrivalAt : ByteArray := prog_7_method_19_code
abbrev y_M_arrivalAt : MethodName := ⟨"CrossDockModel", "arrivalAt", "(I)I"⟩
abbrev b_M_isArrivalBefore : ByteArray := prog_7_method_17_code
abbrev y_M_isArrivalBefore : MethodName := ⟨"CrossDockModel", "isArrivalBefore", "(II)Z"⟩
abbrev b_M_lookAtAll : ByteArray := prog_7_method_24_code
abbrev y_M_lookAtAll : MethodName := ⟨"CrossDockModel", "lookAtAll", "(I)Z"⟩
abbrev b_M_greatest : ByteArray := prog_7_method_22_code
abbrev y_M_greatest : MethodName := ⟨"CrossDockModel", "greatest", "(I)I"⟩
abbrev b_M_has : ByteArray := prog_7_method_21_code
abbrev y_M_has : MethodName := ⟨"CrossDockModel", "has", "(I)I"⟩
abbrev b_M_worth : ByteArray := prog_7_method_23_code
abbrev y_M_worth : MethodName := ⟨"CrossDockModel", "worth", "()I"⟩
abbrev b_M_byRule : ByteArray := prog_7_method_25_code
abbrev y_M_byRule : MethodName := ⟨"CrossDockModel", "byRule", "()V"⟩
abbrev b_M_savedNow : ByteArray := prog_7_method_30_code
abbrev y_M_savedNow : MethodName := ⟨"CrossDockModel", "savedNow", "()I"⟩
abbrev b_M_hasGot : ByteArray := prog_7_method_10_code
abbrev y_M_hasGot : MethodName := ⟨"CrossDockModel", "hasGot", "(I)I"⟩
abbrev b_M_exact : ByteArray := prog_7_method_27_code
abbrev y_M_exact : MethodName := ⟨"CrossDockModel", "exact", "()Z"⟩
abbrev b_M_bound : ByteArray := prog_7_method_28_code
abbrev y_M_bound : MethodName := ⟨"CrossDockModel", "bound", "()I"⟩
abbrev b_M_steps : ByteArray := prog_7_method_29_code
abbrev y_M_steps : MethodName := ⟨"CrossDockModel", "steps", "()I"⟩
abbrev b_M_pair : ByteArray := prog_7_method_31_code
abbrev y_M_pair : MethodName := ⟨"CrossDockModel", "pair", "(II)I"⟩
abbrev b_M_undo : ByteArray := prog_7_method_33_code
abbrev y_M_undo : MethodName := ⟨"CrossDockModel", "undo", "(I)I"⟩
abbrev b_M_drop : ByteArray := prog_7_method_32_code
abbrev y_M_drop : MethodName := ⟨"CrossDockModel", "drop", "(I)V"⟩
abbrev b_M_split : ByteArray := prog_7_method_34_code
abbrev y_M_split : MethodName := ⟨"CrossDockModel", "split", "(II)I"⟩
abbrev b_M_late : ByteArray := prog_7_method_35_code
abbrev y_M_late : MethodName := ⟨"CrossDockModel", "late", "(II)I"⟩
abbrev b_M_arrival : ByteArray := prog_7_method_36_code
abbrev y_M_arrival : MethodName := ⟨"CrossDockModel", "arrival", "(II)I"⟩
abbrev b_M_wanted : ByteArray := prog_7_method_38_code
abbrev y_M_wanted : MethodName := ⟨"CrossDockModel", "wanted", "(II)I"⟩
abbrev b_M_passing : ByteArray := prog_7_method_37_code
abbrev y_M_passing : MethodName := ⟨"CrossDockModel", "passing", "(II)I"⟩
abbrev b_M_saved : ByteArray := prog_7_method_39_code
abbrev y_M_saved : MethodName := ⟨"CrossDockModel", "saved", "()I"⟩
abbrev b_M_count : ByteArray := prog_7_method_40_code
abbrev y_M_count : MethodName := ⟨"CrossDockModel", "count", "(I)I"⟩
end
section
/-! words of the tables by their places (printed) -/
set_option maxRecDepth 100000 in
theorem tw_0 : lw_tbl[0]? = some (.selects "CrossDock" ⟨"CrossDock", "arrivalsFor", "(I)I"⟩ ⟨"CrossDock", "arrivalsFor", "(I)I"⟩) := by decide +kernel
set_option maxRecDepth 100000 in
theorem tw_1 : lw_tbl[1]? = some (.selects "CrossDock" ⟨"CrossDock", "mayServe", "(II)Z"⟩ ⟨"CrossDock", "mayServe", "(II)Z"⟩) := by decide +kernel
set_option maxRecDepth 100000 in
theorem tw_2 : lw_tbl[2]? = some (.selects "CrossDock" ⟨"CrossDock", "obstacle", "(II)I"⟩ ⟨"CrossDock", "obstacle", "(II)I"⟩) := by decide +kernel
set_option maxRecDepth 100000 in
theorem tw_3 : lw_tbl[3]? = some (.selects "CrossDock$Order" ⟨"CrossDock$Order", "takesLot", "(I)Z"⟩ ⟨"CrossDock$Order", "takesLot", "(I)Z"⟩) := by decide +kernel
set_option maxRecDepth 100000 in
theorem tw_4 : lw_tbl[4]? = some (.selects "CrossDock$Arrival" ⟨"CrossDock$Arrival", "isBarredFor", "(I)Z"⟩ ⟨"CrossDock$Arrival", "isBarredFor", "(I)Z"⟩) := by decide +kernel
set_option maxRecDepth 100000 in
theorem tw_5 : lw_tbl[5]? = some (.selects "CrossDock" ⟨"CrossDock", "ordersFor", "(I)I"⟩ ⟨"CrossDock", "ordersFor", "(I)I"⟩) := by decide +kernel
set_option maxRecDepth 100000 in
theorem tw_6 : lw_tbl[6]? = some (.selects "CrossDock" ⟨"CrossDock", "touchesSaved", "()I"⟩ ⟨"CrossDock", "touchesSaved", "()I"⟩) := by decide +kernel
set_option maxRecDepth 100000 in
theorem tw_7 : lw_tbl[7]? = some (.selects "CrossDock$Pairs" ⟨"CrossDock$Pairs", "palletsInAll", "()I"⟩ ⟨"CrossDock$Pairs", "palletsInAll", "()I"⟩) := by decide +kernel
set_option maxRecDepth 100000 in
theorem tw_8 : lw_tbl[8]? = some (.selects "CrossDock$Pairs" ⟨"CrossDock$Pairs", "palletsFor", "(I)I"⟩ ⟨"CrossDock$Pairs", "palletsFor", "(I)I"⟩) := by decide +kernel
set_option maxRecDepth 100000 in
theorem tw_9 : lw_tbl[9]? = some (.selects "CrossDock$Arrival" ⟨"CrossDock$Arrival", "toGive", "()I"⟩ ⟨"CrossDock$Arrival", "toGive", "()I"⟩) := by decide +kernel
set_option maxRecDepth 100000 in
theorem tw_10 : lw_tbl[10]? = some (.selects "CrossDock" ⟨"CrossDock", "fullLanes", "()I"⟩ ⟨"CrossDock", "fullLanes", "()I"⟩) := by decide +kernel
set_option maxRecDepth 100000 in
theorem tw_11 : lw_tbl[11]? = some (.selects "java/lang/Throwable" ⟨"java/lang/Throwable", "fillInStackTrace", "(I)Ljava/lang/Throwable;"⟩ ⟨"java/lang/Throwable", "fillInStackTrace", "(I)Ljava/lang/Throwable;"⟩) := by decide +kernel
set_option maxRecDepth 100000 in
theorem tw_12 : lw_tbl[12]? = some (.selects "CrossDock$Pairs" ⟨"CrossDock$Pairs", "palletsOf", "(I)I"⟩ ⟨"CrossDock$Pairs", "palletsOf", "(I)I"⟩) := by decide +kernel
set_option maxRecDepth 100000 in
theorem tw_13 : lw_tbl[13]? = some (.selects "CrossDock$Arrival" ⟨"CrossDock$Arrival", "setBarred", "(IZ)V"⟩ ⟨"CrossDock$Arrival", "setBarred", "(IZ)V"⟩) := by decide +kernel
set_option maxRecDepth 100000 in
theorem tw_14 : lw_tbl[14]? = some (.selects "CrossDock" ⟨"CrossDock", "layOutPairs", "()V"⟩ ⟨"CrossDock", "layOutPairs", "()V"⟩) := by decide +kernel
set_option maxRecDepth 100000 in
theorem tw_15 : lw_tbl[15]? = some (.selects "CrossDock" ⟨"CrossDock", "sortOrders", "()V"⟩ ⟨"CrossDock", "sortOrders", "()V"⟩) := by decide +kernel
set_option maxRecDepth 100000 in
theorem tw_16 : lw_tbl[16]? = some (.selects "CrossDock" ⟨"CrossDock", "sortArrivals", "()V"⟩ ⟨"CrossDock", "sortArrivals", "()V"⟩) := by decide +kernel
set_option maxRecDepth 100000 in
theorem tw_17 : lw_tbl[17]? = some (.selects "CrossDock$Search" ⟨"CrossDock$Search", "addPair", "(II)V"⟩ ⟨"CrossDock$Search", "addPair", "(II)V"⟩) := by decide +kernel
set_option maxRecDepth 100000 in
theorem tw_18 : lw_tbl[18]? = some (.selects "CrossDock$Search" ⟨"CrossDock$Search", "lookAtAll", "(I)Z"⟩ ⟨"CrossDock$Search", "lookAtAll", "(I)Z"⟩) := by decide +kernel
set_option maxRecDepth 100000 in
theorem tw_19 : lw_tbl[19]? = some (.selects "CrossDock$Search" ⟨"CrossDock$Search", "putAllBack", "()V"⟩ ⟨"CrossDock$Search", "putAllBack", "()V"⟩) := by decide +kernel
set_option maxRecDepth 100000 in
theorem tw_20 : lw_tbl[20]? = some (.selects "CrossDock$Search" ⟨"CrossDock$Search", "greatest", "(I)I"⟩ ⟨"CrossDock$Search", "greatest", "(I)I"⟩) := by decide +kernel
set_option maxRecDepth 100000 in
theorem tw_21 : lw_tbl[21]? = some (.selects "CrossDock$Search" ⟨"CrossDock$Search", "backToUntried", "(I)I"⟩ ⟨"CrossDock$Search", "backToUntried", "(I)I"⟩) := by decide +kernel
set_option maxRecDepth 100000 in
theorem tw_22 : lw_tbl[22]? = some (.selects "CrossDock$Search" ⟨"CrossDock$Search", "putBack", "(I)V"⟩ ⟨"CrossDock$Search", "putBack", "(I)V"⟩) := by decide +kernel
set_option maxRecDepth 100000 in
theorem tw_23 : lw_tbl[23]? = some (.selects "CrossDock$Search" ⟨"CrossDock$Search", "touchesBy", "(I)I"⟩ ⟨"CrossDock$Search", "touchesBy", "(I)I"⟩) := by decide +kernel
set_option maxRecDepth 100000 in
theorem tw_24 : lw_tbl[24]? = some (.selects "CrossDock$Search" ⟨"CrossDock$Search", "take", "(II)V"⟩ ⟨"CrossDock$Search", "take", "(II)V"⟩) := by decide +kernel
set_option maxRecDepth 100000 in
theorem tw_25 : lw_tbl[25]? = some (.selects "CrossDock$Search" ⟨"CrossDock$Search", "chooseIfBetter", "()V"⟩ ⟨"CrossDock$Search", "chooseIfBetter", "()V"⟩) := by decide +kernel
set_option maxRecDepth 100000 in
theorem tw_26 : lw_tbl[26]? = some (.selects "CrossDock$Search" ⟨"CrossDock$Search", "chooseByRule", "()V"⟩ ⟨"CrossDock$Search", "chooseByRule", "()V"⟩) := by decide +kernel
set_option maxRecDepth 100000 in
theorem tw_27 : lw_tbl[27]? = some (.selects "CrossDock$Pairs" ⟨"CrossDock$Pairs", "replaceBy", "(LCrossDock$Search;)V"⟩ ⟨"CrossDock$Pairs", "replaceBy", "(LCrossDock$Search;)V"⟩) := by decide +kernel
set_option maxRecDepth 100000 in
theorem tw_28 : lw_tbl[28]? = some (.selects "CrossDock$Pairs" ⟨"CrossDock$Pairs", "removeAt", "(I)V"⟩ ⟨"CrossDock$Pairs", "removeAt", "(I)V"⟩) := by decide +kernel
set_option maxRecDepth 100000 in
theorem tw_29 : lw_tbl[29]? = some (.selects "CrossDock$Arrival" ⟨"CrossDock$Arrival", "moveTo", "(LCrossDock$Arrival;I)V"⟩ ⟨"CrossDock$Arrival", "moveTo", "(LCrossDock$Arrival;I)V"⟩) := by decide +kernel
set_option maxRecDepth 100000 in
theorem tw_30 : lw_tbl[30]? = some (.selects "CrossDock" ⟨"CrossDock", "isUnfit", "(II)Z"⟩ ⟨"CrossDock", "isUnfit", "(II)Z"⟩) := by decide +kernel
set_option maxRecDepth 100000 in
theorem tw_31 : lw_tbl[31]? = some (.selects "CrossDock" ⟨"CrossDock", "whatBarsAll", "(I)I"⟩ ⟨"CrossDock", "whatBarsAll", "(I)I"⟩) := by decide +kernel
set_option maxRecDepth 100000 in
theorem tw_32 : lw_tbl[32]? = some (.selects "CrossDockModel" ⟨"CrossDockModel", "isOrder", "(I)Z"⟩ ⟨"CrossDockModel", "isOrder", "(I)Z"⟩) := by decide +kernel
set_option maxRecDepth 100000 in
theorem tw_33 : lw_tbl[33]? = some (.selects "CrossDockModel" ⟨"CrossDockModel", "isArrival", "(I)Z"⟩ ⟨"CrossDockModel", "isArrival", "(I)Z"⟩) := by decide +kernel
set_option maxRecDepth 100000 in
theorem tw_34 : lw_tbl[34]? = some (.selects "CrossDockModel" ⟨"CrossDockModel", "held", "(I)I"⟩ ⟨"CrossDockModel", "held", "(I)I"⟩) := by decide +kernel
set_option maxRecDepth 100000 in
theorem tw_35 : lw_tbl[35]? = some (.selects "CrossDockModel" ⟨"CrossDockModel", "mayServe", "(II)Z"⟩ ⟨"CrossDockModel", "mayServe", "(II)Z"⟩) := by decide +kernel
set_option maxRecDepth 100000 in
theorem tw_36 : lw_tbl[36]? = some (.selects "CrossDockModel" ⟨"CrossDockModel", "passes", "(III)Z"⟩ ⟨"CrossDockModel", "passes", "(III)Z"⟩) := by decide +kernel
set_option maxRecDepth 100000 in
theorem tw_37 : lw_tbl[37]? = some (.selects "CrossDockModel" ⟨"CrossDockModel", "layOut", "()V"⟩ ⟨"CrossDockModel", "layOut", "()V"⟩) := by decide +kernel
set_option maxRecDepth 100000 in
theorem tw_38 : lw_tbl[38]? = some (.selects "CrossDockModel" ⟨"CrossDockModel", "orderAt", "(I)I"⟩ ⟨"CrossDockModel", "orderAt", "(I)I"⟩) := by decide +kernel
set_option maxRecDepth 100000 in
theorem tw_39 : lw_tbl[39]? = some (.selects "CrossDockModel" ⟨"CrossDockModel", "isOrderBefore", "(II)Z"⟩ ⟨"CrossDockModel", "isOrderBefore", "(II)Z"⟩) := by decide +kernel
set_option maxRecDepth 100000 in
theorem tw_40 : lw_tbl[40]? = some (.selects "CrossDockModel" ⟨"CrossDockModel", "arrivalAt", "(I)I"⟩ ⟨"CrossDockModel", "arrivalAt", "(I)I"⟩) := by decide +kernel
set_option maxRecDepth 100000 in
theorem tw_41 : lw_tbl[41]? = some (.selects "CrossDockModel" ⟨"CrossDockModel", "isArrivalBefore", "(II)Z"⟩ ⟨"CrossDockModel", "isArrivalBefore", "(II)Z"⟩) := by decide +kernel
set_option maxRecDepth 100000 in
theorem tw_42 : lw_tbl[42]? = some (.selects "CrossDockModel" ⟨"CrossDockModel", "lookAtAll", "(I)Z"⟩ ⟨"CrossDockModel", "lookAtAll", "(I)Z"⟩) := by decide +kernel
set_option maxRecDepth 100000 in
theorem tw_43 : lw_tbl[43]? = some (.selects "CrossDockModel" ⟨"CrossDockModel", "greatest", "(I)I"⟩ ⟨"CrossDockModel", "greatest", "(I)I"⟩) := by decide +kernel
set_option maxRecDepth 100000 in
theorem tw_44 : lw_tbl[44]? = some (.selects "CrossDockModel" ⟨"CrossDockModel", "has", "(I)I"⟩ ⟨"CrossDockModel", "has", "(I)I"⟩) := by decide +kernel
set_option maxRecDepth 100000 in
theorem tw_45 : lw_tbl[45]? = some (.selects "CrossDockModel" ⟨"CrossDockModel", "worth", "()I"⟩ ⟨"CrossDockModel", "worth", "()I"⟩) := by decide +kernel
set_option maxRecDepth 100000 in
theorem tw_46 : lw_tbl[46]? = some (.selects "CrossDockModel" ⟨"CrossDockModel", "byRule", "()V"⟩ ⟨"CrossDockModel", "byRule", "()V"⟩) := by decide +kernel
set_option maxRecDepth 100000 in
theorem tw_47 : lw_tbl[47]? = some (.selects "CrossDockModel" ⟨"CrossDockModel", "savedNow", "()I"⟩ ⟨"CrossDockModel", "savedNow", "()I"⟩) := by decide +kernel
set_option maxRecDepth 100000 in
theorem tw_48 : lw_tbl[48]? = some (.selects "CrossDockModel" ⟨"CrossDockModel", "hasGot", "(I)I"⟩ ⟨"CrossDockModel", "hasGot", "(I)I"⟩) := by decide +kernel
set_option maxRecDepth 100000 in
theorem tw_49 : lw_tbl[49]? = some (.selects "CrossDockModel" ⟨"CrossDockModel", "drop", "(I)V"⟩ ⟨"CrossDockModel", "drop", "(I)V"⟩) := by decide +kernel
set_option maxRecDepth 100000 in
theorem tw_50 : lw_tbl[50]? = some (.selects "CrossDockModel" ⟨"CrossDockModel", "passing", "(II)I"⟩ ⟨"CrossDockModel", "passing", "(II)I"⟩) := by decide +kernel
set_option maxRecDepth 100000 in
theorem tw_51 : lw_tbl[51]? = some (.initialized "CrossDockLaw") := by decide +kernel
set_option maxRecDepth 100000 in
theorem tw_52 : lw_tbl[52]? = some (.initialized "CrossDock") := by decide +kernel
set_option maxRecDepth 100000 in
theorem tw_53 : lw_tbl[53]? = some (.initialized "CrossDock$Arrival") := by decide +kernel
set_option maxRecDepth 100000 in
theorem tw_54 : lw_tbl[54]? = some (.initialized "CrossDock$Order") := by decide +kernel
set_option maxRecDepth 100000 in
theorem tw_55 : lw_tbl[55]? = some (.initialized "CrossDock$Search") := by decide +kernel
set_option maxRecDepth 100000 in
theorem tw_56 : lw_tbl[56]? = some (.initialized "CrossDock$Pairs") := by decide +kernel
set_option maxRecDepth 100000 in
theorem tw_57 : lw_tbl[57]? = some (.initialized "CrossDockModel") := by decide +kernel
set_option maxRecDepth 100000 in
theorem tw_58 : lw_tbl[58]? = some (.initialized "java/lang/Throwable") := by decide +kernel
set_option maxRecDepth 100000 in
theorem tw_59 : lw_tbl[59]? = some (.initialized "java/lang/Exception") := by decide +kernel
set_option maxRecDepth 100000 in
theorem tw_60 : lw_tbl[60]? = some (.initialized "java/lang/RuntimeException") := by decide +kernel
set_option maxRecDepth 100000 in
theorem tw_61 : lw_tbl[61]? = some (.initialized "java/lang/IllegalArgumentException") := by decide +kernel
set_option maxRecDepth 100000 in
theorem tw_62 : lw_tbl[62]? = some (.initialized "java/lang/UnsupportedOperationException") := by decide +kernel
set_option maxRecDepth 100000 in
theorem tw_63 : lw_tbl[63]? = some (.initialized "java/util/NoSuchElementException") := by decide +kernel
set_option maxRecDepth 100000 in
theorem tw_64 : lw_tbl[64]? = some (.initialized "java/lang/IllegalStateException") := by decide +kernel
set_option maxRecDepth 100000 in
theorem tw_65 : lw_tbl[65]? = some (.initialized "java/lang/System") := by decide +kernel
set_option maxRecDepth 100000 in
theorem tw_66 : lw_tbl[66]? = some (.initialized "java/lang/Math") := by decide +kernel
set_option maxRecDepth 100000 in
theorem tw_67 : lw_tbl[67]? = some (.classLink "CrossDockLaw" 8 "CrossDock") := by decide +kernel
set_option maxRecDepth 100000 in
theorem tw_68 : lw_tbl[68]? = some (.instantiable "CrossDock" 11) := by decide +kernel
set_option maxRecDepth 100000 in
theorem tw_69 : lw_tbl[69]? = some (.methodLink "CrossDockLaw" 63 ⟨"CrossDock", "<init>", "()V"⟩) := by decide +kernel
set_option maxRecDepth 100000 in
theorem tw_70 : lw_tbl[70]? = some (.instanceMethod ⟨"CrossDock", "<init>", "()V"⟩) := by decide +kernel
set_option maxRecDepth 100000 in
theorem tw_71 : lw_tbl[71]? = some (.code ⟨"CrossDock", "<init>", "()V"⟩ prog_1_method_1_code 2 none) := by decide +kernel
set_option maxRecDepth 100000 in
theorem tw_72 : lw_tbl[72]? = some (.methodLink "CrossDock" 3 ⟨"java/lang/Object", "<init>", "()V"⟩) := by decide +kernel
set_option maxRecDepth 100000 in
theorem tw_73 : lw_tbl[73]? = some (.instanceMethod ⟨"java/lang/Object", "<init>", "()V"⟩) := by decide +kernel
set_option maxRecDepth 100000 in
theorem tw_74 : lw_tbl[74]? = some (.code ⟨"java/lang/Object", "<init>", "()V"⟩ object_method_1_code 1 none) := by decide +kernel
set_option maxRecDepth 100000 in
theorem tw_75 : lw_tbl[75]? = some (.classLink "CrossDock" 9 "CrossDock$Arrival") := by decide +kernel
set_option maxRecDepth 100000 in
theorem tw_76 : lw_tbl[76]? = some (.arrayOver (.object "CrossDock$Arrival")) := by decide +kernel
set_option maxRecDepth 100000 in
theorem tw_77 : lw_tbl[77]? = some (.instantiable "CrossDock$Arrival" 6) := by decide +kernel
set_option maxRecDepth 100000 in
theorem tw_78 : lw_tbl[78]? = some (.methodLinkNest "CrossDock" 15 ⟨"CrossDock$Arrival", "<init>", "()V"⟩ "CrossDock") := by decide +kernel
set_option maxRecDepth 100000 in
theorem tw_79 : lw_tbl[79]? = some (.instanceMethod ⟨"CrossDock$Arrival", "<init>", "()V"⟩) := by decide +kernel
set_option maxRecDepth 100000 in
theorem tw_80 : lw_tbl[80]? = some (.code ⟨"CrossDock$Arrival", "<init>", "()V"⟩ prog_2_method_1_code 1 none) := by decide +kernel
set_option maxRecDepth 100000 in
theorem tw_81 : lw_tbl[81]? = some (.methodLink "CrossDock$Arrival" 1 ⟨"java/lang/Object", "<init>", "()V"⟩) := by decide +kernel
set_option maxRecDepth 100000 in
theorem tw_82 : lw_tbl[82]? = some (.fieldLinkNest "CrossDock" 70 "CrossDock$Arrival" "good" "I" "CrossDock") := by decide +kernel
set_option maxRecDepth 100000 in
theorem tw_83 : lw_tbl[83]? = some (.fieldLink "CrossDock$Arrival" 25 "CrossDock$Arrival" "good" "I") := by decide +kernel
set_option maxRecDepth 100000 in
theorem tw_84 : lw_tbl[84]? = some (.fieldLinkNest "CrossDock" 73 "CrossDock$Arrival" "lot" "I" "CrossDock") := by decide +kernel
set_option maxRecDepth 100000 in
theorem tw_85 : lw_tbl[85]? = some (.fieldLink "CrossDock$Arrival" 28 "CrossDock$Arrival" "lot" "I") := by decide +kernel
set_option maxRecDepth 100000 in
theorem tw_86 : lw_tbl[86]? = some (.fieldLinkNest "CrossDock" 76 "CrossDock$Arrival" "time" "I" "CrossDock") := by decide +kernel
set_option maxRecDepth 100000 in
theorem tw_87 : lw_tbl[87]? = some (.fieldLink "CrossDock$Arrival" 31 "CrossDock$Arrival" "time" "I") := by decide +kernel
set_option maxRecDepth 100000 in
theorem tw_88 : lw_tbl[88]? = some (.fieldLink "CrossDock$Arrival" 7 "CrossDock$Arrival" "pallets" "I") := by decide +kernel
set_option maxRecDepth 100000 in
theorem tw_89 : lw_tbl[89]? = some (.fieldLinkNest "CrossDock" 79 "CrossDock$Arrival" "pallets" "I" "CrossDock") := by decide +kernel
set_option maxRecDepth 100000 in
theorem tw_90 : lw_tbl[90]? = some (.fieldLink "CrossDock$Arrival" 13 "CrossDock$Arrival" "kept" "I") := by decide +kernel
set_option maxRecDepth 100000 in
theorem tw_91 : lw_tbl[91]? = some (.fieldLinkNest "CrossDock" 110 "CrossDock$Arrival" "kept" "I" "CrossDock") := by decide +kernel
set_option maxRecDepth 100000 in
theorem tw_92 : lw_tbl[92]? = some (.fieldLink "CrossDock$Arrival" 16 "CrossDock$Arrival" "barredOrders" "I") := by decide +kernel
set_option maxRecDepth 100000 in
theorem tw_93 : lw_tbl[93]? = some (.lays "CrossDock$Arrival" "CrossDock$Arrival" "good" "I") := by decide +kernel
set_option maxRecDepth 100000 in
theorem tw_94 : lw_tbl[94]? = some (.soleField "CrossDock$Arrival" "good") := by decide +kernel
set_option maxRecDepth 100000 in
theorem tw_95 : lw_tbl[95]? = some (.lays "CrossDock$Arrival" "CrossDock$Arrival" "lot" "I") := by decide +kernel
set_option maxRecDepth 100000 in
theorem tw_96 : lw_tbl[96]? = some (.soleField "CrossDock$Arrival" "lot") := by decide +kernel
set_option maxRecDepth 100000 in
theorem tw_97 : lw_tbl[97]? = some (.lays "CrossDock$Arrival" "CrossDock$Arrival" "time" "I") := by decide +kernel
set_option maxRecDepth 100000 in
theorem tw_98 : lw_tbl[98]? = some (.soleField "CrossDock$Arrival" "time") := by decide +kernel
set_option maxRecDepth 100000 in
theorem tw_99 : lw_tbl[99]? = some (.lays "CrossDock$Arrival" "CrossDock$Arrival" "pallets" "I") := by decide +kernel
set_option maxRecDepth 100000 in
theorem tw_100 : lw_tbl[100]? = some (.soleField "CrossDock$Arrival" "pallets") := by decide +kernel
set_option maxRecDepth 100000 in
theorem tw_101 : lw_tbl[101]? = some (.lays "CrossDock$Arrival" "CrossDock$Arrival" "kept" "I") := by decide +kernel
set_option maxRecDepth 100000 in
theorem tw_102 : lw_tbl[102]? = some (.soleField "CrossDock$Arrival" "kept") := by decide +kernel
set_option maxRecDepth 100000 in
theorem tw_103 : lw_tbl[103]? = some (.lays "CrossDock$Arrival" "CrossDock$Arrival" "barredOrders" "I") := by decide +kernel
set_option maxRecDepth 100000 in
theorem tw_104 : lw_tbl[104]? = some (.soleField "CrossDock$Arrival" "barredOrders") := by decide +kernel
set_option maxRecDepth 100000 in
theorem tw_105 : lw_tbl[105]? = some (.superclass "CrossDock$Arrival" "java/lang/Object") := by decide +kernel
set_option maxRecDepth 100000 in
theorem tw_106 : lw_tbl[106]? = some (.classLink "CrossDock" 16 "CrossDock$Order") := by decide +kernel
set_option maxRecDepth 100000 in
theorem tw_107 : lw_tbl[107]? = some (.arrayOver (.object "CrossDock$Order")) := by decide +kernel
set_option maxRecDepth 100000 in
theorem tw_108 : lw_tbl[108]? = some (.instantiable "CrossDock$Order" 6) := by decide +kernel
set_option maxRecDepth 100000 in
theorem tw_109 : lw_tbl[109]? = some (.methodLinkNest "CrossDock" 22 ⟨"CrossDock$Order", "<init>", "()V"⟩ "CrossDock") := by decide +kernel
set_option maxRecDepth 100000 in
theorem tw_110 : lw_tbl[110]? = some (.instanceMethod ⟨"CrossDock$Order", "<init>", "()V"⟩) := by decide +kernel
set_option maxRecDepth 100000 in
theorem tw_111 : lw_tbl[111]? = some (.code ⟨"CrossDock$Order", "<init>", "()V"⟩ prog_3_method_1_code 1 none) := by decide +kernel
set_option maxRecDepth 100000 in
theorem tw_112 : lw_tbl[112]? = some (.methodLink "CrossDock$Order" 1 ⟨"java/lang/Object", "<init>", "()V"⟩) := by decide +kernel
set_option maxRecDepth 100000 in
theorem tw_113 : lw_tbl[113]? = some (.fieldLinkNest "CrossDock" 82 "CrossDock$Order" "good" "I" "CrossDock") := by decide +kernel
set_option maxRecDepth 100000 in
theorem tw_114 : lw_tbl[114]? = some (.fieldLinkNest "CrossDock" 83 "CrossDock$Order" "pallets" "I" "CrossDock") := by decide +kernel
set_option maxRecDepth 100000 in
theorem tw_115 : lw_tbl[115]? = some (.fieldLinkNest "CrossDock" 84 "CrossDock$Order" "rank" "I" "CrossDock") := by decide +kernel
set_option maxRecDepth 100000 in
theorem tw_116 : lw_tbl[116]? = some (.fieldLinkNest "CrossDock" 87 "CrossDock$Order" "lane" "I" "CrossDock") := by decide +kernel
set_option maxRecDepth 100000 in
theorem tw_117 : lw_tbl[117]? = some (.fieldLinkNest "CrossDock" 90 "CrossDock$Order" "due" "I" "CrossDock") := by decide +kernel
set_option maxRecDepth 100000 in
theorem tw_118 : lw_tbl[118]? = some (.fieldLink "CrossDock$Order" 7 "CrossDock$Order" "lots" "I") := by decide +kernel
set_option maxRecDepth 100000 in
theorem tw_119 : lw_tbl[119]? = some (.fieldLinkNest "CrossDock" 93 "CrossDock$Order" "lots" "I" "CrossDock") := by decide +kernel
set_option maxRecDepth 100000 in
theorem tw_120 : lw_tbl[120]? = some (.lays "CrossDock$Order" "CrossDock$Order" "good" "I") := by decide +kernel
set_option maxRecDepth 100000 in
theorem tw_121 : lw_tbl[121]? = some (.soleField "CrossDock$Order" "good") := by decide +kernel
set_option maxRecDepth 100000 in
theorem tw_122 : lw_tbl[122]? = some (.lays "CrossDock$Order" "CrossDock$Order" "pallets" "I") := by decide +kernel
set_option maxRecDepth 100000 in
theorem tw_123 : lw_tbl[123]? = some (.soleField "CrossDock$Order" "pallets") := by decide +kernel
set_option maxRecDepth 100000 in
theorem tw_124 : lw_tbl[124]? = some (.lays "CrossDock$Order" "CrossDock$Order" "rank" "I") := by decide +kernel
set_option maxRecDepth 100000 in
theorem tw_125 : lw_tbl[125]? = some (.soleField "CrossDock$Order" "rank") := by decide +kernel
set_option maxRecDepth 100000 in
theorem tw_126 : lw_tbl[126]? = some (.lays "CrossDock$Order" "CrossDock$Order" "lane" "I") := by decide +kernel
set_option maxRecDepth 100000 in
theorem tw_127 : lw_tbl[127]? = some (.soleField "CrossDock$Order" "lane") := by decide +kernel
set_option maxRecDepth 100000 in
theorem tw_128 : lw_tbl[128]? = some (.lays "CrossDock$Order" "CrossDock$Order" "due" "I") := by decide +kernel
set_option maxRecDepth 100000 in
theorem tw_129 : lw_tbl[129]? = some (.soleField "CrossDock$Order" "due") := by decide +kernel
set_option maxRecDepth 100000 in
theorem tw_130 : lw_tbl[130]? = some (.lays "CrossDock$Order" "CrossDock$Order" "lots" "I") := by decide +kernel
set_option maxRecDepth 100000 in
theorem tw_131 : lw_tbl[131]? = some (.soleField "CrossDock$Order" "lots") := by decide +kernel
set_option maxRecDepth 100000 in
theorem tw_132 : lw_tbl[132]? = some (.superclass "CrossDock$Order" "java/lang/Object") := by decide +kernel
set_option maxRecDepth 100000 in
theorem tw_133 : lw_tbl[133]? = some (.classLink "CrossDock" 34 "CrossDock$Search") := by decide +kernel
set_option maxRecDepth 100000 in
theorem tw_134 : lw_tbl[134]? = some (.instantiable "CrossDock$Search" 13) := by decide +kernel
set_option maxRecDepth 100000 in
theorem tw_135 : lw_tbl[135]? = some (.methodLinkNest "CrossDock" 36 ⟨"CrossDock$Search", "<init>", "()V"⟩ "CrossDock") := by decide +kernel
set_option maxRecDepth 100000 in
theorem tw_136 : lw_tbl[136]? = some (.instanceMethod ⟨"CrossDock$Search", "<init>", "()V"⟩) := by decide +kernel
set_option maxRecDepth 100000 in
theorem tw_137 : lw_tbl[137]? = some (.code ⟨"CrossDock$Search", "<init>", "()V"⟩ prog_5_method_1_code 1 none) := by decide +kernel
set_option maxRecDepth 100000 in
theorem tw_138 : lw_tbl[138]? = some (.methodLink "CrossDock$Search" 3 ⟨"java/lang/Object", "<init>", "()V"⟩) := by decide +kernel
set_option maxRecDepth 100000 in
theorem tw_139 : lw_tbl[139]? = some (.fieldLink "CrossDock$Search" 9 "CrossDock$Search" "arrivalOf" "[I") := by decide +kernel
set_option maxRecDepth 100000 in
theorem tw_140 : lw_tbl[140]? = some (.fieldLinkNest "CrossDock$Pairs" 31 "CrossDock$Search" "arrivalOf" "[I" "CrossDock") := by decide +kernel
set_option maxRecDepth 100000 in
theorem tw_141 : lw_tbl[141]? = some (.fieldLink "CrossDock$Search" 15 "CrossDock$Search" "orderOf" "[I") := by decide +kernel
set_option maxRecDepth 100000 in
theorem tw_142 : lw_tbl[142]? = some (.fieldLinkNest "CrossDock$Pairs" 32 "CrossDock$Search" "orderOf" "[I" "CrossDock") := by decide +kernel
set_option maxRecDepth 100000 in
theorem tw_143 : lw_tbl[143]? = some (.fieldLink "CrossDock$Search" 18 "CrossDock$Search" "give" "[I") := by decide +kernel
set_option maxRecDepth 100000 in
theorem tw_144 : lw_tbl[144]? = some (.fieldLinkNest "CrossDock" 225 "CrossDock$Search" "give" "[I" "CrossDock") := by decide +kernel
set_option maxRecDepth 100000 in
theorem tw_145 : lw_tbl[145]? = some (.fieldLink "CrossDock$Search" 21 "CrossDock$Search" "want" "[I") := by decide +kernel
set_option maxRecDepth 100000 in
theorem tw_146 : lw_tbl[146]? = some (.fieldLinkNest "CrossDock" 228 "CrossDock$Search" "want" "[I" "CrossDock") := by decide +kernel
set_option maxRecDepth 100000 in
theorem tw_147 : lw_tbl[147]? = some (.fieldLink "CrossDock$Search" 24 "CrossDock$Search" "giveLeft" "[I") := by decide +kernel
set_option maxRecDepth 100000 in
theorem tw_148 : lw_tbl[148]? = some (.fieldLink "CrossDock$Search" 27 "CrossDock$Search" "wantLeft" "[I") := by decide +kernel
set_option maxRecDepth 100000 in
theorem tw_149 : lw_tbl[149]? = some (.fieldLink "CrossDock$Search" 30 "CrossDock$Search" "taken" "[I") := by decide +kernel
set_option maxRecDepth 100000 in
theorem tw_150 : lw_tbl[150]? = some (.fieldLink "CrossDock$Search" 33 "CrossDock$Search" "untried" "[I") := by decide +kernel
set_option maxRecDepth 100000 in
theorem tw_151 : lw_tbl[151]? = some (.fieldLink "CrossDock$Search" 36 "CrossDock$Search" "chosen" "[I") := by decide +kernel
set_option maxRecDepth 100000 in
theorem tw_152 : lw_tbl[152]? = some (.fieldLinkNest "CrossDock$Pairs" 28 "CrossDock$Search" "chosen" "[I" "CrossDock") := by decide +kernel
set_option maxRecDepth 100000 in
theorem tw_153 : lw_tbl[153]? = some (.fieldLink "CrossDock$Search" 39 "CrossDock$Search" "size" "I") := by decide +kernel
set_option maxRecDepth 100000 in
theorem tw_154 : lw_tbl[154]? = some (.fieldLinkNest "CrossDock$Pairs" 25 "CrossDock$Search" "size" "I" "CrossDock") := by decide +kernel
set_option maxRecDepth 100000 in
theorem tw_155 : lw_tbl[155]? = some (.fieldLinkNest "CrossDock" 224 "CrossDock$Search" "size" "I" "CrossDock") := by decide +kernel
set_option maxRecDepth 100000 in
theorem tw_156 : lw_tbl[156]? = some (.fieldLink "CrossDock$Search" 72 "CrossDock$Search" "touches" "I") := by decide +kernel
set_option maxRecDepth 100000 in
theorem tw_157 : lw_tbl[157]? = some (.fieldLink "CrossDock$Search" 46 "CrossDock$Search" "mostTouches" "I") := by decide +kernel
set_option maxRecDepth 100000 in
theorem tw_158 : lw_tbl[158]? = some (.fieldLink "CrossDock$Search" 53 "CrossDock$Search" "used" "I") := by decide +kernel
set_option maxRecDepth 100000 in
theorem tw_159 : lw_tbl[159]? = some (.fieldLinkNest "CrossDock" 128 "CrossDock$Search" "used" "I" "CrossDock") := by decide +kernel
set_option maxRecDepth 100000 in
theorem tw_160 : lw_tbl[160]? = some (.laysFinal "CrossDock$Search" "CrossDock$Search" "arrivalOf" "[I") := by decide +kernel
set_option maxRecDepth 100000 in
theorem tw_161 : lw_tbl[161]? = some (.soleField "CrossDock$Search" "arrivalOf") := by decide +kernel
set_option maxRecDepth 100000 in
theorem tw_162 : lw_tbl[162]? = some (.laysFinal "CrossDock$Search" "CrossDock$Search" "orderOf" "[I") := by decide +kernel
set_option maxRecDepth 100000 in
theorem tw_163 : lw_tbl[163]? = some (.soleField "CrossDock$Search" "orderOf") := by decide +kernel
set_option maxRecDepth 100000 in
theorem tw_164 : lw_tbl[164]? = some (.laysFinal "CrossDock$Search" "CrossDock$Search" "give" "[I") := by decide +kernel
set_option maxRecDepth 100000 in
theorem tw_165 : lw_tbl[165]? = some (.soleField "CrossDock$Search" "give") := by decide +kernel
set_option maxRecDepth 100000 in
theorem tw_166 : lw_tbl[166]? = some (.laysFinal "CrossDock$Search" "CrossDock$Search" "want" "[I") := by decide +kernel
set_option maxRecDepth 100000 in
theorem tw_167 : lw_tbl[167]? = some (.soleField "CrossDock$Search" "want") := by decide +kernel
set_option maxRecDepth 100000 in
theorem tw_168 : lw_tbl[168]? = some (.laysFinal "CrossDock$Search" "CrossDock$Search" "giveLeft" "[I") := by decide +kernel
set_option maxRecDepth 100000 in
theorem tw_169 : lw_tbl[169]? = some (.soleField "CrossDock$Search" "giveLeft") := by decide +kernel
set_option maxRecDepth 100000 in
theorem tw_170 : lw_tbl[170]? = some (.laysFinal "CrossDock$Search" "CrossDock$Search" "wantLeft" "[I") := by decide +kernel
set_option maxRecDepth 100000 in
theorem tw_171 : lw_tbl[171]? = some (.soleField "CrossDock$Search" "wantLeft") := by decide +kernel
set_option maxRecDepth 100000 in
theorem tw_172 : lw_tbl[172]? = some (.laysFinal "CrossDock$Search" "CrossDock$Search" "taken" "[I") := by decide +kernel
set_option maxRecDepth 100000 in
theorem tw_173 : lw_tbl[173]? = some (.soleField "CrossDock$Search" "taken") := by decide +kernel
set_option maxRecDepth 100000 in
theorem tw_174 : lw_tbl[174]? = some (.laysFinal "CrossDock$Search" "CrossDock$Search" "untried" "[I") := by decide +kernel
set_option maxRecDepth 100000 in
theorem tw_175 : lw_tbl[175]? = some (.soleField "CrossDock$Search" "untried") := by decide +kernel
set_option maxRecDepth 100000 in
theorem tw_176 : lw_tbl[176]? = some (.laysFinal "CrossDock$Search" "CrossDock$Search" "chosen" "[I") := by decide +kernel
set_option maxRecDepth 100000 in
theorem tw_177 : lw_tbl[177]? = some (.soleField "CrossDock$Search" "chosen") := by decide +kernel
set_option maxRecDepth 100000 in
theorem tw_178 : lw_tbl[178]? = some (.lays "CrossDock$Search" "CrossDock$Search" "size" "I") := by decide +kernel
set_option maxRecDepth 100000 in
theorem tw_179 : lw_tbl[179]? = some (.soleField "CrossDock$Search" "size") := by decide +kernel
set_option maxRecDepth 100000 in
theorem tw_180 : lw_tbl[180]? = some (.lays "CrossDock$Search" "CrossDock$Search" "touches" "I") := by decide +kernel
set_option maxRecDepth 100000 in
theorem tw_181 : lw_tbl[181]? = some (.soleField "CrossDock$Search" "touches") := by decide +kernel
set_option maxRecDepth 100000 in
theorem tw_182 : lw_tbl[182]? = some (.lays "CrossDock$Search" "CrossDock$Search" "mostTouches" "I") := by decide +kernel
set_option maxRecDepth 100000 in
theorem tw_183 : lw_tbl[183]? = some (.soleField "CrossDock$Search" "mostTouches") := by decide +kernel
set_option maxRecDepth 100000 in
theorem tw_184 : lw_tbl[184]? = some (.lays "CrossDock$Search" "CrossDock$Search" "used" "I") := by decide +kernel
set_option maxRecDepth 100000 in
theorem tw_185 : lw_tbl[185]? = some (.soleField "CrossDock$Search" "used") := by decide +kernel
set_option maxRecDepth 100000 in
theorem tw_186 : lw_tbl[186]? = some (.superclass "CrossDock$Search" "java/lang/Object") := by decide +kernel
set_option maxRecDepth 100000 in
theorem tw_187 : lw_tbl[187]? = some (.arrayClass .boolean) := by decide +kernel
set_option maxRecDepth 100000 in
theorem tw_188 : lw_tbl[188]? = some (.arrayClass .int) := by decide +kernel
set_option maxRecDepth 100000 in
theorem tw_189 : lw_tbl[189]? = some (.classLink "CrossDock" 41 "CrossDock$Pairs") := by decide +kernel
set_option maxRecDepth 100000 in
theorem tw_190 : lw_tbl[190]? = some (.instantiable "CrossDock$Pairs" 4) := by decide +kernel
set_option maxRecDepth 100000 in
theorem tw_191 : lw_tbl[191]? = some (.methodLinkNest "CrossDock" 43 ⟨"CrossDock$Pairs", "<init>", "()V"⟩ "CrossDock") := by decide +kernel
set_option maxRecDepth 100000 in
theorem tw_192 : lw_tbl[192]? = some (.instanceMethod ⟨"CrossDock$Pairs", "<init>", "()V"⟩) := by decide +kernel
set_option maxRecDepth 100000 in
theorem tw_193 : lw_tbl[193]? = some (.code ⟨"CrossDock$Pairs", "<init>", "()V"⟩ prog_4_method_1_code 1 none) := by decide +kernel
set_option maxRecDepth 100000 in
theorem tw_194 : lw_tbl[194]? = some (.methodLink "CrossDock$Pairs" 3 ⟨"java/lang/Object", "<init>", "()V"⟩) := by decide +kernel
set_option maxRecDepth 100000 in
theorem tw_195 : lw_tbl[195]? = some (.fieldLink "CrossDock$Pairs" 9 "CrossDock$Pairs" "arrivalOf" "[I") := by decide +kernel
set_option maxRecDepth 100000 in
theorem tw_196 : lw_tbl[196]? = some (.fieldLinkNest "CrossDock" 151 "CrossDock$Pairs" "arrivalOf" "[I" "CrossDock") := by decide +kernel
set_option maxRecDepth 100000 in
theorem tw_197 : lw_tbl[197]? = some (.fieldLink "CrossDock$Pairs" 15 "CrossDock$Pairs" "orderOf" "[I") := by decide +kernel
set_option maxRecDepth 100000 in
theorem tw_198 : lw_tbl[198]? = some (.fieldLinkNest "CrossDock" 154 "CrossDock$Pairs" "orderOf" "[I" "CrossDock") := by decide +kernel
set_option maxRecDepth 100000 in
theorem tw_199 : lw_tbl[199]? = some (.fieldLink "CrossDock$Pairs" 18 "CrossDock$Pairs" "palletsIn" "[I") := by decide +kernel
set_option maxRecDepth 100000 in
theorem tw_200 : lw_tbl[200]? = some (.fieldLinkNest "CrossDock" 157 "CrossDock$Pairs" "palletsIn" "[I" "CrossDock") := by decide +kernel
set_option maxRecDepth 100000 in
theorem tw_201 : lw_tbl[201]? = some (.fieldLink "CrossDock$Pairs" 21 "CrossDock$Pairs" "size" "I") := by decide +kernel
set_option maxRecDepth 100000 in
theorem tw_202 : lw_tbl[202]? = some (.fieldLinkNest "CrossDock" 148 "CrossDock$Pairs" "size" "I" "CrossDock") := by decide +kernel
set_option maxRecDepth 100000 in
theorem tw_203 : lw_tbl[203]? = some (.laysFinal "CrossDock$Pairs" "CrossDock$Pairs" "arrivalOf" "[I") := by decide +kernel
set_option maxRecDepth 100000 in
theorem tw_204 : lw_tbl[204]? = some (.soleField "CrossDock$Pairs" "arrivalOf") := by decide +kernel
set_option maxRecDepth 100000 in
theorem tw_205 : lw_tbl[205]? = some (.laysFinal "CrossDock$Pairs" "CrossDock$Pairs" "orderOf" "[I") := by decide +kernel
set_option maxRecDepth 100000 in
theorem tw_206 : lw_tbl[206]? = some (.soleField "CrossDock$Pairs" "orderOf") := by decide +kernel
set_option maxRecDepth 100000 in
theorem tw_207 : lw_tbl[207]? = some (.laysFinal "CrossDock$Pairs" "CrossDock$Pairs" "palletsIn" "[I") := by decide +kernel
set_option maxRecDepth 100000 in
theorem tw_208 : lw_tbl[208]? = some (.soleField "CrossDock$Pairs" "palletsIn") := by decide +kernel
set_option maxRecDepth 100000 in
theorem tw_209 : lw_tbl[209]? = some (.lays "CrossDock$Pairs" "CrossDock$Pairs" "size" "I") := by decide +kernel
set_option maxRecDepth 100000 in
theorem tw_210 : lw_tbl[210]? = some (.soleField "CrossDock$Pairs" "size") := by decide +kernel
set_option maxRecDepth 100000 in
theorem tw_211 : lw_tbl[211]? = some (.superclass "CrossDock$Pairs" "java/lang/Object") := by decide +kernel
set_option maxRecDepth 100000 in
theorem tw_212 : lw_tbl[212]? = some (.fieldLink "CrossDock" 11 "CrossDock" "arrivals" "[LCrossDock$Arrival;") := by decide +kernel
set_option maxRecDepth 100000 in
theorem tw_213 : lw_tbl[213]? = some (.fieldLink "CrossDock" 18 "CrossDock" "orders" "[LCrossDock$Order;") := by decide +kernel
set_option maxRecDepth 100000 in
theorem tw_214 : lw_tbl[214]? = some (.fieldLink "CrossDock" 23 "CrossDock" "laneFull" "[Z") := by decide +kernel
set_option maxRecDepth 100000 in
theorem tw_215 : lw_tbl[215]? = some (.fieldLink "CrossDock" 27 "CrossDock" "ordersByRank" "[I") := by decide +kernel
set_option maxRecDepth 100000 in
theorem tw_216 : lw_tbl[216]? = some (.fieldLink "CrossDock" 31 "CrossDock" "arrivalsByTime" "[I") := by decide +kernel
set_option maxRecDepth 100000 in
theorem tw_217 : lw_tbl[217]? = some (.fieldLink "CrossDock" 37 "CrossDock" "search" "LCrossDock$Search;") := by decide +kernel
set_option maxRecDepth 100000 in
theorem tw_218 : lw_tbl[218]? = some (.fieldLink "CrossDock" 44 "CrossDock" "pairs" "LCrossDock$Pairs;") := by decide +kernel
set_option maxRecDepth 100000 in
theorem tw_219 : lw_tbl[219]? = some (.fieldLink "CrossDock" 48 "CrossDock" "arrivalCount" "I") := by decide +kernel
set_option maxRecDepth 100000 in
theorem tw_220 : lw_tbl[220]? = some (.fieldLink "CrossDock" 52 "CrossDock" "orderCount" "I") := by decide +kernel
set_option maxRecDepth 100000 in
theorem tw_221 : lw_tbl[221]? = some (.fieldLink "CrossDock" 55 "CrossDock" "latestExact" "Z") := by decide +kernel
set_option maxRecDepth 100000 in
theorem tw_222 : lw_tbl[222]? = some (.fieldLink "CrossDock" 59 "CrossDock" "latestSteps" "I") := by decide +kernel
set_option maxRecDepth 100000 in
theorem tw_223 : lw_tbl[223]? = some (.laysFinal "CrossDock" "CrossDock" "arrivals" "[LCrossDock$Arrival;") := by decide +kernel
set_option maxRecDepth 100000 in
theorem tw_224 : lw_tbl[224]? = some (.soleField "CrossDock" "arrivals") := by decide +kernel
set_option maxRecDepth 100000 in
theorem tw_225 : lw_tbl[225]? = some (.laysFinal "CrossDock" "CrossDock" "orders" "[LCrossDock$Order;") := by decide +kernel
set_option maxRecDepth 100000 in
theorem tw_226 : lw_tbl[226]? = some (.soleField "CrossDock" "orders") := by decide +kernel
set_option maxRecDepth 100000 in
theorem tw_227 : lw_tbl[227]? = some (.laysFinal "CrossDock" "CrossDock" "laneFull" "[Z") := by decide +kernel
set_option maxRecDepth 100000 in
theorem tw_228 : lw_tbl[228]? = some (.soleField "CrossDock" "laneFull") := by decide +kernel
set_option maxRecDepth 100000 in
theorem tw_229 : lw_tbl[229]? = some (.laysFinal "CrossDock" "CrossDock" "ordersByRank" "[I") := by decide +kernel
set_option maxRecDepth 100000 in
theorem tw_230 : lw_tbl[230]? = some (.soleField "CrossDock" "ordersByRank") := by decide +kernel
set_option maxRecDepth 100000 in
theorem tw_231 : lw_tbl[231]? = some (.laysFinal "CrossDock" "CrossDock" "arrivalsByTime" "[I") := by decide +kernel
set_option maxRecDepth 100000 in
theorem tw_232 : lw_tbl[232]? = some (.soleField "CrossDock" "arrivalsByTime") := by decide +kernel
set_option maxRecDepth 100000 in
theorem tw_233 : lw_tbl[233]? = some (.laysFinal "CrossDock" "CrossDock" "search" "LCrossDock$Search;") := by decide +kernel
set_option maxRecDepth 100000 in
theorem tw_234 : lw_tbl[234]? = some (.soleField "CrossDock" "search") := by decide +kernel
set_option maxRecDepth 100000 in
theorem tw_235 : lw_tbl[235]? = some (.laysFinal "CrossDock" "CrossDock" "pairs" "LCrossDock$Pairs;") := by decide +kernel
set_option maxRecDepth 100000 in
theorem tw_236 : lw_tbl[236]? = some (.soleField "CrossDock" "pairs") := by decide +kernel
set_option maxRecDepth 100000 in
theorem tw_237 : lw_tbl[237]? = some (.lays "CrossDock" "CrossDock" "arrivalCount" "I") := by decide +kernel
set_option maxRecDepth 100000 in
theorem tw_238 : lw_tbl[238]? = some (.soleField "CrossDock" "arrivalCount") := by decide +kernel
set_option maxRecDepth 100000 in
theorem tw_239 : lw_tbl[239]? = some (.lays "CrossDock" "CrossDock" "orderCount" "I") := by decide +kernel
set_option maxRecDepth 100000 in
theorem tw_240 : lw_tbl[240]? = some (.soleField "CrossDock" "orderCount") := by decide +kernel
set_option maxRecDepth 100000 in
theorem tw_241 : lw_tbl[241]? = some (.lays "CrossDock" "CrossDock" "latestExact" "Z") := by decide +kernel
set_option maxRecDepth 100000 in
theorem tw_242 : lw_tbl[242]? = some (.soleField "CrossDock" "latestExact") := by decide +kernel
set_option maxRecDepth 100000 in
theorem tw_243 : lw_tbl[243]? = some (.lays "CrossDock" "CrossDock" "latestSteps" "I") := by decide +kernel
set_option maxRecDepth 100000 in
theorem tw_244 : lw_tbl[244]? = some (.soleField "CrossDock" "latestSteps") := by decide +kernel
set_option maxRecDepth 100000 in
theorem tw_245 : lw_tbl[245]? = some (.superclass "CrossDock" "java/lang/Object") := by decide +kernel
set_option maxRecDepth 100000 in
theorem tw_246 : lw_tbl[246]? = some (.methodLink "CrossDockLaw" 100 ⟨"CrossDock", "exact", "()Z"⟩) := by decide +kernel
set_option maxRecDepth 100000 in
theorem tw_247 : lw_tbl[247]? = some (.instanceMethod ⟨"CrossDock", "exact", "()Z"⟩) := by decide +kernel
set_option maxRecDepth 100000 in
theorem tw_248 : lw_tbl[248]? = some (.selects "CrossDock" ⟨"CrossDock", "exact", "()Z"⟩ ⟨"CrossDock", "exact", "()Z"⟩) := by decide +kernel
set_option maxRecDepth 100000 in
theorem tw_249 : lw_tbl[249]? = some (.code ⟨"CrossDock", "exact", "()Z"⟩ prog_1_method_9_code 1 (some .boolean)) := by decide +kernel
set_option maxRecDepth 100000 in
theorem tw_250 : lw_tbl[250]? = some (.methodLink "CrossDockLaw" 105 ⟨"CrossDock", "bound", "()I"⟩) := by decide +kernel
set_option maxRecDepth 100000 in
theorem tw_251 : lw_tbl[251]? = some (.instanceMethod ⟨"CrossDock", "bound", "()I"⟩) := by decide +kernel
set_option maxRecDepth 100000 in
theorem tw_252 : lw_tbl[252]? = some (.selects "CrossDock" ⟨"CrossDock", "bound", "()I"⟩ ⟨"CrossDock", "bound", "()I"⟩) := by decide +kernel
set_option maxRecDepth 100000 in
theorem tw_253 : lw_tbl[253]? = some (.code ⟨"CrossDock", "bound", "()I"⟩ prog_1_method_10_code 3 (some .int)) := by decide +kernel
set_option maxRecDepth 100000 in
theorem tw_254 : lw_tbl[254]? = some (.methodLink "CrossDock" 142 ⟨"CrossDock", "arrivalsFor", "(I)I"⟩) := by decide +kernel
set_option maxRecDepth 100000 in
theorem tw_255 : lw_tbl[255]? = some (.privateMethod ⟨"CrossDock", "arrivalsFor", "(I)I"⟩) := by decide +kernel
set_option maxRecDepth 100000 in
theorem tw_256 : lw_tbl[256]? = some (.instanceMethod ⟨"CrossDock", "arrivalsFor", "(I)I"⟩) := by decide +kernel
set_option maxRecDepth 100000 in
theorem tw_257 : lw_tbl[257]? = some (.code ⟨"CrossDock", "arrivalsFor", "(I)I"⟩ prog_1_method_28_code 4 (some .int)) := by decide +kernel
set_option maxRecDepth 100000 in
theorem tw_258 : lw_tbl[258]? = some (.methodLink "CrossDock" 117 ⟨"CrossDock", "mayServe", "(II)Z"⟩) := by decide +kernel
set_option maxRecDepth 100000 in
theorem tw_259 : lw_tbl[259]? = some (.privateMethod ⟨"CrossDock", "mayServe", "(II)Z"⟩) := by decide +kernel
set_option maxRecDepth 100000 in
theorem tw_260 : lw_tbl[260]? = some (.instanceMethod ⟨"CrossDock", "mayServe", "(II)Z"⟩) := by decide +kernel
set_option maxRecDepth 100000 in
theorem tw_261 : lw_tbl[261]? = some (.code ⟨"CrossDock", "mayServe", "(II)Z"⟩ prog_1_method_24_code 3 (some .boolean)) := by decide +kernel
set_option maxRecDepth 100000 in
theorem tw_262 : lw_tbl[262]? = some (.methodLink "CrossDock" 209 ⟨"CrossDock", "obstacle", "(II)I"⟩) := by decide +kernel
set_option maxRecDepth 100000 in
theorem tw_263 : lw_tbl[263]? = some (.privateMethod ⟨"CrossDock", "obstacle", "(II)I"⟩) := by decide +kernel
set_option maxRecDepth 100000 in
theorem tw_264 : lw_tbl[264]? = some (.instanceMethod ⟨"CrossDock", "obstacle", "(II)I"⟩) := by decide +kernel
set_option maxRecDepth 100000 in
theorem tw_265 : lw_tbl[265]? = some (.code ⟨"CrossDock", "obstacle", "(II)I"⟩ prog_1_method_23_code 5 (some .int)) := by decide +kernel
set_option maxRecDepth 100000 in
theorem tw_266 : lw_tbl[266]? = some (.methodLinkNest "CrossDock" 203 ⟨"CrossDock$Order", "takesLot", "(I)Z"⟩ "CrossDock") := by decide +kernel
set_option maxRecDepth 100000 in
theorem tw_267 : lw_tbl[267]? = some (.privateMethod ⟨"CrossDock$Order", "takesLot", "(I)Z"⟩) := by decide +kernel
set_option maxRecDepth 100000 in
theorem tw_268 : lw_tbl[268]? = some (.instanceMethod ⟨"CrossDock$Order", "takesLot", "(I)Z"⟩) := by decide +kernel
set_option maxRecDepth 100000 in
theorem tw_269 : lw_tbl[269]? = some (.code ⟨"CrossDock$Order", "takesLot", "(I)Z"⟩ prog_3_method_2_code 2 (some .boolean)) := by decide +kernel
set_option maxRecDepth 100000 in
theorem tw_270 : lw_tbl[270]? = some (.methodLinkNest "CrossDock" 206 ⟨"CrossDock$Arrival", "isBarredFor", "(I)Z"⟩ "CrossDock") := by decide +kernel
set_option maxRecDepth 100000 in
theorem tw_271 : lw_tbl[271]? = some (.privateMethod ⟨"CrossDock$Arrival", "isBarredFor", "(I)Z"⟩) := by decide +kernel
set_option maxRecDepth 100000 in
theorem tw_272 : lw_tbl[272]? = some (.instanceMethod ⟨"CrossDock$Arrival", "isBarredFor", "(I)Z"⟩) := by decide +kernel
set_option maxRecDepth 100000 in
theorem tw_273 : lw_tbl[273]? = some (.code ⟨"CrossDock$Arrival", "isBarredFor", "(I)Z"⟩ prog_2_method_3_code 2 (some .boolean)) := by decide +kernel
set_option maxRecDepth 100000 in
theorem tw_274 : lw_tbl[274]? = some (.methodLink "CrossDock" 145 ⟨"CrossDock", "ordersFor", "(I)I"⟩) := by decide +kernel
set_option maxRecDepth 100000 in
theorem tw_275 : lw_tbl[275]? = some (.privateMethod ⟨"CrossDock", "ordersFor", "(I)I"⟩) := by decide +kernel
set_option maxRecDepth 100000 in
theorem tw_276 : lw_tbl[276]? = some (.instanceMethod ⟨"CrossDock", "ordersFor", "(I)I"⟩) := by decide +kernel
set_option maxRecDepth 100000 in
theorem tw_277 : lw_tbl[277]? = some (.code ⟨"CrossDock", "ordersFor", "(I)I"⟩ prog_1_method_27_code 4 (some .int)) := by decide +kernel
set_option maxRecDepth 100000 in
theorem tw_278 : lw_tbl[278]? = some (.methodLink "CrossDockLaw" 109 ⟨"CrossDock", "steps", "()I"⟩) := by decide +kernel
set_option maxRecDepth 100000 in
theorem tw_279 : lw_tbl[279]? = some (.instanceMethod ⟨"CrossDock", "steps", "()I"⟩) := by decide +kernel
set_option maxRecDepth 100000 in
theorem tw_280 : lw_tbl[280]? = some (.selects "CrossDock" ⟨"CrossDock", "steps", "()I"⟩ ⟨"CrossDock", "steps", "()I"⟩) := by decide +kernel
set_option maxRecDepth 100000 in
theorem tw_281 : lw_tbl[281]? = some (.code ⟨"CrossDock", "steps", "()I"⟩ prog_1_method_11_code 1 (some .int)) := by decide +kernel
set_option maxRecDepth 100000 in
theorem tw_282 : lw_tbl[282]? = some (.methodLink "CrossDockLaw" 132 ⟨"CrossDock", "saved", "()I"⟩) := by decide +kernel
set_option maxRecDepth 100000 in
theorem tw_283 : lw_tbl[283]? = some (.instanceMethod ⟨"CrossDock", "saved", "()I"⟩) := by decide +kernel
set_option maxRecDepth 100000 in
theorem tw_284 : lw_tbl[284]? = some (.selects "CrossDock" ⟨"CrossDock", "saved", "()I"⟩ ⟨"CrossDock", "saved", "()I"⟩) := by decide +kernel
set_option maxRecDepth 100000 in
theorem tw_285 : lw_tbl[285]? = some (.code ⟨"CrossDock", "saved", "()I"⟩ prog_1_method_18_code 1 (some .int)) := by decide +kernel
set_option maxRecDepth 100000 in
theorem tw_286 : lw_tbl[286]? = some (.methodLink "CrossDock" 138 ⟨"CrossDock", "touchesSaved", "()I"⟩) := by decide +kernel
set_option maxRecDepth 100000 in
theorem tw_287 : lw_tbl[287]? = some (.privateMethod ⟨"CrossDock", "touchesSaved", "()I"⟩) := by decide +kernel
set_option maxRecDepth 100000 in
theorem tw_288 : lw_tbl[288]? = some (.instanceMethod ⟨"CrossDock", "touchesSaved", "()I"⟩) := by decide +kernel
set_option maxRecDepth 100000 in
theorem tw_289 : lw_tbl[289]? = some (.code ⟨"CrossDock", "touchesSaved", "()I"⟩ prog_1_method_30_code 3 (some .int)) := by decide +kernel
set_option maxRecDepth 100000 in
theorem tw_290 : lw_tbl[290]? = some (.methodLinkNest "CrossDock" 182 ⟨"CrossDock$Pairs", "palletsInAll", "()I"⟩ "CrossDock") := by decide +kernel
set_option maxRecDepth 100000 in
theorem tw_291 : lw_tbl[291]? = some (.privateMethod ⟨"CrossDock$Pairs", "palletsInAll", "()I"⟩) := by decide +kernel
set_option maxRecDepth 100000 in
theorem tw_292 : lw_tbl[292]? = some (.instanceMethod ⟨"CrossDock$Pairs", "palletsInAll", "()I"⟩) := by decide +kernel
set_option maxRecDepth 100000 in
theorem tw_293 : lw_tbl[293]? = some (.code ⟨"CrossDock$Pairs", "palletsInAll", "()I"⟩ prog_4_method_6_code 3 (some .int)) := by decide +kernel
set_option maxRecDepth 100000 in
theorem tw_294 : lw_tbl[294]? = some (.methodLinkNest "CrossDock" 176 ⟨"CrossDock$Pairs", "palletsFor", "(I)I"⟩ "CrossDock") := by decide +kernel
set_option maxRecDepth 100000 in
theorem tw_295 : lw_tbl[295]? = some (.privateMethod ⟨"CrossDock$Pairs", "palletsFor", "(I)I"⟩) := by decide +kernel
set_option maxRecDepth 100000 in
theorem tw_296 : lw_tbl[296]? = some (.instanceMethod ⟨"CrossDock$Pairs", "palletsFor", "(I)I"⟩) := by decide +kernel
set_option maxRecDepth 100000 in
theorem tw_297 : lw_tbl[297]? = some (.code ⟨"CrossDock$Pairs", "palletsFor", "(I)I"⟩ prog_4_method_5_code 4 (some .int)) := by decide +kernel
set_option maxRecDepth 100000 in
theorem tw_298 : lw_tbl[298]? = some (.methodLinkNest "CrossDock" 173 ⟨"CrossDock$Arrival", "toGive", "()I"⟩ "CrossDock") := by decide +kernel
set_option maxRecDepth 100000 in
theorem tw_299 : lw_tbl[299]? = some (.privateMethod ⟨"CrossDock$Arrival", "toGive", "()I"⟩) := by decide +kernel
set_option maxRecDepth 100000 in
theorem tw_300 : lw_tbl[300]? = some (.instanceMethod ⟨"CrossDock$Arrival", "toGive", "()I"⟩) := by decide +kernel
set_option maxRecDepth 100000 in
theorem tw_301 : lw_tbl[301]? = some (.code ⟨"CrossDock$Arrival", "toGive", "()I"⟩ prog_2_method_2_code 1 (some .int)) := by decide +kernel
set_option maxRecDepth 100000 in
theorem tw_302 : lw_tbl[302]? = some (.methodLink "CrossDockLaw" 136 ⟨"CrossDock", "count", "(I)I"⟩) := by decide +kernel
set_option maxRecDepth 100000 in
theorem tw_303 : lw_tbl[303]? = some (.instanceMethod ⟨"CrossDock", "count", "(I)I"⟩) := by decide +kernel
set_option maxRecDepth 100000 in
theorem tw_304 : lw_tbl[304]? = some (.selects "CrossDock" ⟨"CrossDock", "count", "(I)I"⟩ ⟨"CrossDock", "count", "(I)I"⟩) := by decide +kernel
set_option maxRecDepth 100000 in
theorem tw_305 : lw_tbl[305]? = some (.code ⟨"CrossDock", "count", "(I)I"⟩ prog_1_method_19_code 2 (some .int)) := by decide +kernel
set_option maxRecDepth 100000 in
theorem tw_306 : lw_tbl[306]? = some (.methodLink "CrossDock" 185 ⟨"CrossDock", "fullLanes", "()I"⟩) := by decide +kernel
set_option maxRecDepth 100000 in
theorem tw_307 : lw_tbl[307]? = some (.privateMethod ⟨"CrossDock", "fullLanes", "()I"⟩) := by decide +kernel
set_option maxRecDepth 100000 in
theorem tw_308 : lw_tbl[308]? = some (.instanceMethod ⟨"CrossDock", "fullLanes", "()I"⟩) := by decide +kernel
set_option maxRecDepth 100000 in
theorem tw_309 : lw_tbl[309]? = some (.code ⟨"CrossDock", "fullLanes", "()I"⟩ prog_1_method_29_code 3 (some .int)) := by decide +kernel
set_option maxRecDepth 100000 in
theorem tw_310 : lw_tbl[310]? = some (.methodLink "CrossDockLaw" 67 ⟨"CrossDockLaw", "arrive", "(LCrossDock;IIII[J)I"⟩) := by decide +kernel
set_option maxRecDepth 100000 in
theorem tw_311 : lw_tbl[311]? = some (.static ⟨"CrossDockLaw", "arrive", "(LCrossDock;IIII[J)I"⟩) := by decide +kernel
set_option maxRecDepth 100000 in
theorem tw_312 : lw_tbl[312]? = some (.codeWith ⟨"CrossDockLaw", "arrive", "(LCrossDock;IIII[J)I"⟩ method_3_code 7 (some .int) [(0, 14, 17, 13), (0, 14, 21, 15)]) := by decide +kernel
set_option maxRecDepth 100000 in
theorem tw_313 : lw_tbl[313]? = some (.classLink "CrossDockLaw" 13 "java/lang/IllegalArgumentException") := by decide +kernel
set_option maxRecDepth 100000 in
theorem tw_314 : lw_tbl[314]? = some (.classLink "CrossDockLaw" 15 "java/lang/UnsupportedOperationException") := by decide +kernel
set_option maxRecDepth 100000 in
theorem tw_315 : lw_tbl[315]? = some (.methodLink "CrossDockLaw" 7 ⟨"CrossDock", "arrive", "(IIII)I"⟩) := by decide +kernel
set_option maxRecDepth 100000 in
theorem tw_316 : lw_tbl[316]? = some (.instanceMethod ⟨"CrossDock", "arrive", "(IIII)I"⟩) := by decide +kernel
set_option maxRecDepth 100000 in
theorem tw_317 : lw_tbl[317]? = some (.selects "CrossDock" ⟨"CrossDock", "arrive", "(IIII)I"⟩ ⟨"CrossDock", "arrive", "(IIII)I"⟩) := by decide +kernel
set_option maxRecDepth 100000 in
theorem tw_318 : lw_tbl[318]? = some (.code ⟨"CrossDock", "arrive", "(IIII)I"⟩ prog_1_method_2_code 6 (some .int)) := by decide +kernel
set_option maxRecDepth 100000 in
theorem tw_319 : lw_tbl[319]? = some (.methodLink "CrossDock" 62 ⟨"CrossDock", "checkRange", "(III)V"⟩) := by decide +kernel
set_option maxRecDepth 100000 in
theorem tw_320 : lw_tbl[320]? = some (.static ⟨"CrossDock", "checkRange", "(III)V"⟩) := by decide +kernel
set_option maxRecDepth 100000 in
theorem tw_321 : lw_tbl[321]? = some (.code ⟨"CrossDock", "checkRange", "(III)V"⟩ prog_1_method_21_code 3 none) := by decide +kernel
set_option maxRecDepth 100000 in
theorem tw_322 : lw_tbl[322]? = some (.classLink "CrossDock" 193 "java/lang/IllegalArgumentException") := by decide +kernel
set_option maxRecDepth 100000 in
theorem tw_323 : lw_tbl[323]? = some (.instantiable "java/lang/IllegalArgumentException" 6) := by decide +kernel
set_option maxRecDepth 100000 in
theorem tw_324 : lw_tbl[324]? = some (.castable "java/lang/IllegalArgumentException" "java/lang/IllegalArgumentException") := by decide +kernel
set_option maxRecDepth 100000 in
theorem tw_325 : lw_tbl[325]? = some (.declares ⟨"java/lang/RuntimeException", "<init>", "()V"⟩) := by decide +kernel
set_option maxRecDepth 100000 in
theorem tw_326 : lw_tbl[326]? = some (.declares ⟨"java/lang/RuntimeException", "<init>", "(Ljava/lang/String;)V"⟩) := by decide +kernel
set_option maxRecDepth 100000 in
theorem tw_327 : lw_tbl[327]? = some (.declares ⟨"java/lang/Exception", "<init>", "()V"⟩) := by decide +kernel
set_option maxRecDepth 100000 in
theorem tw_328 : lw_tbl[328]? = some (.declares ⟨"java/lang/Exception", "<init>", "(Ljava/lang/String;)V"⟩) := by decide +kernel
set_option maxRecDepth 100000 in
theorem tw_329 : lw_tbl[329]? = some (.declares ⟨"java/lang/Throwable", "<init>", "()V"⟩) := by decide +kernel
set_option maxRecDepth 100000 in
theorem tw_330 : lw_tbl[330]? = some (.declares ⟨"java/lang/Throwable", "<init>", "(Ljava/lang/String;)V"⟩) := by decide +kernel
set_option maxRecDepth 100000 in
theorem tw_331 : lw_tbl[331]? = some (.selects "java/lang/IllegalArgumentException" ⟨"java/lang/Throwable", "fillInStackTrace", "(I)Ljava/lang/Throwable;"⟩ ⟨"java/lang/Throwable", "fillInStackTrace", "(I)Ljava/lang/Throwable;"⟩) := by decide +kernel
set_option maxRecDepth 100000 in
theorem tw_332 : lw_tbl[332]? = some (.selects "java/lang/IllegalArgumentException" ⟨"java/lang/Throwable", "fillInStackTrace", "()Ljava/lang/Throwable;"⟩ ⟨"java/lang/Throwable", "fillInStackTrace", "()Ljava/lang/Throwable;"⟩) := by decide +kernel
set_option maxRecDepth 100000 in
theorem tw_333 : lw_tbl[333]? = some (.lays "java/lang/IllegalArgumentException" "java/lang/Throwable" "cause" "Ljava/lang/Throwable;") := by decide +kernel
set_option maxRecDepth 100000 in
theorem tw_334 : lw_tbl[334]? = some (.lays "java/lang/Throwable" "java/lang/Throwable" "cause" "Ljava/lang/Throwable;") := by decide +kernel
set_option maxRecDepth 100000 in
theorem tw_335 : lw_tbl[335]? = some (.lays "java/lang/IllegalArgumentException" "java/lang/Throwable" "stackTrace" "[Ljava/lang/StackTraceElement;") := by decide +kernel
set_option maxRecDepth 100000 in
theorem tw_336 : lw_tbl[336]? = some (.lays "java/lang/Throwable" "java/lang/Throwable" "stackTrace" "[Ljava/lang/StackTraceElement;") := by decide +kernel
set_option maxRecDepth 100000 in
theorem tw_337 : lw_tbl[337]? = some (.lays "java/lang/IllegalArgumentException" "java/lang/Throwable" "suppressedExceptions" "Ljava/util/List;") := by decide +kernel
set_option maxRecDepth 100000 in
theorem tw_338 : lw_tbl[338]? = some (.lays "java/lang/Throwable" "java/lang/Throwable" "suppressedExceptions" "Ljava/util/List;") := by decide +kernel
set_option maxRecDepth 100000 in
theorem tw_339 : lw_tbl[339]? = some (.lays "java/lang/IllegalArgumentException" "java/lang/Throwable" "detailMessage" "Ljava/lang/String;") := by decide +kernel
set_option maxRecDepth 100000 in
theorem tw_340 : lw_tbl[340]? = some (.lays "java/lang/Throwable" "java/lang/Throwable" "detailMessage" "Ljava/lang/String;") := by decide +kernel
set_option maxRecDepth 100000 in
theorem tw_341 : lw_tbl[341]? = some (.lays "java/lang/IllegalArgumentException" "java/lang/Throwable" "backtrace" "Ljava/lang/Object;") := by decide +kernel
set_option maxRecDepth 100000 in
theorem tw_342 : lw_tbl[342]? = some (.lays "java/lang/Throwable" "java/lang/Throwable" "backtrace" "Ljava/lang/Object;") := by decide +kernel
set_option maxRecDepth 100000 in
theorem tw_343 : lw_tbl[343]? = some (.fieldLink "java/lang/Throwable" 198 "java/lang/Throwable" "backtrace" "Ljava/lang/Object;") := by decide +kernel
set_option maxRecDepth 100000 in
theorem tw_344 : lw_tbl[344]? = some (.superclass "java/lang/Throwable" "java/lang/Object") := by decide +kernel
set_option maxRecDepth 100000 in
theorem tw_345 : lw_tbl[345]? = some (.instanceMethod ⟨"java/lang/Throwable", "<init>", "()V"⟩) := by decide +kernel
set_option maxRecDepth 100000 in
theorem tw_346 : lw_tbl[346]? = some (.code ⟨"java/lang/Throwable", "<init>", "()V"⟩ prog_15_method_1_code 1 none) := by decide +kernel
set_option maxRecDepth 100000 in
theorem tw_347 : lw_tbl[347]? = some (.methodLink "java/lang/Throwable" 1 ⟨"java/lang/Object", "<init>", "()V"⟩) := by decide +kernel
set_option maxRecDepth 100000 in
theorem tw_348 : lw_tbl[348]? = some (.fieldLink "java/lang/Throwable" 13 "java/lang/Throwable" "UNASSIGNED_STACK" "[Ljava/lang/StackTraceElement;") := by decide +kernel
set_option maxRecDepth 100000 in
theorem tw_349 : lw_tbl[349]? = some (.laysStatic "java/lang/Throwable" "UNASSIGNED_STACK" "[Ljava/lang/StackTraceElement;") := by decide +kernel
set_option maxRecDepth 100000 in
theorem tw_350 : lw_tbl[350]? = some (.fieldLink "java/lang/Throwable" 20 "java/lang/Throwable" "SUPPRESSED_SENTINEL" "Ljava/util/List;") := by decide +kernel
set_option maxRecDepth 100000 in
theorem tw_351 : lw_tbl[351]? = some (.laysStatic "java/lang/Throwable" "SUPPRESSED_SENTINEL" "Ljava/util/List;") := by decide +kernel
set_option maxRecDepth 100000 in
theorem tw_352 : lw_tbl[352]? = some (.methodLink "java/lang/Throwable" 27 ⟨"java/lang/Throwable", "fillInStackTrace", "()Ljava/lang/Throwable;"⟩) := by decide +kernel
set_option maxRecDepth 100000 in
theorem tw_353 : lw_tbl[353]? = some (.instanceMethod ⟨"java/lang/Throwable", "fillInStackTrace", "()Ljava/lang/Throwable;"⟩) := by decide +kernel
set_option maxRecDepth 100000 in
theorem tw_354 : lw_tbl[354]? = some (.sameMethod "java/lang/Throwable" "java/lang/Throwable" "fillInStackTrace" "()Ljava/lang/Throwable;") := by decide +kernel
set_option maxRecDepth 100000 in
theorem tw_355 : lw_tbl[355]? = some (.selects "java/lang/IllegalStateException" ⟨"java/lang/Throwable", "fillInStackTrace", "()Ljava/lang/Throwable;"⟩ ⟨"java/lang/Throwable", "fillInStackTrace", "()Ljava/lang/Throwable;"⟩) := by decide +kernel
set_option maxRecDepth 100000 in
theorem tw_356 : lw_tbl[356]? = some (.selects "java/lang/UnsupportedOperationException" ⟨"java/lang/Throwable", "fillInStackTrace", "()Ljava/lang/Throwable;"⟩ ⟨"java/lang/Throwable", "fillInStackTrace", "()Ljava/lang/Throwable;"⟩) := by decide +kernel
set_option maxRecDepth 100000 in
theorem tw_357 : lw_tbl[357]? = some (.selects "java/util/NoSuchElementException" ⟨"java/lang/Throwable", "fillInStackTrace", "()Ljava/lang/Throwable;"⟩ ⟨"java/lang/Throwable", "fillInStackTrace", "()Ljava/lang/Throwable;"⟩) := by decide +kernel
set_option maxRecDepth 100000 in
theorem tw_358 : lw_tbl[358]? = some (.codeSync ⟨"java/lang/Throwable", "fillInStackTrace", "()Ljava/lang/Throwable;"⟩ prog_15_method_18_code 1 (some (.object "java/lang/Throwable"))) := by decide +kernel
set_option maxRecDepth 100000 in
theorem tw_359 : lw_tbl[359]? = some (.methodLink "java/lang/Throwable" 202 ⟨"java/lang/Throwable", "fillInStackTrace", "(I)Ljava/lang/Throwable;"⟩) := by decide +kernel
set_option maxRecDepth 100000 in
theorem tw_360 : lw_tbl[360]? = some (.privateMethod ⟨"java/lang/Throwable", "fillInStackTrace", "(I)Ljava/lang/Throwable;"⟩) := by decide +kernel
set_option maxRecDepth 100000 in
theorem tw_361 : lw_tbl[361]? = some (.instanceMethod ⟨"java/lang/Throwable", "fillInStackTrace", "(I)Ljava/lang/Throwable;"⟩) := by decide +kernel
set_option maxRecDepth 100000 in
theorem tw_362 : lw_tbl[362]? = some (.instantiable "java/lang/Throwable" 6) := by decide +kernel
set_option maxRecDepth 100000 in
theorem tw_363 : lw_tbl[363]? = some (.native ⟨"java/lang/Throwable", "fillInStackTrace", "(I)Ljava/lang/Throwable;"⟩) := by decide +kernel
set_option maxRecDepth 100000 in
theorem tw_364 : lw_tbl[364]? = some (.stringRef "CrossDock" 195 "a number is outside its range") := by decide +kernel
set_option maxRecDepth 100000 in
theorem tw_365 : lw_tbl[365]? = some (.methodLink "CrossDock" 197 ⟨"java/lang/IllegalArgumentException", "<init>", "(Ljava/lang/String;)V"⟩) := by decide +kernel
set_option maxRecDepth 100000 in
theorem tw_366 : lw_tbl[366]? = some (.instanceMethod ⟨"java/lang/IllegalArgumentException", "<init>", "(Ljava/lang/String;)V"⟩) := by decide +kernel
set_option maxRecDepth 100000 in
theorem tw_367 : lw_tbl[367]? = some (.code ⟨"java/lang/IllegalArgumentException", "<init>", "(Ljava/lang/String;)V"⟩ prog_9_method_2_code 2 none) := by decide +kernel
set_option maxRecDepth 100000 in
theorem tw_368 : lw_tbl[368]? = some (.methodLink "java/lang/IllegalArgumentException" 7 ⟨"java/lang/RuntimeException", "<init>", "(Ljava/lang/String;)V"⟩) := by decide +kernel
set_option maxRecDepth 100000 in
theorem tw_369 : lw_tbl[369]? = some (.instanceMethod ⟨"java/lang/RuntimeException", "<init>", "(Ljava/lang/String;)V"⟩) := by decide +kernel
set_option maxRecDepth 100000 in
theorem tw_370 : lw_tbl[370]? = some (.code ⟨"java/lang/RuntimeException", "<init>", "(Ljava/lang/String;)V"⟩ prog_12_method_2_code 2 none) := by decide +kernel
set_option maxRecDepth 100000 in
theorem tw_371 : lw_tbl[371]? = some (.methodLink "java/lang/RuntimeException" 7 ⟨"java/lang/Exception", "<init>", "(Ljava/lang/String;)V"⟩) := by decide +kernel
set_option maxRecDepth 100000 in
theorem tw_372 : lw_tbl[372]? = some (.instanceMethod ⟨"java/lang/Exception", "<init>", "(Ljava/lang/String;)V"⟩) := by decide +kernel
set_option maxRecDepth 100000 in
theorem tw_373 : lw_tbl[373]? = some (.code ⟨"java/lang/Exception", "<init>", "(Ljava/lang/String;)V"⟩ prog_8_method_2_code 2 none) := by decide +kernel
set_option maxRecDepth 100000 in
theorem tw_374 : lw_tbl[374]? = some (.methodLink "java/lang/Exception" 7 ⟨"java/lang/Throwable", "<init>", "(Ljava/lang/String;)V"⟩) := by decide +kernel
set_option maxRecDepth 100000 in
theorem tw_375 : lw_tbl[375]? = some (.instanceMethod ⟨"java/lang/Throwable", "<init>", "(Ljava/lang/String;)V"⟩) := by decide +kernel
set_option maxRecDepth 100000 in
theorem tw_376 : lw_tbl[376]? = some (.code ⟨"java/lang/Throwable", "<init>", "(Ljava/lang/String;)V"⟩ prog_15_method_2_code 2 none) := by decide +kernel
set_option maxRecDepth 100000 in
theorem tw_378 : lw_tbl[378]? = some (.fieldLink "java/lang/Throwable" 31 "java/lang/Throwable" "detailMessage" "Ljava/lang/String;") := by decide +kernel
set_option maxRecDepth 100000 in
theorem tw_379 : lw_tbl[379]? = some (.fieldLink "java/lang/Throwable" 7 "java/lang/Throwable" "cause" "Ljava/lang/Throwable;") := by decide +kernel
set_option maxRecDepth 100000 in
theorem tw_380 : lw_tbl[380]? = some (.fieldLink "java/lang/Throwable" 17 "java/lang/Throwable" "stackTrace" "[Ljava/lang/StackTraceElement;") := by decide +kernel
set_option maxRecDepth 100000 in
theorem tw_381 : lw_tbl[381]? = some (.fieldLink "java/lang/Throwable" 24 "java/lang/Throwable" "suppressedExceptions" "Ljava/util/List;") := by decide +kernel
set_option maxRecDepth 100000 in
theorem tw_382 : lw_tbl[382]? = some (.soleField "java/lang/Throwable" "backtrace") := by decide +kernel
set_option maxRecDepth 100000 in
theorem tw_383 : lw_tbl[383]? = some (.soleField "java/lang/Throwable" "detailMessage") := by decide +kernel
set_option maxRecDepth 100000 in
theorem tw_384 : lw_tbl[384]? = some (.soleField "java/lang/Throwable" "cause") := by decide +kernel
set_option maxRecDepth 100000 in
theorem tw_385 : lw_tbl[385]? = some (.soleField "java/lang/Throwable" "stackTrace") := by decide +kernel
set_option maxRecDepth 100000 in
theorem tw_386 : lw_tbl[386]? = some (.lays "java/lang/IllegalArgumentException" "java/lang/Throwable" "depth" "I") := by decide +kernel
set_option maxRecDepth 100000 in
theorem tw_387 : lw_tbl[387]? = some (.soleField "java/lang/Throwable" "depth") := by decide +kernel
set_option maxRecDepth 100000 in
theorem tw_388 : lw_tbl[388]? = some (.soleField "java/lang/Throwable" "suppressedExceptions") := by decide +kernel
set_option maxRecDepth 100000 in
theorem tw_389 : lw_tbl[389]? = some (.superclass "java/lang/IllegalArgumentException" "java/lang/RuntimeException") := by decide +kernel
set_option maxRecDepth 100000 in
theorem tw_390 : lw_tbl[390]? = some (.arrayClass .byte) := by decide +kernel
set_option maxRecDepth 100000 in
theorem tw_391 : lw_tbl[391]? = some (.methodLink "CrossDock" 66 ⟨"CrossDock", "checkRoom", "(II)V"⟩) := by decide +kernel
set_option maxRecDepth 100000 in
theorem tw_392 : lw_tbl[392]? = some (.static ⟨"CrossDock", "checkRoom", "(II)V"⟩) := by decide +kernel
set_option maxRecDepth 100000 in
theorem tw_393 : lw_tbl[393]? = some (.code ⟨"CrossDock", "checkRoom", "(II)V"⟩ prog_1_method_22_code 2 none) := by decide +kernel
set_option maxRecDepth 100000 in
theorem tw_394 : lw_tbl[394]? = some (.classLink "CrossDock" 198 "java/lang/UnsupportedOperationException") := by decide +kernel
set_option maxRecDepth 100000 in
theorem tw_395 : lw_tbl[395]? = some (.instantiable "java/lang/UnsupportedOperationException" 6) := by decide +kernel
set_option maxRecDepth 100000 in
theorem tw_396 : lw_tbl[396]? = some (.castable "java/lang/UnsupportedOperationException" "java/lang/UnsupportedOperationException") := by decide +kernel
set_option maxRecDepth 100000 in
theorem tw_397 : lw_tbl[397]? = some (.selects "java/lang/UnsupportedOperationException" ⟨"java/lang/Throwable", "fillInStackTrace", "(I)Ljava/lang/Throwable;"⟩ ⟨"java/lang/Throwable", "fillInStackTrace", "(I)Ljava/lang/Throwable;"⟩) := by decide +kernel
set_option maxRecDepth 100000 in
theorem tw_398 : lw_tbl[398]? = some (.lays "java/lang/UnsupportedOperationException" "java/lang/Throwable" "cause" "Ljava/lang/Throwable;") := by decide +kernel
set_option maxRecDepth 100000 in
theorem tw_399 : lw_tbl[399]? = some (.lays "java/lang/UnsupportedOperationException" "java/lang/Throwable" "stackTrace" "[Ljava/lang/StackTraceElement;") := by decide +kernel
set_option maxRecDepth 100000 in
theorem tw_400 : lw_tbl[400]? = some (.lays "java/lang/UnsupportedOperationException" "java/lang/Throwable" "suppressedExceptions" "Ljava/util/List;") := by decide +kernel
set_option maxRecDepth 100000 in
theorem tw_401 : lw_tbl[401]? = some (.lays "java/lang/UnsupportedOperationException" "java/lang/Throwable" "detailMessage" "Ljava/lang/String;") := by decide +kernel
set_option maxRecDepth 100000 in
theorem tw_402 : lw_tbl[402]? = some (.lays "java/lang/UnsupportedOperationException" "java/lang/Throwable" "backtrace" "Ljava/lang/Object;") := by decide +kernel
set_option maxRecDepth 100000 in
theorem tw_403 : lw_tbl[403]? = some (.stringRef "CrossDock" 200 "there is no room") := by decide +kernel
set_option maxRecDepth 100000 in
theorem tw_404 : lw_tbl[404]? = some (.methodLink "CrossDock" 202 ⟨"java/lang/UnsupportedOperationException", "<init>", "(Ljava/lang/String;)V"⟩) := by decide +kernel
set_option maxRecDepth 100000 in
theorem tw_405 : lw_tbl[405]? = some (.instanceMethod ⟨"java/lang/UnsupportedOperationException", "<init>", "(Ljava/lang/String;)V"⟩) := by decide +kernel
set_option maxRecDepth 100000 in
theorem tw_406 : lw_tbl[406]? = some (.code ⟨"java/lang/UnsupportedOperationException", "<init>", "(Ljava/lang/String;)V"⟩ prog_16_method_2_code 2 none) := by decide +kernel
set_option maxRecDepth 100000 in
theorem tw_407 : lw_tbl[407]? = some (.methodLink "java/lang/UnsupportedOperationException" 7 ⟨"java/lang/RuntimeException", "<init>", "(Ljava/lang/String;)V"⟩) := by decide +kernel
set_option maxRecDepth 100000 in
theorem tw_408 : lw_tbl[408]? = some (.lays "java/lang/UnsupportedOperationException" "java/lang/Throwable" "depth" "I") := by decide +kernel
set_option maxRecDepth 100000 in
theorem tw_409 : lw_tbl[409]? = some (.superclass "java/lang/UnsupportedOperationException" "java/lang/RuntimeException") := by decide +kernel
set_option maxRecDepth 100000 in
theorem tw_410 : lw_tbl[410]? = some (.methodLink "CrossDockLaw" 77 ⟨"CrossDockLaw", "order", "(LCrossDock;IIII[J)I"⟩) := by decide +kernel
set_option maxRecDepth 100000 in
theorem tw_411 : lw_tbl[411]? = some (.static ⟨"CrossDockLaw", "order", "(LCrossDock;IIII[J)I"⟩) := by decide +kernel
set_option maxRecDepth 100000 in
theorem tw_412 : lw_tbl[412]? = some (.codeWith ⟨"CrossDockLaw", "order", "(LCrossDock;IIII[J)I"⟩ method_4_code 7 (some .int) [(0, 14, 17, 13), (0, 14, 21, 15)]) := by decide +kernel
set_option maxRecDepth 100000 in
theorem tw_413 : lw_tbl[413]? = some (.methodLink "CrossDockLaw" 17 ⟨"CrossDock", "order", "(IIII)I"⟩) := by decide +kernel
set_option maxRecDepth 100000 in
theorem tw_414 : lw_tbl[414]? = some (.instanceMethod ⟨"CrossDock", "order", "(IIII)I"⟩) := by decide +kernel
set_option maxRecDepth 100000 in
theorem tw_415 : lw_tbl[415]? = some (.selects "CrossDock" ⟨"CrossDock", "order", "(IIII)I"⟩ ⟨"CrossDock", "order", "(IIII)I"⟩) := by decide +kernel
set_option maxRecDepth 100000 in
theorem tw_416 : lw_tbl[416]? = some (.code ⟨"CrossDock", "order", "(IIII)I"⟩ prog_1_method_3_code 6 (some .int)) := by decide +kernel
set_option maxRecDepth 100000 in
theorem tw_417 : lw_tbl[417]? = some (.methodLink "CrossDockLaw" 80 ⟨"CrossDockLaw", "wants", "(LCrossDock;III)I"⟩) := by decide +kernel
set_option maxRecDepth 100000 in
theorem tw_418 : lw_tbl[418]? = some (.static ⟨"CrossDockLaw", "wants", "(LCrossDock;III)I"⟩) := by decide +kernel
set_option maxRecDepth 100000 in
theorem tw_419 : lw_tbl[419]? = some (.codeWith ⟨"CrossDockLaw", "wants", "(LCrossDock;III)I"⟩ method_5_code 5 (some .int) [(0, 7, 10, 24), (0, 7, 14, 13)]) := by decide +kernel
set_option maxRecDepth 100000 in
theorem tw_420 : lw_tbl[420]? = some (.classLink "CrossDockLaw" 24 "java/util/NoSuchElementException") := by decide +kernel
set_option maxRecDepth 100000 in
theorem tw_421 : lw_tbl[421]? = some (.methodLink "CrossDockLaw" 20 ⟨"CrossDock", "wants", "(III)V"⟩) := by decide +kernel
set_option maxRecDepth 100000 in
theorem tw_422 : lw_tbl[422]? = some (.instanceMethod ⟨"CrossDock", "wants", "(III)V"⟩) := by decide +kernel
set_option maxRecDepth 100000 in
theorem tw_423 : lw_tbl[423]? = some (.selects "CrossDock" ⟨"CrossDock", "wants", "(III)V"⟩ ⟨"CrossDock", "wants", "(III)V"⟩) := by decide +kernel
set_option maxRecDepth 100000 in
theorem tw_424 : lw_tbl[424]? = some (.code ⟨"CrossDock", "wants", "(III)V"⟩ prog_1_method_4_code 4 none) := by decide +kernel
set_option maxRecDepth 100000 in
theorem tw_425 : lw_tbl[425]? = some (.methodLink "CrossDock" 96 ⟨"CrossDock", "checkThere", "(II)V"⟩) := by decide +kernel
set_option maxRecDepth 100000 in
theorem tw_426 : lw_tbl[426]? = some (.static ⟨"CrossDock", "checkThere", "(II)V"⟩) := by decide +kernel
set_option maxRecDepth 100000 in
theorem tw_427 : lw_tbl[427]? = some (.code ⟨"CrossDock", "checkThere", "(II)V"⟩ prog_1_method_20_code 2 none) := by decide +kernel
set_option maxRecDepth 100000 in
theorem tw_428 : lw_tbl[428]? = some (.classLink "CrossDock" 188 "java/util/NoSuchElementException") := by decide +kernel
set_option maxRecDepth 100000 in
theorem tw_429 : lw_tbl[429]? = some (.instantiable "java/util/NoSuchElementException" 6) := by decide +kernel
set_option maxRecDepth 100000 in
theorem tw_430 : lw_tbl[430]? = some (.castable "java/util/NoSuchElementException" "java/util/NoSuchElementException") := by decide +kernel
set_option maxRecDepth 100000 in
theorem tw_431 : lw_tbl[431]? = some (.selects "java/util/NoSuchElementException" ⟨"java/lang/Throwable", "fillInStackTrace", "(I)Ljava/lang/Throwable;"⟩ ⟨"java/lang/Throwable", "fillInStackTrace", "(I)Ljava/lang/Throwable;"⟩) := by decide +kernel
set_option maxRecDepth 100000 in
theorem tw_432 : lw_tbl[432]? = some (.lays "java/util/NoSuchElementException" "java/lang/Throwable" "cause" "Ljava/lang/Throwable;") := by decide +kernel
set_option maxRecDepth 100000 in
theorem tw_433 : lw_tbl[433]? = some (.lays "java/util/NoSuchElementException" "java/lang/Throwable" "stackTrace" "[Ljava/lang/StackTraceElement;") := by decide +kernel
set_option maxRecDepth 100000 in
theorem tw_434 : lw_tbl[434]? = some (.lays "java/util/NoSuchElementException" "java/lang/Throwable" "suppressedExceptions" "Ljava/util/List;") := by decide +kernel
set_option maxRecDepth 100000 in
theorem tw_435 : lw_tbl[435]? = some (.lays "java/util/NoSuchElementException" "java/lang/Throwable" "detailMessage" "Ljava/lang/String;") := by decide +kernel
set_option maxRecDepth 100000 in
theorem tw_436 : lw_tbl[436]? = some (.lays "java/util/NoSuchElementException" "java/lang/Throwable" "backtrace" "Ljava/lang/Object;") := by decide +kernel
set_option maxRecDepth 100000 in
theorem tw_437 : lw_tbl[437]? = some (.stringRef "CrossDock" 190 "there is none of this number") := by decide +kernel
set_option maxRecDepth 100000 in
theorem tw_438 : lw_tbl[438]? = some (.methodLink "CrossDock" 192 ⟨"java/util/NoSuchElementException", "<init>", "(Ljava/lang/String;)V"⟩) := by decide +kernel
set_option maxRecDepth 100000 in
theorem tw_439 : lw_tbl[439]? = some (.instanceMethod ⟨"java/util/NoSuchElementException", "<init>", "(Ljava/lang/String;)V"⟩) := by decide +kernel
set_option maxRecDepth 100000 in
theorem tw_440 : lw_tbl[440]? = some (.code ⟨"java/util/NoSuchElementException", "<init>", "(Ljava/lang/String;)V"⟩ prog_17_method_4_code 2 none) := by decide +kernel
set_option maxRecDepth 100000 in
theorem tw_441 : lw_tbl[441]? = some (.methodLink "java/util/NoSuchElementException" 13 ⟨"java/lang/RuntimeException", "<init>", "(Ljava/lang/String;)V"⟩) := by decide +kernel
set_option maxRecDepth 100000 in
theorem tw_442 : lw_tbl[442]? = some (.lays "java/util/NoSuchElementException" "java/lang/Throwable" "depth" "I") := by decide +kernel
set_option maxRecDepth 100000 in
theorem tw_443 : lw_tbl[443]? = some (.superclass "java/util/NoSuchElementException" "java/lang/RuntimeException") := by decide +kernel
set_option maxRecDepth 100000 in
theorem tw_444 : lw_tbl[444]? = some (.methodLink "CrossDockLaw" 84 ⟨"CrossDockLaw", "promised", "(LCrossDock;II)I"⟩) := by decide +kernel
set_option maxRecDepth 100000 in
theorem tw_445 : lw_tbl[445]? = some (.static ⟨"CrossDockLaw", "promised", "(LCrossDock;II)I"⟩) := by decide +kernel
set_option maxRecDepth 100000 in
theorem tw_446 : lw_tbl[446]? = some (.codeWith ⟨"CrossDockLaw", "promised", "(LCrossDock;II)I"⟩ method_6_code 4 (some .int) [(0, 6, 9, 24), (0, 6, 12, 13), (0, 6, 15, 30)]) := by decide +kernel
set_option maxRecDepth 100000 in
theorem tw_447 : lw_tbl[447]? = some (.classLink "CrossDockLaw" 30 "java/lang/IllegalStateException") := by decide +kernel
set_option maxRecDepth 100000 in
theorem tw_448 : lw_tbl[448]? = some (.methodLink "CrossDockLaw" 26 ⟨"CrossDock", "promised", "(II)V"⟩) := by decide +kernel
set_option maxRecDepth 100000 in
theorem tw_449 : lw_tbl[449]? = some (.instanceMethod ⟨"CrossDock", "promised", "(II)V"⟩) := by decide +kernel
set_option maxRecDepth 100000 in
theorem tw_450 : lw_tbl[450]? = some (.selects "CrossDock" ⟨"CrossDock", "promised", "(II)V"⟩ ⟨"CrossDock", "promised", "(II)V"⟩) := by decide +kernel
set_option maxRecDepth 100000 in
theorem tw_451 : lw_tbl[451]? = some (.code ⟨"CrossDock", "promised", "(II)V"⟩ prog_1_method_5_code 4 none) := by decide +kernel
set_option maxRecDepth 100000 in
theorem tw_452 : lw_tbl[452]? = some (.methodLinkNest "CrossDock" 99 ⟨"CrossDock$Pairs", "palletsOf", "(I)I"⟩ "CrossDock") := by decide +kernel
set_option maxRecDepth 100000 in
theorem tw_453 : lw_tbl[453]? = some (.privateMethod ⟨"CrossDock$Pairs", "palletsOf", "(I)I"⟩) := by decide +kernel
set_option maxRecDepth 100000 in
theorem tw_454 : lw_tbl[454]? = some (.instanceMethod ⟨"CrossDock$Pairs", "palletsOf", "(I)I"⟩) := by decide +kernel
set_option maxRecDepth 100000 in
theorem tw_455 : lw_tbl[455]? = some (.code ⟨"CrossDock$Pairs", "palletsOf", "(I)I"⟩ prog_4_method_4_code 4 (some .int)) := by decide +kernel
set_option maxRecDepth 100000 in
theorem tw_456 : lw_tbl[456]? = some (.classLink "CrossDock" 103 "java/lang/IllegalStateException") := by decide +kernel
set_option maxRecDepth 100000 in
theorem tw_457 : lw_tbl[457]? = some (.instantiable "java/lang/IllegalStateException" 6) := by decide +kernel
set_option maxRecDepth 100000 in
theorem tw_458 : lw_tbl[458]? = some (.castable "java/lang/IllegalStateException" "java/lang/IllegalStateException") := by decide +kernel
set_option maxRecDepth 100000 in
theorem tw_459 : lw_tbl[459]? = some (.selects "java/lang/IllegalStateException" ⟨"java/lang/Throwable", "fillInStackTrace", "(I)Ljava/lang/Throwable;"⟩ ⟨"java/lang/Throwable", "fillInStackTrace", "(I)Ljava/lang/Throwable;"⟩) := by decide +kernel
set_option maxRecDepth 100000 in
theorem tw_460 : lw_tbl[460]? = some (.lays "java/lang/IllegalStateException" "java/lang/Throwable" "cause" "Ljava/lang/Throwable;") := by decide +kernel
set_option maxRecDepth 100000 in
theorem tw_461 : lw_tbl[461]? = some (.lays "java/lang/IllegalStateException" "java/lang/Throwable" "stackTrace" "[Ljava/lang/StackTraceElement;") := by decide +kernel
set_option maxRecDepth 100000 in
theorem tw_462 : lw_tbl[462]? = some (.lays "java/lang/IllegalStateException" "java/lang/Throwable" "suppressedExceptions" "Ljava/util/List;") := by decide +kernel
set_option maxRecDepth 100000 in
theorem tw_463 : lw_tbl[463]? = some (.lays "java/lang/IllegalStateException" "java/lang/Throwable" "detailMessage" "Ljava/lang/String;") := by decide +kernel
set_option maxRecDepth 100000 in
theorem tw_464 : lw_tbl[464]? = some (.lays "java/lang/IllegalStateException" "java/lang/Throwable" "backtrace" "Ljava/lang/Object;") := by decide +kernel
set_option maxRecDepth 100000 in
theorem tw_465 : lw_tbl[465]? = some (.stringRef "CrossDock" 105 "matches that stand hold too many pallets") := by decide +kernel
set_option maxRecDepth 100000 in
theorem tw_466 : lw_tbl[466]? = some (.methodLink "CrossDock" 107 ⟨"java/lang/IllegalStateException", "<init>", "(Ljava/lang/String;)V"⟩) := by decide +kernel
set_option maxRecDepth 100000 in
theorem tw_467 : lw_tbl[467]? = some (.instanceMethod ⟨"java/lang/IllegalStateException", "<init>", "(Ljava/lang/String;)V"⟩) := by decide +kernel
set_option maxRecDepth 100000 in
theorem tw_468 : lw_tbl[468]? = some (.code ⟨"java/lang/IllegalStateException", "<init>", "(Ljava/lang/String;)V"⟩ prog_10_method_2_code 2 none) := by decide +kernel
set_option maxRecDepth 100000 in
theorem tw_469 : lw_tbl[469]? = some (.methodLink "java/lang/IllegalStateException" 7 ⟨"java/lang/RuntimeException", "<init>", "(Ljava/lang/String;)V"⟩) := by decide +kernel
set_option maxRecDepth 100000 in
theorem tw_470 : lw_tbl[470]? = some (.lays "java/lang/IllegalStateException" "java/lang/Throwable" "depth" "I") := by decide +kernel
set_option maxRecDepth 100000 in
theorem tw_471 : lw_tbl[471]? = some (.superclass "java/lang/IllegalStateException" "java/lang/RuntimeException") := by decide +kernel
set_option maxRecDepth 100000 in
theorem tw_472 : lw_tbl[472]? = some (.methodLink "CrossDockLaw" 88 ⟨"CrossDockLaw", "rule", "(LCrossDock;IIZ[J)I"⟩) := by decide +kernel
set_option maxRecDepth 100000 in
theorem tw_473 : lw_tbl[473]? = some (.static ⟨"CrossDockLaw", "rule", "(LCrossDock;IIZ[J)I"⟩) := by decide +kernel
set_option maxRecDepth 100000 in
theorem tw_474 : lw_tbl[474]? = some (.codeWith ⟨"CrossDockLaw", "rule", "(LCrossDock;IIZ[J)I"⟩ method_7_code 6 (some .int) [(0, 19, 22, 24)]) := by decide +kernel
set_option maxRecDepth 100000 in
theorem tw_475 : lw_tbl[475]? = some (.methodLink "CrossDockLaw" 32 ⟨"CrossDock", "rule", "(IIZ)Z"⟩) := by decide +kernel
set_option maxRecDepth 100000 in
theorem tw_476 : lw_tbl[476]? = some (.instanceMethod ⟨"CrossDock", "rule", "(IIZ)Z"⟩) := by decide +kernel
set_option maxRecDepth 100000 in
theorem tw_477 : lw_tbl[477]? = some (.selects "CrossDock" ⟨"CrossDock", "rule", "(IIZ)Z"⟩ ⟨"CrossDock", "rule", "(IIZ)Z"⟩) := by decide +kernel
set_option maxRecDepth 100000 in
theorem tw_478 : lw_tbl[478]? = some (.code ⟨"CrossDock", "rule", "(IIZ)Z"⟩ prog_1_method_6_code 4 (some .boolean)) := by decide +kernel
set_option maxRecDepth 100000 in
theorem tw_479 : lw_tbl[479]? = some (.methodLinkNest "CrossDock" 113 ⟨"CrossDock$Arrival", "setBarred", "(IZ)V"⟩ "CrossDock") := by decide +kernel
set_option maxRecDepth 100000 in
theorem tw_480 : lw_tbl[480]? = some (.privateMethod ⟨"CrossDock$Arrival", "setBarred", "(IZ)V"⟩) := by decide +kernel
set_option maxRecDepth 100000 in
theorem tw_481 : lw_tbl[481]? = some (.instanceMethod ⟨"CrossDock$Arrival", "setBarred", "(IZ)V"⟩) := by decide +kernel
set_option maxRecDepth 100000 in
theorem tw_482 : lw_tbl[482]? = some (.code ⟨"CrossDock$Arrival", "setBarred", "(IZ)V"⟩ prog_2_method_4_code 3 none) := by decide +kernel
set_option maxRecDepth 100000 in
theorem tw_483 : lw_tbl[483]? = some (.methodLink "CrossDockLaw" 92 ⟨"CrossDockLaw", "full", "(LCrossDock;IZ[J)I"⟩) := by decide +kernel
set_option maxRecDepth 100000 in
theorem tw_484 : lw_tbl[484]? = some (.static ⟨"CrossDockLaw", "full", "(LCrossDock;IZ[J)I"⟩) := by decide +kernel
set_option maxRecDepth 100000 in
theorem tw_485 : lw_tbl[485]? = some (.codeWith ⟨"CrossDockLaw", "full", "(LCrossDock;IZ[J)I"⟩ method_8_code 5 (some .int) [(0, 10, 13, 13)]) := by decide +kernel
set_option maxRecDepth 100000 in
theorem tw_486 : lw_tbl[486]? = some (.methodLink "CrossDockLaw" 36 ⟨"CrossDock", "full", "(IZ)I"⟩) := by decide +kernel
set_option maxRecDepth 100000 in
theorem tw_487 : lw_tbl[487]? = some (.instanceMethod ⟨"CrossDock", "full", "(IZ)I"⟩) := by decide +kernel
set_option maxRecDepth 100000 in
theorem tw_488 : lw_tbl[488]? = some (.selects "CrossDock" ⟨"CrossDock", "full", "(IZ)I"⟩ ⟨"CrossDock", "full", "(IZ)I"⟩) := by decide +kernel
set_option maxRecDepth 100000 in
theorem tw_489 : lw_tbl[489]? = some (.code ⟨"CrossDock", "full", "(IZ)I"⟩ prog_1_method_7_code 5 (some .int)) := by decide +kernel
set_option maxRecDepth 100000 in
theorem tw_490 : lw_tbl[490]? = some (.methodLink "CrossDockLaw" 96 ⟨"CrossDockLaw", "match", "(LCrossDock;I[J)I"⟩) := by decide +kernel
set_option maxRecDepth 100000 in
theorem tw_491 : lw_tbl[491]? = some (.static ⟨"CrossDockLaw", "match", "(LCrossDock;I[J)I"⟩) := by decide +kernel
set_option maxRecDepth 100000 in
theorem tw_492 : lw_tbl[492]? = some (.codeWith ⟨"CrossDockLaw", "match", "(LCrossDock;I[J)I"⟩ method_9_code 4 (some .int) [(0, 9, 12, 13)]) := by decide +kernel
set_option maxRecDepth 100000 in
theorem tw_493 : lw_tbl[493]? = some (.methodLink "CrossDockLaw" 40 ⟨"CrossDock", "match", "(I)I"⟩) := by decide +kernel
set_option maxRecDepth 100000 in
theorem tw_494 : lw_tbl[494]? = some (.instanceMethod ⟨"CrossDock", "match", "(I)I"⟩) := by decide +kernel
set_option maxRecDepth 100000 in
theorem tw_495 : lw_tbl[495]? = some (.selects "CrossDock" ⟨"CrossDock", "match", "(I)I"⟩ ⟨"CrossDock", "match", "(I)I"⟩) := by decide +kernel
set_option maxRecDepth 100000 in
theorem tw_496 : lw_tbl[496]? = some (.code ⟨"CrossDock", "match", "(I)I"⟩ prog_1_method_8_code 2 (some .int)) := by decide +kernel
set_option maxRecDepth 100000 in
theorem tw_497 : lw_tbl[497]? = some (.methodLink "CrossDock" 121 ⟨"CrossDock", "layOutPairs", "()V"⟩) := by decide +kernel
set_option maxRecDepth 100000 in
theorem tw_498 : lw_tbl[498]? = some (.privateMethod ⟨"CrossDock", "layOutPairs", "()V"⟩) := by decide +kernel
set_option maxRecDepth 100000 in
theorem tw_499 : lw_tbl[499]? = some (.instanceMethod ⟨"CrossDock", "layOutPairs", "()V"⟩) := by decide +kernel
set_option maxRecDepth 100000 in
theorem tw_500 : lw_tbl[500]? = some (.code ⟨"CrossDock", "layOutPairs", "()V"⟩ prog_1_method_31_code 4 none) := by decide +kernel
set_option maxRecDepth 100000 in
theorem tw_501 : lw_tbl[501]? = some (.methodLink "CrossDock" 218 ⟨"CrossDock", "sortOrders", "()V"⟩) := by decide +kernel
set_option maxRecDepth 100000 in
theorem tw_502 : lw_tbl[502]? = some (.privateMethod ⟨"CrossDock", "sortOrders", "()V"⟩) := by decide +kernel
set_option maxRecDepth 100000 in
theorem tw_503 : lw_tbl[503]? = some (.instanceMethod ⟨"CrossDock", "sortOrders", "()V"⟩) := by decide +kernel
set_option maxRecDepth 100000 in
theorem tw_504 : lw_tbl[504]? = some (.code ⟨"CrossDock", "sortOrders", "()V"⟩ prog_1_method_32_code 3 none) := by decide +kernel
set_option maxRecDepth 100000 in
theorem tw_505 : lw_tbl[505]? = some (.methodLink "CrossDock" 221 ⟨"CrossDock", "sortArrivals", "()V"⟩) := by decide +kernel
set_option maxRecDepth 100000 in
theorem tw_506 : lw_tbl[506]? = some (.privateMethod ⟨"CrossDock", "sortArrivals", "()V"⟩) := by decide +kernel
set_option maxRecDepth 100000 in
theorem tw_507 : lw_tbl[507]? = some (.instanceMethod ⟨"CrossDock", "sortArrivals", "()V"⟩) := by decide +kernel
set_option maxRecDepth 100000 in
theorem tw_508 : lw_tbl[508]? = some (.code ⟨"CrossDock", "sortArrivals", "()V"⟩ prog_1_method_33_code 3 none) := by decide +kernel
set_option maxRecDepth 100000 in
theorem tw_509 : lw_tbl[509]? = some (.methodLinkNest "CrossDock" 231 ⟨"CrossDock$Search", "addPair", "(II)V"⟩ "CrossDock") := by decide +kernel
set_option maxRecDepth 100000 in
theorem tw_510 : lw_tbl[510]? = some (.privateMethod ⟨"CrossDock$Search", "addPair", "(II)V"⟩) := by decide +kernel
set_option maxRecDepth 100000 in
theorem tw_511 : lw_tbl[511]? = some (.instanceMethod ⟨"CrossDock$Search", "addPair", "(II)V"⟩) := by decide +kernel
set_option maxRecDepth 100000 in
theorem tw_512 : lw_tbl[512]? = some (.code ⟨"CrossDock$Search", "addPair", "(II)V"⟩ prog_5_method_2_code 3 none) := by decide +kernel
set_option maxRecDepth 100000 in
theorem tw_513 : lw_tbl[513]? = some (.methodLinkNest "CrossDock" 124 ⟨"CrossDock$Search", "lookAtAll", "(I)Z"⟩ "CrossDock") := by decide +kernel
set_option maxRecDepth 100000 in
theorem tw_514 : lw_tbl[514]? = some (.privateMethod ⟨"CrossDock$Search", "lookAtAll", "(I)Z"⟩) := by decide +kernel
set_option maxRecDepth 100000 in
theorem tw_515 : lw_tbl[515]? = some (.instanceMethod ⟨"CrossDock$Search", "lookAtAll", "(I)Z"⟩) := by decide +kernel
set_option maxRecDepth 100000 in
theorem tw_516 : lw_tbl[516]? = some (.code ⟨"CrossDock$Search", "lookAtAll", "(I)Z"⟩ prog_5_method_3_code 3 (some .boolean)) := by decide +kernel
set_option maxRecDepth 100000 in
theorem tw_517 : lw_tbl[517]? = some (.methodLink "CrossDock$Search" 43 ⟨"CrossDock$Search", "putAllBack", "()V"⟩) := by decide +kernel
set_option maxRecDepth 100000 in
theorem tw_518 : lw_tbl[518]? = some (.privateMethod ⟨"CrossDock$Search", "putAllBack", "()V"⟩) := by decide +kernel
set_option maxRecDepth 100000 in
theorem tw_519 : lw_tbl[519]? = some (.instanceMethod ⟨"CrossDock$Search", "putAllBack", "()V"⟩) := by decide +kernel
set_option maxRecDepth 100000 in
theorem tw_520 : lw_tbl[520]? = some (.code ⟨"CrossDock$Search", "putAllBack", "()V"⟩ prog_5_method_5_code 2 none) := by decide +kernel
set_option maxRecDepth 100000 in
theorem tw_521 : lw_tbl[521]? = some (.methodLink "CrossDock$Search" 66 ⟨"java/lang/System", "arraycopy", "(Ljava/lang/Object;ILjava/lang/Object;II)V"⟩) := by decide +kernel
set_option maxRecDepth 100000 in
theorem tw_522 : lw_tbl[522]? = some (.static ⟨"java/lang/System", "arraycopy", "(Ljava/lang/Object;ILjava/lang/Object;II)V"⟩) := by decide +kernel
set_option maxRecDepth 100000 in
theorem tw_523 : lw_tbl[523]? = some (.native ⟨"java/lang/System", "arraycopy", "(Ljava/lang/Object;ILjava/lang/Object;II)V"⟩) := by decide +kernel
set_option maxRecDepth 100000 in
theorem tw_524 : lw_tbl[524]? = some (.methodLink "CrossDock$Search" 49 ⟨"CrossDock$Search", "greatest", "(I)I"⟩) := by decide +kernel
set_option maxRecDepth 100000 in
theorem tw_525 : lw_tbl[525]? = some (.privateMethod ⟨"CrossDock$Search", "greatest", "(I)I"⟩) := by decide +kernel
set_option maxRecDepth 100000 in
theorem tw_526 : lw_tbl[526]? = some (.instanceMethod ⟨"CrossDock$Search", "greatest", "(I)I"⟩) := by decide +kernel
set_option maxRecDepth 100000 in
theorem tw_527 : lw_tbl[527]? = some (.code ⟨"CrossDock$Search", "greatest", "(I)I"⟩ prog_5_method_6_code 2 (some .int)) := by decide +kernel
set_option maxRecDepth 100000 in
theorem tw_528 : lw_tbl[528]? = some (.methodLink "CrossDock$Search" 75 ⟨"java/lang/Math", "min", "(II)I"⟩) := by decide +kernel
set_option maxRecDepth 100000 in
theorem tw_529 : lw_tbl[529]? = some (.static ⟨"java/lang/Math", "min", "(II)I"⟩) := by decide +kernel
set_option maxRecDepth 100000 in
theorem tw_530 : lw_tbl[530]? = some (.code ⟨"java/lang/Math", "min", "(II)I"⟩ prog_11_method_69_code 2 (some .int)) := by decide +kernel
set_option maxRecDepth 100000 in
theorem tw_531 : lw_tbl[531]? = some (.methodLink "CrossDock$Search" 56 ⟨"CrossDock$Search", "backToUntried", "(I)I"⟩) := by decide +kernel
set_option maxRecDepth 100000 in
theorem tw_532 : lw_tbl[532]? = some (.privateMethod ⟨"CrossDock$Search", "backToUntried", "(I)I"⟩) := by decide +kernel
set_option maxRecDepth 100000 in
theorem tw_533 : lw_tbl[533]? = some (.instanceMethod ⟨"CrossDock$Search", "backToUntried", "(I)I"⟩) := by decide +kernel
set_option maxRecDepth 100000 in
theorem tw_534 : lw_tbl[534]? = some (.code ⟨"CrossDock$Search", "backToUntried", "(I)I"⟩ prog_5_method_7_code 3 (some .int)) := by decide +kernel
set_option maxRecDepth 100000 in
theorem tw_535 : lw_tbl[535]? = some (.methodLink "CrossDock$Search" 81 ⟨"CrossDock$Search", "putBack", "(I)V"⟩) := by decide +kernel
set_option maxRecDepth 100000 in
theorem tw_536 : lw_tbl[536]? = some (.privateMethod ⟨"CrossDock$Search", "putBack", "(I)V"⟩) := by decide +kernel
set_option maxRecDepth 100000 in
theorem tw_537 : lw_tbl[537]? = some (.instanceMethod ⟨"CrossDock$Search", "putBack", "(I)V"⟩) := by decide +kernel
set_option maxRecDepth 100000 in
theorem tw_538 : lw_tbl[538]? = some (.code ⟨"CrossDock$Search", "putBack", "(I)V"⟩ prog_5_method_9_code 2 none) := by decide +kernel
set_option maxRecDepth 100000 in
theorem tw_539 : lw_tbl[539]? = some (.methodLink "CrossDock$Search" 85 ⟨"CrossDock$Search", "touchesBy", "(I)I"⟩) := by decide +kernel
set_option maxRecDepth 100000 in
theorem tw_540 : lw_tbl[540]? = some (.privateMethod ⟨"CrossDock$Search", "touchesBy", "(I)I"⟩) := by decide +kernel
set_option maxRecDepth 100000 in
theorem tw_541 : lw_tbl[541]? = some (.instanceMethod ⟨"CrossDock$Search", "touchesBy", "(I)I"⟩) := by decide +kernel
set_option maxRecDepth 100000 in
theorem tw_542 : lw_tbl[542]? = some (.code ⟨"CrossDock$Search", "touchesBy", "(I)I"⟩ prog_5_method_10_code 4 (some .int)) := by decide +kernel
set_option maxRecDepth 100000 in
theorem tw_543 : lw_tbl[543]? = some (.methodLink "CrossDock$Search" 59 ⟨"CrossDock$Search", "take", "(II)V"⟩) := by decide +kernel
set_option maxRecDepth 100000 in
theorem tw_544 : lw_tbl[544]? = some (.privateMethod ⟨"CrossDock$Search", "take", "(II)V"⟩) := by decide +kernel
set_option maxRecDepth 100000 in
theorem tw_545 : lw_tbl[545]? = some (.instanceMethod ⟨"CrossDock$Search", "take", "(II)V"⟩) := by decide +kernel
set_option maxRecDepth 100000 in
theorem tw_546 : lw_tbl[546]? = some (.code ⟨"CrossDock$Search", "take", "(II)V"⟩ prog_5_method_8_code 3 none) := by decide +kernel
set_option maxRecDepth 100000 in
theorem tw_547 : lw_tbl[547]? = some (.methodLink "CrossDock$Search" 63 ⟨"CrossDock$Search", "chooseIfBetter", "()V"⟩) := by decide +kernel
set_option maxRecDepth 100000 in
theorem tw_548 : lw_tbl[548]? = some (.privateMethod ⟨"CrossDock$Search", "chooseIfBetter", "()V"⟩) := by decide +kernel
set_option maxRecDepth 100000 in
theorem tw_549 : lw_tbl[549]? = some (.instanceMethod ⟨"CrossDock$Search", "chooseIfBetter", "()V"⟩) := by decide +kernel
set_option maxRecDepth 100000 in
theorem tw_550 : lw_tbl[550]? = some (.code ⟨"CrossDock$Search", "chooseIfBetter", "()V"⟩ prog_5_method_11_code 1 none) := by decide +kernel
set_option maxRecDepth 100000 in
theorem tw_551 : lw_tbl[551]? = some (.methodLinkNest "CrossDock" 131 ⟨"CrossDock$Search", "chooseByRule", "()V"⟩ "CrossDock") := by decide +kernel
set_option maxRecDepth 100000 in
theorem tw_552 : lw_tbl[552]? = some (.privateMethod ⟨"CrossDock$Search", "chooseByRule", "()V"⟩) := by decide +kernel
set_option maxRecDepth 100000 in
theorem tw_553 : lw_tbl[553]? = some (.instanceMethod ⟨"CrossDock$Search", "chooseByRule", "()V"⟩) := by decide +kernel
set_option maxRecDepth 100000 in
theorem tw_554 : lw_tbl[554]? = some (.code ⟨"CrossDock$Search", "chooseByRule", "()V"⟩ prog_5_method_4_code 2 none) := by decide +kernel
set_option maxRecDepth 100000 in
theorem tw_555 : lw_tbl[555]? = some (.methodLinkNest "CrossDock" 134 ⟨"CrossDock$Pairs", "replaceBy", "(LCrossDock$Search;)V"⟩ "CrossDock") := by decide +kernel
set_option maxRecDepth 100000 in
theorem tw_556 : lw_tbl[556]? = some (.privateMethod ⟨"CrossDock$Pairs", "replaceBy", "(LCrossDock$Search;)V"⟩) := by decide +kernel
set_option maxRecDepth 100000 in
theorem tw_557 : lw_tbl[557]? = some (.instanceMethod ⟨"CrossDock$Pairs", "replaceBy", "(LCrossDock$Search;)V"⟩) := by decide +kernel
set_option maxRecDepth 100000 in
theorem tw_558 : lw_tbl[558]? = some (.code ⟨"CrossDock$Pairs", "replaceBy", "(LCrossDock$Search;)V"⟩ prog_4_method_2_code 3 none) := by decide +kernel
set_option maxRecDepth 100000 in
theorem tw_559 : lw_tbl[559]? = some (.methodLink "CrossDockLaw" 113 ⟨"CrossDockLaw", "pair", "(LCrossDock;II[J)I"⟩) := by decide +kernel
set_option maxRecDepth 100000 in
theorem tw_560 : lw_tbl[560]? = some (.static ⟨"CrossDockLaw", "pair", "(LCrossDock;II[J)I"⟩) := by decide +kernel
set_option maxRecDepth 100000 in
theorem tw_561 : lw_tbl[561]? = some (.codeWith ⟨"CrossDockLaw", "pair", "(LCrossDock;II[J)I"⟩ method_10_code 5 (some .int) [(0, 10, 13, 24), (0, 10, 17, 13)]) := by decide +kernel
set_option maxRecDepth 100000 in
theorem tw_562 : lw_tbl[562]? = some (.methodLink "CrossDockLaw" 44 ⟨"CrossDock", "pair", "(II)I"⟩) := by decide +kernel
set_option maxRecDepth 100000 in
theorem tw_563 : lw_tbl[563]? = some (.instanceMethod ⟨"CrossDock", "pair", "(II)I"⟩) := by decide +kernel
set_option maxRecDepth 100000 in
theorem tw_564 : lw_tbl[564]? = some (.selects "CrossDock" ⟨"CrossDock", "pair", "(II)I"⟩ ⟨"CrossDock", "pair", "(II)I"⟩) := by decide +kernel
set_option maxRecDepth 100000 in
theorem tw_565 : lw_tbl[565]? = some (.code ⟨"CrossDock", "pair", "(II)I"⟩ prog_1_method_12_code 3 (some .int)) := by decide +kernel
set_option maxRecDepth 100000 in
theorem tw_566 : lw_tbl[566]? = some (.methodLink "CrossDockLaw" 117 ⟨"CrossDockLaw", "undo", "(LCrossDock;I[J)I"⟩) := by decide +kernel
set_option maxRecDepth 100000 in
theorem tw_567 : lw_tbl[567]? = some (.static ⟨"CrossDockLaw", "undo", "(LCrossDock;I[J)I"⟩) := by decide +kernel
set_option maxRecDepth 100000 in
theorem tw_568 : lw_tbl[568]? = some (.codeWith ⟨"CrossDockLaw", "undo", "(LCrossDock;I[J)I"⟩ method_11_code 4 (some .int) [(0, 9, 12, 24)]) := by decide +kernel
set_option maxRecDepth 100000 in
theorem tw_569 : lw_tbl[569]? = some (.methodLink "CrossDockLaw" 48 ⟨"CrossDock", "undo", "(I)I"⟩) := by decide +kernel
set_option maxRecDepth 100000 in
theorem tw_570 : lw_tbl[570]? = some (.instanceMethod ⟨"CrossDock", "undo", "(I)I"⟩) := by decide +kernel
set_option maxRecDepth 100000 in
theorem tw_571 : lw_tbl[571]? = some (.selects "CrossDock" ⟨"CrossDock", "undo", "(I)I"⟩ ⟨"CrossDock", "undo", "(I)I"⟩) := by decide +kernel
set_option maxRecDepth 100000 in
theorem tw_572 : lw_tbl[572]? = some (.code ⟨"CrossDock", "undo", "(I)I"⟩ prog_1_method_13_code 3 (some .int)) := by decide +kernel
set_option maxRecDepth 100000 in
theorem tw_573 : lw_tbl[573]? = some (.methodLinkNest "CrossDock" 160 ⟨"CrossDock$Pairs", "removeAt", "(I)V"⟩ "CrossDock") := by decide +kernel
set_option maxRecDepth 100000 in
theorem tw_574 : lw_tbl[574]? = some (.privateMethod ⟨"CrossDock$Pairs", "removeAt", "(I)V"⟩) := by decide +kernel
set_option maxRecDepth 100000 in
theorem tw_575 : lw_tbl[575]? = some (.instanceMethod ⟨"CrossDock$Pairs", "removeAt", "(I)V"⟩) := by decide +kernel
set_option maxRecDepth 100000 in
theorem tw_576 : lw_tbl[576]? = some (.code ⟨"CrossDock$Pairs", "removeAt", "(I)V"⟩ prog_4_method_3_code 3 none) := by decide +kernel
set_option maxRecDepth 100000 in
theorem tw_577 : lw_tbl[577]? = some (.methodLink "CrossDockLaw" 120 ⟨"CrossDockLaw", "split", "(LCrossDock;II[J)I"⟩) := by decide +kernel
set_option maxRecDepth 100000 in
theorem tw_578 : lw_tbl[578]? = some (.static ⟨"CrossDockLaw", "split", "(LCrossDock;II[J)I"⟩) := by decide +kernel
set_option maxRecDepth 100000 in
theorem tw_579 : lw_tbl[579]? = some (.codeWith ⟨"CrossDockLaw", "split", "(LCrossDock;II[J)I"⟩ method_12_code 5 (some .int) [(0, 10, 13, 24), (0, 10, 17, 13), (0, 10, 21, 30), (0, 10, 25, 15)]) := by decide +kernel
set_option maxRecDepth 100000 in
theorem tw_580 : lw_tbl[580]? = some (.methodLink "CrossDockLaw" 51 ⟨"CrossDock", "split", "(II)I"⟩) := by decide +kernel
set_option maxRecDepth 100000 in
theorem tw_581 : lw_tbl[581]? = some (.instanceMethod ⟨"CrossDock", "split", "(II)I"⟩) := by decide +kernel
set_option maxRecDepth 100000 in
theorem tw_582 : lw_tbl[582]? = some (.selects "CrossDock" ⟨"CrossDock", "split", "(II)I"⟩ ⟨"CrossDock", "split", "(II)I"⟩) := by decide +kernel
set_option maxRecDepth 100000 in
theorem tw_583 : lw_tbl[583]? = some (.code ⟨"CrossDock", "split", "(II)I"⟩ prog_1_method_14_code 4 (some .int)) := by decide +kernel
set_option maxRecDepth 100000 in
theorem tw_584 : lw_tbl[584]? = some (.stringRef "CrossDock" 164 "the arrival is in a pair") := by decide +kernel
set_option maxRecDepth 100000 in
theorem tw_585 : lw_tbl[585]? = some (.methodLinkNest "CrossDock" 166 ⟨"CrossDock$Arrival", "moveTo", "(LCrossDock$Arrival;I)V"⟩ "CrossDock") := by decide +kernel
set_option maxRecDepth 100000 in
theorem tw_586 : lw_tbl[586]? = some (.privateMethod ⟨"CrossDock$Arrival", "moveTo", "(LCrossDock$Arrival;I)V"⟩) := by decide +kernel
set_option maxRecDepth 100000 in
theorem tw_587 : lw_tbl[587]? = some (.instanceMethod ⟨"CrossDock$Arrival", "moveTo", "(LCrossDock$Arrival;I)V"⟩) := by decide +kernel
set_option maxRecDepth 100000 in
theorem tw_588 : lw_tbl[588]? = some (.code ⟨"CrossDock$Arrival", "moveTo", "(LCrossDock$Arrival;I)V"⟩ prog_2_method_5_code 4 none) := by decide +kernel
set_option maxRecDepth 100000 in
theorem tw_589 : lw_tbl[589]? = some (.methodLink "CrossDock$Arrival" 19 ⟨"java/lang/Math", "min", "(II)I"⟩) := by decide +kernel
set_option maxRecDepth 100000 in
theorem tw_590 : lw_tbl[590]? = some (.methodLink "CrossDockLaw" 123 ⟨"CrossDockLaw", "late", "(LCrossDock;II[J)I"⟩) := by decide +kernel
set_option maxRecDepth 100000 in
theorem tw_591 : lw_tbl[591]? = some (.static ⟨"CrossDockLaw", "late", "(LCrossDock;II[J)I"⟩) := by decide +kernel
set_option maxRecDepth 100000 in
theorem tw_592 : lw_tbl[592]? = some (.codeWith ⟨"CrossDockLaw", "late", "(LCrossDock;II[J)I"⟩ method_13_code 5 (some .int) [(0, 10, 13, 24), (0, 10, 17, 13)]) := by decide +kernel
set_option maxRecDepth 100000 in
theorem tw_593 : lw_tbl[593]? = some (.methodLink "CrossDockLaw" 54 ⟨"CrossDock", "late", "(II)I"⟩) := by decide +kernel
set_option maxRecDepth 100000 in
theorem tw_594 : lw_tbl[594]? = some (.instanceMethod ⟨"CrossDock", "late", "(II)I"⟩) := by decide +kernel
set_option maxRecDepth 100000 in
theorem tw_595 : lw_tbl[595]? = some (.selects "CrossDock" ⟨"CrossDock", "late", "(II)I"⟩ ⟨"CrossDock", "late", "(II)I"⟩) := by decide +kernel
set_option maxRecDepth 100000 in
theorem tw_596 : lw_tbl[596]? = some (.code ⟨"CrossDock", "late", "(II)I"⟩ prog_1_method_15_code 5 (some .int)) := by decide +kernel
set_option maxRecDepth 100000 in
theorem tw_597 : lw_tbl[597]? = some (.methodLink "CrossDock" 170 ⟨"CrossDock", "isUnfit", "(II)Z"⟩) := by decide +kernel
set_option maxRecDepth 100000 in
theorem tw_598 : lw_tbl[598]? = some (.privateMethod ⟨"CrossDock", "isUnfit", "(II)Z"⟩) := by decide +kernel
set_option maxRecDepth 100000 in
theorem tw_599 : lw_tbl[599]? = some (.instanceMethod ⟨"CrossDock", "isUnfit", "(II)Z"⟩) := by decide +kernel
set_option maxRecDepth 100000 in
theorem tw_600 : lw_tbl[600]? = some (.code ⟨"CrossDock", "isUnfit", "(II)Z"⟩ prog_1_method_25_code 4 (some .boolean)) := by decide +kernel
set_option maxRecDepth 100000 in
theorem tw_601 : lw_tbl[601]? = some (.methodLink "CrossDockLaw" 126 ⟨"CrossDockLaw", "arrival", "(LCrossDock;II[J)I"⟩) := by decide +kernel
set_option maxRecDepth 100000 in
theorem tw_602 : lw_tbl[602]? = some (.static ⟨"CrossDockLaw", "arrival", "(LCrossDock;II[J)I"⟩) := by decide +kernel
set_option maxRecDepth 100000 in
theorem tw_603 : lw_tbl[603]? = some (.codeWith ⟨"CrossDockLaw", "arrival", "(LCrossDock;II[J)I"⟩ method_14_code 5 (some .int) [(0, 10, 13, 24), (0, 10, 17, 13)]) := by decide +kernel
set_option maxRecDepth 100000 in
theorem tw_604 : lw_tbl[604]? = some (.methodLink "CrossDockLaw" 57 ⟨"CrossDock", "arrival", "(II)I"⟩) := by decide +kernel
set_option maxRecDepth 100000 in
theorem tw_605 : lw_tbl[605]? = some (.instanceMethod ⟨"CrossDock", "arrival", "(II)I"⟩) := by decide +kernel
set_option maxRecDepth 100000 in
theorem tw_606 : lw_tbl[606]? = some (.selects "CrossDock" ⟨"CrossDock", "arrival", "(II)I"⟩ ⟨"CrossDock", "arrival", "(II)I"⟩) := by decide +kernel
set_option maxRecDepth 100000 in
theorem tw_607 : lw_tbl[607]? = some (.code ⟨"CrossDock", "arrival", "(II)I"⟩ prog_1_method_16_code 3 (some .int)) := by decide +kernel
set_option maxRecDepth 100000 in
theorem tw_608 : lw_tbl[608]? = some (.methodLink "CrossDockLaw" 129 ⟨"CrossDockLaw", "wanted", "(LCrossDock;II[J)I"⟩) := by decide +kernel
set_option maxRecDepth 100000 in
theorem tw_609 : lw_tbl[609]? = some (.static ⟨"CrossDockLaw", "wanted", "(LCrossDock;II[J)I"⟩) := by decide +kernel
set_option maxRecDepth 100000 in
theorem tw_610 : lw_tbl[610]? = some (.codeWith ⟨"CrossDockLaw", "wanted", "(LCrossDock;II[J)I"⟩ method_15_code 5 (some .int) [(0, 10, 13, 24), (0, 10, 17, 13)]) := by decide +kernel
set_option maxRecDepth 100000 in
theorem tw_611 : lw_tbl[611]? = some (.methodLink "CrossDockLaw" 60 ⟨"CrossDock", "wanted", "(II)I"⟩) := by decide +kernel
set_option maxRecDepth 100000 in
theorem tw_612 : lw_tbl[612]? = some (.instanceMethod ⟨"CrossDock", "wanted", "(II)I"⟩) := by decide +kernel
set_option maxRecDepth 100000 in
theorem tw_613 : lw_tbl[613]? = some (.selects "CrossDock" ⟨"CrossDock", "wanted", "(II)I"⟩ ⟨"CrossDock", "wanted", "(II)I"⟩) := by decide +kernel
set_option maxRecDepth 100000 in
theorem tw_614 : lw_tbl[614]? = some (.code ⟨"CrossDock", "wanted", "(II)I"⟩ prog_1_method_17_code 3 (some .int)) := by decide +kernel
set_option maxRecDepth 100000 in
theorem tw_615 : lw_tbl[615]? = some (.methodLink "CrossDock" 179 ⟨"CrossDock", "whatBarsAll", "(I)I"⟩) := by decide +kernel
set_option maxRecDepth 100000 in
theorem tw_616 : lw_tbl[616]? = some (.privateMethod ⟨"CrossDock", "whatBarsAll", "(I)I"⟩) := by decide +kernel
set_option maxRecDepth 100000 in
theorem tw_617 : lw_tbl[617]? = some (.instanceMethod ⟨"CrossDock", "whatBarsAll", "(I)I"⟩) := by decide +kernel
set_option maxRecDepth 100000 in
theorem tw_618 : lw_tbl[618]? = some (.code ⟨"CrossDock", "whatBarsAll", "(I)I"⟩ prog_1_method_26_code 5 (some .int)) := by decide +kernel
set_option maxRecDepth 100000 in
theorem tw_619 : lw_tbl[619]? = some (.methodLink "CrossDock" 213 ⟨"java/lang/Math", "max", "(II)I"⟩) := by decide +kernel
set_option maxRecDepth 100000 in
theorem tw_620 : lw_tbl[620]? = some (.static ⟨"java/lang/Math", "max", "(II)I"⟩) := by decide +kernel
set_option maxRecDepth 100000 in
theorem tw_621 : lw_tbl[621]? = some (.code ⟨"java/lang/Math", "max", "(II)I"⟩ prog_11_method_65_code 2 (some .int)) := by decide +kernel
set_option maxRecDepth 100000 in
theorem tw_622 : lw_tbl[622]? = some (.classLink "CrossDockLaw" 64 "CrossDockModel") := by decide +kernel
set_option maxRecDepth 100000 in
theorem tw_623 : lw_tbl[623]? = some (.instantiable "CrossDockModel" 28) := by decide +kernel
set_option maxRecDepth 100000 in
theorem tw_624 : lw_tbl[624]? = some (.methodLink "CrossDockLaw" 66 ⟨"CrossDockModel", "<init>", "()V"⟩) := by decide +kernel
set_option maxRecDepth 100000 in
theorem tw_625 : lw_tbl[625]? = some (.instanceMethod ⟨"CrossDockModel", "<init>", "()V"⟩) := by decide +kernel
set_option maxRecDepth 100000 in
theorem tw_626 : lw_tbl[626]? = some (.code ⟨"CrossDockModel", "<init>", "()V"⟩ prog_7_method_1_code 1 none) := by decide +kernel
set_option maxRecDepth 100000 in
theorem tw_627 : lw_tbl[627]? = some (.methodLink "CrossDockModel" 1 ⟨"java/lang/Object", "<init>", "()V"⟩) := by decide +kernel
set_option maxRecDepth 100000 in
theorem tw_628 : lw_tbl[628]? = some (.fieldLink "CrossDockModel" 74 "CrossDockModel" "code" "I") := by decide +kernel
set_option maxRecDepth 100000 in
theorem tw_629 : lw_tbl[629]? = some (.fieldLink "CrossDockModel" 78 "CrossDockModel" "arrivals" "I") := by decide +kernel
set_option maxRecDepth 100000 in
theorem tw_630 : lw_tbl[630]? = some (.fieldLink "CrossDockModel" 7 "CrossDockModel" "good" "[I") := by decide +kernel
set_option maxRecDepth 100000 in
theorem tw_631 : lw_tbl[631]? = some (.fieldLink "CrossDockModel" 13 "CrossDockModel" "lot" "[I") := by decide +kernel
set_option maxRecDepth 100000 in
theorem tw_632 : lw_tbl[632]? = some (.fieldLink "CrossDockModel" 16 "CrossDockModel" "time" "[I") := by decide +kernel
set_option maxRecDepth 100000 in
theorem tw_633 : lw_tbl[633]? = some (.fieldLink "CrossDockModel" 19 "CrossDockModel" "pallets" "[I") := by decide +kernel
set_option maxRecDepth 100000 in
theorem tw_634 : lw_tbl[634]? = some (.fieldLink "CrossDockModel" 22 "CrossDockModel" "promise" "[I") := by decide +kernel
set_option maxRecDepth 100000 in
theorem tw_635 : lw_tbl[635]? = some (.fieldLink "CrossDockModel" 85 "CrossDockModel" "orders" "I") := by decide +kernel
set_option maxRecDepth 100000 in
theorem tw_636 : lw_tbl[636]? = some (.fieldLink "CrossDockModel" 25 "CrossDockModel" "wish" "[I") := by decide +kernel
set_option maxRecDepth 100000 in
theorem tw_637 : lw_tbl[637]? = some (.fieldLink "CrossDockModel" 28 "CrossDockModel" "many" "[I") := by decide +kernel
set_option maxRecDepth 100000 in
theorem tw_638 : lw_tbl[638]? = some (.fieldLink "CrossDockModel" 31 "CrossDockModel" "rank" "[I") := by decide +kernel
set_option maxRecDepth 100000 in
theorem tw_639 : lw_tbl[639]? = some (.fieldLink "CrossDockModel" 34 "CrossDockModel" "lane" "[I") := by decide +kernel
set_option maxRecDepth 100000 in
theorem tw_640 : lw_tbl[640]? = some (.fieldLink "CrossDockModel" 37 "CrossDockModel" "due" "[I") := by decide +kernel
set_option maxRecDepth 100000 in
theorem tw_641 : lw_tbl[641]? = some (.fieldLink "CrossDockModel" 40 "CrossDockModel" "lots" "[I") := by decide +kernel
set_option maxRecDepth 100000 in
theorem tw_642 : lw_tbl[642]? = some (.fieldLink "CrossDockModel" 43 "CrossDockModel" "bars" "[Z") := by decide +kernel
set_option maxRecDepth 100000 in
theorem tw_643 : lw_tbl[643]? = some (.fieldLink "CrossDockModel" 47 "CrossDockModel" "isFull" "[Z") := by decide +kernel
set_option maxRecDepth 100000 in
theorem tw_644 : lw_tbl[644]? = some (.fieldLink "CrossDockModel" 92 "CrossDockModel" "pairs" "I") := by decide +kernel
set_option maxRecDepth 100000 in
theorem tw_645 : lw_tbl[645]? = some (.fieldLink "CrossDockModel" 50 "CrossDockModel" "pairArrival" "[I") := by decide +kernel
set_option maxRecDepth 100000 in
theorem tw_646 : lw_tbl[646]? = some (.fieldLink "CrossDockModel" 53 "CrossDockModel" "pairOrder" "[I") := by decide +kernel
set_option maxRecDepth 100000 in
theorem tw_647 : lw_tbl[647]? = some (.fieldLink "CrossDockModel" 56 "CrossDockModel" "pairMany" "[I") := by decide +kernel
set_option maxRecDepth 100000 in
theorem tw_648 : lw_tbl[648]? = some (.fieldLink "CrossDockModel" 143 "CrossDockModel" "exact" "Z") := by decide +kernel
set_option maxRecDepth 100000 in
theorem tw_649 : lw_tbl[649]? = some (.fieldLink "CrossDockModel" 127 "CrossDockModel" "steps" "I") := by decide +kernel
set_option maxRecDepth 100000 in
theorem tw_650 : lw_tbl[650]? = some (.fieldLink "CrossDockModel" 115 "CrossDockModel" "places" "I") := by decide +kernel
set_option maxRecDepth 100000 in
theorem tw_651 : lw_tbl[651]? = some (.fieldLink "CrossDockModel" 59 "CrossDockModel" "from" "[I") := by decide +kernel
set_option maxRecDepth 100000 in
theorem tw_652 : lw_tbl[652]? = some (.fieldLink "CrossDockModel" 62 "CrossDockModel" "to" "[I") := by decide +kernel
set_option maxRecDepth 100000 in
theorem tw_653 : lw_tbl[653]? = some (.fieldLink "CrossDockModel" 65 "CrossDockModel" "plan" "[I") := by decide +kernel
set_option maxRecDepth 100000 in
theorem tw_654 : lw_tbl[654]? = some (.fieldLink "CrossDockModel" 68 "CrossDockModel" "best" "[I") := by decide +kernel
set_option maxRecDepth 100000 in
theorem tw_655 : lw_tbl[655]? = some (.fieldLink "CrossDockModel" 71 "CrossDockModel" "got" "[I") := by decide +kernel
set_option maxRecDepth 100000 in
theorem tw_656 : lw_tbl[656]? = some (.lays "CrossDockModel" "CrossDockModel" "code" "I") := by decide +kernel
set_option maxRecDepth 100000 in
theorem tw_657 : lw_tbl[657]? = some (.soleField "CrossDockModel" "code") := by decide +kernel
set_option maxRecDepth 100000 in
theorem tw_658 : lw_tbl[658]? = some (.lays "CrossDockModel" "CrossDockModel" "arrivals" "I") := by decide +kernel
set_option maxRecDepth 100000 in
theorem tw_659 : lw_tbl[659]? = some (.soleField "CrossDockModel" "arrivals") := by decide +kernel
set_option maxRecDepth 100000 in
theorem tw_660 : lw_tbl[660]? = some (.laysFinal "CrossDockModel" "CrossDockModel" "good" "[I") := by decide +kernel
set_option maxRecDepth 100000 in
theorem tw_661 : lw_tbl[661]? = some (.soleField "CrossDockModel" "good") := by decide +kernel
set_option maxRecDepth 100000 in
theorem tw_662 : lw_tbl[662]? = some (.laysFinal "CrossDockModel" "CrossDockModel" "lot" "[I") := by decide +kernel
set_option maxRecDepth 100000 in
theorem tw_663 : lw_tbl[663]? = some (.soleField "CrossDockModel" "lot") := by decide +kernel
set_option maxRecDepth 100000 in
theorem tw_664 : lw_tbl[664]? = some (.laysFinal "CrossDockModel" "CrossDockModel" "time" "[I") := by decide +kernel
set_option maxRecDepth 100000 in
theorem tw_665 : lw_tbl[665]? = some (.soleField "CrossDockModel" "time") := by decide +kernel
set_option maxRecDepth 100000 in
theorem tw_666 : lw_tbl[666]? = some (.laysFinal "CrossDockModel" "CrossDockModel" "pallets" "[I") := by decide +kernel
set_option maxRecDepth 100000 in
theorem tw_667 : lw_tbl[667]? = some (.soleField "CrossDockModel" "pallets") := by decide +kernel
set_option maxRecDepth 100000 in
theorem tw_668 : lw_tbl[668]? = some (.laysFinal "CrossDockModel" "CrossDockModel" "promise" "[I") := by decide +kernel
set_option maxRecDepth 100000 in
theorem tw_669 : lw_tbl[669]? = some (.soleField "CrossDockModel" "promise") := by decide +kernel
set_option maxRecDepth 100000 in
theorem tw_670 : lw_tbl[670]? = some (.lays "CrossDockModel" "CrossDockModel" "orders" "I") := by decide +kernel
set_option maxRecDepth 100000 in
theorem tw_671 : lw_tbl[671]? = some (.soleField "CrossDockModel" "orders") := by decide +kernel
set_option maxRecDepth 100000 in
theorem tw_672 : lw_tbl[672]? = some (.laysFinal "CrossDockModel" "CrossDockModel" "wish" "[I") := by decide +kernel
set_option maxRecDepth 100000 in
theorem tw_673 : lw_tbl[673]? = some (.soleField "CrossDockModel" "wish") := by decide +kernel
set_option maxRecDepth 100000 in
theorem tw_674 : lw_tbl[674]? = some (.laysFinal "CrossDockModel" "CrossDockModel" "many" "[I") := by decide +kernel
set_option maxRecDepth 100000 in
theorem tw_675 : lw_tbl[675]? = some (.soleField "CrossDockModel" "many") := by decide +kernel
set_option maxRecDepth 100000 in
theorem tw_676 : lw_tbl[676]? = some (.laysFinal "CrossDockModel" "CrossDockModel" "rank" "[I") := by decide +kernel
set_option maxRecDepth 100000 in
theorem tw_677 : lw_tbl[677]? = some (.soleField "CrossDockModel" "rank") := by decide +kernel
set_option maxRecDepth 100000 in
theorem tw_678 : lw_tbl[678]? = some (.laysFinal "CrossDockModel" "CrossDockModel" "lane" "[I") := by decide +kernel
set_option maxRecDepth 100000 in
theorem tw_679 : lw_tbl[679]? = some (.soleField "CrossDockModel" "lane") := by decide +kernel
set_option maxRecDepth 100000 in
theorem tw_680 : lw_tbl[680]? = some (.laysFinal "CrossDockModel" "CrossDockModel" "due" "[I") := by decide +kernel
set_option maxRecDepth 100000 in
theorem tw_681 : lw_tbl[681]? = some (.soleField "CrossDockModel" "due") := by decide +kernel
set_option maxRecDepth 100000 in
theorem tw_682 : lw_tbl[682]? = some (.laysFinal "CrossDockModel" "CrossDockModel" "lots" "[I") := by decide +kernel
set_option maxRecDepth 100000 in
theorem tw_683 : lw_tbl[683]? = some (.soleField "CrossDockModel" "lots") := by decide +kernel
set_option maxRecDepth 100000 in
theorem tw_684 : lw_tbl[684]? = some (.laysFinal "CrossDockModel" "CrossDockModel" "bars" "[Z") := by decide +kernel
set_option maxRecDepth 100000 in
theorem tw_685 : lw_tbl[685]? = some (.soleField "CrossDockModel" "bars") := by decide +kernel
set_option maxRecDepth 100000 in
theorem tw_686 : lw_tbl[686]? = some (.laysFinal "CrossDockModel" "CrossDockModel" "isFull" "[Z") := by decide +kernel
set_option maxRecDepth 100000 in
theorem tw_687 : lw_tbl[687]? = some (.soleField "CrossDockModel" "isFull") := by decide +kernel
set_option maxRecDepth 100000 in
theorem tw_688 : lw_tbl[688]? = some (.lays "CrossDockModel" "CrossDockModel" "pairs" "I") := by decide +kernel
set_option maxRecDepth 100000 in
theorem tw_689 : lw_tbl[689]? = some (.soleField "CrossDockModel" "pairs") := by decide +kernel
set_option maxRecDepth 100000 in
theorem tw_690 : lw_tbl[690]? = some (.laysFinal "CrossDockModel" "CrossDockModel" "pairArrival" "[I") := by decide +kernel
set_option maxRecDepth 100000 in
theorem tw_691 : lw_tbl[691]? = some (.soleField "CrossDockModel" "pairArrival") := by decide +kernel
set_option maxRecDepth 100000 in
theorem tw_692 : lw_tbl[692]? = some (.laysFinal "CrossDockModel" "CrossDockModel" "pairOrder" "[I") := by decide +kernel
set_option maxRecDepth 100000 in
theorem tw_693 : lw_tbl[693]? = some (.soleField "CrossDockModel" "pairOrder") := by decide +kernel
set_option maxRecDepth 100000 in
theorem tw_694 : lw_tbl[694]? = some (.laysFinal "CrossDockModel" "CrossDockModel" "pairMany" "[I") := by decide +kernel
set_option maxRecDepth 100000 in
theorem tw_695 : lw_tbl[695]? = some (.soleField "CrossDockModel" "pairMany") := by decide +kernel
set_option maxRecDepth 100000 in
theorem tw_696 : lw_tbl[696]? = some (.lays "CrossDockModel" "CrossDockModel" "exact" "Z") := by decide +kernel
set_option maxRecDepth 100000 in
theorem tw_697 : lw_tbl[697]? = some (.soleField "CrossDockModel" "exact") := by decide +kernel
set_option maxRecDepth 100000 in
theorem tw_698 : lw_tbl[698]? = some (.lays "CrossDockModel" "CrossDockModel" "steps" "I") := by decide +kernel
set_option maxRecDepth 100000 in
theorem tw_699 : lw_tbl[699]? = some (.soleField "CrossDockModel" "steps") := by decide +kernel
set_option maxRecDepth 100000 in
theorem tw_700 : lw_tbl[700]? = some (.lays "CrossDockModel" "CrossDockModel" "places" "I") := by decide +kernel
set_option maxRecDepth 100000 in
theorem tw_701 : lw_tbl[701]? = some (.soleField "CrossDockModel" "places") := by decide +kernel
set_option maxRecDepth 100000 in
theorem tw_702 : lw_tbl[702]? = some (.laysFinal "CrossDockModel" "CrossDockModel" "from" "[I") := by decide +kernel
set_option maxRecDepth 100000 in
theorem tw_703 : lw_tbl[703]? = some (.soleField "CrossDockModel" "from") := by decide +kernel
set_option maxRecDepth 100000 in
theorem tw_704 : lw_tbl[704]? = some (.laysFinal "CrossDockModel" "CrossDockModel" "to" "[I") := by decide +kernel
set_option maxRecDepth 100000 in
theorem tw_705 : lw_tbl[705]? = some (.soleField "CrossDockModel" "to") := by decide +kernel
set_option maxRecDepth 100000 in
theorem tw_706 : lw_tbl[706]? = some (.laysFinal "CrossDockModel" "CrossDockModel" "plan" "[I") := by decide +kernel
set_option maxRecDepth 100000 in
theorem tw_707 : lw_tbl[707]? = some (.soleField "CrossDockModel" "plan") := by decide +kernel
set_option maxRecDepth 100000 in
theorem tw_708 : lw_tbl[708]? = some (.laysFinal "CrossDockModel" "CrossDockModel" "best" "[I") := by decide +kernel
set_option maxRecDepth 100000 in
theorem tw_709 : lw_tbl[709]? = some (.soleField "CrossDockModel" "best") := by decide +kernel
set_option maxRecDepth 100000 in
theorem tw_710 : lw_tbl[710]? = some (.laysFinal "CrossDockModel" "CrossDockModel" "got" "[I") := by decide +kernel
set_option maxRecDepth 100000 in
theorem tw_711 : lw_tbl[711]? = some (.soleField "CrossDockModel" "got") := by decide +kernel
set_option maxRecDepth 100000 in
theorem tw_712 : lw_tbl[712]? = some (.superclass "CrossDockModel" "java/lang/Object") := by decide +kernel
set_option maxRecDepth 100000 in
theorem tw_713 : lw_tbl[713]? = some (.methodLink "CrossDockLaw" 73 ⟨"CrossDockModel", "thrown", "()I"⟩) := by decide +kernel
set_option maxRecDepth 100000 in
theorem tw_714 : lw_tbl[714]? = some (.instanceMethod ⟨"CrossDockModel", "thrown", "()I"⟩) := by decide +kernel
set_option maxRecDepth 100000 in
theorem tw_715 : lw_tbl[715]? = some (.selects "CrossDockModel" ⟨"CrossDockModel", "thrown", "()I"⟩ ⟨"CrossDockModel", "thrown", "()I"⟩) := by decide +kernel
set_option maxRecDepth 100000 in
theorem tw_716 : lw_tbl[716]? = some (.code ⟨"CrossDockModel", "thrown", "()I"⟩ prog_7_method_2_code 1 (some .int)) := by decide +kernel
set_option maxRecDepth 100000 in
theorem tw_717 : lw_tbl[717]? = some (.methodLink "CrossDockLaw" 72 ⟨"CrossDockModel", "arrive", "(IIII)I"⟩) := by decide +kernel
set_option maxRecDepth 100000 in
theorem tw_718 : lw_tbl[718]? = some (.instanceMethod ⟨"CrossDockModel", "arrive", "(IIII)I"⟩) := by decide +kernel
set_option maxRecDepth 100000 in
theorem tw_719 : lw_tbl[719]? = some (.selects "CrossDockModel" ⟨"CrossDockModel", "arrive", "(IIII)I"⟩ ⟨"CrossDockModel", "arrive", "(IIII)I"⟩) := by decide +kernel
set_option maxRecDepth 100000 in
theorem tw_720 : lw_tbl[720]? = some (.code ⟨"CrossDockModel", "arrive", "(IIII)I"⟩ prog_7_method_6_code 5 (some .int)) := by decide +kernel
set_option maxRecDepth 100000 in
theorem tw_721 : lw_tbl[721]? = some (.methodLink "CrossDockModel" 81 ⟨"CrossDockModel", "in", "(III)Z"⟩) := by decide +kernel
set_option maxRecDepth 100000 in
theorem tw_722 : lw_tbl[722]? = some (.static ⟨"CrossDockModel", "in", "(III)Z"⟩) := by decide +kernel
set_option maxRecDepth 100000 in
theorem tw_723 : lw_tbl[723]? = some (.code ⟨"CrossDockModel", "in", "(III)Z"⟩ prog_7_method_3_code 3 (some .boolean)) := by decide +kernel
set_option maxRecDepth 100000 in
theorem tw_724 : lw_tbl[724]? = some (.methodLink "CrossDockLaw" 79 ⟨"CrossDockModel", "order", "(IIII)I"⟩) := by decide +kernel
set_option maxRecDepth 100000 in
theorem tw_725 : lw_tbl[725]? = some (.instanceMethod ⟨"CrossDockModel", "order", "(IIII)I"⟩) := by decide +kernel
set_option maxRecDepth 100000 in
theorem tw_726 : lw_tbl[726]? = some (.selects "CrossDockModel" ⟨"CrossDockModel", "order", "(IIII)I"⟩ ⟨"CrossDockModel", "order", "(IIII)I"⟩) := by decide +kernel
set_option maxRecDepth 100000 in
theorem tw_727 : lw_tbl[727]? = some (.code ⟨"CrossDockModel", "order", "(IIII)I"⟩ prog_7_method_7_code 5 (some .int)) := by decide +kernel
set_option maxRecDepth 100000 in
theorem tw_728 : lw_tbl[728]? = some (.methodLink "CrossDockLaw" 83 ⟨"CrossDockModel", "wants", "(III)V"⟩) := by decide +kernel
set_option maxRecDepth 100000 in
theorem tw_729 : lw_tbl[729]? = some (.instanceMethod ⟨"CrossDockModel", "wants", "(III)V"⟩) := by decide +kernel
set_option maxRecDepth 100000 in
theorem tw_730 : lw_tbl[730]? = some (.selects "CrossDockModel" ⟨"CrossDockModel", "wants", "(III)V"⟩ ⟨"CrossDockModel", "wants", "(III)V"⟩) := by decide +kernel
set_option maxRecDepth 100000 in
theorem tw_731 : lw_tbl[731]? = some (.code ⟨"CrossDockModel", "wants", "(III)V"⟩ prog_7_method_8_code 4 none) := by decide +kernel
set_option maxRecDepth 100000 in
theorem tw_732 : lw_tbl[732]? = some (.methodLink "CrossDockModel" 88 ⟨"CrossDockModel", "isOrder", "(I)Z"⟩) := by decide +kernel
set_option maxRecDepth 100000 in
theorem tw_733 : lw_tbl[733]? = some (.privateMethod ⟨"CrossDockModel", "isOrder", "(I)Z"⟩) := by decide +kernel
set_option maxRecDepth 100000 in
theorem tw_734 : lw_tbl[734]? = some (.instanceMethod ⟨"CrossDockModel", "isOrder", "(I)Z"⟩) := by decide +kernel
set_option maxRecDepth 100000 in
theorem tw_735 : lw_tbl[735]? = some (.code ⟨"CrossDockModel", "isOrder", "(I)Z"⟩ prog_7_method_5_code 2 (some .boolean)) := by decide +kernel
set_option maxRecDepth 100000 in
theorem tw_736 : lw_tbl[736]? = some (.methodLink "CrossDockLaw" 87 ⟨"CrossDockModel", "promised", "(II)V"⟩) := by decide +kernel
set_option maxRecDepth 100000 in
theorem tw_737 : lw_tbl[737]? = some (.instanceMethod ⟨"CrossDockModel", "promised", "(II)V"⟩) := by decide +kernel
set_option maxRecDepth 100000 in
theorem tw_738 : lw_tbl[738]? = some (.selects "CrossDockModel" ⟨"CrossDockModel", "promised", "(II)V"⟩ ⟨"CrossDockModel", "promised", "(II)V"⟩) := by decide +kernel
set_option maxRecDepth 100000 in
theorem tw_739 : lw_tbl[739]? = some (.code ⟨"CrossDockModel", "promised", "(II)V"⟩ prog_7_method_11_code 3 none) := by decide +kernel
set_option maxRecDepth 100000 in
theorem tw_740 : lw_tbl[740]? = some (.methodLink "CrossDockModel" 95 ⟨"CrossDockModel", "isArrival", "(I)Z"⟩) := by decide +kernel
set_option maxRecDepth 100000 in
theorem tw_741 : lw_tbl[741]? = some (.privateMethod ⟨"CrossDockModel", "isArrival", "(I)Z"⟩) := by decide +kernel
set_option maxRecDepth 100000 in
theorem tw_742 : lw_tbl[742]? = some (.instanceMethod ⟨"CrossDockModel", "isArrival", "(I)Z"⟩) := by decide +kernel
set_option maxRecDepth 100000 in
theorem tw_743 : lw_tbl[743]? = some (.code ⟨"CrossDockModel", "isArrival", "(I)Z"⟩ prog_7_method_4_code 2 (some .boolean)) := by decide +kernel
set_option maxRecDepth 100000 in
theorem tw_744 : lw_tbl[744]? = some (.methodLink "CrossDockModel" 98 ⟨"CrossDockModel", "held", "(I)I"⟩) := by decide +kernel
set_option maxRecDepth 100000 in
theorem tw_745 : lw_tbl[745]? = some (.privateMethod ⟨"CrossDockModel", "held", "(I)I"⟩) := by decide +kernel
set_option maxRecDepth 100000 in
theorem tw_746 : lw_tbl[746]? = some (.instanceMethod ⟨"CrossDockModel", "held", "(I)I"⟩) := by decide +kernel
set_option maxRecDepth 100000 in
theorem tw_747 : lw_tbl[747]? = some (.code ⟨"CrossDockModel", "held", "(I)I"⟩ prog_7_method_9_code 4 (some .int)) := by decide +kernel
set_option maxRecDepth 100000 in
theorem tw_748 : lw_tbl[748]? = some (.methodLink "CrossDockLaw" 91 ⟨"CrossDockModel", "rule", "(IIZ)Z"⟩) := by decide +kernel
set_option maxRecDepth 100000 in
theorem tw_749 : lw_tbl[749]? = some (.instanceMethod ⟨"CrossDockModel", "rule", "(IIZ)Z"⟩) := by decide +kernel
set_option maxRecDepth 100000 in
theorem tw_750 : lw_tbl[750]? = some (.selects "CrossDockModel" ⟨"CrossDockModel", "rule", "(IIZ)Z"⟩ ⟨"CrossDockModel", "rule", "(IIZ)Z"⟩) := by decide +kernel
set_option maxRecDepth 100000 in
theorem tw_751 : lw_tbl[751]? = some (.code ⟨"CrossDockModel", "rule", "(IIZ)Z"⟩ prog_7_method_14_code 4 (some .boolean)) := by decide +kernel
set_option maxRecDepth 100000 in
theorem tw_752 : lw_tbl[752]? = some (.methodLink "CrossDockModel" 105 ⟨"CrossDockModel", "mayServe", "(II)Z"⟩) := by decide +kernel
set_option maxRecDepth 100000 in
theorem tw_753 : lw_tbl[753]? = some (.privateMethod ⟨"CrossDockModel", "mayServe", "(II)Z"⟩) := by decide +kernel
set_option maxRecDepth 100000 in
theorem tw_754 : lw_tbl[754]? = some (.instanceMethod ⟨"CrossDockModel", "mayServe", "(II)Z"⟩) := by decide +kernel
set_option maxRecDepth 100000 in
theorem tw_755 : lw_tbl[755]? = some (.code ⟨"CrossDockModel", "mayServe", "(II)Z"⟩ prog_7_method_13_code 3 (some .boolean)) := by decide +kernel
set_option maxRecDepth 100000 in
theorem tw_756 : lw_tbl[756]? = some (.methodLink "CrossDockModel" 102 ⟨"CrossDockModel", "passes", "(III)Z"⟩) := by decide +kernel
set_option maxRecDepth 100000 in
theorem tw_757 : lw_tbl[757]? = some (.privateMethod ⟨"CrossDockModel", "passes", "(III)Z"⟩) := by decide +kernel
set_option maxRecDepth 100000 in
theorem tw_758 : lw_tbl[758]? = some (.instanceMethod ⟨"CrossDockModel", "passes", "(III)Z"⟩) := by decide +kernel
set_option maxRecDepth 100000 in
theorem tw_759 : lw_tbl[759]? = some (.code ⟨"CrossDockModel", "passes", "(III)Z"⟩ prog_7_method_12_code 4 (some .boolean)) := by decide +kernel
set_option maxRecDepth 100000 in
theorem tw_760 : lw_tbl[760]? = some (.methodLink "CrossDockLaw" 95 ⟨"CrossDockModel", "full", "(IZ)I"⟩) := by decide +kernel
set_option maxRecDepth 100000 in
theorem tw_761 : lw_tbl[761]? = some (.instanceMethod ⟨"CrossDockModel", "full", "(IZ)I"⟩) := by decide +kernel
set_option maxRecDepth 100000 in
theorem tw_762 : lw_tbl[762]? = some (.selects "CrossDockModel" ⟨"CrossDockModel", "full", "(IZ)I"⟩ ⟨"CrossDockModel", "full", "(IZ)I"⟩) := by decide +kernel
set_option maxRecDepth 100000 in
theorem tw_763 : lw_tbl[763]? = some (.code ⟨"CrossDockModel", "full", "(IZ)I"⟩ prog_7_method_15_code 5 (some .int)) := by decide +kernel
set_option maxRecDepth 100000 in
theorem tw_764 : lw_tbl[764]? = some (.methodLink "CrossDockLaw" 99 ⟨"CrossDockModel", "match", "(I)I"⟩) := by decide +kernel
set_option maxRecDepth 100000 in
theorem tw_765 : lw_tbl[765]? = some (.instanceMethod ⟨"CrossDockModel", "match", "(I)I"⟩) := by decide +kernel
set_option maxRecDepth 100000 in
theorem tw_766 : lw_tbl[766]? = some (.selects "CrossDockModel" ⟨"CrossDockModel", "match", "(I)I"⟩ ⟨"CrossDockModel", "match", "(I)I"⟩) := by decide +kernel
set_option maxRecDepth 100000 in
theorem tw_767 : lw_tbl[767]? = some (.code ⟨"CrossDockModel", "match", "(I)I"⟩ prog_7_method_26_code 3 (some .int)) := by decide +kernel
set_option maxRecDepth 100000 in
theorem tw_768 : lw_tbl[768]? = some (.methodLink "CrossDockModel" 137 ⟨"CrossDockModel", "layOut", "()V"⟩) := by decide +kernel
set_option maxRecDepth 100000 in
theorem tw_769 : lw_tbl[769]? = some (.privateMethod ⟨"CrossDockModel", "layOut", "()V"⟩) := by decide +kernel
set_option maxRecDepth 100000 in
theorem tw_770 : lw_tbl[770]? = some (.instanceMethod ⟨"CrossDockModel", "layOut", "()V"⟩) := by decide +kernel
set_option maxRecDepth 100000 in
theorem tw_771 : lw_tbl[771]? = some (.code ⟨"CrossDockModel", "layOut", "()V"⟩ prog_7_method_20_code 5 none) := by decide +kernel
set_option maxRecDepth 100000 in
theorem tw_772 : lw_tbl[772]? = some (.methodLink "CrossDockModel" 118 ⟨"CrossDockModel", "orderAt", "(I)I"⟩) := by decide +kernel
set_option maxRecDepth 100000 in
theorem tw_773 : lw_tbl[773]? = some (.privateMethod ⟨"CrossDockModel", "orderAt", "(I)I"⟩) := by decide +kernel
set_option maxRecDepth 100000 in
theorem tw_774 : lw_tbl[774]? = some (.instanceMethod ⟨"CrossDockModel", "orderAt", "(I)I"⟩) := by decide +kernel
set_option maxRecDepth 100000 in
theorem tw_775 : lw_tbl[775]? = some (.code ⟨"CrossDockModel", "orderAt", "(I)I"⟩ prog_7_method_18_code 5 (some .int)) := by decide +kernel
set_option maxRecDepth 100000 in
theorem tw_776 : lw_tbl[776]? = some (.methodLink "CrossDockModel" 109 ⟨"CrossDockModel", "isOrderBefore", "(II)Z"⟩) := by decide +kernel
set_option maxRecDepth 100000 in
theorem tw_777 : lw_tbl[777]? = some (.privateMethod ⟨"CrossDockModel", "isOrderBefore", "(II)Z"⟩) := by decide +kernel
set_option maxRecDepth 100000 in
theorem tw_778 : lw_tbl[778]? = some (.instanceMethod ⟨"CrossDockModel", "isOrderBefore", "(II)Z"⟩) := by decide +kernel
set_option maxRecDepth 100000 in
theorem tw_779 : lw_tbl[779]? = some (.code ⟨"CrossDockModel", "isOrderBefore", "(II)Z"⟩ prog_7_method_16_code 3 (some .boolean)) := by decide +kernel
set_option maxRecDepth 100000 in
theorem tw_780 : lw_tbl[780]? = some (.methodLink "CrossDockModel" 121 ⟨"CrossDockModel", "arrivalAt", "(I)I"⟩) := by decide +kernel
set_option maxRecDepth 100000 in
theorem tw_781 : lw_tbl[781]? = some (.privateMethod ⟨"CrossDockModel", "arrivalAt", "(I)I"⟩) := by decide +kernel
set_option maxRecDepth 100000 in
theorem tw_782 : lw_tbl[782]? = some (.instanceMethod ⟨"CrossDockModel", "arrivalAt", "(I)I"⟩) := by decide +kernel
set_option maxRecDepth 100000 in
theorem tw_783 : lw_tbl[783]? = some (.code ⟨"CrossDockModel", "arrivalAt", "(I)I"⟩ prog_7_method_19_code 5 (some .int)) := by decide +kernel
set_option maxRecDepth 100000 in
theorem tw_784 : lw_tbl[784]? = some (.methodLink "CrossDockModel" 112 ⟨"CrossDockModel", "isArrivalBefore", "(II)Z"⟩) := by decide +kernel
set_option maxRecDepth 100000 in
theorem tw_785 : lw_tbl[785]? = some (.privateMethod ⟨"CrossDockModel", "isArrivalBefore", "(II)Z"⟩) := by decide +kernel
set_option maxRecDepth 100000 in
theorem tw_786 : lw_tbl[786]? = some (.instanceMethod ⟨"CrossDockModel", "isArrivalBefore", "(II)Z"⟩) := by decide +kernel
set_option maxRecDepth 100000 in
theorem tw_787 : lw_tbl[787]? = some (.code ⟨"CrossDockModel", "isArrivalBefore", "(II)Z"⟩ prog_7_method_17_code 3 (some .boolean)) := by decide +kernel
set_option maxRecDepth 100000 in
theorem tw_788 : lw_tbl[788]? = some (.methodLink "CrossDockModel" 140 ⟨"CrossDockModel", "lookAtAll", "(I)Z"⟩) := by decide +kernel
set_option maxRecDepth 100000 in
theorem tw_789 : lw_tbl[789]? = some (.privateMethod ⟨"CrossDockModel", "lookAtAll", "(I)Z"⟩) := by decide +kernel
set_option maxRecDepth 100000 in
theorem tw_790 : lw_tbl[790]? = some (.instanceMethod ⟨"CrossDockModel", "lookAtAll", "(I)Z"⟩) := by decide +kernel
set_option maxRecDepth 100000 in
theorem tw_791 : lw_tbl[791]? = some (.code ⟨"CrossDockModel", "lookAtAll", "(I)Z"⟩ prog_7_method_24_code 6 (some .boolean)) := by decide +kernel
set_option maxRecDepth 100000 in
theorem tw_792 : lw_tbl[792]? = some (.methodLink "CrossDockModel" 130 ⟨"CrossDockModel", "greatest", "(I)I"⟩) := by decide +kernel
set_option maxRecDepth 100000 in
theorem tw_793 : lw_tbl[793]? = some (.privateMethod ⟨"CrossDockModel", "greatest", "(I)I"⟩) := by decide +kernel
set_option maxRecDepth 100000 in
theorem tw_794 : lw_tbl[794]? = some (.instanceMethod ⟨"CrossDockModel", "greatest", "(I)I"⟩) := by decide +kernel
set_option maxRecDepth 100000 in
theorem tw_795 : lw_tbl[795]? = some (.code ⟨"CrossDockModel", "greatest", "(I)I"⟩ prog_7_method_22_code 5 (some .int)) := by decide +kernel
set_option maxRecDepth 100000 in
theorem tw_796 : lw_tbl[796]? = some (.methodLink "CrossDockModel" 124 ⟨"CrossDockModel", "has", "(I)I"⟩) := by decide +kernel
set_option maxRecDepth 100000 in
theorem tw_797 : lw_tbl[797]? = some (.privateMethod ⟨"CrossDockModel", "has", "(I)I"⟩) := by decide +kernel
set_option maxRecDepth 100000 in
theorem tw_798 : lw_tbl[798]? = some (.instanceMethod ⟨"CrossDockModel", "has", "(I)I"⟩) := by decide +kernel
set_option maxRecDepth 100000 in
theorem tw_799 : lw_tbl[799]? = some (.code ⟨"CrossDockModel", "has", "(I)I"⟩ prog_7_method_21_code 2 (some .int)) := by decide +kernel
set_option maxRecDepth 100000 in
theorem tw_800 : lw_tbl[800]? = some (.methodLink "CrossDockModel" 133 ⟨"CrossDockModel", "worth", "()I"⟩) := by decide +kernel
set_option maxRecDepth 100000 in
theorem tw_801 : lw_tbl[801]? = some (.privateMethod ⟨"CrossDockModel", "worth", "()I"⟩) := by decide +kernel
set_option maxRecDepth 100000 in
theorem tw_802 : lw_tbl[802]? = some (.instanceMethod ⟨"CrossDockModel", "worth", "()I"⟩) := by decide +kernel
set_option maxRecDepth 100000 in
theorem tw_803 : lw_tbl[803]? = some (.code ⟨"CrossDockModel", "worth", "()I"⟩ prog_7_method_23_code 3 (some .int)) := by decide +kernel
set_option maxRecDepth 100000 in
theorem tw_804 : lw_tbl[804]? = some (.methodLink "CrossDockModel" 147 ⟨"CrossDockModel", "byRule", "()V"⟩) := by decide +kernel
set_option maxRecDepth 100000 in
theorem tw_805 : lw_tbl[805]? = some (.privateMethod ⟨"CrossDockModel", "byRule", "()V"⟩) := by decide +kernel
set_option maxRecDepth 100000 in
theorem tw_806 : lw_tbl[806]? = some (.instanceMethod ⟨"CrossDockModel", "byRule", "()V"⟩) := by decide +kernel
set_option maxRecDepth 100000 in
theorem tw_807 : lw_tbl[807]? = some (.code ⟨"CrossDockModel", "byRule", "()V"⟩ prog_7_method_25_code 2 none) := by decide +kernel
set_option maxRecDepth 100000 in
theorem tw_808 : lw_tbl[808]? = some (.methodLink "CrossDockModel" 150 ⟨"CrossDockModel", "savedNow", "()I"⟩) := by decide +kernel
set_option maxRecDepth 100000 in
theorem tw_809 : lw_tbl[809]? = some (.privateMethod ⟨"CrossDockModel", "savedNow", "()I"⟩) := by decide +kernel
set_option maxRecDepth 100000 in
theorem tw_810 : lw_tbl[810]? = some (.instanceMethod ⟨"CrossDockModel", "savedNow", "()I"⟩) := by decide +kernel
set_option maxRecDepth 100000 in
theorem tw_811 : lw_tbl[811]? = some (.code ⟨"CrossDockModel", "savedNow", "()I"⟩ prog_7_method_30_code 3 (some .int)) := by decide +kernel
set_option maxRecDepth 100000 in
theorem tw_812 : lw_tbl[812]? = some (.methodLink "CrossDockModel" 153 ⟨"CrossDockModel", "hasGot", "(I)I"⟩) := by decide +kernel
set_option maxRecDepth 100000 in
theorem tw_813 : lw_tbl[813]? = some (.privateMethod ⟨"CrossDockModel", "hasGot", "(I)I"⟩) := by decide +kernel
set_option maxRecDepth 100000 in
theorem tw_814 : lw_tbl[814]? = some (.instanceMethod ⟨"CrossDockModel", "hasGot", "(I)I"⟩) := by decide +kernel
set_option maxRecDepth 100000 in
theorem tw_815 : lw_tbl[815]? = some (.code ⟨"CrossDockModel", "hasGot", "(I)I"⟩ prog_7_method_10_code 4 (some .int)) := by decide +kernel
set_option maxRecDepth 100000 in
theorem tw_816 : lw_tbl[816]? = some (.methodLink "CrossDockLaw" 104 ⟨"CrossDockModel", "exact", "()Z"⟩) := by decide +kernel
set_option maxRecDepth 100000 in
theorem tw_817 : lw_tbl[817]? = some (.instanceMethod ⟨"CrossDockModel", "exact", "()Z"⟩) := by decide +kernel
set_option maxRecDepth 100000 in
theorem tw_818 : lw_tbl[818]? = some (.selects "CrossDockModel" ⟨"CrossDockModel", "exact", "()Z"⟩ ⟨"CrossDockModel", "exact", "()Z"⟩) := by decide +kernel
set_option maxRecDepth 100000 in
theorem tw_819 : lw_tbl[819]? = some (.code ⟨"CrossDockModel", "exact", "()Z"⟩ prog_7_method_27_code 1 (some .boolean)) := by decide +kernel
set_option maxRecDepth 100000 in
theorem tw_820 : lw_tbl[820]? = some (.methodLink "CrossDockLaw" 108 ⟨"CrossDockModel", "bound", "()I"⟩) := by decide +kernel
set_option maxRecDepth 100000 in
theorem tw_821 : lw_tbl[821]? = some (.instanceMethod ⟨"CrossDockModel", "bound", "()I"⟩) := by decide +kernel
set_option maxRecDepth 100000 in
theorem tw_822 : lw_tbl[822]? = some (.selects "CrossDockModel" ⟨"CrossDockModel", "bound", "()I"⟩ ⟨"CrossDockModel", "bound", "()I"⟩) := by decide +kernel
set_option maxRecDepth 100000 in
theorem tw_823 : lw_tbl[823]? = some (.code ⟨"CrossDockModel", "bound", "()I"⟩ prog_7_method_28_code 5 (some .int)) := by decide +kernel
set_option maxRecDepth 100000 in
theorem tw_824 : lw_tbl[824]? = some (.methodLink "CrossDockLaw" 112 ⟨"CrossDockModel", "steps", "()I"⟩) := by decide +kernel
set_option maxRecDepth 100000 in
theorem tw_825 : lw_tbl[825]? = some (.instanceMethod ⟨"CrossDockModel", "steps", "()I"⟩) := by decide +kernel
set_option maxRecDepth 100000 in
theorem tw_826 : lw_tbl[826]? = some (.selects "CrossDockModel" ⟨"CrossDockModel", "steps", "()I"⟩ ⟨"CrossDockModel", "steps", "()I"⟩) := by decide +kernel
set_option maxRecDepth 100000 in
theorem tw_827 : lw_tbl[827]? = some (.code ⟨"CrossDockModel", "steps", "()I"⟩ prog_7_method_29_code 1 (some .int)) := by decide +kernel
set_option maxRecDepth 100000 in
theorem tw_828 : lw_tbl[828]? = some (.methodLink "CrossDockLaw" 116 ⟨"CrossDockModel", "pair", "(II)I"⟩) := by decide +kernel
set_option maxRecDepth 100000 in
theorem tw_829 : lw_tbl[829]? = some (.instanceMethod ⟨"CrossDockModel", "pair", "(II)I"⟩) := by decide +kernel
set_option maxRecDepth 100000 in
theorem tw_830 : lw_tbl[830]? = some (.selects "CrossDockModel" ⟨"CrossDockModel", "pair", "(II)I"⟩ ⟨"CrossDockModel", "pair", "(II)I"⟩) := by decide +kernel
set_option maxRecDepth 100000 in
theorem tw_831 : lw_tbl[831]? = some (.code ⟨"CrossDockModel", "pair", "(II)I"⟩ prog_7_method_31_code 3 (some .int)) := by decide +kernel
set_option maxRecDepth 100000 in
theorem tw_832 : lw_tbl[832]? = some (.methodLink "CrossDockLaw" 119 ⟨"CrossDockModel", "undo", "(I)I"⟩) := by decide +kernel
set_option maxRecDepth 100000 in
theorem tw_833 : lw_tbl[833]? = some (.instanceMethod ⟨"CrossDockModel", "undo", "(I)I"⟩) := by decide +kernel
set_option maxRecDepth 100000 in
theorem tw_834 : lw_tbl[834]? = some (.selects "CrossDockModel" ⟨"CrossDockModel", "undo", "(I)I"⟩ ⟨"CrossDockModel", "undo", "(I)I"⟩) := by decide +kernel
set_option maxRecDepth 100000 in
theorem tw_835 : lw_tbl[835]? = some (.code ⟨"CrossDockModel", "undo", "(I)I"⟩ prog_7_method_33_code 3 (some .int)) := by decide +kernel
set_option maxRecDepth 100000 in
theorem tw_836 : lw_tbl[836]? = some (.methodLink "CrossDockModel" 156 ⟨"CrossDockModel", "drop", "(I)V"⟩) := by decide +kernel
set_option maxRecDepth 100000 in
theorem tw_837 : lw_tbl[837]? = some (.privateMethod ⟨"CrossDockModel", "drop", "(I)V"⟩) := by decide +kernel
set_option maxRecDepth 100000 in
theorem tw_838 : lw_tbl[838]? = some (.instanceMethod ⟨"CrossDockModel", "drop", "(I)V"⟩) := by decide +kernel
set_option maxRecDepth 100000 in
theorem tw_839 : lw_tbl[839]? = some (.code ⟨"CrossDockModel", "drop", "(I)V"⟩ prog_7_method_32_code 3 none) := by decide +kernel
set_option maxRecDepth 100000 in
theorem tw_840 : lw_tbl[840]? = some (.methodLink "CrossDockLaw" 122 ⟨"CrossDockModel", "split", "(II)I"⟩) := by decide +kernel
set_option maxRecDepth 100000 in
theorem tw_841 : lw_tbl[841]? = some (.instanceMethod ⟨"CrossDockModel", "split", "(II)I"⟩) := by decide +kernel
set_option maxRecDepth 100000 in
theorem tw_842 : lw_tbl[842]? = some (.selects "CrossDockModel" ⟨"CrossDockModel", "split", "(II)I"⟩ ⟨"CrossDockModel", "split", "(II)I"⟩) := by decide +kernel
set_option maxRecDepth 100000 in
theorem tw_843 : lw_tbl[843]? = some (.code ⟨"CrossDockModel", "split", "(II)I"⟩ prog_7_method_34_code 6 (some .int)) := by decide +kernel
set_option maxRecDepth 100000 in
theorem tw_844 : lw_tbl[844]? = some (.methodLink "CrossDockLaw" 125 ⟨"CrossDockModel", "late", "(II)I"⟩) := by decide +kernel
set_option maxRecDepth 100000 in
theorem tw_845 : lw_tbl[845]? = some (.instanceMethod ⟨"CrossDockModel", "late", "(II)I"⟩) := by decide +kernel
set_option maxRecDepth 100000 in
theorem tw_846 : lw_tbl[846]? = some (.selects "CrossDockModel" ⟨"CrossDockModel", "late", "(II)I"⟩ ⟨"CrossDockModel", "late", "(II)I"⟩) := by decide +kernel
set_option maxRecDepth 100000 in
theorem tw_847 : lw_tbl[847]? = some (.code ⟨"CrossDockModel", "late", "(II)I"⟩ prog_7_method_35_code 5 (some .int)) := by decide +kernel
set_option maxRecDepth 100000 in
theorem tw_848 : lw_tbl[848]? = some (.methodLink "CrossDockLaw" 128 ⟨"CrossDockModel", "arrival", "(II)I"⟩) := by decide +kernel
set_option maxRecDepth 100000 in
theorem tw_849 : lw_tbl[849]? = some (.instanceMethod ⟨"CrossDockModel", "arrival", "(II)I"⟩) := by decide +kernel
set_option maxRecDepth 100000 in
theorem tw_850 : lw_tbl[850]? = some (.selects "CrossDockModel" ⟨"CrossDockModel", "arrival", "(II)I"⟩ ⟨"CrossDockModel", "arrival", "(II)I"⟩) := by decide +kernel
set_option maxRecDepth 100000 in
theorem tw_851 : lw_tbl[851]? = some (.code ⟨"CrossDockModel", "arrival", "(II)I"⟩ prog_7_method_36_code 5 (some .int)) := by decide +kernel
set_option maxRecDepth 100000 in
theorem tw_852 : lw_tbl[852]? = some (.methodLink "CrossDockLaw" 131 ⟨"CrossDockModel", "wanted", "(II)I"⟩) := by decide +kernel
set_option maxRecDepth 100000 in
theorem tw_853 : lw_tbl[853]? = some (.instanceMethod ⟨"CrossDockModel", "wanted", "(II)I"⟩) := by decide +kernel
set_option maxRecDepth 100000 in
theorem tw_854 : lw_tbl[854]? = some (.selects "CrossDockModel" ⟨"CrossDockModel", "wanted", "(II)I"⟩ ⟨"CrossDockModel", "wanted", "(II)I"⟩) := by decide +kernel
set_option maxRecDepth 100000 in
theorem tw_855 : lw_tbl[855]? = some (.code ⟨"CrossDockModel", "wanted", "(II)I"⟩ prog_7_method_38_code 4 (some .int)) := by decide +kernel
set_option maxRecDepth 100000 in
theorem tw_856 : lw_tbl[856]? = some (.methodLink "CrossDockModel" 160 ⟨"CrossDockModel", "passing", "(II)I"⟩) := by decide +kernel
set_option maxRecDepth 100000 in
theorem tw_857 : lw_tbl[857]? = some (.privateMethod ⟨"CrossDockModel", "passing", "(II)I"⟩) := by decide +kernel
set_option maxRecDepth 100000 in
theorem tw_858 : lw_tbl[858]? = some (.instanceMethod ⟨"CrossDockModel", "passing", "(II)I"⟩) := by decide +kernel
set_option maxRecDepth 100000 in
theorem tw_859 : lw_tbl[859]? = some (.code ⟨"CrossDockModel", "passing", "(II)I"⟩ prog_7_method_37_code 5 (some .int)) := by decide +kernel
set_option maxRecDepth 100000 in
theorem tw_860 : lw_tbl[860]? = some (.methodLink "CrossDockLaw" 135 ⟨"CrossDockModel", "saved", "()I"⟩) := by decide +kernel
set_option maxRecDepth 100000 in
theorem tw_861 : lw_tbl[861]? = some (.instanceMethod ⟨"CrossDockModel", "saved", "()I"⟩) := by decide +kernel
set_option maxRecDepth 100000 in
theorem tw_862 : lw_tbl[862]? = some (.selects "CrossDockModel" ⟨"CrossDockModel", "saved", "()I"⟩ ⟨"CrossDockModel", "saved", "()I"⟩) := by decide +kernel
set_option maxRecDepth 100000 in
theorem tw_863 : lw_tbl[863]? = some (.code ⟨"CrossDockModel", "saved", "()I"⟩ prog_7_method_39_code 1 (some .int)) := by decide +kernel
set_option maxRecDepth 100000 in
theorem tw_864 : lw_tbl[864]? = some (.methodLink "CrossDockLaw" 139 ⟨"CrossDockModel", "count", "(I)I"⟩) := by decide +kernel
set_option maxRecDepth 100000 in
theorem tw_865 : lw_tbl[865]? = some (.instanceMethod ⟨"CrossDockModel", "count", "(I)I"⟩) := by decide +kernel
set_option maxRecDepth 100000 in
theorem tw_866 : lw_tbl[866]? = some (.selects "CrossDockModel" ⟨"CrossDockModel", "count", "(I)I"⟩ ⟨"CrossDockModel", "count", "(I)I"⟩) := by decide +kernel
set_option maxRecDepth 100000 in
theorem tw_867 : lw_tbl[867]? = some (.code ⟨"CrossDockModel", "count", "(I)I"⟩ prog_7_method_40_code 4 (some .int)) := by decide +kernel
set_option maxRecDepth 100000 in
theorem tw_868 : lw_tbl[868]? = some (.arrayClass .long) := by decide +kernel
set_option maxRecDepth 100000 in
theorem tw_869 : lw_tbl[869]? = some (.sameMethod "java/lang/Throwable" "java/lang/Throwable" "fillInStackTrace" "(I)Ljava/lang/Throwable;") := by decide +kernel
end
section
theorem d_D_init_0 : decode b_D_init 0 = .ok (.aload_n 0, 1) := by decide +kernel
theorem d_D_init_1 : decode b_D_init 1 = .ok (.invokespecial 3, 3) := by decide +kernel
theorem d_D_init_4 : decode b_D_init 4 = .ok (.aload_n 0, 1) := by decide +kernel
theorem d_D_init_5 : decode b_D_init 5 = .ok (.bipush 8, 2) := by decide +kernel
theorem d_D_init_7 : decode b_D_init 7 = .ok (.anewarray 9, 3) := by decide +kernel
theorem d_D_init_10 : decode b_D_init 10 = .ok (.putfield 11, 3) := by decide +kernel
theorem d_D_init_13 : decode b_D_init 13 = .ok (.iconst 0, 1) := by decide +kernel
theorem d_D_init_14 : decode b_D_init 14 = .ok (.istore_n 1, 1) := by decide +kernel
theorem d_D_init_15 : decode b_D_init 15 = .ok (.iload_n 1, 1) := by decide +kernel
theorem d_D_init_16 : decode b_D_init 16 = .ok (.bipush 8, 2) := by decide +kernel
theorem d_D_init_18 : decode b_D_init 18 = .ok (.if_icmp .ge 22, 3) := by decide +kernel
theorem d_D_init_21 : decode b_D_init 21 = .ok (.aload_n 0, 1) := by decide +kernel
theorem d_D_init_22 : decode b_D_init 22 = .ok (.getfield 11, 3) := by decide +kernel
theorem d_D_init_25 : decode b_D_init 25 = .ok (.iload_n 1, 1) := by decide +kernel
theorem d_D_init_26 : decode b_D_init 26 = .ok (.new 9, 3) := by decide +kernel
theorem d_D_init_29 : decode b_D_init 29 = .ok (.dup, 1) := by decide +kernel
theorem d_D_init_30 : decode b_D_init 30 = .ok (.invokespecial 15, 3) := by decide +kernel
theorem d_D_init_33 : decode b_D_init 33 = .ok (.aastore, 1) := by decide +kernel
theorem d_D_init_34 : decode b_D_init 34 = .ok (.iinc 1 1, 3) := by decide +kernel
theorem d_D_init_37 : decode b_D_init 37 = .ok (.goto (-22), 3) := by decide +kernel
theorem d_D_init_40 : decode b_D_init 40 = .ok (.aload_n 0, 1) := by decide +kernel
theorem d_D_init_41 : decode b_D_init 41 = .ok (.bipush 8, 2) := by decide +kernel
theorem d_D_init_43 : decode b_D_init 43 = .ok (.anewarray 16, 3) := by decide +kernel
theorem d_D_init_46 : decode b_D_init 46 = .ok (.putfield 18, 3) := by decide +kernel
theorem d_D_init_49 : decode b_D_init 49 = .ok (.iconst 0, 1) := by decide +kernel
theorem d_D_init_50 : decode b_D_init 50 = .ok (.istore_n 1, 1) := by decide +kernel
theorem d_D_init_51 : decode b_D_init 51 = .ok (.iload_n 1, 1) := by decide +kernel
theorem d_D_init_52 : decode b_D_init 52 = .ok (.bipush 8, 2) := by decide +kernel
theorem d_D_init_54 : decode b_D_init 54 = .ok (.if_icmp .ge 22, 3) := by decide +kernel
theorem d_D_init_57 : decode b_D_init 57 = .ok (.aload_n 0, 1) := by decide +kernel
theorem d_D_init_58 : decode b_D_init 58 = .ok (.getfield 18, 3) := by decide +kernel
theorem d_D_init_61 : decode b_D_init 61 = .ok (.iload_n 1, 1) := by decide +kernel
theorem d_D_init_62 : decode b_D_init 62 = .ok (.new 16, 3) := by decide +kernel
theorem d_D_init_65 : decode b_D_init 65 = .ok (.dup, 1) := by decide +kernel
theorem d_D_init_66 : decode b_D_init 66 = .ok (.invokespecial 22, 3) := by decide +kernel
theorem d_D_init_69 : decode b_D_init 69 = .ok (.aastore, 1) := by decide +kernel
theorem d_D_init_70 : decode b_D_init 70 = .ok (.iinc 1 1, 3) := by decide +kernel
theorem d_D_init_73 : decode b_D_init 73 = .ok (.goto (-22), 3) := by decide +kernel
theorem d_D_init_76 : decode b_D_init 76 = .ok (.aload_n 0, 1) := by decide +kernel
theorem d_D_init_77 : decode b_D_init 77 = .ok (.iconst 4, 1) := by decide +kernel
theorem d_D_init_78 : decode b_D_init 78 = .ok (.newarray .boolean, 2) := by decide +kernel
theorem d_D_init_80 : decode b_D_init 80 = .ok (.putfield 23, 3) := by decide +kernel
theorem d_D_init_83 : decode b_D_init 83 = .ok (.aload_n 0, 1) := by decide +kernel
theorem d_D_init_84 : decode b_D_init 84 = .ok (.bipush 8, 2) := by decide +kernel
theorem d_D_init_86 : decode b_D_init 86 = .ok (.newarray .int, 2) := by decide +kernel
theorem d_D_init_88 : decode b_D_init 88 = .ok (.putfield 27, 3) := by decide +kernel
theorem d_D_init_91 : decode b_D_init 91 = .ok (.aload_n 0, 1) := by decide +kernel
theorem d_D_init_92 : decode b_D_init 92 = .ok (.bipush 8, 2) := by decide +kernel
theorem d_D_init_94 : decode b_D_init 94 = .ok (.newarray .int, 2) := by decide +kernel
theorem d_D_init_96 : decode b_D_init 96 = .ok (.putfield 31, 3) := by decide +kernel
theorem d_D_init_99 : decode b_D_init 99 = .ok (.aload_n 0, 1) := by decide +kernel
theorem d_D_init_100 : decode b_D_init 100 = .ok (.new 34, 3) := by decide +kernel
theorem d_D_init_103 : decode b_D_init 103 = .ok (.dup, 1) := by decide +kernel
theorem d_D_init_104 : decode b_D_init 104 = .ok (.invokespecial 36, 3) := by decide +kernel
theorem d_D_init_107 : decode b_D_init 107 = .ok (.putfield 37, 3) := by decide +kernel
theorem d_D_init_110 : decode b_D_init 110 = .ok (.aload_n 0, 1) := by decide +kernel
theorem d_D_init_111 : decode b_D_init 111 = .ok (.new 41, 3) := by decide +kernel
theorem d_D_init_114 : decode b_D_init 114 = .ok (.dup, 1) := by decide +kernel
theorem d_D_init_115 : decode b_D_init 115 = .ok (.invokespecial 43, 3) := by decide +kernel
theorem d_D_init_118 : decode b_D_init 118 = .ok (.putfield 44, 3) := by decide +kernel
theorem d_D_init_121 : decode b_D_init 121 = .ok (.aload_n 0, 1) := by decide +kernel
theorem d_D_init_122 : decode b_D_init 122 = .ok (.iconst 0, 1) := by decide +kernel
theorem d_D_init_123 : decode b_D_init 123 = .ok (.putfield 48, 3) := by decide +kernel
theorem d_D_init_126 : decode b_D_init 126 = .ok (.aload_n 0, 1) := by decide +kernel
theorem d_D_init_127 : decode b_D_init 127 = .ok (.iconst 0, 1) := by decide +kernel
theorem d_D_init_128 : decode b_D_init 128 = .ok (.putfield 52, 3) := by decide +kernel
theorem d_D_init_131 : decode b_D_init 131 = .ok (.aload_n 0, 1) := by decide +kernel
theorem d_D_init_132 : decode b_D_init 132 = .ok (.iconst 0, 1) := by decide +kernel
theorem d_D_init_133 : decode b_D_init 133 = .ok (.putfield 55, 3) := by decide +kernel
theorem d_D_init_136 : decode b_D_init 136 = .ok (.aload_n 0, 1) := by decide +kernel
theorem d_D_init_137 : decode b_D_init 137 = .ok (.iconst 0, 1) := by decide +kernel
theorem d_D_init_138 : decode b_D_init 138 = .ok (.putfield 59, 3) := by decide +kernel
theorem d_D_init_141 : decode b_D_init 141 = .ok (.return_, 1) := by decide +kernel
theorem d_A_init_0 : decode b_A_init 0 = .ok (.aload_n 0, 1) := by decide +kernel
theorem d_A_init_1 : decode b_A_init 1 = .ok (.invokespecial 1, 3) := by decide +kernel
theorem d_A_init_4 : decode b_A_init 4 = .ok (.return_, 1) := by decide +kernel
theorem d_O_init_0 : decode b_O_init 0 = .ok (.aload_n 0, 1) := by decide +kernel
theorem d_O_init_1 : decode b_O_init 1 = .ok (.invokespecial 1, 3) := by decide +kernel
theorem d_O_init_4 : decode b_O_init 4 = .ok (.return_, 1) := by decide +kernel
theorem d_S_init_0 : decode b_S_init 0 = .ok (.aload_n 0, 1) := by decide +kernel
theorem d_S_init_1 : decode b_S_init 1 = .ok (.invokespecial 3, 3) := by decide +kernel
theorem d_S_init_4 : decode b_S_init 4 = .ok (.aload_n 0, 1) := by decide +kernel
theorem d_S_init_5 : decode b_S_init 5 = .ok (.bipush 64, 2) := by decide +kernel
theorem d_S_init_7 : decode b_S_init 7 = .ok (.newarray .int, 2) := by decide +kernel
theorem d_S_init_9 : decode b_S_init 9 = .ok (.putfield 9, 3) := by decide +kernel
theorem d_S_init_12 : decode b_S_init 12 = .ok (.aload_n 0, 1) := by decide +kernel
theorem d_S_init_13 : decode b_S_init 13 = .ok (.bipush 64, 2) := by decide +kernel
theorem d_S_init_15 : decode b_S_init 15 = .ok (.newarray .int, 2) := by decide +kernel
theorem d_S_init_17 : decode b_S_init 17 = .ok (.putfield 15, 3) := by decide +kernel
theorem d_S_init_20 : decode b_S_init 20 = .ok (.aload_n 0, 1) := by decide +kernel
theorem d_S_init_21 : decode b_S_init 21 = .ok (.bipush 8, 2) := by decide +kernel
theorem d_S_init_23 : decode b_S_init 23 = .ok (.newarray .int, 2) := by decide +kernel
theorem d_S_init_25 : decode b_S_init 25 = .ok (.putfield 18, 3) := by decide +kernel
theorem d_S_init_28 : decode b_S_init 28 = .ok (.aload_n 0, 1) := by decide +kernel
theorem d_S_init_29 : decode b_S_init 29 = .ok (.bipush 8, 2) := by decide +kernel
theorem d_S_init_31 : decode b_S_init 31 = .ok (.newarray .int, 2) := by decide +kernel
theorem d_S_init_33 : decode b_S_init 33 = .ok (.putfield 21, 3) := by decide +kernel
theorem d_S_init_36 : decode b_S_init 36 = .ok (.aload_n 0, 1) := by decide +kernel
theorem d_S_init_37 : decode b_S_init 37 = .ok (.bipush 8, 2) := by decide +kernel
theorem d_S_init_39 : decode b_S_init 39 = .ok (.newarray .int, 2) := by decide +kernel
theorem d_S_init_41 : decode b_S_init 41 = .ok (.putfield 24, 3) := by decide +kernel
theorem d_S_init_44 : decode b_S_init 44 = .ok (.aload_n 0, 1) := by decide +kernel
theorem d_S_init_45 : decode b_S_init 45 = .ok (.bipush 8, 2) := by decide +kernel
theorem d_S_init_47 : decode b_S_init 47 = .ok (.newarray .int, 2) := by decide +kernel
theorem d_S_init_49 : decode b_S_init 49 = .ok (.putfield 27, 3) := by decide +kernel
theorem d_S_init_52 : decode b_S_init 52 = .ok (.aload_n 0, 1) := by decide +kernel
theorem d_S_init_53 : decode b_S_init 53 = .ok (.bipush 64, 2) := by decide +kernel
theorem d_S_init_55 : decode b_S_init 55 = .ok (.newarray .int, 2) := by decide +kernel
theorem d_S_init_57 : decode b_S_init 57 = .ok (.putfield 30, 3) := by decide +kernel
theorem d_S_init_60 : decode b_S_init 60 = .ok (.aload_n 0, 1) := by decide +kernel
theorem d_S_init_61 : decode b_S_init 61 = .ok (.bipush 64, 2) := by decide +kernel
theorem d_S_init_63 : decode b_S_init 63 = .ok (.newarray .int, 2) := by decide +kernel
theorem d_S_init_65 : decode b_S_init 65 = .ok (.putfield 33, 3) := by decide +kernel
theorem d_S_init_68 : decode b_S_init 68 = .ok (.aload_n 0, 1) := by decide +kernel
theorem d_S_init_69 : decode b_S_init 69 = .ok (.bipush 64, 2) := by decide +kernel
theorem d_S_init_71 : decode b_S_init 71 = .ok (.newarray .int, 2) := by decide +kernel
theorem d_S_init_73 : decode b_S_init 73 = .ok (.putfield 36, 3) := by decide +kernel
theorem d_S_init_76 : decode b_S_init 76 = .ok (.return_, 1) := by decide +kernel
theorem d_P_init_0 : decode b_P_init 0 = .ok (.aload_n 0, 1) := by decide +kernel
theorem d_P_init_1 : decode b_P_init 1 = .ok (.invokespecial 3, 3) := by decide +kernel
theorem d_P_init_4 : decode b_P_init 4 = .ok (.aload_n 0, 1) := by decide +kernel
theorem d_P_init_5 : decode b_P_init 5 = .ok (.bipush 64, 2) := by decide +kernel
theorem d_P_init_7 : decode b_P_init 7 = .ok (.newarray .int, 2) := by decide +kernel
theorem d_P_init_9 : decode b_P_init 9 = .ok (.putfield 9, 3) := by decide +kernel
theorem d_P_init_12 : decode b_P_init 12 = .ok (.aload_n 0, 1) := by decide +kernel
theorem d_P_init_13 : decode b_P_init 13 = .ok (.bipush 64, 2) := by decide +kernel
theorem d_P_init_15 : decode b_P_init 15 = .ok (.newarray .int, 2) := by decide +kernel
theorem d_P_init_17 : decode b_P_init 17 = .ok (.putfield 15, 3) := by decide +kernel
theorem d_P_init_20 : decode b_P_init 20 = .ok (.aload_n 0, 1) := by decide +kernel
theorem d_P_init_21 : decode b_P_init 21 = .ok (.bipush 64, 2) := by decide +kernel
theorem d_P_init_23 : decode b_P_init 23 = .ok (.newarray .int, 2) := by decide +kernel
theorem d_P_init_25 : decode b_P_init 25 = .ok (.putfield 18, 3) := by decide +kernel
theorem d_P_init_28 : decode b_P_init 28 = .ok (.return_, 1) := by decide +kernel
theorem d_D_exact_0 : decode b_D_exact 0 = .ok (.aload_n 0, 1) := by decide +kernel
theorem d_D_exact_1 : decode b_D_exact 1 = .ok (.getfield 55, 3) := by decide +kernel
theorem d_D_exact_4 : decode b_D_exact 4 = .ok (.ireturn, 1) := by decide +kernel
theorem d_D_bound_0 : decode b_D_bound 0 = .ok (.iconst 0, 1) := by decide +kernel
theorem d_D_bound_1 : decode b_D_bound 1 = .ok (.istore_n 1, 1) := by decide +kernel
theorem d_D_bound_2 : decode b_D_bound 2 = .ok (.iconst 0, 1) := by decide +kernel
theorem d_D_bound_3 : decode b_D_bound 3 = .ok (.istore_n 2, 1) := by decide +kernel
theorem d_D_bound_4 : decode b_D_bound 4 = .ok (.iload_n 2, 1) := by decide +kernel
theorem d_D_bound_5 : decode b_D_bound 5 = .ok (.aload_n 0, 1) := by decide +kernel
theorem d_D_bound_6 : decode b_D_bound 6 = .ok (.getfield 52, 3) := by decide +kernel
theorem d_D_bound_9 : decode b_D_bound 9 = .ok (.if_icmp .ge 33, 3) := by decide +kernel
theorem d_D_bound_12 : decode b_D_bound 12 = .ok (.aload_n 0, 1) := by decide +kernel
theorem d_D_bound_13 : decode b_D_bound 13 = .ok (.iload_n 2, 1) := by decide +kernel
theorem d_D_bound_14 : decode b_D_bound 14 = .ok (.invokevirtual 142, 3) := by decide +kernel
theorem d_D_bound_17 : decode b_D_bound 17 = .ok (.ifCond .le 19, 3) := by decide +kernel
theorem d_D_bound_20 : decode b_D_bound 20 = .ok (.iload_n 1, 1) := by decide +kernel
theorem d_D_bound_21 : decode b_D_bound 21 = .ok (.iconst 2, 1) := by decide +kernel
theorem d_D_bound_22 : decode b_D_bound 22 = .ok (.aload_n 0, 1) := by decide +kernel
theorem d_D_bound_23 : decode b_D_bound 23 = .ok (.getfield 18, 3) := by decide +kernel
theorem d_D_bound_26 : decode b_D_bound 26 = .ok (.iload_n 2, 1) := by decide +kernel
theorem d_D_bound_27 : decode b_D_bound 27 = .ok (.aaload, 1) := by decide +kernel
theorem d_D_bound_28 : decode b_D_bound 28 = .ok (.getfield 83, 3) := by decide +kernel
theorem d_D_bound_31 : decode b_D_bound 31 = .ok (.imul, 1) := by decide +kernel
theorem d_D_bound_32 : decode b_D_bound 32 = .ok (.iconst 3, 1) := by decide +kernel
theorem d_D_bound_33 : decode b_D_bound 33 = .ok (.iadd, 1) := by decide +kernel
theorem d_D_bound_34 : decode b_D_bound 34 = .ok (.iadd, 1) := by decide +kernel
theorem d_D_bound_35 : decode b_D_bound 35 = .ok (.istore_n 1, 1) := by decide +kernel
theorem d_D_bound_36 : decode b_D_bound 36 = .ok (.iinc 2 1, 3) := by decide +kernel
theorem d_D_bound_39 : decode b_D_bound 39 = .ok (.goto (-35), 3) := by decide +kernel
theorem d_D_bound_42 : decode b_D_bound 42 = .ok (.iconst 0, 1) := by decide +kernel
theorem d_D_bound_43 : decode b_D_bound 43 = .ok (.istore_n 2, 1) := by decide +kernel
theorem d_D_bound_44 : decode b_D_bound 44 = .ok (.iload_n 2, 1) := by decide +kernel
theorem d_D_bound_45 : decode b_D_bound 45 = .ok (.aload_n 0, 1) := by decide +kernel
theorem d_D_bound_46 : decode b_D_bound 46 = .ok (.getfield 48, 3) := by decide +kernel
theorem d_D_bound_49 : decode b_D_bound 49 = .ok (.if_icmp .ge 20, 3) := by decide +kernel
theorem d_D_bound_52 : decode b_D_bound 52 = .ok (.aload_n 0, 1) := by decide +kernel
theorem d_D_bound_53 : decode b_D_bound 53 = .ok (.iload_n 2, 1) := by decide +kernel
theorem d_D_bound_54 : decode b_D_bound 54 = .ok (.invokevirtual 145, 3) := by decide +kernel
theorem d_D_bound_57 : decode b_D_bound 57 = .ok (.ifCond .le 6, 3) := by decide +kernel
theorem d_D_bound_60 : decode b_D_bound 60 = .ok (.iinc 1 1, 3) := by decide +kernel
theorem d_D_bound_63 : decode b_D_bound 63 = .ok (.iinc 2 1, 3) := by decide +kernel
theorem d_D_bound_66 : decode b_D_bound 66 = .ok (.goto (-22), 3) := by decide +kernel
theorem d_D_bound_69 : decode b_D_bound 69 = .ok (.iload_n 1, 1) := by decide +kernel
theorem d_D_bound_70 : decode b_D_bound 70 = .ok (.ireturn, 1) := by decide +kernel
theorem d_D_arrivalsFor_0 : decode b_D_arrivalsFor 0 = .ok (.iconst 0, 1) := by decide +kernel
theorem d_D_arrivalsFor_1 : decode b_D_arrivalsFor 1 = .ok (.istore_n 2, 1) := by decide +kernel
theorem d_D_arrivalsFor_2 : decode b_D_arrivalsFor 2 = .ok (.iconst 0, 1) := by decide +kernel
theorem d_D_arrivalsFor_3 : decode b_D_arrivalsFor 3 = .ok (.istore_n 3, 1) := by decide +kernel
theorem d_D_arrivalsFor_4 : decode b_D_arrivalsFor 4 = .ok (.iload_n 3, 1) := by decide +kernel
theorem d_D_arrivalsFor_5 : decode b_D_arrivalsFor 5 = .ok (.aload_n 0, 1) := by decide +kernel
theorem d_D_arrivalsFor_6 : decode b_D_arrivalsFor 6 = .ok (.getfield 48, 3) := by decide +kernel
theorem d_D_arrivalsFor_9 : decode b_D_arrivalsFor 9 = .ok (.if_icmp .ge 21, 3) := by decide +kernel
theorem d_D_arrivalsFor_12 : decode b_D_arrivalsFor 12 = .ok (.aload_n 0, 1) := by decide +kernel
theorem d_D_arrivalsFor_13 : decode b_D_arrivalsFor 13 = .ok (.iload_n 3, 1) := by decide +kernel
theorem d_D_arrivalsFor_14 : decode b_D_arrivalsFor 14 = .ok (.iload_n 1, 1) := by decide +kernel
theorem d_D_arrivalsFor_15 : decode b_D_arrivalsFor 15 = .ok (.invokevirtual 117, 3) := by decide +kernel
theorem d_D_arrivalsFor_18 : decode b_D_arrivalsFor 18 = .ok (.ifCond .eq 6, 3) := by decide +kernel
theorem d_D_arrivalsFor_21 : decode b_D_arrivalsFor 21 = .ok (.iinc 2 1, 3) := by decide +kernel
theorem d_D_arrivalsFor_24 : decode b_D_arrivalsFor 24 = .ok (.iinc 3 1, 3) := by decide +kernel
theorem d_D_arrivalsFor_27 : decode b_D_arrivalsFor 27 = .ok (.goto (-23), 3) := by decide +kernel
theorem d_D_arrivalsFor_30 : decode b_D_arrivalsFor 30 = .ok (.iload_n 2, 1) := by decide +kernel
theorem d_D_arrivalsFor_31 : decode b_D_arrivalsFor 31 = .ok (.ireturn, 1) := by decide +kernel
theorem d_D_mayServe_0 : decode b_D_mayServe 0 = .ok (.aload_n 0, 1) := by decide +kernel
theorem d_D_mayServe_1 : decode b_D_mayServe 1 = .ok (.iload_n 1, 1) := by decide +kernel
theorem d_D_mayServe_2 : decode b_D_mayServe 2 = .ok (.iload_n 2, 1) := by decide +kernel
theorem d_D_mayServe_3 : decode b_D_mayServe 3 = .ok (.invokevirtual 209, 3) := by decide +kernel
theorem d_D_mayServe_6 : decode b_D_mayServe 6 = .ok (.ifCond .ne 7, 3) := by decide +kernel
theorem d_D_mayServe_9 : decode b_D_mayServe 9 = .ok (.iconst 1, 1) := by decide +kernel
theorem d_D_mayServe_10 : decode b_D_mayServe 10 = .ok (.goto 4, 3) := by decide +kernel
theorem d_D_mayServe_13 : decode b_D_mayServe 13 = .ok (.iconst 0, 1) := by decide +kernel
theorem d_D_mayServe_14 : decode b_D_mayServe 14 = .ok (.ireturn, 1) := by decide +kernel
theorem d_D_obstacle_0 : decode b_D_obstacle 0 = .ok (.aload_n 0, 1) := by decide +kernel
theorem d_D_obstacle_1 : decode b_D_obstacle 1 = .ok (.getfield 11, 3) := by decide +kernel
theorem d_D_obstacle_4 : decode b_D_obstacle 4 = .ok (.iload_n 1, 1) := by decide +kernel
theorem d_D_obstacle_5 : decode b_D_obstacle 5 = .ok (.aaload, 1) := by decide +kernel
theorem d_D_obstacle_6 : decode b_D_obstacle 6 = .ok (.astore_n 3, 1) := by decide +kernel
theorem d_D_obstacle_7 : decode b_D_obstacle 7 = .ok (.aload_n 0, 1) := by decide +kernel
theorem d_D_obstacle_8 : decode b_D_obstacle 8 = .ok (.getfield 18, 3) := by decide +kernel
theorem d_D_obstacle_11 : decode b_D_obstacle 11 = .ok (.iload_n 2, 1) := by decide +kernel
theorem d_D_obstacle_12 : decode b_D_obstacle 12 = .ok (.aaload, 1) := by decide +kernel
theorem d_D_obstacle_13 : decode b_D_obstacle 13 = .ok (.astore 4, 2) := by decide +kernel
theorem d_D_obstacle_15 : decode b_D_obstacle 15 = .ok (.aload_n 3, 1) := by decide +kernel
theorem d_D_obstacle_16 : decode b_D_obstacle 16 = .ok (.getfield 70, 3) := by decide +kernel
theorem d_D_obstacle_19 : decode b_D_obstacle 19 = .ok (.aload 4, 2) := by decide +kernel
theorem d_D_obstacle_21 : decode b_D_obstacle 21 = .ok (.getfield 82, 3) := by decide +kernel
theorem d_D_obstacle_24 : decode b_D_obstacle 24 = .ok (.if_icmp .eq 5, 3) := by decide +kernel
theorem d_D_obstacle_27 : decode b_D_obstacle 27 = .ok (.iconst 1, 1) := by decide +kernel
theorem d_D_obstacle_28 : decode b_D_obstacle 28 = .ok (.ireturn, 1) := by decide +kernel
theorem d_D_obstacle_29 : decode b_D_obstacle 29 = .ok (.aload_n 3, 1) := by decide +kernel
theorem d_D_obstacle_30 : decode b_D_obstacle 30 = .ok (.getfield 76, 3) := by decide +kernel
theorem d_D_obstacle_33 : decode b_D_obstacle 33 = .ok (.aload 4, 2) := by decide +kernel
theorem d_D_obstacle_35 : decode b_D_obstacle 35 = .ok (.getfield 90, 3) := by decide +kernel
theorem d_D_obstacle_38 : decode b_D_obstacle 38 = .ok (.if_icmp .le 5, 3) := by decide +kernel
theorem d_D_obstacle_41 : decode b_D_obstacle 41 = .ok (.iconst 2, 1) := by decide +kernel
theorem d_D_obstacle_42 : decode b_D_obstacle 42 = .ok (.ireturn, 1) := by decide +kernel
theorem d_D_obstacle_43 : decode b_D_obstacle 43 = .ok (.aload 4, 2) := by decide +kernel
theorem d_D_obstacle_45 : decode b_D_obstacle 45 = .ok (.aload_n 3, 1) := by decide +kernel
theorem d_D_obstacle_46 : decode b_D_obstacle 46 = .ok (.getfield 73, 3) := by decide +kernel
theorem d_D_obstacle_49 : decode b_D_obstacle 49 = .ok (.invokevirtual 203, 3) := by decide +kernel
theorem d_D_obstacle_52 : decode b_D_obstacle 52 = .ok (.ifCond .ne 5, 3) := by decide +kernel
theorem d_D_obstacle_55 : decode b_D_obstacle 55 = .ok (.iconst 3, 1) := by decide +kernel
theorem d_D_obstacle_56 : decode b_D_obstacle 56 = .ok (.ireturn, 1) := by decide +kernel
theorem d_D_obstacle_57 : decode b_D_obstacle 57 = .ok (.aload_n 3, 1) := by decide +kernel
theorem d_D_obstacle_58 : decode b_D_obstacle 58 = .ok (.iload_n 2, 1) := by decide +kernel
theorem d_D_obstacle_59 : decode b_D_obstacle 59 = .ok (.invokevirtual 206, 3) := by decide +kernel
theorem d_D_obstacle_62 : decode b_D_obstacle 62 = .ok (.ifCond .eq 5, 3) := by decide +kernel
theorem d_D_obstacle_65 : decode b_D_obstacle 65 = .ok (.iconst 4, 1) := by decide +kernel
theorem d_D_obstacle_66 : decode b_D_obstacle 66 = .ok (.ireturn, 1) := by decide +kernel
theorem d_D_obstacle_67 : decode b_D_obstacle 67 = .ok (.aload_n 0, 1) := by decide +kernel
theorem d_D_obstacle_68 : decode b_D_obstacle 68 = .ok (.getfield 23, 3) := by decide +kernel
theorem d_D_obstacle_71 : decode b_D_obstacle 71 = .ok (.aload 4, 2) := by decide +kernel
theorem d_D_obstacle_73 : decode b_D_obstacle 73 = .ok (.getfield 87, 3) := by decide +kernel
theorem d_D_obstacle_76 : decode b_D_obstacle 76 = .ok (.baload, 1) := by decide +kernel
theorem d_D_obstacle_77 : decode b_D_obstacle 77 = .ok (.ifCond .eq 7, 3) := by decide +kernel
theorem d_D_obstacle_80 : decode b_D_obstacle 80 = .ok (.iconst 5, 1) := by decide +kernel
theorem d_D_obstacle_81 : decode b_D_obstacle 81 = .ok (.goto 4, 3) := by decide +kernel
theorem d_D_obstacle_84 : decode b_D_obstacle 84 = .ok (.iconst 0, 1) := by decide +kernel
theorem d_D_obstacle_85 : decode b_D_obstacle 85 = .ok (.ireturn, 1) := by decide +kernel
theorem d_O_takesLot_0 : decode b_O_takesLot 0 = .ok (.aload_n 0, 1) := by decide +kernel
theorem d_O_takesLot_1 : decode b_O_takesLot 1 = .ok (.getfield 7, 3) := by decide +kernel
theorem d_O_takesLot_4 : decode b_O_takesLot 4 = .ok (.iconst 1, 1) := by decide +kernel
theorem d_O_takesLot_5 : decode b_O_takesLot 5 = .ok (.iload_n 1, 1) := by decide +kernel
theorem d_O_takesLot_6 : decode b_O_takesLot 6 = .ok (.ishl, 1) := by decide +kernel
theorem d_O_takesLot_7 : decode b_O_takesLot 7 = .ok (.iand, 1) := by decide +kernel
theorem d_O_takesLot_8 : decode b_O_takesLot 8 = .ok (.ifCond .eq 7, 3) := by decide +kernel
theorem d_O_takesLot_11 : decode b_O_takesLot 11 = .ok (.iconst 1, 1) := by decide +kernel
theorem d_O_takesLot_12 : decode b_O_takesLot 12 = .ok (.goto 4, 3) := by decide +kernel
theorem d_O_takesLot_15 : decode b_O_takesLot 15 = .ok (.iconst 0, 1) := by decide +kernel
theorem d_O_takesLot_16 : decode b_O_takesLot 16 = .ok (.ireturn, 1) := by decide +kernel
theorem d_A_isBarredFor_0 : decode b_A_isBarredFor 0 = .ok (.aload_n 0, 1) := by decide +kernel
theorem d_A_isBarredFor_1 : decode b_A_isBarredFor 1 = .ok (.getfield 16, 3) := by decide +kernel
theorem d_A_isBarredFor_4 : decode b_A_isBarredFor 4 = .ok (.iconst 1, 1) := by decide +kernel
theorem d_A_isBarredFor_5 : decode b_A_isBarredFor 5 = .ok (.iload_n 1, 1) := by decide +kernel
theorem d_A_isBarredFor_6 : decode b_A_isBarredFor 6 = .ok (.ishl, 1) := by decide +kernel
theorem d_A_isBarredFor_7 : decode b_A_isBarredFor 7 = .ok (.iand, 1) := by decide +kernel
theorem d_A_isBarredFor_8 : decode b_A_isBarredFor 8 = .ok (.ifCond .eq 7, 3) := by decide +kernel
theorem d_A_isBarredFor_11 : decode b_A_isBarredFor 11 = .ok (.iconst 1, 1) := by decide +kernel
theorem d_A_isBarredFor_12 : decode b_A_isBarredFor 12 = .ok (.goto 4, 3) := by decide +kernel
theorem d_A_isBarredFor_15 : decode b_A_isBarredFor 15 = .ok (.iconst 0, 1) := by decide +kernel
theorem d_A_isBarredFor_16 : decode b_A_isBarredFor 16 = .ok (.ireturn, 1) := by decide +kernel
theorem d_D_ordersFor_0 : decode b_D_ordersFor 0 = .ok (.iconst 0, 1) := by decide +kernel
theorem d_D_ordersFor_1 : decode b_D_ordersFor 1 = .ok (.istore_n 2, 1) := by decide +kernel
theorem d_D_ordersFor_2 : decode b_D_ordersFor 2 = .ok (.iconst 0, 1) := by decide +kernel
theorem d_D_ordersFor_3 : decode b_D_ordersFor 3 = .ok (.istore_n 3, 1) := by decide +kernel
theorem d_D_ordersFor_4 : decode b_D_ordersFor 4 = .ok (.iload_n 3, 1) := by decide +kernel
theorem d_D_ordersFor_5 : decode b_D_ordersFor 5 = .ok (.aload_n 0, 1) := by decide +kernel
theorem d_D_ordersFor_6 : decode b_D_ordersFor 6 = .ok (.getfield 52, 3) := by decide +kernel
theorem d_D_ordersFor_9 : decode b_D_ordersFor 9 = .ok (.if_icmp .ge 21, 3) := by decide +kernel
theorem d_D_ordersFor_12 : decode b_D_ordersFor 12 = .ok (.aload_n 0, 1) := by decide +kernel
theorem d_D_ordersFor_13 : decode b_D_ordersFor 13 = .ok (.iload_n 1, 1) := by decide +kernel
theorem d_D_ordersFor_14 : decode b_D_ordersFor 14 = .ok (.iload_n 3, 1) := by decide +kernel
theorem d_D_ordersFor_15 : decode b_D_ordersFor 15 = .ok (.invokevirtual 117, 3) := by decide +kernel
theorem d_D_ordersFor_18 : decode b_D_ordersFor 18 = .ok (.ifCond .eq 6, 3) := by decide +kernel
theorem d_D_ordersFor_21 : decode b_D_ordersFor 21 = .ok (.iinc 2 1, 3) := by decide +kernel
theorem d_D_ordersFor_24 : decode b_D_ordersFor 24 = .ok (.iinc 3 1, 3) := by decide +kernel
theorem d_D_ordersFor_27 : decode b_D_ordersFor 27 = .ok (.goto (-23), 3) := by decide +kernel
theorem d_D_ordersFor_30 : decode b_D_ordersFor 30 = .ok (.iload_n 2, 1) := by decide +kernel
theorem d_D_ordersFor_31 : decode b_D_ordersFor 31 = .ok (.ireturn, 1) := by decide +kernel
theorem d_D_steps_0 : decode b_D_steps 0 = .ok (.aload_n 0, 1) := by decide +kernel
theorem d_D_steps_1 : decode b_D_steps 1 = .ok (.getfield 59, 3) := by decide +kernel
theorem d_D_steps_4 : decode b_D_steps 4 = .ok (.ireturn, 1) := by decide +kernel
theorem d_D_saved_0 : decode b_D_saved 0 = .ok (.aload_n 0, 1) := by decide +kernel
theorem d_D_saved_1 : decode b_D_saved 1 = .ok (.invokevirtual 138, 3) := by decide +kernel
theorem d_D_saved_4 : decode b_D_saved 4 = .ok (.ireturn, 1) := by decide +kernel
theorem d_D_touchesSaved_0 : decode b_D_touchesSaved 0 = .ok (.iconst 2, 1) := by decide +kernel
theorem d_D_touchesSaved_1 : decode b_D_touchesSaved 1 = .ok (.aload_n 0, 1) := by decide +kernel
theorem d_D_touchesSaved_2 : decode b_D_touchesSaved 2 = .ok (.getfield 44, 3) := by decide +kernel
theorem d_D_touchesSaved_5 : decode b_D_touchesSaved 5 = .ok (.invokevirtual 182, 3) := by decide +kernel
theorem d_D_touchesSaved_8 : decode b_D_touchesSaved 8 = .ok (.imul, 1) := by decide +kernel
theorem d_D_touchesSaved_9 : decode b_D_touchesSaved 9 = .ok (.istore_n 1, 1) := by decide +kernel
theorem d_D_touchesSaved_10 : decode b_D_touchesSaved 10 = .ok (.iconst 0, 1) := by decide +kernel
theorem d_D_touchesSaved_11 : decode b_D_touchesSaved 11 = .ok (.istore_n 2, 1) := by decide +kernel
theorem d_D_touchesSaved_12 : decode b_D_touchesSaved 12 = .ok (.iload_n 2, 1) := by decide +kernel
theorem d_D_touchesSaved_13 : decode b_D_touchesSaved 13 = .ok (.aload_n 0, 1) := by decide +kernel
theorem d_D_touchesSaved_14 : decode b_D_touchesSaved 14 = .ok (.getfield 52, 3) := by decide +kernel
theorem d_D_touchesSaved_17 : decode b_D_touchesSaved 17 = .ok (.if_icmp .ge 32, 3) := by decide +kernel
theorem d_D_touchesSaved_20 : decode b_D_touchesSaved 20 = .ok (.aload_n 0, 1) := by decide +kernel
theorem d_D_touchesSaved_21 : decode b_D_touchesSaved 21 = .ok (.getfield 44, 3) := by decide +kernel
theorem d_D_touchesSaved_24 : decode b_D_touchesSaved 24 = .ok (.iload_n 2, 1) := by decide +kernel
theorem d_D_touchesSaved_25 : decode b_D_touchesSaved 25 = .ok (.invokevirtual 176, 3) := by decide +kernel
theorem d_D_touchesSaved_28 : decode b_D_touchesSaved 28 = .ok (.aload_n 0, 1) := by decide +kernel
theorem d_D_touchesSaved_29 : decode b_D_touchesSaved 29 = .ok (.getfield 18, 3) := by decide +kernel
theorem d_D_touchesSaved_32 : decode b_D_touchesSaved 32 = .ok (.iload_n 2, 1) := by decide +kernel
theorem d_D_touchesSaved_33 : decode b_D_touchesSaved 33 = .ok (.aaload, 1) := by decide +kernel
theorem d_D_touchesSaved_34 : decode b_D_touchesSaved 34 = .ok (.getfield 83, 3) := by decide +kernel
theorem d_D_touchesSaved_37 : decode b_D_touchesSaved 37 = .ok (.if_icmp .ne 6, 3) := by decide +kernel
theorem d_D_touchesSaved_40 : decode b_D_touchesSaved 40 = .ok (.iinc 1 3, 3) := by decide +kernel
theorem d_D_touchesSaved_43 : decode b_D_touchesSaved 43 = .ok (.iinc 2 1, 3) := by decide +kernel
theorem d_D_touchesSaved_46 : decode b_D_touchesSaved 46 = .ok (.goto (-34), 3) := by decide +kernel
theorem d_D_touchesSaved_49 : decode b_D_touchesSaved 49 = .ok (.iconst 0, 1) := by decide +kernel
theorem d_D_touchesSaved_50 : decode b_D_touchesSaved 50 = .ok (.istore_n 2, 1) := by decide +kernel
theorem d_D_touchesSaved_51 : decode b_D_touchesSaved 51 = .ok (.iload_n 2, 1) := by decide +kernel
theorem d_D_touchesSaved_52 : decode b_D_touchesSaved 52 = .ok (.aload_n 0, 1) := by decide +kernel
theorem d_D_touchesSaved_53 : decode b_D_touchesSaved 53 = .ok (.getfield 44, 3) := by decide +kernel
theorem d_D_touchesSaved_56 : decode b_D_touchesSaved 56 = .ok (.getfield 148, 3) := by decide +kernel
theorem d_D_touchesSaved_59 : decode b_D_touchesSaved 59 = .ok (.if_icmp .ge 41, 3) := by decide +kernel
theorem d_D_touchesSaved_62 : decode b_D_touchesSaved 62 = .ok (.aload_n 0, 1) := by decide +kernel
theorem d_D_touchesSaved_63 : decode b_D_touchesSaved 63 = .ok (.getfield 44, 3) := by decide +kernel
theorem d_D_touchesSaved_66 : decode b_D_touchesSaved 66 = .ok (.getfield 157, 3) := by decide +kernel
theorem d_D_touchesSaved_69 : decode b_D_touchesSaved 69 = .ok (.iload_n 2, 1) := by decide +kernel
theorem d_D_touchesSaved_70 : decode b_D_touchesSaved 70 = .ok (.iaload, 1) := by decide +kernel
theorem d_D_touchesSaved_71 : decode b_D_touchesSaved 71 = .ok (.aload_n 0, 1) := by decide +kernel
theorem d_D_touchesSaved_72 : decode b_D_touchesSaved 72 = .ok (.getfield 11, 3) := by decide +kernel
theorem d_D_touchesSaved_75 : decode b_D_touchesSaved 75 = .ok (.aload_n 0, 1) := by decide +kernel
theorem d_D_touchesSaved_76 : decode b_D_touchesSaved 76 = .ok (.getfield 44, 3) := by decide +kernel
theorem d_D_touchesSaved_79 : decode b_D_touchesSaved 79 = .ok (.getfield 151, 3) := by decide +kernel
theorem d_D_touchesSaved_82 : decode b_D_touchesSaved 82 = .ok (.iload_n 2, 1) := by decide +kernel
theorem d_D_touchesSaved_83 : decode b_D_touchesSaved 83 = .ok (.iaload, 1) := by decide +kernel
theorem d_D_touchesSaved_84 : decode b_D_touchesSaved 84 = .ok (.aaload, 1) := by decide +kernel
theorem d_D_touchesSaved_85 : decode b_D_touchesSaved 85 = .ok (.invokevirtual 173, 3) := by decide +kernel
theorem d_D_touchesSaved_88 : decode b_D_touchesSaved 88 = .ok (.if_icmp .ne 6, 3) := by decide +kernel
theorem d_D_touchesSaved_91 : decode b_D_touchesSaved 91 = .ok (.iinc 1 1, 3) := by decide +kernel
theorem d_D_touchesSaved_94 : decode b_D_touchesSaved 94 = .ok (.iinc 2 1, 3) := by decide +kernel
theorem d_D_touchesSaved_97 : decode b_D_touchesSaved 97 = .ok (.goto (-46), 3) := by decide +kernel
theorem d_D_touchesSaved_100 : decode b_D_touchesSaved 100 = .ok (.iload_n 1, 1) := by decide +kernel
theorem d_D_touchesSaved_101 : decode b_D_touchesSaved 101 = .ok (.ireturn, 1) := by decide +kernel
theorem d_P_palletsInAll_0 : decode b_P_palletsInAll 0 = .ok (.iconst 0, 1) := by decide +kernel
theorem d_P_palletsInAll_1 : decode b_P_palletsInAll 1 = .ok (.istore_n 1, 1) := by decide +kernel
theorem d_P_palletsInAll_2 : decode b_P_palletsInAll 2 = .ok (.iconst 0, 1) := by decide +kernel
theorem d_P_palletsInAll_3 : decode b_P_palletsInAll 3 = .ok (.istore_n 2, 1) := by decide +kernel
theorem d_P_palletsInAll_4 : decode b_P_palletsInAll 4 = .ok (.iload_n 2, 1) := by decide +kernel
theorem d_P_palletsInAll_5 : decode b_P_palletsInAll 5 = .ok (.aload_n 0, 1) := by decide +kernel
theorem d_P_palletsInAll_6 : decode b_P_palletsInAll 6 = .ok (.getfield 21, 3) := by decide +kernel
theorem d_P_palletsInAll_9 : decode b_P_palletsInAll 9 = .ok (.if_icmp .ge 18, 3) := by decide +kernel
theorem d_P_palletsInAll_12 : decode b_P_palletsInAll 12 = .ok (.iload_n 1, 1) := by decide +kernel
theorem d_P_palletsInAll_13 : decode b_P_palletsInAll 13 = .ok (.aload_n 0, 1) := by decide +kernel
theorem d_P_palletsInAll_14 : decode b_P_palletsInAll 14 = .ok (.getfield 18, 3) := by decide +kernel
theorem d_P_palletsInAll_17 : decode b_P_palletsInAll 17 = .ok (.iload_n 2, 1) := by decide +kernel
theorem d_P_palletsInAll_18 : decode b_P_palletsInAll 18 = .ok (.iaload, 1) := by decide +kernel
theorem d_P_palletsInAll_19 : decode b_P_palletsInAll 19 = .ok (.iadd, 1) := by decide +kernel
theorem d_P_palletsInAll_20 : decode b_P_palletsInAll 20 = .ok (.istore_n 1, 1) := by decide +kernel
theorem d_P_palletsInAll_21 : decode b_P_palletsInAll 21 = .ok (.iinc 2 1, 3) := by decide +kernel
theorem d_P_palletsInAll_24 : decode b_P_palletsInAll 24 = .ok (.goto (-20), 3) := by decide +kernel
theorem d_P_palletsInAll_27 : decode b_P_palletsInAll 27 = .ok (.iload_n 1, 1) := by decide +kernel
theorem d_P_palletsInAll_28 : decode b_P_palletsInAll 28 = .ok (.ireturn, 1) := by decide +kernel
theorem d_P_palletsFor_0 : decode b_P_palletsFor 0 = .ok (.iconst 0, 1) := by decide +kernel
theorem d_P_palletsFor_1 : decode b_P_palletsFor 1 = .ok (.istore_n 2, 1) := by decide +kernel
theorem d_P_palletsFor_2 : decode b_P_palletsFor 2 = .ok (.iconst 0, 1) := by decide +kernel
theorem d_P_palletsFor_3 : decode b_P_palletsFor 3 = .ok (.istore_n 3, 1) := by decide +kernel
theorem d_P_palletsFor_4 : decode b_P_palletsFor 4 = .ok (.iload_n 3, 1) := by decide +kernel
theorem d_P_palletsFor_5 : decode b_P_palletsFor 5 = .ok (.aload_n 0, 1) := by decide +kernel
theorem d_P_palletsFor_6 : decode b_P_palletsFor 6 = .ok (.getfield 21, 3) := by decide +kernel
theorem d_P_palletsFor_9 : decode b_P_palletsFor 9 = .ok (.if_icmp .ge 28, 3) := by decide +kernel
theorem d_P_palletsFor_12 : decode b_P_palletsFor 12 = .ok (.aload_n 0, 1) := by decide +kernel
theorem d_P_palletsFor_13 : decode b_P_palletsFor 13 = .ok (.getfield 15, 3) := by decide +kernel
theorem d_P_palletsFor_16 : decode b_P_palletsFor 16 = .ok (.iload_n 3, 1) := by decide +kernel
theorem d_P_palletsFor_17 : decode b_P_palletsFor 17 = .ok (.iaload, 1) := by decide +kernel
theorem d_P_palletsFor_18 : decode b_P_palletsFor 18 = .ok (.iload_n 1, 1) := by decide +kernel
theorem d_P_palletsFor_19 : decode b_P_palletsFor 19 = .ok (.if_icmp .ne 12, 3) := by decide +kernel
theorem d_P_palletsFor_22 : decode b_P_palletsFor 22 = .ok (.iload_n 2, 1) := by decide +kernel
theorem d_P_palletsFor_23 : decode b_P_palletsFor 23 = .ok (.aload_n 0, 1) := by decide +kernel
theorem d_P_palletsFor_24 : decode b_P_palletsFor 24 = .ok (.getfield 18, 3) := by decide +kernel
theorem d_P_palletsFor_27 : decode b_P_palletsFor 27 = .ok (.iload_n 3, 1) := by decide +kernel
theorem d_P_palletsFor_28 : decode b_P_palletsFor 28 = .ok (.iaload, 1) := by decide +kernel
theorem d_P_palletsFor_29 : decode b_P_palletsFor 29 = .ok (.iadd, 1) := by decide +kernel
theorem d_P_palletsFor_30 : decode b_P_palletsFor 30 = .ok (.istore_n 2, 1) := by decide +kernel
theorem d_P_palletsFor_31 : decode b_P_palletsFor 31 = .ok (.iinc 3 1, 3) := by decide +kernel
theorem d_P_palletsFor_34 : decode b_P_palletsFor 34 = .ok (.goto (-30), 3) := by decide +kernel
theorem d_P_palletsFor_37 : decode b_P_palletsFor 37 = .ok (.iload_n 2, 1) := by decide +kernel
theorem d_P_palletsFor_38 : decode b_P_palletsFor 38 = .ok (.ireturn, 1) := by decide +kernel
theorem d_A_toGive_0 : decode b_A_toGive 0 = .ok (.aload_n 0, 1) := by decide +kernel
theorem d_A_toGive_1 : decode b_A_toGive 1 = .ok (.getfield 7, 3) := by decide +kernel
theorem d_A_toGive_4 : decode b_A_toGive 4 = .ok (.aload_n 0, 1) := by decide +kernel
theorem d_A_toGive_5 : decode b_A_toGive 5 = .ok (.getfield 13, 3) := by decide +kernel
theorem d_A_toGive_8 : decode b_A_toGive 8 = .ok (.isub, 1) := by decide +kernel
theorem d_A_toGive_9 : decode b_A_toGive 9 = .ok (.ireturn, 1) := by decide +kernel
theorem d_D_count_0 : decode b_D_count 0 = .ok (.iload_n 1, 1) := by decide +kernel
theorem d_D_count_1 : decode b_D_count 1 = .ok (.tableswitch 66 0 4 #[35, 40, 45, 53, 61], 35) := by decide +kernel
theorem d_D_count_36 : decode b_D_count 36 = .ok (.aload_n 0, 1) := by decide +kernel
theorem d_D_count_37 : decode b_D_count 37 = .ok (.getfield 48, 3) := by decide +kernel
theorem d_D_count_40 : decode b_D_count 40 = .ok (.ireturn, 1) := by decide +kernel
theorem d_D_count_41 : decode b_D_count 41 = .ok (.aload_n 0, 1) := by decide +kernel
theorem d_D_count_42 : decode b_D_count 42 = .ok (.getfield 52, 3) := by decide +kernel
theorem d_D_count_45 : decode b_D_count 45 = .ok (.ireturn, 1) := by decide +kernel
theorem d_D_count_46 : decode b_D_count 46 = .ok (.aload_n 0, 1) := by decide +kernel
theorem d_D_count_47 : decode b_D_count 47 = .ok (.getfield 44, 3) := by decide +kernel
theorem d_D_count_50 : decode b_D_count 50 = .ok (.getfield 148, 3) := by decide +kernel
theorem d_D_count_53 : decode b_D_count 53 = .ok (.ireturn, 1) := by decide +kernel
theorem d_D_count_54 : decode b_D_count 54 = .ok (.aload_n 0, 1) := by decide +kernel
theorem d_D_count_55 : decode b_D_count 55 = .ok (.getfield 44, 3) := by decide +kernel
theorem d_D_count_58 : decode b_D_count 58 = .ok (.invokevirtual 182, 3) := by decide +kernel
theorem d_D_count_61 : decode b_D_count 61 = .ok (.ireturn, 1) := by decide +kernel
theorem d_D_count_62 : decode b_D_count 62 = .ok (.aload_n 0, 1) := by decide +kernel
theorem d_D_count_63 : decode b_D_count 63 = .ok (.invokevirtual 185, 3) := by decide +kernel
theorem d_D_count_66 : decode b_D_count 66 = .ok (.ireturn, 1) := by decide +kernel
theorem d_D_count_67 : decode b_D_count 67 = .ok (.iconst (-1), 1) := by decide +kernel
theorem d_D_count_68 : decode b_D_count 68 = .ok (.ireturn, 1) := by decide +kernel
theorem d_D_fullLanes_0 : decode b_D_fullLanes 0 = .ok (.iconst 0, 1) := by decide +kernel
theorem d_D_fullLanes_1 : decode b_D_fullLanes 1 = .ok (.istore_n 1, 1) := by decide +kernel
theorem d_D_fullLanes_2 : decode b_D_fullLanes 2 = .ok (.iconst 0, 1) := by decide +kernel
theorem d_D_fullLanes_3 : decode b_D_fullLanes 3 = .ok (.istore_n 2, 1) := by decide +kernel
theorem d_D_fullLanes_4 : decode b_D_fullLanes 4 = .ok (.iload_n 2, 1) := by decide +kernel
theorem d_D_fullLanes_5 : decode b_D_fullLanes 5 = .ok (.iconst 4, 1) := by decide +kernel
theorem d_D_fullLanes_6 : decode b_D_fullLanes 6 = .ok (.if_icmp .ge 21, 3) := by decide +kernel
theorem d_D_fullLanes_9 : decode b_D_fullLanes 9 = .ok (.aload_n 0, 1) := by decide +kernel
theorem d_D_fullLanes_10 : decode b_D_fullLanes 10 = .ok (.getfield 23, 3) := by decide +kernel
theorem d_D_fullLanes_13 : decode b_D_fullLanes 13 = .ok (.iload_n 2, 1) := by decide +kernel
theorem d_D_fullLanes_14 : decode b_D_fullLanes 14 = .ok (.baload, 1) := by decide +kernel
theorem d_D_fullLanes_15 : decode b_D_fullLanes 15 = .ok (.ifCond .eq 6, 3) := by decide +kernel
theorem d_D_fullLanes_18 : decode b_D_fullLanes 18 = .ok (.iinc 1 1, 3) := by decide +kernel
theorem d_D_fullLanes_21 : decode b_D_fullLanes 21 = .ok (.iinc 2 1, 3) := by decide +kernel
theorem d_D_fullLanes_24 : decode b_D_fullLanes 24 = .ok (.goto (-20), 3) := by decide +kernel
theorem d_D_fullLanes_27 : decode b_D_fullLanes 27 = .ok (.iload_n 1, 1) := by decide +kernel
theorem d_D_fullLanes_28 : decode b_D_fullLanes 28 = .ok (.ireturn, 1) := by decide +kernel
theorem d_L_arrive_0 : decode b_L_arrive 0 = .ok (.aload 5, 2) := by decide +kernel
theorem d_L_arrive_2 : decode b_L_arrive 2 = .ok (.iconst 0, 1) := by decide +kernel
theorem d_L_arrive_3 : decode b_L_arrive 3 = .ok (.aload_n 0, 1) := by decide +kernel
theorem d_L_arrive_4 : decode b_L_arrive 4 = .ok (.iload_n 1, 1) := by decide +kernel
theorem d_L_arrive_5 : decode b_L_arrive 5 = .ok (.iload_n 2, 1) := by decide +kernel
theorem d_L_arrive_6 : decode b_L_arrive 6 = .ok (.iload_n 3, 1) := by decide +kernel
theorem d_L_arrive_7 : decode b_L_arrive 7 = .ok (.iload 4, 2) := by decide +kernel
theorem d_L_arrive_9 : decode b_L_arrive 9 = .ok (.invokevirtual 7, 3) := by decide +kernel
theorem d_L_arrive_12 : decode b_L_arrive 12 = .ok (.i2l, 1) := by decide +kernel
theorem d_L_arrive_13 : decode b_L_arrive 13 = .ok (.lastore, 1) := by decide +kernel
theorem d_L_arrive_14 : decode b_L_arrive 14 = .ok (.goto 11, 3) := by decide +kernel
theorem d_L_arrive_17 : decode b_L_arrive 17 = .ok (.astore 6, 2) := by decide +kernel
theorem d_L_arrive_19 : decode b_L_arrive 19 = .ok (.iconst 1, 1) := by decide +kernel
theorem d_L_arrive_20 : decode b_L_arrive 20 = .ok (.ireturn, 1) := by decide +kernel
theorem d_L_arrive_21 : decode b_L_arrive 21 = .ok (.astore 6, 2) := by decide +kernel
theorem d_L_arrive_23 : decode b_L_arrive 23 = .ok (.iconst 2, 1) := by decide +kernel
theorem d_L_arrive_24 : decode b_L_arrive 24 = .ok (.ireturn, 1) := by decide +kernel
theorem d_L_arrive_25 : decode b_L_arrive 25 = .ok (.iconst 0, 1) := by decide +kernel
theorem d_L_arrive_26 : decode b_L_arrive 26 = .ok (.ireturn, 1) := by decide +kernel
theorem d_D_arrive_0 : decode b_D_arrive 0 = .ok (.iload_n 1, 1) := by decide +kernel
theorem d_D_arrive_1 : decode b_D_arrive 1 = .ok (.iconst 0, 1) := by decide +kernel
theorem d_D_arrive_2 : decode b_D_arrive 2 = .ok (.bipush 7, 2) := by decide +kernel
theorem d_D_arrive_4 : decode b_D_arrive 4 = .ok (.invokestatic 62, 3) := by decide +kernel
theorem d_D_arrive_7 : decode b_D_arrive 7 = .ok (.iload_n 2, 1) := by decide +kernel
theorem d_D_arrive_8 : decode b_D_arrive 8 = .ok (.iconst 0, 1) := by decide +kernel
theorem d_D_arrive_9 : decode b_D_arrive 9 = .ok (.bipush 9, 2) := by decide +kernel
theorem d_D_arrive_11 : decode b_D_arrive 11 = .ok (.invokestatic 62, 3) := by decide +kernel
theorem d_D_arrive_14 : decode b_D_arrive 14 = .ok (.iload_n 3, 1) := by decide +kernel
theorem d_D_arrive_15 : decode b_D_arrive 15 = .ok (.iconst 0, 1) := by decide +kernel
theorem d_D_arrive_16 : decode b_D_arrive 16 = .ok (.sipush 1000, 3) := by decide +kernel
theorem d_D_arrive_19 : decode b_D_arrive 19 = .ok (.invokestatic 62, 3) := by decide +kernel
theorem d_D_arrive_22 : decode b_D_arrive 22 = .ok (.iload 4, 2) := by decide +kernel
theorem d_D_arrive_24 : decode b_D_arrive 24 = .ok (.iconst 1, 1) := by decide +kernel
theorem d_D_arrive_25 : decode b_D_arrive 25 = .ok (.bipush 6, 2) := by decide +kernel
theorem d_D_arrive_27 : decode b_D_arrive 27 = .ok (.invokestatic 62, 3) := by decide +kernel
theorem d_D_arrive_30 : decode b_D_arrive 30 = .ok (.aload_n 0, 1) := by decide +kernel
theorem d_D_arrive_31 : decode b_D_arrive 31 = .ok (.getfield 48, 3) := by decide +kernel
theorem d_D_arrive_34 : decode b_D_arrive 34 = .ok (.bipush 8, 2) := by decide +kernel
theorem d_D_arrive_36 : decode b_D_arrive 36 = .ok (.invokestatic 66, 3) := by decide +kernel
theorem d_D_arrive_39 : decode b_D_arrive 39 = .ok (.aload_n 0, 1) := by decide +kernel
theorem d_D_arrive_40 : decode b_D_arrive 40 = .ok (.getfield 11, 3) := by decide +kernel
theorem d_D_arrive_43 : decode b_D_arrive 43 = .ok (.aload_n 0, 1) := by decide +kernel
theorem d_D_arrive_44 : decode b_D_arrive 44 = .ok (.getfield 48, 3) := by decide +kernel
theorem d_D_arrive_47 : decode b_D_arrive 47 = .ok (.aaload, 1) := by decide +kernel
theorem d_D_arrive_48 : decode b_D_arrive 48 = .ok (.astore 5, 2) := by decide +kernel
theorem d_D_arrive_50 : decode b_D_arrive 50 = .ok (.aload 5, 2) := by decide +kernel
theorem d_D_arrive_52 : decode b_D_arrive 52 = .ok (.iload_n 1, 1) := by decide +kernel
theorem d_D_arrive_53 : decode b_D_arrive 53 = .ok (.putfield 70, 3) := by decide +kernel
theorem d_D_arrive_56 : decode b_D_arrive 56 = .ok (.aload 5, 2) := by decide +kernel
theorem d_D_arrive_58 : decode b_D_arrive 58 = .ok (.iload_n 2, 1) := by decide +kernel
theorem d_D_arrive_59 : decode b_D_arrive 59 = .ok (.putfield 73, 3) := by decide +kernel
theorem d_D_arrive_62 : decode b_D_arrive 62 = .ok (.aload 5, 2) := by decide +kernel
theorem d_D_arrive_64 : decode b_D_arrive 64 = .ok (.iload_n 3, 1) := by decide +kernel
theorem d_D_arrive_65 : decode b_D_arrive 65 = .ok (.putfield 76, 3) := by decide +kernel
theorem d_D_arrive_68 : decode b_D_arrive 68 = .ok (.aload 5, 2) := by decide +kernel
theorem d_D_arrive_70 : decode b_D_arrive 70 = .ok (.iload 4, 2) := by decide +kernel
theorem d_D_arrive_72 : decode b_D_arrive 72 = .ok (.putfield 79, 3) := by decide +kernel
theorem d_D_arrive_75 : decode b_D_arrive 75 = .ok (.aload_n 0, 1) := by decide +kernel
theorem d_D_arrive_76 : decode b_D_arrive 76 = .ok (.dup, 1) := by decide +kernel
theorem d_D_arrive_77 : decode b_D_arrive 77 = .ok (.getfield 48, 3) := by decide +kernel
theorem d_D_arrive_80 : decode b_D_arrive 80 = .ok (.iconst 1, 1) := by decide +kernel
theorem d_D_arrive_81 : decode b_D_arrive 81 = .ok (.iadd, 1) := by decide +kernel
theorem d_D_arrive_82 : decode b_D_arrive 82 = .ok (.putfield 48, 3) := by decide +kernel
theorem d_D_arrive_85 : decode b_D_arrive 85 = .ok (.aload_n 0, 1) := by decide +kernel
theorem d_D_arrive_86 : decode b_D_arrive 86 = .ok (.getfield 48, 3) := by decide +kernel
theorem d_D_arrive_89 : decode b_D_arrive 89 = .ok (.iconst 1, 1) := by decide +kernel
theorem d_D_arrive_90 : decode b_D_arrive 90 = .ok (.isub, 1) := by decide +kernel
theorem d_D_arrive_91 : decode b_D_arrive 91 = .ok (.ireturn, 1) := by decide +kernel
theorem d_D_checkRange_0 : decode b_D_checkRange 0 = .ok (.iload_n 0, 1) := by decide +kernel
theorem d_D_checkRange_1 : decode b_D_checkRange 1 = .ok (.iload_n 1, 1) := by decide +kernel
theorem d_D_checkRange_2 : decode b_D_checkRange 2 = .ok (.if_icmp .lt 8, 3) := by decide +kernel
theorem d_D_checkRange_5 : decode b_D_checkRange 5 = .ok (.iload_n 0, 1) := by decide +kernel
theorem d_D_checkRange_6 : decode b_D_checkRange 6 = .ok (.iload_n 2, 1) := by decide +kernel
theorem d_D_checkRange_7 : decode b_D_checkRange 7 = .ok (.if_icmp .le 13, 3) := by decide +kernel
theorem d_D_checkRange_10 : decode b_D_checkRange 10 = .ok (.new 193, 3) := by decide +kernel
theorem d_D_checkRange_13 : decode b_D_checkRange 13 = .ok (.dup, 1) := by decide +kernel
theorem d_D_checkRange_14 : decode b_D_checkRange 14 = .ok (.ldc 195, 2) := by decide +kernel
theorem d_D_checkRange_16 : decode b_D_checkRange 16 = .ok (.invokespecial 197, 3) := by decide +kernel
theorem d_D_checkRange_19 : decode b_D_checkRange 19 = .ok (.athrow, 1) := by decide +kernel
theorem d_D_checkRange_20 : decode b_D_checkRange 20 = .ok (.return_, 1) := by decide +kernel
theorem d_D_checkRoom_0 : decode b_D_checkRoom 0 = .ok (.iload_n 0, 1) := by decide +kernel
theorem d_D_checkRoom_1 : decode b_D_checkRoom 1 = .ok (.iload_n 1, 1) := by decide +kernel
theorem d_D_checkRoom_2 : decode b_D_checkRoom 2 = .ok (.if_icmp .lt 13, 3) := by decide +kernel
theorem d_D_checkRoom_5 : decode b_D_checkRoom 5 = .ok (.new 198, 3) := by decide +kernel
theorem d_D_checkRoom_8 : decode b_D_checkRoom 8 = .ok (.dup, 1) := by decide +kernel
theorem d_D_checkRoom_9 : decode b_D_checkRoom 9 = .ok (.ldc 200, 2) := by decide +kernel
theorem d_D_checkRoom_11 : decode b_D_checkRoom 11 = .ok (.invokespecial 202, 3) := by decide +kernel
theorem d_D_checkRoom_14 : decode b_D_checkRoom 14 = .ok (.athrow, 1) := by decide +kernel
theorem d_D_checkRoom_15 : decode b_D_checkRoom 15 = .ok (.return_, 1) := by decide +kernel
theorem d_L_order_0 : decode b_L_order 0 = .ok (.aload 5, 2) := by decide +kernel
theorem d_L_order_2 : decode b_L_order 2 = .ok (.iconst 0, 1) := by decide +kernel
theorem d_L_order_3 : decode b_L_order 3 = .ok (.aload_n 0, 1) := by decide +kernel
theorem d_L_order_4 : decode b_L_order 4 = .ok (.iload_n 1, 1) := by decide +kernel
theorem d_L_order_5 : decode b_L_order 5 = .ok (.iload_n 2, 1) := by decide +kernel
theorem d_L_order_6 : decode b_L_order 6 = .ok (.iload_n 3, 1) := by decide +kernel
theorem d_L_order_7 : decode b_L_order 7 = .ok (.iload 4, 2) := by decide +kernel
theorem d_L_order_9 : decode b_L_order 9 = .ok (.invokevirtual 17, 3) := by decide +kernel
theorem d_L_order_12 : decode b_L_order 12 = .ok (.i2l, 1) := by decide +kernel
theorem d_L_order_13 : decode b_L_order 13 = .ok (.lastore, 1) := by decide +kernel
theorem d_L_order_14 : decode b_L_order 14 = .ok (.goto 11, 3) := by decide +kernel
theorem d_L_order_17 : decode b_L_order 17 = .ok (.astore 6, 2) := by decide +kernel
theorem d_L_order_19 : decode b_L_order 19 = .ok (.iconst 1, 1) := by decide +kernel
theorem d_L_order_20 : decode b_L_order 20 = .ok (.ireturn, 1) := by decide +kernel
theorem d_L_order_21 : decode b_L_order 21 = .ok (.astore 6, 2) := by decide +kernel
theorem d_L_order_23 : decode b_L_order 23 = .ok (.iconst 2, 1) := by decide +kernel
theorem d_L_order_24 : decode b_L_order 24 = .ok (.ireturn, 1) := by decide +kernel
theorem d_L_order_25 : decode b_L_order 25 = .ok (.iconst 0, 1) := by decide +kernel
theorem d_L_order_26 : decode b_L_order 26 = .ok (.ireturn, 1) := by decide +kernel
theorem d_D_order_0 : decode b_D_order 0 = .ok (.iload_n 1, 1) := by decide +kernel
theorem d_D_order_1 : decode b_D_order 1 = .ok (.iconst 0, 1) := by decide +kernel
theorem d_D_order_2 : decode b_D_order 2 = .ok (.bipush 7, 2) := by decide +kernel
theorem d_D_order_4 : decode b_D_order 4 = .ok (.invokestatic 62, 3) := by decide +kernel
theorem d_D_order_7 : decode b_D_order 7 = .ok (.iload_n 2, 1) := by decide +kernel
theorem d_D_order_8 : decode b_D_order 8 = .ok (.iconst 1, 1) := by decide +kernel
theorem d_D_order_9 : decode b_D_order 9 = .ok (.bipush 6, 2) := by decide +kernel
theorem d_D_order_11 : decode b_D_order 11 = .ok (.invokestatic 62, 3) := by decide +kernel
theorem d_D_order_14 : decode b_D_order 14 = .ok (.iload_n 3, 1) := by decide +kernel
theorem d_D_order_15 : decode b_D_order 15 = .ok (.iconst 1, 1) := by decide +kernel
theorem d_D_order_16 : decode b_D_order 16 = .ok (.bipush 9, 2) := by decide +kernel
theorem d_D_order_18 : decode b_D_order 18 = .ok (.invokestatic 62, 3) := by decide +kernel
theorem d_D_order_21 : decode b_D_order 21 = .ok (.iload 4, 2) := by decide +kernel
theorem d_D_order_23 : decode b_D_order 23 = .ok (.iconst 0, 1) := by decide +kernel
theorem d_D_order_24 : decode b_D_order 24 = .ok (.iconst 3, 1) := by decide +kernel
theorem d_D_order_25 : decode b_D_order 25 = .ok (.invokestatic 62, 3) := by decide +kernel
theorem d_D_order_28 : decode b_D_order 28 = .ok (.aload_n 0, 1) := by decide +kernel
theorem d_D_order_29 : decode b_D_order 29 = .ok (.getfield 52, 3) := by decide +kernel
theorem d_D_order_32 : decode b_D_order 32 = .ok (.bipush 8, 2) := by decide +kernel
theorem d_D_order_34 : decode b_D_order 34 = .ok (.invokestatic 66, 3) := by decide +kernel
theorem d_D_order_37 : decode b_D_order 37 = .ok (.aload_n 0, 1) := by decide +kernel
theorem d_D_order_38 : decode b_D_order 38 = .ok (.getfield 18, 3) := by decide +kernel
theorem d_D_order_41 : decode b_D_order 41 = .ok (.aload_n 0, 1) := by decide +kernel
theorem d_D_order_42 : decode b_D_order 42 = .ok (.getfield 52, 3) := by decide +kernel
theorem d_D_order_45 : decode b_D_order 45 = .ok (.aaload, 1) := by decide +kernel
theorem d_D_order_46 : decode b_D_order 46 = .ok (.astore 5, 2) := by decide +kernel
theorem d_D_order_48 : decode b_D_order 48 = .ok (.aload 5, 2) := by decide +kernel
theorem d_D_order_50 : decode b_D_order 50 = .ok (.iload_n 1, 1) := by decide +kernel
theorem d_D_order_51 : decode b_D_order 51 = .ok (.putfield 82, 3) := by decide +kernel
theorem d_D_order_54 : decode b_D_order 54 = .ok (.aload 5, 2) := by decide +kernel
theorem d_D_order_56 : decode b_D_order 56 = .ok (.iload_n 2, 1) := by decide +kernel
theorem d_D_order_57 : decode b_D_order 57 = .ok (.putfield 83, 3) := by decide +kernel
theorem d_D_order_60 : decode b_D_order 60 = .ok (.aload 5, 2) := by decide +kernel
theorem d_D_order_62 : decode b_D_order 62 = .ok (.iload_n 3, 1) := by decide +kernel
theorem d_D_order_63 : decode b_D_order 63 = .ok (.putfield 84, 3) := by decide +kernel
theorem d_D_order_66 : decode b_D_order 66 = .ok (.aload 5, 2) := by decide +kernel
theorem d_D_order_68 : decode b_D_order 68 = .ok (.iload 4, 2) := by decide +kernel
theorem d_D_order_70 : decode b_D_order 70 = .ok (.putfield 87, 3) := by decide +kernel
theorem d_D_order_73 : decode b_D_order 73 = .ok (.aload 5, 2) := by decide +kernel
theorem d_D_order_75 : decode b_D_order 75 = .ok (.sipush 1000, 3) := by decide +kernel
theorem d_D_order_78 : decode b_D_order 78 = .ok (.putfield 90, 3) := by decide +kernel
theorem d_D_order_81 : decode b_D_order 81 = .ok (.aload 5, 2) := by decide +kernel
theorem d_D_order_83 : decode b_D_order 83 = .ok (.sipush 1023, 3) := by decide +kernel
theorem d_D_order_86 : decode b_D_order 86 = .ok (.putfield 93, 3) := by decide +kernel
theorem d_D_order_89 : decode b_D_order 89 = .ok (.aload_n 0, 1) := by decide +kernel
theorem d_D_order_90 : decode b_D_order 90 = .ok (.dup, 1) := by decide +kernel
theorem d_D_order_91 : decode b_D_order 91 = .ok (.getfield 52, 3) := by decide +kernel
theorem d_D_order_94 : decode b_D_order 94 = .ok (.iconst 1, 1) := by decide +kernel
theorem d_D_order_95 : decode b_D_order 95 = .ok (.iadd, 1) := by decide +kernel
theorem d_D_order_96 : decode b_D_order 96 = .ok (.putfield 52, 3) := by decide +kernel
theorem d_D_order_99 : decode b_D_order 99 = .ok (.aload_n 0, 1) := by decide +kernel
theorem d_D_order_100 : decode b_D_order 100 = .ok (.getfield 52, 3) := by decide +kernel
theorem d_D_order_103 : decode b_D_order 103 = .ok (.iconst 1, 1) := by decide +kernel
theorem d_D_order_104 : decode b_D_order 104 = .ok (.isub, 1) := by decide +kernel
theorem d_D_order_105 : decode b_D_order 105 = .ok (.ireturn, 1) := by decide +kernel
end
section
theorem d_L_wants_0 : decode b_L_wants 0 = .ok (.aload_n 0, 1) := by decide +kernel
theorem d_L_wants_1 : decode b_L_wants 1 = .ok (.iload_n 1, 1) := by decide +kernel
theorem d_L_wants_2 : decode b_L_wants 2 = .ok (.iload_n 2, 1) := by decide +kernel
theorem d_L_wants_3 : decode b_L_wants 3 = .ok (.iload_n 3, 1) := by decide +kernel
theorem d_L_wants_4 : decode b_L_wants 4 = .ok (.invokevirtual 20, 3) := by decide +kernel
theorem d_L_wants_7 : decode b_L_wants 7 = .ok (.goto 11, 3) := by decide +kernel
theorem d_L_wants_10 : decode b_L_wants 10 = .ok (.astore 4, 2) := by decide +kernel
theorem d_L_wants_12 : decode b_L_wants 12 = .ok (.iconst 1, 1) := by decide +kernel
theorem d_L_wants_13 : decode b_L_wants 13 = .ok (.ireturn, 1) := by decide +kernel
theorem d_L_wants_14 : decode b_L_wants 14 = .ok (.astore 4, 2) := by decide +kernel
theorem d_L_wants_16 : decode b_L_wants 16 = .ok (.iconst 2, 1) := by decide +kernel
theorem d_L_wants_17 : decode b_L_wants 17 = .ok (.ireturn, 1) := by decide +kernel
theorem d_L_wants_18 : decode b_L_wants 18 = .ok (.iconst 0, 1) := by decide +kernel
theorem d_L_wants_19 : decode b_L_wants 19 = .ok (.ireturn, 1) := by decide +kernel
theorem d_D_wants_0 : decode b_D_wants 0 = .ok (.iload_n 1, 1) := by decide +kernel
theorem d_D_wants_1 : decode b_D_wants 1 = .ok (.aload_n 0, 1) := by decide +kernel
theorem d_D_wants_2 : decode b_D_wants 2 = .ok (.getfield 52, 3) := by decide +kernel
theorem d_D_wants_5 : decode b_D_wants 5 = .ok (.invokestatic 96, 3) := by decide +kernel
theorem d_D_wants_8 : decode b_D_wants 8 = .ok (.iload_n 2, 1) := by decide +kernel
theorem d_D_wants_9 : decode b_D_wants 9 = .ok (.iconst 0, 1) := by decide +kernel
theorem d_D_wants_10 : decode b_D_wants 10 = .ok (.sipush 1000, 3) := by decide +kernel
theorem d_D_wants_13 : decode b_D_wants 13 = .ok (.invokestatic 62, 3) := by decide +kernel
theorem d_D_wants_16 : decode b_D_wants 16 = .ok (.iload_n 3, 1) := by decide +kernel
theorem d_D_wants_17 : decode b_D_wants 17 = .ok (.iconst 0, 1) := by decide +kernel
theorem d_D_wants_18 : decode b_D_wants 18 = .ok (.sipush 1023, 3) := by decide +kernel
theorem d_D_wants_21 : decode b_D_wants 21 = .ok (.invokestatic 62, 3) := by decide +kernel
theorem d_D_wants_24 : decode b_D_wants 24 = .ok (.aload_n 0, 1) := by decide +kernel
theorem d_D_wants_25 : decode b_D_wants 25 = .ok (.getfield 18, 3) := by decide +kernel
theorem d_D_wants_28 : decode b_D_wants 28 = .ok (.iload_n 1, 1) := by decide +kernel
theorem d_D_wants_29 : decode b_D_wants 29 = .ok (.aaload, 1) := by decide +kernel
theorem d_D_wants_30 : decode b_D_wants 30 = .ok (.iload_n 2, 1) := by decide +kernel
theorem d_D_wants_31 : decode b_D_wants 31 = .ok (.putfield 90, 3) := by decide +kernel
theorem d_D_wants_34 : decode b_D_wants 34 = .ok (.aload_n 0, 1) := by decide +kernel
theorem d_D_wants_35 : decode b_D_wants 35 = .ok (.getfield 18, 3) := by decide +kernel
theorem d_D_wants_38 : decode b_D_wants 38 = .ok (.iload_n 1, 1) := by decide +kernel
theorem d_D_wants_39 : decode b_D_wants 39 = .ok (.aaload, 1) := by decide +kernel
theorem d_D_wants_40 : decode b_D_wants 40 = .ok (.iload_n 3, 1) := by decide +kernel
theorem d_D_wants_41 : decode b_D_wants 41 = .ok (.putfield 93, 3) := by decide +kernel
theorem d_D_wants_44 : decode b_D_wants 44 = .ok (.return_, 1) := by decide +kernel
theorem d_D_checkThere_0 : decode b_D_checkThere 0 = .ok (.iload_n 0, 1) := by decide +kernel
theorem d_D_checkThere_1 : decode b_D_checkThere 1 = .ok (.ifCond .lt 8, 3) := by decide +kernel
theorem d_D_checkThere_4 : decode b_D_checkThere 4 = .ok (.iload_n 0, 1) := by decide +kernel
theorem d_D_checkThere_5 : decode b_D_checkThere 5 = .ok (.iload_n 1, 1) := by decide +kernel
theorem d_D_checkThere_6 : decode b_D_checkThere 6 = .ok (.if_icmp .lt 13, 3) := by decide +kernel
theorem d_D_checkThere_9 : decode b_D_checkThere 9 = .ok (.new 188, 3) := by decide +kernel
theorem d_D_checkThere_12 : decode b_D_checkThere 12 = .ok (.dup, 1) := by decide +kernel
theorem d_D_checkThere_13 : decode b_D_checkThere 13 = .ok (.ldc 190, 2) := by decide +kernel
theorem d_D_checkThere_15 : decode b_D_checkThere 15 = .ok (.invokespecial 192, 3) := by decide +kernel
theorem d_D_checkThere_18 : decode b_D_checkThere 18 = .ok (.athrow, 1) := by decide +kernel
theorem d_D_checkThere_19 : decode b_D_checkThere 19 = .ok (.return_, 1) := by decide +kernel
theorem d_L_promised_0 : decode b_L_promised 0 = .ok (.aload_n 0, 1) := by decide +kernel
theorem d_L_promised_1 : decode b_L_promised 1 = .ok (.iload_n 1, 1) := by decide +kernel
theorem d_L_promised_2 : decode b_L_promised 2 = .ok (.iload_n 2, 1) := by decide +kernel
theorem d_L_promised_3 : decode b_L_promised 3 = .ok (.invokevirtual 26, 3) := by decide +kernel
theorem d_L_promised_6 : decode b_L_promised 6 = .ok (.goto 12, 3) := by decide +kernel
theorem d_L_promised_9 : decode b_L_promised 9 = .ok (.astore_n 3, 1) := by decide +kernel
theorem d_L_promised_10 : decode b_L_promised 10 = .ok (.iconst 1, 1) := by decide +kernel
theorem d_L_promised_11 : decode b_L_promised 11 = .ok (.ireturn, 1) := by decide +kernel
theorem d_L_promised_12 : decode b_L_promised 12 = .ok (.astore_n 3, 1) := by decide +kernel
theorem d_L_promised_13 : decode b_L_promised 13 = .ok (.iconst 2, 1) := by decide +kernel
theorem d_L_promised_14 : decode b_L_promised 14 = .ok (.ireturn, 1) := by decide +kernel
theorem d_L_promised_15 : decode b_L_promised 15 = .ok (.astore_n 3, 1) := by decide +kernel
theorem d_L_promised_16 : decode b_L_promised 16 = .ok (.iconst 3, 1) := by decide +kernel
theorem d_L_promised_17 : decode b_L_promised 17 = .ok (.ireturn, 1) := by decide +kernel
theorem d_L_promised_18 : decode b_L_promised 18 = .ok (.iconst 0, 1) := by decide +kernel
theorem d_L_promised_19 : decode b_L_promised 19 = .ok (.ireturn, 1) := by decide +kernel
theorem d_D_promised_0 : decode b_D_promised 0 = .ok (.iload_n 1, 1) := by decide +kernel
theorem d_D_promised_1 : decode b_D_promised 1 = .ok (.aload_n 0, 1) := by decide +kernel
theorem d_D_promised_2 : decode b_D_promised 2 = .ok (.getfield 48, 3) := by decide +kernel
theorem d_D_promised_5 : decode b_D_promised 5 = .ok (.invokestatic 96, 3) := by decide +kernel
theorem d_D_promised_8 : decode b_D_promised 8 = .ok (.aload_n 0, 1) := by decide +kernel
theorem d_D_promised_9 : decode b_D_promised 9 = .ok (.getfield 11, 3) := by decide +kernel
theorem d_D_promised_12 : decode b_D_promised 12 = .ok (.iload_n 1, 1) := by decide +kernel
theorem d_D_promised_13 : decode b_D_promised 13 = .ok (.aaload, 1) := by decide +kernel
theorem d_D_promised_14 : decode b_D_promised 14 = .ok (.astore_n 3, 1) := by decide +kernel
theorem d_D_promised_15 : decode b_D_promised 15 = .ok (.iload_n 2, 1) := by decide +kernel
theorem d_D_promised_16 : decode b_D_promised 16 = .ok (.iconst 0, 1) := by decide +kernel
theorem d_D_promised_17 : decode b_D_promised 17 = .ok (.aload_n 3, 1) := by decide +kernel
theorem d_D_promised_18 : decode b_D_promised 18 = .ok (.getfield 79, 3) := by decide +kernel
theorem d_D_promised_21 : decode b_D_promised 21 = .ok (.invokestatic 62, 3) := by decide +kernel
theorem d_D_promised_24 : decode b_D_promised 24 = .ok (.iload_n 2, 1) := by decide +kernel
theorem d_D_promised_25 : decode b_D_promised 25 = .ok (.aload_n 0, 1) := by decide +kernel
theorem d_D_promised_26 : decode b_D_promised 26 = .ok (.getfield 44, 3) := by decide +kernel
theorem d_D_promised_29 : decode b_D_promised 29 = .ok (.iload_n 1, 1) := by decide +kernel
theorem d_D_promised_30 : decode b_D_promised 30 = .ok (.invokevirtual 99, 3) := by decide +kernel
theorem d_D_promised_33 : decode b_D_promised 33 = .ok (.iadd, 1) := by decide +kernel
theorem d_D_promised_34 : decode b_D_promised 34 = .ok (.aload_n 3, 1) := by decide +kernel
theorem d_D_promised_35 : decode b_D_promised 35 = .ok (.getfield 79, 3) := by decide +kernel
theorem d_D_promised_38 : decode b_D_promised 38 = .ok (.if_icmp .le 13, 3) := by decide +kernel
theorem d_D_promised_41 : decode b_D_promised 41 = .ok (.new 103, 3) := by decide +kernel
theorem d_D_promised_44 : decode b_D_promised 44 = .ok (.dup, 1) := by decide +kernel
theorem d_D_promised_45 : decode b_D_promised 45 = .ok (.ldc 105, 2) := by decide +kernel
theorem d_D_promised_47 : decode b_D_promised 47 = .ok (.invokespecial 107, 3) := by decide +kernel
theorem d_D_promised_50 : decode b_D_promised 50 = .ok (.athrow, 1) := by decide +kernel
theorem d_D_promised_51 : decode b_D_promised 51 = .ok (.aload_n 3, 1) := by decide +kernel
theorem d_D_promised_52 : decode b_D_promised 52 = .ok (.iload_n 2, 1) := by decide +kernel
theorem d_D_promised_53 : decode b_D_promised 53 = .ok (.putfield 110, 3) := by decide +kernel
theorem d_D_promised_56 : decode b_D_promised 56 = .ok (.return_, 1) := by decide +kernel
theorem d_P_palletsOf_0 : decode b_P_palletsOf 0 = .ok (.iconst 0, 1) := by decide +kernel
theorem d_P_palletsOf_1 : decode b_P_palletsOf 1 = .ok (.istore_n 2, 1) := by decide +kernel
theorem d_P_palletsOf_2 : decode b_P_palletsOf 2 = .ok (.iconst 0, 1) := by decide +kernel
theorem d_P_palletsOf_3 : decode b_P_palletsOf 3 = .ok (.istore_n 3, 1) := by decide +kernel
theorem d_P_palletsOf_4 : decode b_P_palletsOf 4 = .ok (.iload_n 3, 1) := by decide +kernel
theorem d_P_palletsOf_5 : decode b_P_palletsOf 5 = .ok (.aload_n 0, 1) := by decide +kernel
theorem d_P_palletsOf_6 : decode b_P_palletsOf 6 = .ok (.getfield 21, 3) := by decide +kernel
theorem d_P_palletsOf_9 : decode b_P_palletsOf 9 = .ok (.if_icmp .ge 28, 3) := by decide +kernel
theorem d_P_palletsOf_12 : decode b_P_palletsOf 12 = .ok (.aload_n 0, 1) := by decide +kernel
theorem d_P_palletsOf_13 : decode b_P_palletsOf 13 = .ok (.getfield 9, 3) := by decide +kernel
theorem d_P_palletsOf_16 : decode b_P_palletsOf 16 = .ok (.iload_n 3, 1) := by decide +kernel
theorem d_P_palletsOf_17 : decode b_P_palletsOf 17 = .ok (.iaload, 1) := by decide +kernel
theorem d_P_palletsOf_18 : decode b_P_palletsOf 18 = .ok (.iload_n 1, 1) := by decide +kernel
theorem d_P_palletsOf_19 : decode b_P_palletsOf 19 = .ok (.if_icmp .ne 12, 3) := by decide +kernel
theorem d_P_palletsOf_22 : decode b_P_palletsOf 22 = .ok (.iload_n 2, 1) := by decide +kernel
theorem d_P_palletsOf_23 : decode b_P_palletsOf 23 = .ok (.aload_n 0, 1) := by decide +kernel
theorem d_P_palletsOf_24 : decode b_P_palletsOf 24 = .ok (.getfield 18, 3) := by decide +kernel
theorem d_P_palletsOf_27 : decode b_P_palletsOf 27 = .ok (.iload_n 3, 1) := by decide +kernel
theorem d_P_palletsOf_28 : decode b_P_palletsOf 28 = .ok (.iaload, 1) := by decide +kernel
theorem d_P_palletsOf_29 : decode b_P_palletsOf 29 = .ok (.iadd, 1) := by decide +kernel
theorem d_P_palletsOf_30 : decode b_P_palletsOf 30 = .ok (.istore_n 2, 1) := by decide +kernel
theorem d_P_palletsOf_31 : decode b_P_palletsOf 31 = .ok (.iinc 3 1, 3) := by decide +kernel
theorem d_P_palletsOf_34 : decode b_P_palletsOf 34 = .ok (.goto (-30), 3) := by decide +kernel
theorem d_P_palletsOf_37 : decode b_P_palletsOf 37 = .ok (.iload_n 2, 1) := by decide +kernel
theorem d_P_palletsOf_38 : decode b_P_palletsOf 38 = .ok (.ireturn, 1) := by decide +kernel
theorem d_L_rule_0 : decode b_L_rule 0 = .ok (.aload 4, 2) := by decide +kernel
theorem d_L_rule_2 : decode b_L_rule 2 = .ok (.iconst 0, 1) := by decide +kernel
theorem d_L_rule_3 : decode b_L_rule 3 = .ok (.aload_n 0, 1) := by decide +kernel
theorem d_L_rule_4 : decode b_L_rule 4 = .ok (.iload_n 1, 1) := by decide +kernel
theorem d_L_rule_5 : decode b_L_rule 5 = .ok (.iload_n 2, 1) := by decide +kernel
theorem d_L_rule_6 : decode b_L_rule 6 = .ok (.iload_n 3, 1) := by decide +kernel
theorem d_L_rule_7 : decode b_L_rule 7 = .ok (.invokevirtual 32, 3) := by decide +kernel
theorem d_L_rule_10 : decode b_L_rule 10 = .ok (.ifCond .eq 7, 3) := by decide +kernel
theorem d_L_rule_13 : decode b_L_rule 13 = .ok (.lconst 1, 1) := by decide +kernel
theorem d_L_rule_14 : decode b_L_rule 14 = .ok (.goto 4, 3) := by decide +kernel
theorem d_L_rule_17 : decode b_L_rule 17 = .ok (.lconst 0, 1) := by decide +kernel
theorem d_L_rule_18 : decode b_L_rule 18 = .ok (.lastore, 1) := by decide +kernel
theorem d_L_rule_19 : decode b_L_rule 19 = .ok (.goto 7, 3) := by decide +kernel
theorem d_L_rule_22 : decode b_L_rule 22 = .ok (.astore 5, 2) := by decide +kernel
theorem d_L_rule_24 : decode b_L_rule 24 = .ok (.iconst 1, 1) := by decide +kernel
theorem d_L_rule_25 : decode b_L_rule 25 = .ok (.ireturn, 1) := by decide +kernel
theorem d_L_rule_26 : decode b_L_rule 26 = .ok (.iconst 0, 1) := by decide +kernel
theorem d_L_rule_27 : decode b_L_rule 27 = .ok (.ireturn, 1) := by decide +kernel
theorem d_D_rule_0 : decode b_D_rule 0 = .ok (.iload_n 1, 1) := by decide +kernel
theorem d_D_rule_1 : decode b_D_rule 1 = .ok (.aload_n 0, 1) := by decide +kernel
theorem d_D_rule_2 : decode b_D_rule 2 = .ok (.getfield 48, 3) := by decide +kernel
theorem d_D_rule_5 : decode b_D_rule 5 = .ok (.invokestatic 96, 3) := by decide +kernel
theorem d_D_rule_8 : decode b_D_rule 8 = .ok (.iload_n 2, 1) := by decide +kernel
theorem d_D_rule_9 : decode b_D_rule 9 = .ok (.aload_n 0, 1) := by decide +kernel
theorem d_D_rule_10 : decode b_D_rule 10 = .ok (.getfield 52, 3) := by decide +kernel
theorem d_D_rule_13 : decode b_D_rule 13 = .ok (.invokestatic 96, 3) := by decide +kernel
theorem d_D_rule_16 : decode b_D_rule 16 = .ok (.aload_n 0, 1) := by decide +kernel
theorem d_D_rule_17 : decode b_D_rule 17 = .ok (.getfield 11, 3) := by decide +kernel
theorem d_D_rule_20 : decode b_D_rule 20 = .ok (.iload_n 1, 1) := by decide +kernel
theorem d_D_rule_21 : decode b_D_rule 21 = .ok (.aaload, 1) := by decide +kernel
theorem d_D_rule_22 : decode b_D_rule 22 = .ok (.iload_n 2, 1) := by decide +kernel
theorem d_D_rule_23 : decode b_D_rule 23 = .ok (.iload_n 3, 1) := by decide +kernel
theorem d_D_rule_24 : decode b_D_rule 24 = .ok (.invokevirtual 113, 3) := by decide +kernel
theorem d_D_rule_27 : decode b_D_rule 27 = .ok (.aload_n 0, 1) := by decide +kernel
theorem d_D_rule_28 : decode b_D_rule 28 = .ok (.iload_n 1, 1) := by decide +kernel
theorem d_D_rule_29 : decode b_D_rule 29 = .ok (.iload_n 2, 1) := by decide +kernel
theorem d_D_rule_30 : decode b_D_rule 30 = .ok (.invokevirtual 117, 3) := by decide +kernel
theorem d_D_rule_33 : decode b_D_rule 33 = .ok (.ireturn, 1) := by decide +kernel
theorem d_A_setBarred_0 : decode b_A_setBarred 0 = .ok (.iload_n 2, 1) := by decide +kernel
theorem d_A_setBarred_1 : decode b_A_setBarred 1 = .ok (.ifCond .eq 18, 3) := by decide +kernel
theorem d_A_setBarred_4 : decode b_A_setBarred 4 = .ok (.aload_n 0, 1) := by decide +kernel
theorem d_A_setBarred_5 : decode b_A_setBarred 5 = .ok (.dup, 1) := by decide +kernel
theorem d_A_setBarred_6 : decode b_A_setBarred 6 = .ok (.getfield 16, 3) := by decide +kernel
theorem d_A_setBarred_9 : decode b_A_setBarred 9 = .ok (.iconst 1, 1) := by decide +kernel
theorem d_A_setBarred_10 : decode b_A_setBarred 10 = .ok (.iload_n 1, 1) := by decide +kernel
theorem d_A_setBarred_11 : decode b_A_setBarred 11 = .ok (.ishl, 1) := by decide +kernel
theorem d_A_setBarred_12 : decode b_A_setBarred 12 = .ok (.ior, 1) := by decide +kernel
theorem d_A_setBarred_13 : decode b_A_setBarred 13 = .ok (.putfield 16, 3) := by decide +kernel
theorem d_A_setBarred_16 : decode b_A_setBarred 16 = .ok (.goto 17, 3) := by decide +kernel
theorem d_A_setBarred_19 : decode b_A_setBarred 19 = .ok (.aload_n 0, 1) := by decide +kernel
theorem d_A_setBarred_20 : decode b_A_setBarred 20 = .ok (.dup, 1) := by decide +kernel
theorem d_A_setBarred_21 : decode b_A_setBarred 21 = .ok (.getfield 16, 3) := by decide +kernel
theorem d_A_setBarred_24 : decode b_A_setBarred 24 = .ok (.iconst 1, 1) := by decide +kernel
theorem d_A_setBarred_25 : decode b_A_setBarred 25 = .ok (.iload_n 1, 1) := by decide +kernel
theorem d_A_setBarred_26 : decode b_A_setBarred 26 = .ok (.ishl, 1) := by decide +kernel
theorem d_A_setBarred_27 : decode b_A_setBarred 27 = .ok (.iconst (-1), 1) := by decide +kernel
theorem d_A_setBarred_28 : decode b_A_setBarred 28 = .ok (.ixor, 1) := by decide +kernel
theorem d_A_setBarred_29 : decode b_A_setBarred 29 = .ok (.iand, 1) := by decide +kernel
theorem d_A_setBarred_30 : decode b_A_setBarred 30 = .ok (.putfield 16, 3) := by decide +kernel
theorem d_A_setBarred_33 : decode b_A_setBarred 33 = .ok (.return_, 1) := by decide +kernel
theorem d_L_full_0 : decode b_L_full 0 = .ok (.aload_n 3, 1) := by decide +kernel
theorem d_L_full_1 : decode b_L_full 1 = .ok (.iconst 0, 1) := by decide +kernel
theorem d_L_full_2 : decode b_L_full 2 = .ok (.aload_n 0, 1) := by decide +kernel
theorem d_L_full_3 : decode b_L_full 3 = .ok (.iload_n 1, 1) := by decide +kernel
theorem d_L_full_4 : decode b_L_full 4 = .ok (.iload_n 2, 1) := by decide +kernel
theorem d_L_full_5 : decode b_L_full 5 = .ok (.invokevirtual 36, 3) := by decide +kernel
theorem d_L_full_8 : decode b_L_full 8 = .ok (.i2l, 1) := by decide +kernel
theorem d_L_full_9 : decode b_L_full 9 = .ok (.lastore, 1) := by decide +kernel
theorem d_L_full_10 : decode b_L_full 10 = .ok (.goto 7, 3) := by decide +kernel
theorem d_L_full_13 : decode b_L_full 13 = .ok (.astore 4, 2) := by decide +kernel
theorem d_L_full_15 : decode b_L_full 15 = .ok (.iconst 1, 1) := by decide +kernel
theorem d_L_full_16 : decode b_L_full 16 = .ok (.ireturn, 1) := by decide +kernel
theorem d_L_full_17 : decode b_L_full 17 = .ok (.iconst 0, 1) := by decide +kernel
theorem d_L_full_18 : decode b_L_full 18 = .ok (.ireturn, 1) := by decide +kernel
theorem d_D_full_0 : decode b_D_full 0 = .ok (.iload_n 1, 1) := by decide +kernel
theorem d_D_full_1 : decode b_D_full 1 = .ok (.iconst 0, 1) := by decide +kernel
theorem d_D_full_2 : decode b_D_full 2 = .ok (.iconst 3, 1) := by decide +kernel
theorem d_D_full_3 : decode b_D_full 3 = .ok (.invokestatic 62, 3) := by decide +kernel
theorem d_D_full_6 : decode b_D_full 6 = .ok (.aload_n 0, 1) := by decide +kernel
theorem d_D_full_7 : decode b_D_full 7 = .ok (.getfield 23, 3) := by decide +kernel
theorem d_D_full_10 : decode b_D_full 10 = .ok (.iload_n 1, 1) := by decide +kernel
theorem d_D_full_11 : decode b_D_full 11 = .ok (.iload_n 2, 1) := by decide +kernel
theorem d_D_full_12 : decode b_D_full 12 = .ok (.bastore, 1) := by decide +kernel
theorem d_D_full_13 : decode b_D_full 13 = .ok (.iconst 0, 1) := by decide +kernel
theorem d_D_full_14 : decode b_D_full 14 = .ok (.istore_n 3, 1) := by decide +kernel
theorem d_D_full_15 : decode b_D_full 15 = .ok (.iconst 0, 1) := by decide +kernel
theorem d_D_full_16 : decode b_D_full 16 = .ok (.istore 4, 2) := by decide +kernel
theorem d_D_full_18 : decode b_D_full 18 = .ok (.iload 4, 2) := by decide +kernel
theorem d_D_full_20 : decode b_D_full 20 = .ok (.aload_n 0, 1) := by decide +kernel
theorem d_D_full_21 : decode b_D_full 21 = .ok (.getfield 52, 3) := by decide +kernel
theorem d_D_full_24 : decode b_D_full 24 = .ok (.if_icmp .ge 26, 3) := by decide +kernel
theorem d_D_full_27 : decode b_D_full 27 = .ok (.aload_n 0, 1) := by decide +kernel
theorem d_D_full_28 : decode b_D_full 28 = .ok (.getfield 18, 3) := by decide +kernel
theorem d_D_full_31 : decode b_D_full 31 = .ok (.iload 4, 2) := by decide +kernel
theorem d_D_full_33 : decode b_D_full 33 = .ok (.aaload, 1) := by decide +kernel
theorem d_D_full_34 : decode b_D_full 34 = .ok (.getfield 87, 3) := by decide +kernel
theorem d_D_full_37 : decode b_D_full 37 = .ok (.iload_n 1, 1) := by decide +kernel
theorem d_D_full_38 : decode b_D_full 38 = .ok (.if_icmp .ne 6, 3) := by decide +kernel
theorem d_D_full_41 : decode b_D_full 41 = .ok (.iinc 3 1, 3) := by decide +kernel
theorem d_D_full_44 : decode b_D_full 44 = .ok (.iinc 4 1, 3) := by decide +kernel
theorem d_D_full_47 : decode b_D_full 47 = .ok (.goto (-29), 3) := by decide +kernel
theorem d_D_full_50 : decode b_D_full 50 = .ok (.iload_n 3, 1) := by decide +kernel
theorem d_D_full_51 : decode b_D_full 51 = .ok (.ireturn, 1) := by decide +kernel
theorem d_L_match_0 : decode b_L_match 0 = .ok (.aload_n 2, 1) := by decide +kernel
theorem d_L_match_1 : decode b_L_match 1 = .ok (.iconst 0, 1) := by decide +kernel
theorem d_L_match_2 : decode b_L_match 2 = .ok (.aload_n 0, 1) := by decide +kernel
theorem d_L_match_3 : decode b_L_match 3 = .ok (.iload_n 1, 1) := by decide +kernel
theorem d_L_match_4 : decode b_L_match 4 = .ok (.invokevirtual 40, 3) := by decide +kernel
theorem d_L_match_7 : decode b_L_match 7 = .ok (.i2l, 1) := by decide +kernel
theorem d_L_match_8 : decode b_L_match 8 = .ok (.lastore, 1) := by decide +kernel
theorem d_L_match_9 : decode b_L_match 9 = .ok (.goto 6, 3) := by decide +kernel
theorem d_L_match_12 : decode b_L_match 12 = .ok (.astore_n 3, 1) := by decide +kernel
theorem d_L_match_13 : decode b_L_match 13 = .ok (.iconst 1, 1) := by decide +kernel
theorem d_L_match_14 : decode b_L_match 14 = .ok (.ireturn, 1) := by decide +kernel
theorem d_L_match_15 : decode b_L_match 15 = .ok (.iconst 0, 1) := by decide +kernel
theorem d_L_match_16 : decode b_L_match 16 = .ok (.ireturn, 1) := by decide +kernel
theorem d_D_match_0 : decode b_D_match 0 = .ok (.iload_n 1, 1) := by decide +kernel
theorem d_D_match_1 : decode b_D_match 1 = .ok (.iconst 0, 1) := by decide +kernel
theorem d_D_match_2 : decode b_D_match 2 = .ok (.sipush 20000, 3) := by decide +kernel
theorem d_D_match_5 : decode b_D_match 5 = .ok (.invokestatic 62, 3) := by decide +kernel
theorem d_D_match_8 : decode b_D_match 8 = .ok (.aload_n 0, 1) := by decide +kernel
theorem d_D_match_9 : decode b_D_match 9 = .ok (.invokevirtual 121, 3) := by decide +kernel
theorem d_D_match_12 : decode b_D_match 12 = .ok (.aload_n 0, 1) := by decide +kernel
theorem d_D_match_13 : decode b_D_match 13 = .ok (.aload_n 0, 1) := by decide +kernel
theorem d_D_match_14 : decode b_D_match 14 = .ok (.getfield 37, 3) := by decide +kernel
theorem d_D_match_17 : decode b_D_match 17 = .ok (.iload_n 1, 1) := by decide +kernel
theorem d_D_match_18 : decode b_D_match 18 = .ok (.invokevirtual 124, 3) := by decide +kernel
theorem d_D_match_21 : decode b_D_match 21 = .ok (.putfield 55, 3) := by decide +kernel
theorem d_D_match_24 : decode b_D_match 24 = .ok (.aload_n 0, 1) := by decide +kernel
theorem d_D_match_25 : decode b_D_match 25 = .ok (.aload_n 0, 1) := by decide +kernel
theorem d_D_match_26 : decode b_D_match 26 = .ok (.getfield 37, 3) := by decide +kernel
theorem d_D_match_29 : decode b_D_match 29 = .ok (.getfield 128, 3) := by decide +kernel
theorem d_D_match_32 : decode b_D_match 32 = .ok (.putfield 59, 3) := by decide +kernel
theorem d_D_match_35 : decode b_D_match 35 = .ok (.aload_n 0, 1) := by decide +kernel
theorem d_D_match_36 : decode b_D_match 36 = .ok (.getfield 55, 3) := by decide +kernel
theorem d_D_match_39 : decode b_D_match 39 = .ok (.ifCond .ne 10, 3) := by decide +kernel
theorem d_D_match_42 : decode b_D_match 42 = .ok (.aload_n 0, 1) := by decide +kernel
theorem d_D_match_43 : decode b_D_match 43 = .ok (.getfield 37, 3) := by decide +kernel
theorem d_D_match_46 : decode b_D_match 46 = .ok (.invokevirtual 131, 3) := by decide +kernel
theorem d_D_match_49 : decode b_D_match 49 = .ok (.aload_n 0, 1) := by decide +kernel
theorem d_D_match_50 : decode b_D_match 50 = .ok (.getfield 44, 3) := by decide +kernel
theorem d_D_match_53 : decode b_D_match 53 = .ok (.aload_n 0, 1) := by decide +kernel
theorem d_D_match_54 : decode b_D_match 54 = .ok (.getfield 37, 3) := by decide +kernel
theorem d_D_match_57 : decode b_D_match 57 = .ok (.invokevirtual 134, 3) := by decide +kernel
theorem d_D_match_60 : decode b_D_match 60 = .ok (.aload_n 0, 1) := by decide +kernel
theorem d_D_match_61 : decode b_D_match 61 = .ok (.invokevirtual 138, 3) := by decide +kernel
theorem d_D_match_64 : decode b_D_match 64 = .ok (.ireturn, 1) := by decide +kernel
theorem d_D_layOutPairs_0 : decode b_D_layOutPairs 0 = .ok (.aload_n 0, 1) := by decide +kernel
theorem d_D_layOutPairs_1 : decode b_D_layOutPairs 1 = .ok (.invokevirtual 218, 3) := by decide +kernel
theorem d_D_layOutPairs_4 : decode b_D_layOutPairs 4 = .ok (.aload_n 0, 1) := by decide +kernel
theorem d_D_layOutPairs_5 : decode b_D_layOutPairs 5 = .ok (.invokevirtual 221, 3) := by decide +kernel
theorem d_D_layOutPairs_8 : decode b_D_layOutPairs 8 = .ok (.aload_n 0, 1) := by decide +kernel
theorem d_D_layOutPairs_9 : decode b_D_layOutPairs 9 = .ok (.getfield 37, 3) := by decide +kernel
theorem d_D_layOutPairs_12 : decode b_D_layOutPairs 12 = .ok (.iconst 0, 1) := by decide +kernel
theorem d_D_layOutPairs_13 : decode b_D_layOutPairs 13 = .ok (.putfield 224, 3) := by decide +kernel
theorem d_D_layOutPairs_16 : decode b_D_layOutPairs 16 = .ok (.iconst 0, 1) := by decide +kernel
theorem d_D_layOutPairs_17 : decode b_D_layOutPairs 17 = .ok (.istore_n 1, 1) := by decide +kernel
theorem d_D_layOutPairs_18 : decode b_D_layOutPairs 18 = .ok (.iload_n 1, 1) := by decide +kernel
theorem d_D_layOutPairs_19 : decode b_D_layOutPairs 19 = .ok (.aload_n 0, 1) := by decide +kernel
theorem d_D_layOutPairs_20 : decode b_D_layOutPairs 20 = .ok (.getfield 48, 3) := by decide +kernel
theorem d_D_layOutPairs_23 : decode b_D_layOutPairs 23 = .ok (.if_icmp .ge 27, 3) := by decide +kernel
theorem d_D_layOutPairs_26 : decode b_D_layOutPairs 26 = .ok (.aload_n 0, 1) := by decide +kernel
theorem d_D_layOutPairs_27 : decode b_D_layOutPairs 27 = .ok (.getfield 37, 3) := by decide +kernel
theorem d_D_layOutPairs_30 : decode b_D_layOutPairs 30 = .ok (.getfield 225, 3) := by decide +kernel
theorem d_D_layOutPairs_33 : decode b_D_layOutPairs 33 = .ok (.iload_n 1, 1) := by decide +kernel
theorem d_D_layOutPairs_34 : decode b_D_layOutPairs 34 = .ok (.aload_n 0, 1) := by decide +kernel
theorem d_D_layOutPairs_35 : decode b_D_layOutPairs 35 = .ok (.getfield 11, 3) := by decide +kernel
theorem d_D_layOutPairs_38 : decode b_D_layOutPairs 38 = .ok (.iload_n 1, 1) := by decide +kernel
theorem d_D_layOutPairs_39 : decode b_D_layOutPairs 39 = .ok (.aaload, 1) := by decide +kernel
theorem d_D_layOutPairs_40 : decode b_D_layOutPairs 40 = .ok (.invokevirtual 173, 3) := by decide +kernel
theorem d_D_layOutPairs_43 : decode b_D_layOutPairs 43 = .ok (.iastore, 1) := by decide +kernel
theorem d_D_layOutPairs_44 : decode b_D_layOutPairs 44 = .ok (.iinc 1 1, 3) := by decide +kernel
theorem d_D_layOutPairs_47 : decode b_D_layOutPairs 47 = .ok (.goto (-29), 3) := by decide +kernel
theorem d_D_layOutPairs_50 : decode b_D_layOutPairs 50 = .ok (.iconst 0, 1) := by decide +kernel
theorem d_D_layOutPairs_51 : decode b_D_layOutPairs 51 = .ok (.istore_n 1, 1) := by decide +kernel
theorem d_D_layOutPairs_52 : decode b_D_layOutPairs 52 = .ok (.iload_n 1, 1) := by decide +kernel
theorem d_D_layOutPairs_53 : decode b_D_layOutPairs 53 = .ok (.aload_n 0, 1) := by decide +kernel
theorem d_D_layOutPairs_54 : decode b_D_layOutPairs 54 = .ok (.getfield 52, 3) := by decide +kernel
theorem d_D_layOutPairs_57 : decode b_D_layOutPairs 57 = .ok (.if_icmp .ge 78, 3) := by decide +kernel
theorem d_D_layOutPairs_60 : decode b_D_layOutPairs 60 = .ok (.aload_n 0, 1) := by decide +kernel
theorem d_D_layOutPairs_61 : decode b_D_layOutPairs 61 = .ok (.getfield 27, 3) := by decide +kernel
theorem d_D_layOutPairs_64 : decode b_D_layOutPairs 64 = .ok (.iload_n 1, 1) := by decide +kernel
theorem d_D_layOutPairs_65 : decode b_D_layOutPairs 65 = .ok (.iaload, 1) := by decide +kernel
theorem d_D_layOutPairs_66 : decode b_D_layOutPairs 66 = .ok (.istore_n 2, 1) := by decide +kernel
theorem d_D_layOutPairs_67 : decode b_D_layOutPairs 67 = .ok (.aload_n 0, 1) := by decide +kernel
theorem d_D_layOutPairs_68 : decode b_D_layOutPairs 68 = .ok (.getfield 37, 3) := by decide +kernel
theorem d_D_layOutPairs_71 : decode b_D_layOutPairs 71 = .ok (.getfield 228, 3) := by decide +kernel
theorem d_D_layOutPairs_74 : decode b_D_layOutPairs 74 = .ok (.iload_n 2, 1) := by decide +kernel
theorem d_D_layOutPairs_75 : decode b_D_layOutPairs 75 = .ok (.aload_n 0, 1) := by decide +kernel
theorem d_D_layOutPairs_76 : decode b_D_layOutPairs 76 = .ok (.getfield 18, 3) := by decide +kernel
theorem d_D_layOutPairs_79 : decode b_D_layOutPairs 79 = .ok (.iload_n 2, 1) := by decide +kernel
theorem d_D_layOutPairs_80 : decode b_D_layOutPairs 80 = .ok (.aaload, 1) := by decide +kernel
theorem d_D_layOutPairs_81 : decode b_D_layOutPairs 81 = .ok (.getfield 83, 3) := by decide +kernel
theorem d_D_layOutPairs_84 : decode b_D_layOutPairs 84 = .ok (.iastore, 1) := by decide +kernel
theorem d_D_layOutPairs_85 : decode b_D_layOutPairs 85 = .ok (.iconst 0, 1) := by decide +kernel
theorem d_D_layOutPairs_86 : decode b_D_layOutPairs 86 = .ok (.istore_n 3, 1) := by decide +kernel
theorem d_D_layOutPairs_87 : decode b_D_layOutPairs 87 = .ok (.iload_n 3, 1) := by decide +kernel
theorem d_D_layOutPairs_88 : decode b_D_layOutPairs 88 = .ok (.aload_n 0, 1) := by decide +kernel
theorem d_D_layOutPairs_89 : decode b_D_layOutPairs 89 = .ok (.getfield 48, 3) := by decide +kernel
theorem d_D_layOutPairs_92 : decode b_D_layOutPairs 92 = .ok (.if_icmp .ge 37, 3) := by decide +kernel
theorem d_D_layOutPairs_95 : decode b_D_layOutPairs 95 = .ok (.aload_n 0, 1) := by decide +kernel
theorem d_D_layOutPairs_96 : decode b_D_layOutPairs 96 = .ok (.aload_n 0, 1) := by decide +kernel
theorem d_D_layOutPairs_97 : decode b_D_layOutPairs 97 = .ok (.getfield 31, 3) := by decide +kernel
theorem d_D_layOutPairs_100 : decode b_D_layOutPairs 100 = .ok (.iload_n 3, 1) := by decide +kernel
theorem d_D_layOutPairs_101 : decode b_D_layOutPairs 101 = .ok (.iaload, 1) := by decide +kernel
theorem d_D_layOutPairs_102 : decode b_D_layOutPairs 102 = .ok (.iload_n 2, 1) := by decide +kernel
theorem d_D_layOutPairs_103 : decode b_D_layOutPairs 103 = .ok (.invokevirtual 117, 3) := by decide +kernel
theorem d_D_layOutPairs_106 : decode b_D_layOutPairs 106 = .ok (.ifCond .eq 17, 3) := by decide +kernel
theorem d_D_layOutPairs_109 : decode b_D_layOutPairs 109 = .ok (.aload_n 0, 1) := by decide +kernel
theorem d_D_layOutPairs_110 : decode b_D_layOutPairs 110 = .ok (.getfield 37, 3) := by decide +kernel
theorem d_D_layOutPairs_113 : decode b_D_layOutPairs 113 = .ok (.aload_n 0, 1) := by decide +kernel
theorem d_D_layOutPairs_114 : decode b_D_layOutPairs 114 = .ok (.getfield 31, 3) := by decide +kernel
theorem d_D_layOutPairs_117 : decode b_D_layOutPairs 117 = .ok (.iload_n 3, 1) := by decide +kernel
theorem d_D_layOutPairs_118 : decode b_D_layOutPairs 118 = .ok (.iaload, 1) := by decide +kernel
theorem d_D_layOutPairs_119 : decode b_D_layOutPairs 119 = .ok (.iload_n 2, 1) := by decide +kernel
theorem d_D_layOutPairs_120 : decode b_D_layOutPairs 120 = .ok (.invokevirtual 231, 3) := by decide +kernel
theorem d_D_layOutPairs_123 : decode b_D_layOutPairs 123 = .ok (.iinc 3 1, 3) := by decide +kernel
theorem d_D_layOutPairs_126 : decode b_D_layOutPairs 126 = .ok (.goto (-39), 3) := by decide +kernel
theorem d_D_layOutPairs_129 : decode b_D_layOutPairs 129 = .ok (.iinc 1 1, 3) := by decide +kernel
theorem d_D_layOutPairs_132 : decode b_D_layOutPairs 132 = .ok (.goto (-80), 3) := by decide +kernel
theorem d_D_layOutPairs_135 : decode b_D_layOutPairs 135 = .ok (.return_, 1) := by decide +kernel
theorem d_D_sortOrders_0 : decode b_D_sortOrders 0 = .ok (.iconst 0, 1) := by decide +kernel
theorem d_D_sortOrders_1 : decode b_D_sortOrders 1 = .ok (.istore_n 1, 1) := by decide +kernel
theorem d_D_sortOrders_2 : decode b_D_sortOrders 2 = .ok (.iload_n 1, 1) := by decide +kernel
theorem d_D_sortOrders_3 : decode b_D_sortOrders 3 = .ok (.aload_n 0, 1) := by decide +kernel
theorem d_D_sortOrders_4 : decode b_D_sortOrders 4 = .ok (.getfield 52, 3) := by decide +kernel
theorem d_D_sortOrders_7 : decode b_D_sortOrders 7 = .ok (.if_icmp .ge 70, 3) := by decide +kernel
theorem d_D_sortOrders_10 : decode b_D_sortOrders 10 = .ok (.iload_n 1, 1) := by decide +kernel
theorem d_D_sortOrders_11 : decode b_D_sortOrders 11 = .ok (.istore_n 2, 1) := by decide +kernel
theorem d_D_sortOrders_12 : decode b_D_sortOrders 12 = .ok (.iload_n 2, 1) := by decide +kernel
theorem d_D_sortOrders_13 : decode b_D_sortOrders 13 = .ok (.ifCond .le 51, 3) := by decide +kernel
theorem d_D_sortOrders_16 : decode b_D_sortOrders 16 = .ok (.aload_n 0, 1) := by decide +kernel
theorem d_D_sortOrders_17 : decode b_D_sortOrders 17 = .ok (.getfield 18, 3) := by decide +kernel
theorem d_D_sortOrders_20 : decode b_D_sortOrders 20 = .ok (.aload_n 0, 1) := by decide +kernel
theorem d_D_sortOrders_21 : decode b_D_sortOrders 21 = .ok (.getfield 27, 3) := by decide +kernel
theorem d_D_sortOrders_24 : decode b_D_sortOrders 24 = .ok (.iload_n 2, 1) := by decide +kernel
theorem d_D_sortOrders_25 : decode b_D_sortOrders 25 = .ok (.iconst 1, 1) := by decide +kernel
theorem d_D_sortOrders_26 : decode b_D_sortOrders 26 = .ok (.isub, 1) := by decide +kernel
theorem d_D_sortOrders_27 : decode b_D_sortOrders 27 = .ok (.iaload, 1) := by decide +kernel
theorem d_D_sortOrders_28 : decode b_D_sortOrders 28 = .ok (.aaload, 1) := by decide +kernel
theorem d_D_sortOrders_29 : decode b_D_sortOrders 29 = .ok (.getfield 84, 3) := by decide +kernel
theorem d_D_sortOrders_32 : decode b_D_sortOrders 32 = .ok (.aload_n 0, 1) := by decide +kernel
theorem d_D_sortOrders_33 : decode b_D_sortOrders 33 = .ok (.getfield 18, 3) := by decide +kernel
theorem d_D_sortOrders_36 : decode b_D_sortOrders 36 = .ok (.iload_n 1, 1) := by decide +kernel
theorem d_D_sortOrders_37 : decode b_D_sortOrders 37 = .ok (.aaload, 1) := by decide +kernel
theorem d_D_sortOrders_38 : decode b_D_sortOrders 38 = .ok (.getfield 84, 3) := by decide +kernel
theorem d_D_sortOrders_41 : decode b_D_sortOrders 41 = .ok (.if_icmp .le 23, 3) := by decide +kernel
theorem d_D_sortOrders_44 : decode b_D_sortOrders 44 = .ok (.aload_n 0, 1) := by decide +kernel
theorem d_D_sortOrders_45 : decode b_D_sortOrders 45 = .ok (.getfield 27, 3) := by decide +kernel
theorem d_D_sortOrders_48 : decode b_D_sortOrders 48 = .ok (.iload_n 2, 1) := by decide +kernel
theorem d_D_sortOrders_49 : decode b_D_sortOrders 49 = .ok (.aload_n 0, 1) := by decide +kernel
theorem d_D_sortOrders_50 : decode b_D_sortOrders 50 = .ok (.getfield 27, 3) := by decide +kernel
theorem d_D_sortOrders_53 : decode b_D_sortOrders 53 = .ok (.iload_n 2, 1) := by decide +kernel
theorem d_D_sortOrders_54 : decode b_D_sortOrders 54 = .ok (.iconst 1, 1) := by decide +kernel
theorem d_D_sortOrders_55 : decode b_D_sortOrders 55 = .ok (.isub, 1) := by decide +kernel
theorem d_D_sortOrders_56 : decode b_D_sortOrders 56 = .ok (.iaload, 1) := by decide +kernel
theorem d_D_sortOrders_57 : decode b_D_sortOrders 57 = .ok (.iastore, 1) := by decide +kernel
theorem d_D_sortOrders_58 : decode b_D_sortOrders 58 = .ok (.iinc 2 (-1), 3) := by decide +kernel
theorem d_D_sortOrders_61 : decode b_D_sortOrders 61 = .ok (.goto (-49), 3) := by decide +kernel
theorem d_D_sortOrders_64 : decode b_D_sortOrders 64 = .ok (.aload_n 0, 1) := by decide +kernel
theorem d_D_sortOrders_65 : decode b_D_sortOrders 65 = .ok (.getfield 27, 3) := by decide +kernel
theorem d_D_sortOrders_68 : decode b_D_sortOrders 68 = .ok (.iload_n 2, 1) := by decide +kernel
theorem d_D_sortOrders_69 : decode b_D_sortOrders 69 = .ok (.iload_n 1, 1) := by decide +kernel
theorem d_D_sortOrders_70 : decode b_D_sortOrders 70 = .ok (.iastore, 1) := by decide +kernel
theorem d_D_sortOrders_71 : decode b_D_sortOrders 71 = .ok (.iinc 1 1, 3) := by decide +kernel
theorem d_D_sortOrders_74 : decode b_D_sortOrders 74 = .ok (.goto (-72), 3) := by decide +kernel
theorem d_D_sortOrders_77 : decode b_D_sortOrders 77 = .ok (.return_, 1) := by decide +kernel
theorem d_D_sortArrivals_0 : decode b_D_sortArrivals 0 = .ok (.iconst 0, 1) := by decide +kernel
theorem d_D_sortArrivals_1 : decode b_D_sortArrivals 1 = .ok (.istore_n 1, 1) := by decide +kernel
theorem d_D_sortArrivals_2 : decode b_D_sortArrivals 2 = .ok (.iload_n 1, 1) := by decide +kernel
theorem d_D_sortArrivals_3 : decode b_D_sortArrivals 3 = .ok (.aload_n 0, 1) := by decide +kernel
theorem d_D_sortArrivals_4 : decode b_D_sortArrivals 4 = .ok (.getfield 48, 3) := by decide +kernel
theorem d_D_sortArrivals_7 : decode b_D_sortArrivals 7 = .ok (.if_icmp .ge 70, 3) := by decide +kernel
theorem d_D_sortArrivals_10 : decode b_D_sortArrivals 10 = .ok (.iload_n 1, 1) := by decide +kernel
theorem d_D_sortArrivals_11 : decode b_D_sortArrivals 11 = .ok (.istore_n 2, 1) := by decide +kernel
theorem d_D_sortArrivals_12 : decode b_D_sortArrivals 12 = .ok (.iload_n 2, 1) := by decide +kernel
theorem d_D_sortArrivals_13 : decode b_D_sortArrivals 13 = .ok (.ifCond .le 51, 3) := by decide +kernel
theorem d_D_sortArrivals_16 : decode b_D_sortArrivals 16 = .ok (.aload_n 0, 1) := by decide +kernel
theorem d_D_sortArrivals_17 : decode b_D_sortArrivals 17 = .ok (.getfield 11, 3) := by decide +kernel
theorem d_D_sortArrivals_20 : decode b_D_sortArrivals 20 = .ok (.aload_n 0, 1) := by decide +kernel
theorem d_D_sortArrivals_21 : decode b_D_sortArrivals 21 = .ok (.getfield 31, 3) := by decide +kernel
theorem d_D_sortArrivals_24 : decode b_D_sortArrivals 24 = .ok (.iload_n 2, 1) := by decide +kernel
theorem d_D_sortArrivals_25 : decode b_D_sortArrivals 25 = .ok (.iconst 1, 1) := by decide +kernel
theorem d_D_sortArrivals_26 : decode b_D_sortArrivals 26 = .ok (.isub, 1) := by decide +kernel
theorem d_D_sortArrivals_27 : decode b_D_sortArrivals 27 = .ok (.iaload, 1) := by decide +kernel
theorem d_D_sortArrivals_28 : decode b_D_sortArrivals 28 = .ok (.aaload, 1) := by decide +kernel
theorem d_D_sortArrivals_29 : decode b_D_sortArrivals 29 = .ok (.getfield 76, 3) := by decide +kernel
theorem d_D_sortArrivals_32 : decode b_D_sortArrivals 32 = .ok (.aload_n 0, 1) := by decide +kernel
theorem d_D_sortArrivals_33 : decode b_D_sortArrivals 33 = .ok (.getfield 11, 3) := by decide +kernel
theorem d_D_sortArrivals_36 : decode b_D_sortArrivals 36 = .ok (.iload_n 1, 1) := by decide +kernel
theorem d_D_sortArrivals_37 : decode b_D_sortArrivals 37 = .ok (.aaload, 1) := by decide +kernel
theorem d_D_sortArrivals_38 : decode b_D_sortArrivals 38 = .ok (.getfield 76, 3) := by decide +kernel
theorem d_D_sortArrivals_41 : decode b_D_sortArrivals 41 = .ok (.if_icmp .le 23, 3) := by decide +kernel
theorem d_D_sortArrivals_44 : decode b_D_sortArrivals 44 = .ok (.aload_n 0, 1) := by decide +kernel
theorem d_D_sortArrivals_45 : decode b_D_sortArrivals 45 = .ok (.getfield 31, 3) := by decide +kernel
theorem d_D_sortArrivals_48 : decode b_D_sortArrivals 48 = .ok (.iload_n 2, 1) := by decide +kernel
theorem d_D_sortArrivals_49 : decode b_D_sortArrivals 49 = .ok (.aload_n 0, 1) := by decide +kernel
theorem d_D_sortArrivals_50 : decode b_D_sortArrivals 50 = .ok (.getfield 31, 3) := by decide +kernel
theorem d_D_sortArrivals_53 : decode b_D_sortArrivals 53 = .ok (.iload_n 2, 1) := by decide +kernel
theorem d_D_sortArrivals_54 : decode b_D_sortArrivals 54 = .ok (.iconst 1, 1) := by decide +kernel
theorem d_D_sortArrivals_55 : decode b_D_sortArrivals 55 = .ok (.isub, 1) := by decide +kernel
theorem d_D_sortArrivals_56 : decode b_D_sortArrivals 56 = .ok (.iaload, 1) := by decide +kernel
theorem d_D_sortArrivals_57 : decode b_D_sortArrivals 57 = .ok (.iastore, 1) := by decide +kernel
theorem d_D_sortArrivals_58 : decode b_D_sortArrivals 58 = .ok (.iinc 2 (-1), 3) := by decide +kernel
theorem d_D_sortArrivals_61 : decode b_D_sortArrivals 61 = .ok (.goto (-49), 3) := by decide +kernel
theorem d_D_sortArrivals_64 : decode b_D_sortArrivals 64 = .ok (.aload_n 0, 1) := by decide +kernel
theorem d_D_sortArrivals_65 : decode b_D_sortArrivals 65 = .ok (.getfield 31, 3) := by decide +kernel
theorem d_D_sortArrivals_68 : decode b_D_sortArrivals 68 = .ok (.iload_n 2, 1) := by decide +kernel
theorem d_D_sortArrivals_69 : decode b_D_sortArrivals 69 = .ok (.iload_n 1, 1) := by decide +kernel
theorem d_D_sortArrivals_70 : decode b_D_sortArrivals 70 = .ok (.iastore, 1) := by decide +kernel
theorem d_D_sortArrivals_71 : decode b_D_sortArrivals 71 = .ok (.iinc 1 1, 3) := by decide +kernel
theorem d_D_sortArrivals_74 : decode b_D_sortArrivals 74 = .ok (.goto (-72), 3) := by decide +kernel
theorem d_D_sortArrivals_77 : decode b_D_sortArrivals 77 = .ok (.return_, 1) := by decide +kernel
theorem d_S_addPair_0 : decode b_S_addPair 0 = .ok (.aload_n 0, 1) := by decide +kernel
theorem d_S_addPair_1 : decode b_S_addPair 1 = .ok (.getfield 39, 3) := by decide +kernel
theorem d_S_addPair_4 : decode b_S_addPair 4 = .ok (.bipush 64, 2) := by decide +kernel
theorem d_S_addPair_6 : decode b_S_addPair 6 = .ok (.if_icmp .ge 33, 3) := by decide +kernel
theorem d_S_addPair_9 : decode b_S_addPair 9 = .ok (.aload_n 0, 1) := by decide +kernel
theorem d_S_addPair_10 : decode b_S_addPair 10 = .ok (.getfield 9, 3) := by decide +kernel
theorem d_S_addPair_13 : decode b_S_addPair 13 = .ok (.aload_n 0, 1) := by decide +kernel
theorem d_S_addPair_14 : decode b_S_addPair 14 = .ok (.getfield 39, 3) := by decide +kernel
theorem d_S_addPair_17 : decode b_S_addPair 17 = .ok (.iload_n 1, 1) := by decide +kernel
theorem d_S_addPair_18 : decode b_S_addPair 18 = .ok (.iastore, 1) := by decide +kernel
theorem d_S_addPair_19 : decode b_S_addPair 19 = .ok (.aload_n 0, 1) := by decide +kernel
theorem d_S_addPair_20 : decode b_S_addPair 20 = .ok (.getfield 15, 3) := by decide +kernel
theorem d_S_addPair_23 : decode b_S_addPair 23 = .ok (.aload_n 0, 1) := by decide +kernel
theorem d_S_addPair_24 : decode b_S_addPair 24 = .ok (.getfield 39, 3) := by decide +kernel
theorem d_S_addPair_27 : decode b_S_addPair 27 = .ok (.iload_n 2, 1) := by decide +kernel
theorem d_S_addPair_28 : decode b_S_addPair 28 = .ok (.iastore, 1) := by decide +kernel
theorem d_S_addPair_29 : decode b_S_addPair 29 = .ok (.aload_n 0, 1) := by decide +kernel
theorem d_S_addPair_30 : decode b_S_addPair 30 = .ok (.dup, 1) := by decide +kernel
theorem d_S_addPair_31 : decode b_S_addPair 31 = .ok (.getfield 39, 3) := by decide +kernel
theorem d_S_addPair_34 : decode b_S_addPair 34 = .ok (.iconst 1, 1) := by decide +kernel
theorem d_S_addPair_35 : decode b_S_addPair 35 = .ok (.iadd, 1) := by decide +kernel
theorem d_S_addPair_36 : decode b_S_addPair 36 = .ok (.putfield 39, 3) := by decide +kernel
theorem d_S_addPair_39 : decode b_S_addPair 39 = .ok (.return_, 1) := by decide +kernel
theorem d_S_lookAtAll_0 : decode b_S_lookAtAll 0 = .ok (.aload_n 0, 1) := by decide +kernel
theorem d_S_lookAtAll_1 : decode b_S_lookAtAll 1 = .ok (.invokevirtual 43, 3) := by decide +kernel
theorem d_S_lookAtAll_4 : decode b_S_lookAtAll 4 = .ok (.aload_n 0, 1) := by decide +kernel
theorem d_S_lookAtAll_5 : decode b_S_lookAtAll 5 = .ok (.iconst (-1), 1) := by decide +kernel
theorem d_S_lookAtAll_6 : decode b_S_lookAtAll 6 = .ok (.putfield 46, 3) := by decide +kernel
theorem d_S_lookAtAll_9 : decode b_S_lookAtAll 9 = .ok (.iconst (-1), 1) := by decide +kernel
theorem d_S_lookAtAll_10 : decode b_S_lookAtAll 10 = .ok (.istore_n 2, 1) := by decide +kernel
theorem d_S_lookAtAll_11 : decode b_S_lookAtAll 11 = .ok (.aload_n 0, 1) := by decide +kernel
theorem d_S_lookAtAll_12 : decode b_S_lookAtAll 12 = .ok (.getfield 39, 3) := by decide +kernel
theorem d_S_lookAtAll_15 : decode b_S_lookAtAll 15 = .ok (.ifCond .le 16, 3) := by decide +kernel
theorem d_S_lookAtAll_18 : decode b_S_lookAtAll 18 = .ok (.iconst 0, 1) := by decide +kernel
theorem d_S_lookAtAll_19 : decode b_S_lookAtAll 19 = .ok (.istore_n 2, 1) := by decide +kernel
theorem d_S_lookAtAll_20 : decode b_S_lookAtAll 20 = .ok (.aload_n 0, 1) := by decide +kernel
theorem d_S_lookAtAll_21 : decode b_S_lookAtAll 21 = .ok (.getfield 33, 3) := by decide +kernel
theorem d_S_lookAtAll_24 : decode b_S_lookAtAll 24 = .ok (.iconst 0, 1) := by decide +kernel
theorem d_S_lookAtAll_25 : decode b_S_lookAtAll 25 = .ok (.aload_n 0, 1) := by decide +kernel
theorem d_S_lookAtAll_26 : decode b_S_lookAtAll 26 = .ok (.iconst 0, 1) := by decide +kernel
theorem d_S_lookAtAll_27 : decode b_S_lookAtAll 27 = .ok (.invokevirtual 49, 3) := by decide +kernel
theorem d_S_lookAtAll_30 : decode b_S_lookAtAll 30 = .ok (.iastore, 1) := by decide +kernel
theorem d_S_lookAtAll_31 : decode b_S_lookAtAll 31 = .ok (.aload_n 0, 1) := by decide +kernel
theorem d_S_lookAtAll_32 : decode b_S_lookAtAll 32 = .ok (.iconst 0, 1) := by decide +kernel
theorem d_S_lookAtAll_33 : decode b_S_lookAtAll 33 = .ok (.putfield 53, 3) := by decide +kernel
theorem d_S_lookAtAll_36 : decode b_S_lookAtAll 36 = .ok (.aload_n 0, 1) := by decide +kernel
theorem d_S_lookAtAll_37 : decode b_S_lookAtAll 37 = .ok (.getfield 53, 3) := by decide +kernel
theorem d_S_lookAtAll_40 : decode b_S_lookAtAll 40 = .ok (.iload_n 1, 1) := by decide +kernel
theorem d_S_lookAtAll_41 : decode b_S_lookAtAll 41 = .ok (.if_icmp .ge 80, 3) := by decide +kernel
theorem d_S_lookAtAll_44 : decode b_S_lookAtAll 44 = .ok (.aload_n 0, 1) := by decide +kernel
theorem d_S_lookAtAll_45 : decode b_S_lookAtAll 45 = .ok (.iload_n 2, 1) := by decide +kernel
theorem d_S_lookAtAll_46 : decode b_S_lookAtAll 46 = .ok (.invokevirtual 56, 3) := by decide +kernel
theorem d_S_lookAtAll_49 : decode b_S_lookAtAll 49 = .ok (.istore_n 2, 1) := by decide +kernel
theorem d_S_lookAtAll_50 : decode b_S_lookAtAll 50 = .ok (.iload_n 2, 1) := by decide +kernel
theorem d_S_lookAtAll_51 : decode b_S_lookAtAll 51 = .ok (.ifCond .ge 5, 3) := by decide +kernel
theorem d_S_lookAtAll_54 : decode b_S_lookAtAll 54 = .ok (.iconst 1, 1) := by decide +kernel
theorem d_S_lookAtAll_55 : decode b_S_lookAtAll 55 = .ok (.ireturn, 1) := by decide +kernel
theorem d_S_lookAtAll_56 : decode b_S_lookAtAll 56 = .ok (.aload_n 0, 1) := by decide +kernel
theorem d_S_lookAtAll_57 : decode b_S_lookAtAll 57 = .ok (.iload_n 2, 1) := by decide +kernel
theorem d_S_lookAtAll_58 : decode b_S_lookAtAll 58 = .ok (.aload_n 0, 1) := by decide +kernel
theorem d_S_lookAtAll_59 : decode b_S_lookAtAll 59 = .ok (.getfield 33, 3) := by decide +kernel
theorem d_S_lookAtAll_62 : decode b_S_lookAtAll 62 = .ok (.iload_n 2, 1) := by decide +kernel
theorem d_S_lookAtAll_63 : decode b_S_lookAtAll 63 = .ok (.iaload, 1) := by decide +kernel
theorem d_S_lookAtAll_64 : decode b_S_lookAtAll 64 = .ok (.invokevirtual 59, 3) := by decide +kernel
theorem d_S_lookAtAll_67 : decode b_S_lookAtAll 67 = .ok (.aload_n 0, 1) := by decide +kernel
theorem d_S_lookAtAll_68 : decode b_S_lookAtAll 68 = .ok (.getfield 33, 3) := by decide +kernel
theorem d_S_lookAtAll_71 : decode b_S_lookAtAll 71 = .ok (.iload_n 2, 1) := by decide +kernel
theorem d_S_lookAtAll_72 : decode b_S_lookAtAll 72 = .ok (.dup2, 1) := by decide +kernel
theorem d_S_lookAtAll_73 : decode b_S_lookAtAll 73 = .ok (.iaload, 1) := by decide +kernel
theorem d_S_lookAtAll_74 : decode b_S_lookAtAll 74 = .ok (.iconst 1, 1) := by decide +kernel
theorem d_S_lookAtAll_75 : decode b_S_lookAtAll 75 = .ok (.isub, 1) := by decide +kernel
theorem d_S_lookAtAll_76 : decode b_S_lookAtAll 76 = .ok (.iastore, 1) := by decide +kernel
theorem d_S_lookAtAll_77 : decode b_S_lookAtAll 77 = .ok (.iload_n 2, 1) := by decide +kernel
theorem d_S_lookAtAll_78 : decode b_S_lookAtAll 78 = .ok (.iconst 1, 1) := by decide +kernel
theorem d_S_lookAtAll_79 : decode b_S_lookAtAll 79 = .ok (.iadd, 1) := by decide +kernel
theorem d_S_lookAtAll_80 : decode b_S_lookAtAll 80 = .ok (.aload_n 0, 1) := by decide +kernel
theorem d_S_lookAtAll_81 : decode b_S_lookAtAll 81 = .ok (.getfield 39, 3) := by decide +kernel
theorem d_S_lookAtAll_84 : decode b_S_lookAtAll 84 = .ok (.if_icmp .ge 20, 3) := by decide +kernel
theorem d_S_lookAtAll_87 : decode b_S_lookAtAll 87 = .ok (.iinc 2 1, 3) := by decide +kernel
theorem d_S_lookAtAll_90 : decode b_S_lookAtAll 90 = .ok (.aload_n 0, 1) := by decide +kernel
theorem d_S_lookAtAll_91 : decode b_S_lookAtAll 91 = .ok (.getfield 33, 3) := by decide +kernel
theorem d_S_lookAtAll_94 : decode b_S_lookAtAll 94 = .ok (.iload_n 2, 1) := by decide +kernel
theorem d_S_lookAtAll_95 : decode b_S_lookAtAll 95 = .ok (.aload_n 0, 1) := by decide +kernel
theorem d_S_lookAtAll_96 : decode b_S_lookAtAll 96 = .ok (.iload_n 2, 1) := by decide +kernel
theorem d_S_lookAtAll_97 : decode b_S_lookAtAll 97 = .ok (.invokevirtual 49, 3) := by decide +kernel
theorem d_S_lookAtAll_100 : decode b_S_lookAtAll 100 = .ok (.iastore, 1) := by decide +kernel
theorem d_S_lookAtAll_101 : decode b_S_lookAtAll 101 = .ok (.goto 7, 3) := by decide +kernel
theorem d_S_lookAtAll_104 : decode b_S_lookAtAll 104 = .ok (.aload_n 0, 1) := by decide +kernel
theorem d_S_lookAtAll_105 : decode b_S_lookAtAll 105 = .ok (.invokevirtual 63, 3) := by decide +kernel
theorem d_S_lookAtAll_108 : decode b_S_lookAtAll 108 = .ok (.aload_n 0, 1) := by decide +kernel
theorem d_S_lookAtAll_109 : decode b_S_lookAtAll 109 = .ok (.dup, 1) := by decide +kernel
theorem d_S_lookAtAll_110 : decode b_S_lookAtAll 110 = .ok (.getfield 53, 3) := by decide +kernel
theorem d_S_lookAtAll_113 : decode b_S_lookAtAll 113 = .ok (.iconst 1, 1) := by decide +kernel
theorem d_S_lookAtAll_114 : decode b_S_lookAtAll 114 = .ok (.iadd, 1) := by decide +kernel
theorem d_S_lookAtAll_115 : decode b_S_lookAtAll 115 = .ok (.putfield 53, 3) := by decide +kernel
theorem d_S_lookAtAll_118 : decode b_S_lookAtAll 118 = .ok (.goto (-82), 3) := by decide +kernel
theorem d_S_lookAtAll_121 : decode b_S_lookAtAll 121 = .ok (.aload_n 0, 1) := by decide +kernel
theorem d_S_lookAtAll_122 : decode b_S_lookAtAll 122 = .ok (.iload_n 2, 1) := by decide +kernel
theorem d_S_lookAtAll_123 : decode b_S_lookAtAll 123 = .ok (.invokevirtual 56, 3) := by decide +kernel
theorem d_S_lookAtAll_126 : decode b_S_lookAtAll 126 = .ok (.ifCond .ge 7, 3) := by decide +kernel
theorem d_S_lookAtAll_129 : decode b_S_lookAtAll 129 = .ok (.iconst 1, 1) := by decide +kernel
theorem d_S_lookAtAll_130 : decode b_S_lookAtAll 130 = .ok (.goto 4, 3) := by decide +kernel
theorem d_S_lookAtAll_133 : decode b_S_lookAtAll 133 = .ok (.iconst 0, 1) := by decide +kernel
theorem d_S_lookAtAll_134 : decode b_S_lookAtAll 134 = .ok (.ireturn, 1) := by decide +kernel
theorem d_S_putAllBack_0 : decode b_S_putAllBack 0 = .ok (.aload_n 0, 1) := by decide +kernel
theorem d_S_putAllBack_1 : decode b_S_putAllBack 1 = .ok (.getfield 18, 3) := by decide +kernel
theorem d_S_putAllBack_4 : decode b_S_putAllBack 4 = .ok (.iconst 0, 1) := by decide +kernel
theorem d_S_putAllBack_5 : decode b_S_putAllBack 5 = .ok (.aload_n 0, 1) := by decide +kernel
theorem d_S_putAllBack_6 : decode b_S_putAllBack 6 = .ok (.getfield 24, 3) := by decide +kernel
theorem d_S_putAllBack_9 : decode b_S_putAllBack 9 = .ok (.iconst 0, 1) := by decide +kernel
theorem d_S_putAllBack_10 : decode b_S_putAllBack 10 = .ok (.bipush 8, 2) := by decide +kernel
theorem d_S_putAllBack_12 : decode b_S_putAllBack 12 = .ok (.invokestatic 66, 3) := by decide +kernel
theorem d_S_putAllBack_15 : decode b_S_putAllBack 15 = .ok (.aload_n 0, 1) := by decide +kernel
theorem d_S_putAllBack_16 : decode b_S_putAllBack 16 = .ok (.getfield 21, 3) := by decide +kernel
theorem d_S_putAllBack_19 : decode b_S_putAllBack 19 = .ok (.iconst 0, 1) := by decide +kernel
theorem d_S_putAllBack_20 : decode b_S_putAllBack 20 = .ok (.aload_n 0, 1) := by decide +kernel
theorem d_S_putAllBack_21 : decode b_S_putAllBack 21 = .ok (.getfield 27, 3) := by decide +kernel
theorem d_S_putAllBack_24 : decode b_S_putAllBack 24 = .ok (.iconst 0, 1) := by decide +kernel
theorem d_S_putAllBack_25 : decode b_S_putAllBack 25 = .ok (.bipush 8, 2) := by decide +kernel
theorem d_S_putAllBack_27 : decode b_S_putAllBack 27 = .ok (.invokestatic 66, 3) := by decide +kernel
theorem d_S_putAllBack_30 : decode b_S_putAllBack 30 = .ok (.iconst 0, 1) := by decide +kernel
theorem d_S_putAllBack_31 : decode b_S_putAllBack 31 = .ok (.istore_n 1, 1) := by decide +kernel
theorem d_S_putAllBack_32 : decode b_S_putAllBack 32 = .ok (.iload_n 1, 1) := by decide +kernel
theorem d_S_putAllBack_33 : decode b_S_putAllBack 33 = .ok (.aload_n 0, 1) := by decide +kernel
theorem d_S_putAllBack_34 : decode b_S_putAllBack 34 = .ok (.getfield 39, 3) := by decide +kernel
theorem d_S_putAllBack_37 : decode b_S_putAllBack 37 = .ok (.if_icmp .ge 16, 3) := by decide +kernel
theorem d_S_putAllBack_40 : decode b_S_putAllBack 40 = .ok (.aload_n 0, 1) := by decide +kernel
theorem d_S_putAllBack_41 : decode b_S_putAllBack 41 = .ok (.getfield 30, 3) := by decide +kernel
theorem d_S_putAllBack_44 : decode b_S_putAllBack 44 = .ok (.iload_n 1, 1) := by decide +kernel
theorem d_S_putAllBack_45 : decode b_S_putAllBack 45 = .ok (.iconst 0, 1) := by decide +kernel
theorem d_S_putAllBack_46 : decode b_S_putAllBack 46 = .ok (.iastore, 1) := by decide +kernel
theorem d_S_putAllBack_47 : decode b_S_putAllBack 47 = .ok (.iinc 1 1, 3) := by decide +kernel
theorem d_S_putAllBack_50 : decode b_S_putAllBack 50 = .ok (.goto (-18), 3) := by decide +kernel
theorem d_S_putAllBack_53 : decode b_S_putAllBack 53 = .ok (.aload_n 0, 1) := by decide +kernel
theorem d_S_putAllBack_54 : decode b_S_putAllBack 54 = .ok (.iconst 0, 1) := by decide +kernel
theorem d_S_putAllBack_55 : decode b_S_putAllBack 55 = .ok (.putfield 72, 3) := by decide +kernel
theorem d_S_putAllBack_58 : decode b_S_putAllBack 58 = .ok (.return_, 1) := by decide +kernel
theorem d_S_greatest_0 : decode b_S_greatest 0 = .ok (.aload_n 0, 1) := by decide +kernel
theorem d_S_greatest_1 : decode b_S_greatest 1 = .ok (.getfield 24, 3) := by decide +kernel
theorem d_S_greatest_4 : decode b_S_greatest 4 = .ok (.aload_n 0, 1) := by decide +kernel
theorem d_S_greatest_5 : decode b_S_greatest 5 = .ok (.getfield 9, 3) := by decide +kernel
theorem d_S_greatest_8 : decode b_S_greatest 8 = .ok (.iload_n 1, 1) := by decide +kernel
theorem d_S_greatest_9 : decode b_S_greatest 9 = .ok (.iaload, 1) := by decide +kernel
theorem d_S_greatest_10 : decode b_S_greatest 10 = .ok (.iaload, 1) := by decide +kernel
theorem d_S_greatest_11 : decode b_S_greatest 11 = .ok (.aload_n 0, 1) := by decide +kernel
theorem d_S_greatest_12 : decode b_S_greatest 12 = .ok (.getfield 27, 3) := by decide +kernel
theorem d_S_greatest_15 : decode b_S_greatest 15 = .ok (.aload_n 0, 1) := by decide +kernel
theorem d_S_greatest_16 : decode b_S_greatest 16 = .ok (.getfield 15, 3) := by decide +kernel
theorem d_S_greatest_19 : decode b_S_greatest 19 = .ok (.iload_n 1, 1) := by decide +kernel
theorem d_S_greatest_20 : decode b_S_greatest 20 = .ok (.iaload, 1) := by decide +kernel
theorem d_S_greatest_21 : decode b_S_greatest 21 = .ok (.iaload, 1) := by decide +kernel
theorem d_S_greatest_22 : decode b_S_greatest 22 = .ok (.invokestatic 75, 3) := by decide +kernel
theorem d_S_greatest_25 : decode b_S_greatest 25 = .ok (.ireturn, 1) := by decide +kernel
theorem d_S_backToUntried_0 : decode b_S_backToUntried 0 = .ok (.iload_n 1, 1) := by decide +kernel
theorem d_S_backToUntried_1 : decode b_S_backToUntried 1 = .ok (.istore_n 2, 1) := by decide +kernel
theorem d_S_backToUntried_2 : decode b_S_backToUntried 2 = .ok (.iload_n 2, 1) := by decide +kernel
theorem d_S_backToUntried_3 : decode b_S_backToUntried 3 = .ok (.ifCond .lt 25, 3) := by decide +kernel
theorem d_S_backToUntried_6 : decode b_S_backToUntried 6 = .ok (.aload_n 0, 1) := by decide +kernel
theorem d_S_backToUntried_7 : decode b_S_backToUntried 7 = .ok (.iload_n 2, 1) := by decide +kernel
theorem d_S_backToUntried_8 : decode b_S_backToUntried 8 = .ok (.invokevirtual 81, 3) := by decide +kernel
theorem d_S_backToUntried_11 : decode b_S_backToUntried 11 = .ok (.aload_n 0, 1) := by decide +kernel
theorem d_S_backToUntried_12 : decode b_S_backToUntried 12 = .ok (.getfield 33, 3) := by decide +kernel
theorem d_S_backToUntried_15 : decode b_S_backToUntried 15 = .ok (.iload_n 2, 1) := by decide +kernel
theorem d_S_backToUntried_16 : decode b_S_backToUntried 16 = .ok (.iaload, 1) := by decide +kernel
end
section
theorem d_S_backToUntried_17 : decode b_S_backToUntried 17 = .ok (.ifCond .lt 5, 3) := by decide +kernel
theorem d_S_backToUntried_20 : decode b_S_backToUntried 20 = .ok (.iload_n 2, 1) := by decide +kernel
theorem d_S_backToUntried_21 : decode b_S_backToUntried 21 = .ok (.ireturn, 1) := by decide +kernel
theorem d_S_backToUntried_22 : decode b_S_backToUntried 22 = .ok (.iinc 2 (-1), 3) := by decide +kernel
theorem d_S_backToUntried_25 : decode b_S_backToUntried 25 = .ok (.goto (-23), 3) := by decide +kernel
theorem d_S_backToUntried_28 : decode b_S_backToUntried 28 = .ok (.iconst (-1), 1) := by decide +kernel
theorem d_S_backToUntried_29 : decode b_S_backToUntried 29 = .ok (.ireturn, 1) := by decide +kernel
theorem d_S_putBack_0 : decode b_S_putBack 0 = .ok (.aload_n 0, 1) := by decide +kernel
theorem d_S_putBack_1 : decode b_S_putBack 1 = .ok (.dup, 1) := by decide +kernel
theorem d_S_putBack_2 : decode b_S_putBack 2 = .ok (.getfield 72, 3) := by decide +kernel
theorem d_S_putBack_5 : decode b_S_putBack 5 = .ok (.aload_n 0, 1) := by decide +kernel
theorem d_S_putBack_6 : decode b_S_putBack 6 = .ok (.iload_n 1, 1) := by decide +kernel
theorem d_S_putBack_7 : decode b_S_putBack 7 = .ok (.invokevirtual 85, 3) := by decide +kernel
theorem d_S_putBack_10 : decode b_S_putBack 10 = .ok (.isub, 1) := by decide +kernel
theorem d_S_putBack_11 : decode b_S_putBack 11 = .ok (.putfield 72, 3) := by decide +kernel
theorem d_S_putBack_14 : decode b_S_putBack 14 = .ok (.aload_n 0, 1) := by decide +kernel
theorem d_S_putBack_15 : decode b_S_putBack 15 = .ok (.getfield 24, 3) := by decide +kernel
theorem d_S_putBack_18 : decode b_S_putBack 18 = .ok (.aload_n 0, 1) := by decide +kernel
theorem d_S_putBack_19 : decode b_S_putBack 19 = .ok (.getfield 9, 3) := by decide +kernel
theorem d_S_putBack_22 : decode b_S_putBack 22 = .ok (.iload_n 1, 1) := by decide +kernel
theorem d_S_putBack_23 : decode b_S_putBack 23 = .ok (.iaload, 1) := by decide +kernel
theorem d_S_putBack_24 : decode b_S_putBack 24 = .ok (.dup2, 1) := by decide +kernel
theorem d_S_putBack_25 : decode b_S_putBack 25 = .ok (.iaload, 1) := by decide +kernel
theorem d_S_putBack_26 : decode b_S_putBack 26 = .ok (.aload_n 0, 1) := by decide +kernel
theorem d_S_putBack_27 : decode b_S_putBack 27 = .ok (.getfield 30, 3) := by decide +kernel
theorem d_S_putBack_30 : decode b_S_putBack 30 = .ok (.iload_n 1, 1) := by decide +kernel
theorem d_S_putBack_31 : decode b_S_putBack 31 = .ok (.iaload, 1) := by decide +kernel
theorem d_S_putBack_32 : decode b_S_putBack 32 = .ok (.iadd, 1) := by decide +kernel
theorem d_S_putBack_33 : decode b_S_putBack 33 = .ok (.iastore, 1) := by decide +kernel
theorem d_S_putBack_34 : decode b_S_putBack 34 = .ok (.aload_n 0, 1) := by decide +kernel
theorem d_S_putBack_35 : decode b_S_putBack 35 = .ok (.getfield 27, 3) := by decide +kernel
theorem d_S_putBack_38 : decode b_S_putBack 38 = .ok (.aload_n 0, 1) := by decide +kernel
theorem d_S_putBack_39 : decode b_S_putBack 39 = .ok (.getfield 15, 3) := by decide +kernel
theorem d_S_putBack_42 : decode b_S_putBack 42 = .ok (.iload_n 1, 1) := by decide +kernel
theorem d_S_putBack_43 : decode b_S_putBack 43 = .ok (.iaload, 1) := by decide +kernel
theorem d_S_putBack_44 : decode b_S_putBack 44 = .ok (.dup2, 1) := by decide +kernel
theorem d_S_putBack_45 : decode b_S_putBack 45 = .ok (.iaload, 1) := by decide +kernel
theorem d_S_putBack_46 : decode b_S_putBack 46 = .ok (.aload_n 0, 1) := by decide +kernel
theorem d_S_putBack_47 : decode b_S_putBack 47 = .ok (.getfield 30, 3) := by decide +kernel
theorem d_S_putBack_50 : decode b_S_putBack 50 = .ok (.iload_n 1, 1) := by decide +kernel
theorem d_S_putBack_51 : decode b_S_putBack 51 = .ok (.iaload, 1) := by decide +kernel
theorem d_S_putBack_52 : decode b_S_putBack 52 = .ok (.iadd, 1) := by decide +kernel
theorem d_S_putBack_53 : decode b_S_putBack 53 = .ok (.iastore, 1) := by decide +kernel
theorem d_S_putBack_54 : decode b_S_putBack 54 = .ok (.aload_n 0, 1) := by decide +kernel
theorem d_S_putBack_55 : decode b_S_putBack 55 = .ok (.getfield 30, 3) := by decide +kernel
theorem d_S_putBack_58 : decode b_S_putBack 58 = .ok (.iload_n 1, 1) := by decide +kernel
theorem d_S_putBack_59 : decode b_S_putBack 59 = .ok (.iconst 0, 1) := by decide +kernel
theorem d_S_putBack_60 : decode b_S_putBack 60 = .ok (.iastore, 1) := by decide +kernel
theorem d_S_putBack_61 : decode b_S_putBack 61 = .ok (.return_, 1) := by decide +kernel
theorem d_S_touchesBy_0 : decode b_S_touchesBy 0 = .ok (.aload_n 0, 1) := by decide +kernel
theorem d_S_touchesBy_1 : decode b_S_touchesBy 1 = .ok (.getfield 30, 3) := by decide +kernel
theorem d_S_touchesBy_4 : decode b_S_touchesBy 4 = .ok (.iload_n 1, 1) := by decide +kernel
theorem d_S_touchesBy_5 : decode b_S_touchesBy 5 = .ok (.iaload, 1) := by decide +kernel
theorem d_S_touchesBy_6 : decode b_S_touchesBy 6 = .ok (.istore_n 2, 1) := by decide +kernel
theorem d_S_touchesBy_7 : decode b_S_touchesBy 7 = .ok (.iload_n 2, 1) := by decide +kernel
theorem d_S_touchesBy_8 : decode b_S_touchesBy 8 = .ok (.ifCond .ne 5, 3) := by decide +kernel
theorem d_S_touchesBy_11 : decode b_S_touchesBy 11 = .ok (.iconst 0, 1) := by decide +kernel
theorem d_S_touchesBy_12 : decode b_S_touchesBy 12 = .ok (.ireturn, 1) := by decide +kernel
theorem d_S_touchesBy_13 : decode b_S_touchesBy 13 = .ok (.iconst 2, 1) := by decide +kernel
theorem d_S_touchesBy_14 : decode b_S_touchesBy 14 = .ok (.iload_n 2, 1) := by decide +kernel
theorem d_S_touchesBy_15 : decode b_S_touchesBy 15 = .ok (.imul, 1) := by decide +kernel
theorem d_S_touchesBy_16 : decode b_S_touchesBy 16 = .ok (.istore_n 3, 1) := by decide +kernel
theorem d_S_touchesBy_17 : decode b_S_touchesBy 17 = .ok (.aload_n 0, 1) := by decide +kernel
theorem d_S_touchesBy_18 : decode b_S_touchesBy 18 = .ok (.getfield 27, 3) := by decide +kernel
theorem d_S_touchesBy_21 : decode b_S_touchesBy 21 = .ok (.aload_n 0, 1) := by decide +kernel
theorem d_S_touchesBy_22 : decode b_S_touchesBy 22 = .ok (.getfield 15, 3) := by decide +kernel
theorem d_S_touchesBy_25 : decode b_S_touchesBy 25 = .ok (.iload_n 1, 1) := by decide +kernel
theorem d_S_touchesBy_26 : decode b_S_touchesBy 26 = .ok (.iaload, 1) := by decide +kernel
theorem d_S_touchesBy_27 : decode b_S_touchesBy 27 = .ok (.iaload, 1) := by decide +kernel
theorem d_S_touchesBy_28 : decode b_S_touchesBy 28 = .ok (.ifCond .ne 6, 3) := by decide +kernel
theorem d_S_touchesBy_31 : decode b_S_touchesBy 31 = .ok (.iinc 3 3, 3) := by decide +kernel
theorem d_S_touchesBy_34 : decode b_S_touchesBy 34 = .ok (.iload_n 2, 1) := by decide +kernel
theorem d_S_touchesBy_35 : decode b_S_touchesBy 35 = .ok (.aload_n 0, 1) := by decide +kernel
theorem d_S_touchesBy_36 : decode b_S_touchesBy 36 = .ok (.getfield 18, 3) := by decide +kernel
theorem d_S_touchesBy_39 : decode b_S_touchesBy 39 = .ok (.aload_n 0, 1) := by decide +kernel
theorem d_S_touchesBy_40 : decode b_S_touchesBy 40 = .ok (.getfield 9, 3) := by decide +kernel
theorem d_S_touchesBy_43 : decode b_S_touchesBy 43 = .ok (.iload_n 1, 1) := by decide +kernel
theorem d_S_touchesBy_44 : decode b_S_touchesBy 44 = .ok (.iaload, 1) := by decide +kernel
theorem d_S_touchesBy_45 : decode b_S_touchesBy 45 = .ok (.iaload, 1) := by decide +kernel
theorem d_S_touchesBy_46 : decode b_S_touchesBy 46 = .ok (.if_icmp .ne 6, 3) := by decide +kernel
theorem d_S_touchesBy_49 : decode b_S_touchesBy 49 = .ok (.iinc 3 1, 3) := by decide +kernel
theorem d_S_touchesBy_52 : decode b_S_touchesBy 52 = .ok (.iload_n 3, 1) := by decide +kernel
theorem d_S_touchesBy_53 : decode b_S_touchesBy 53 = .ok (.ireturn, 1) := by decide +kernel
theorem d_S_take_0 : decode b_S_take 0 = .ok (.aload_n 0, 1) := by decide +kernel
theorem d_S_take_1 : decode b_S_take 1 = .ok (.getfield 24, 3) := by decide +kernel
theorem d_S_take_4 : decode b_S_take 4 = .ok (.aload_n 0, 1) := by decide +kernel
theorem d_S_take_5 : decode b_S_take 5 = .ok (.getfield 9, 3) := by decide +kernel
theorem d_S_take_8 : decode b_S_take 8 = .ok (.iload_n 1, 1) := by decide +kernel
theorem d_S_take_9 : decode b_S_take 9 = .ok (.iaload, 1) := by decide +kernel
theorem d_S_take_10 : decode b_S_take 10 = .ok (.dup2, 1) := by decide +kernel
theorem d_S_take_11 : decode b_S_take 11 = .ok (.iaload, 1) := by decide +kernel
theorem d_S_take_12 : decode b_S_take 12 = .ok (.iload_n 2, 1) := by decide +kernel
theorem d_S_take_13 : decode b_S_take 13 = .ok (.isub, 1) := by decide +kernel
theorem d_S_take_14 : decode b_S_take 14 = .ok (.iastore, 1) := by decide +kernel
theorem d_S_take_15 : decode b_S_take 15 = .ok (.aload_n 0, 1) := by decide +kernel
theorem d_S_take_16 : decode b_S_take 16 = .ok (.getfield 27, 3) := by decide +kernel
theorem d_S_take_19 : decode b_S_take 19 = .ok (.aload_n 0, 1) := by decide +kernel
theorem d_S_take_20 : decode b_S_take 20 = .ok (.getfield 15, 3) := by decide +kernel
theorem d_S_take_23 : decode b_S_take 23 = .ok (.iload_n 1, 1) := by decide +kernel
theorem d_S_take_24 : decode b_S_take 24 = .ok (.iaload, 1) := by decide +kernel
theorem d_S_take_25 : decode b_S_take 25 = .ok (.dup2, 1) := by decide +kernel
theorem d_S_take_26 : decode b_S_take 26 = .ok (.iaload, 1) := by decide +kernel
theorem d_S_take_27 : decode b_S_take 27 = .ok (.iload_n 2, 1) := by decide +kernel
theorem d_S_take_28 : decode b_S_take 28 = .ok (.isub, 1) := by decide +kernel
theorem d_S_take_29 : decode b_S_take 29 = .ok (.iastore, 1) := by decide +kernel
theorem d_S_take_30 : decode b_S_take 30 = .ok (.aload_n 0, 1) := by decide +kernel
theorem d_S_take_31 : decode b_S_take 31 = .ok (.getfield 30, 3) := by decide +kernel
theorem d_S_take_34 : decode b_S_take 34 = .ok (.iload_n 1, 1) := by decide +kernel
theorem d_S_take_35 : decode b_S_take 35 = .ok (.iload_n 2, 1) := by decide +kernel
theorem d_S_take_36 : decode b_S_take 36 = .ok (.iastore, 1) := by decide +kernel
theorem d_S_take_37 : decode b_S_take 37 = .ok (.aload_n 0, 1) := by decide +kernel
theorem d_S_take_38 : decode b_S_take 38 = .ok (.dup, 1) := by decide +kernel
theorem d_S_take_39 : decode b_S_take 39 = .ok (.getfield 72, 3) := by decide +kernel
theorem d_S_take_42 : decode b_S_take 42 = .ok (.aload_n 0, 1) := by decide +kernel
theorem d_S_take_43 : decode b_S_take 43 = .ok (.iload_n 1, 1) := by decide +kernel
theorem d_S_take_44 : decode b_S_take 44 = .ok (.invokevirtual 85, 3) := by decide +kernel
theorem d_S_take_47 : decode b_S_take 47 = .ok (.iadd, 1) := by decide +kernel
theorem d_S_take_48 : decode b_S_take 48 = .ok (.putfield 72, 3) := by decide +kernel
theorem d_S_take_51 : decode b_S_take 51 = .ok (.return_, 1) := by decide +kernel
theorem d_S_chooseIfBetter_0 : decode b_S_chooseIfBetter 0 = .ok (.aload_n 0, 1) := by decide +kernel
theorem d_S_chooseIfBetter_1 : decode b_S_chooseIfBetter 1 = .ok (.getfield 72, 3) := by decide +kernel
theorem d_S_chooseIfBetter_4 : decode b_S_chooseIfBetter 4 = .ok (.aload_n 0, 1) := by decide +kernel
theorem d_S_chooseIfBetter_5 : decode b_S_chooseIfBetter 5 = .ok (.getfield 46, 3) := by decide +kernel
theorem d_S_chooseIfBetter_8 : decode b_S_chooseIfBetter 8 = .ok (.if_icmp .le 28, 3) := by decide +kernel
theorem d_S_chooseIfBetter_11 : decode b_S_chooseIfBetter 11 = .ok (.aload_n 0, 1) := by decide +kernel
theorem d_S_chooseIfBetter_12 : decode b_S_chooseIfBetter 12 = .ok (.aload_n 0, 1) := by decide +kernel
theorem d_S_chooseIfBetter_13 : decode b_S_chooseIfBetter 13 = .ok (.getfield 72, 3) := by decide +kernel
theorem d_S_chooseIfBetter_16 : decode b_S_chooseIfBetter 16 = .ok (.putfield 46, 3) := by decide +kernel
theorem d_S_chooseIfBetter_19 : decode b_S_chooseIfBetter 19 = .ok (.aload_n 0, 1) := by decide +kernel
theorem d_S_chooseIfBetter_20 : decode b_S_chooseIfBetter 20 = .ok (.getfield 30, 3) := by decide +kernel
theorem d_S_chooseIfBetter_23 : decode b_S_chooseIfBetter 23 = .ok (.iconst 0, 1) := by decide +kernel
theorem d_S_chooseIfBetter_24 : decode b_S_chooseIfBetter 24 = .ok (.aload_n 0, 1) := by decide +kernel
theorem d_S_chooseIfBetter_25 : decode b_S_chooseIfBetter 25 = .ok (.getfield 36, 3) := by decide +kernel
theorem d_S_chooseIfBetter_28 : decode b_S_chooseIfBetter 28 = .ok (.iconst 0, 1) := by decide +kernel
theorem d_S_chooseIfBetter_29 : decode b_S_chooseIfBetter 29 = .ok (.aload_n 0, 1) := by decide +kernel
theorem d_S_chooseIfBetter_30 : decode b_S_chooseIfBetter 30 = .ok (.getfield 39, 3) := by decide +kernel
theorem d_S_chooseIfBetter_33 : decode b_S_chooseIfBetter 33 = .ok (.invokestatic 66, 3) := by decide +kernel
theorem d_S_chooseIfBetter_36 : decode b_S_chooseIfBetter 36 = .ok (.return_, 1) := by decide +kernel
theorem d_S_chooseByRule_0 : decode b_S_chooseByRule 0 = .ok (.aload_n 0, 1) := by decide +kernel
theorem d_S_chooseByRule_1 : decode b_S_chooseByRule 1 = .ok (.invokevirtual 43, 3) := by decide +kernel
theorem d_S_chooseByRule_4 : decode b_S_chooseByRule 4 = .ok (.iconst 0, 1) := by decide +kernel
theorem d_S_chooseByRule_5 : decode b_S_chooseByRule 5 = .ok (.istore_n 1, 1) := by decide +kernel
theorem d_S_chooseByRule_6 : decode b_S_chooseByRule 6 = .ok (.iload_n 1, 1) := by decide +kernel
theorem d_S_chooseByRule_7 : decode b_S_chooseByRule 7 = .ok (.aload_n 0, 1) := by decide +kernel
theorem d_S_chooseByRule_8 : decode b_S_chooseByRule 8 = .ok (.getfield 39, 3) := by decide +kernel
theorem d_S_chooseByRule_11 : decode b_S_chooseByRule 11 = .ok (.if_icmp .ge 31, 3) := by decide +kernel
theorem d_S_chooseByRule_14 : decode b_S_chooseByRule 14 = .ok (.aload_n 0, 1) := by decide +kernel
theorem d_S_chooseByRule_15 : decode b_S_chooseByRule 15 = .ok (.iload_n 1, 1) := by decide +kernel
theorem d_S_chooseByRule_16 : decode b_S_chooseByRule 16 = .ok (.aload_n 0, 1) := by decide +kernel
theorem d_S_chooseByRule_17 : decode b_S_chooseByRule 17 = .ok (.iload_n 1, 1) := by decide +kernel
theorem d_S_chooseByRule_18 : decode b_S_chooseByRule 18 = .ok (.invokevirtual 49, 3) := by decide +kernel
theorem d_S_chooseByRule_21 : decode b_S_chooseByRule 21 = .ok (.invokevirtual 59, 3) := by decide +kernel
theorem d_S_chooseByRule_24 : decode b_S_chooseByRule 24 = .ok (.aload_n 0, 1) := by decide +kernel
theorem d_S_chooseByRule_25 : decode b_S_chooseByRule 25 = .ok (.getfield 36, 3) := by decide +kernel
theorem d_S_chooseByRule_28 : decode b_S_chooseByRule 28 = .ok (.iload_n 1, 1) := by decide +kernel
theorem d_S_chooseByRule_29 : decode b_S_chooseByRule 29 = .ok (.aload_n 0, 1) := by decide +kernel
theorem d_S_chooseByRule_30 : decode b_S_chooseByRule 30 = .ok (.getfield 30, 3) := by decide +kernel
theorem d_S_chooseByRule_33 : decode b_S_chooseByRule 33 = .ok (.iload_n 1, 1) := by decide +kernel
theorem d_S_chooseByRule_34 : decode b_S_chooseByRule 34 = .ok (.iaload, 1) := by decide +kernel
theorem d_S_chooseByRule_35 : decode b_S_chooseByRule 35 = .ok (.iastore, 1) := by decide +kernel
theorem d_S_chooseByRule_36 : decode b_S_chooseByRule 36 = .ok (.iinc 1 1, 3) := by decide +kernel
theorem d_S_chooseByRule_39 : decode b_S_chooseByRule 39 = .ok (.goto (-33), 3) := by decide +kernel
theorem d_S_chooseByRule_42 : decode b_S_chooseByRule 42 = .ok (.return_, 1) := by decide +kernel
theorem d_P_replaceBy_0 : decode b_P_replaceBy 0 = .ok (.aload_n 0, 1) := by decide +kernel
theorem d_P_replaceBy_1 : decode b_P_replaceBy 1 = .ok (.iconst 0, 1) := by decide +kernel
theorem d_P_replaceBy_2 : decode b_P_replaceBy 2 = .ok (.putfield 21, 3) := by decide +kernel
theorem d_P_replaceBy_5 : decode b_P_replaceBy 5 = .ok (.iconst 0, 1) := by decide +kernel
theorem d_P_replaceBy_6 : decode b_P_replaceBy 6 = .ok (.istore_n 2, 1) := by decide +kernel
theorem d_P_replaceBy_7 : decode b_P_replaceBy 7 = .ok (.iload_n 2, 1) := by decide +kernel
theorem d_P_replaceBy_8 : decode b_P_replaceBy 8 = .ok (.aload_n 1, 1) := by decide +kernel
theorem d_P_replaceBy_9 : decode b_P_replaceBy 9 = .ok (.getfield 25, 3) := by decide +kernel
theorem d_P_replaceBy_12 : decode b_P_replaceBy 12 = .ok (.if_icmp .ge 73, 3) := by decide +kernel
theorem d_P_replaceBy_15 : decode b_P_replaceBy 15 = .ok (.aload_n 1, 1) := by decide +kernel
theorem d_P_replaceBy_16 : decode b_P_replaceBy 16 = .ok (.getfield 28, 3) := by decide +kernel
theorem d_P_replaceBy_19 : decode b_P_replaceBy 19 = .ok (.iload_n 2, 1) := by decide +kernel
theorem d_P_replaceBy_20 : decode b_P_replaceBy 20 = .ok (.iaload, 1) := by decide +kernel
theorem d_P_replaceBy_21 : decode b_P_replaceBy 21 = .ok (.ifCond .le 58, 3) := by decide +kernel
theorem d_P_replaceBy_24 : decode b_P_replaceBy 24 = .ok (.aload_n 0, 1) := by decide +kernel
theorem d_P_replaceBy_25 : decode b_P_replaceBy 25 = .ok (.getfield 9, 3) := by decide +kernel
theorem d_P_replaceBy_28 : decode b_P_replaceBy 28 = .ok (.aload_n 0, 1) := by decide +kernel
theorem d_P_replaceBy_29 : decode b_P_replaceBy 29 = .ok (.getfield 21, 3) := by decide +kernel
theorem d_P_replaceBy_32 : decode b_P_replaceBy 32 = .ok (.aload_n 1, 1) := by decide +kernel
theorem d_P_replaceBy_33 : decode b_P_replaceBy 33 = .ok (.getfield 31, 3) := by decide +kernel
theorem d_P_replaceBy_36 : decode b_P_replaceBy 36 = .ok (.iload_n 2, 1) := by decide +kernel
theorem d_P_replaceBy_37 : decode b_P_replaceBy 37 = .ok (.iaload, 1) := by decide +kernel
theorem d_P_replaceBy_38 : decode b_P_replaceBy 38 = .ok (.iastore, 1) := by decide +kernel
theorem d_P_replaceBy_39 : decode b_P_replaceBy 39 = .ok (.aload_n 0, 1) := by decide +kernel
theorem d_P_replaceBy_40 : decode b_P_replaceBy 40 = .ok (.getfield 15, 3) := by decide +kernel
theorem d_P_replaceBy_43 : decode b_P_replaceBy 43 = .ok (.aload_n 0, 1) := by decide +kernel
theorem d_P_replaceBy_44 : decode b_P_replaceBy 44 = .ok (.getfield 21, 3) := by decide +kernel
theorem d_P_replaceBy_47 : decode b_P_replaceBy 47 = .ok (.aload_n 1, 1) := by decide +kernel
theorem d_P_replaceBy_48 : decode b_P_replaceBy 48 = .ok (.getfield 32, 3) := by decide +kernel
theorem d_P_replaceBy_51 : decode b_P_replaceBy 51 = .ok (.iload_n 2, 1) := by decide +kernel
theorem d_P_replaceBy_52 : decode b_P_replaceBy 52 = .ok (.iaload, 1) := by decide +kernel
theorem d_P_replaceBy_53 : decode b_P_replaceBy 53 = .ok (.iastore, 1) := by decide +kernel
theorem d_P_replaceBy_54 : decode b_P_replaceBy 54 = .ok (.aload_n 0, 1) := by decide +kernel
theorem d_P_replaceBy_55 : decode b_P_replaceBy 55 = .ok (.getfield 18, 3) := by decide +kernel
theorem d_P_replaceBy_58 : decode b_P_replaceBy 58 = .ok (.aload_n 0, 1) := by decide +kernel
theorem d_P_replaceBy_59 : decode b_P_replaceBy 59 = .ok (.getfield 21, 3) := by decide +kernel
theorem d_P_replaceBy_62 : decode b_P_replaceBy 62 = .ok (.aload_n 1, 1) := by decide +kernel
theorem d_P_replaceBy_63 : decode b_P_replaceBy 63 = .ok (.getfield 28, 3) := by decide +kernel
theorem d_P_replaceBy_66 : decode b_P_replaceBy 66 = .ok (.iload_n 2, 1) := by decide +kernel
theorem d_P_replaceBy_67 : decode b_P_replaceBy 67 = .ok (.iaload, 1) := by decide +kernel
theorem d_P_replaceBy_68 : decode b_P_replaceBy 68 = .ok (.iastore, 1) := by decide +kernel
theorem d_P_replaceBy_69 : decode b_P_replaceBy 69 = .ok (.aload_n 0, 1) := by decide +kernel
theorem d_P_replaceBy_70 : decode b_P_replaceBy 70 = .ok (.dup, 1) := by decide +kernel
theorem d_P_replaceBy_71 : decode b_P_replaceBy 71 = .ok (.getfield 21, 3) := by decide +kernel
theorem d_P_replaceBy_74 : decode b_P_replaceBy 74 = .ok (.iconst 1, 1) := by decide +kernel
theorem d_P_replaceBy_75 : decode b_P_replaceBy 75 = .ok (.iadd, 1) := by decide +kernel
theorem d_P_replaceBy_76 : decode b_P_replaceBy 76 = .ok (.putfield 21, 3) := by decide +kernel
theorem d_P_replaceBy_79 : decode b_P_replaceBy 79 = .ok (.iinc 2 1, 3) := by decide +kernel
theorem d_P_replaceBy_82 : decode b_P_replaceBy 82 = .ok (.goto (-75), 3) := by decide +kernel
theorem d_P_replaceBy_85 : decode b_P_replaceBy 85 = .ok (.return_, 1) := by decide +kernel
theorem d_L_pair_0 : decode b_L_pair 0 = .ok (.aload_n 3, 1) := by decide +kernel
theorem d_L_pair_1 : decode b_L_pair 1 = .ok (.iconst 0, 1) := by decide +kernel
theorem d_L_pair_2 : decode b_L_pair 2 = .ok (.aload_n 0, 1) := by decide +kernel
theorem d_L_pair_3 : decode b_L_pair 3 = .ok (.iload_n 1, 1) := by decide +kernel
theorem d_L_pair_4 : decode b_L_pair 4 = .ok (.iload_n 2, 1) := by decide +kernel
theorem d_L_pair_5 : decode b_L_pair 5 = .ok (.invokevirtual 44, 3) := by decide +kernel
theorem d_L_pair_8 : decode b_L_pair 8 = .ok (.i2l, 1) := by decide +kernel
theorem d_L_pair_9 : decode b_L_pair 9 = .ok (.lastore, 1) := by decide +kernel
theorem d_L_pair_10 : decode b_L_pair 10 = .ok (.goto 11, 3) := by decide +kernel
theorem d_L_pair_13 : decode b_L_pair 13 = .ok (.astore 4, 2) := by decide +kernel
theorem d_L_pair_15 : decode b_L_pair 15 = .ok (.iconst 1, 1) := by decide +kernel
theorem d_L_pair_16 : decode b_L_pair 16 = .ok (.ireturn, 1) := by decide +kernel
theorem d_L_pair_17 : decode b_L_pair 17 = .ok (.astore 4, 2) := by decide +kernel
theorem d_L_pair_19 : decode b_L_pair 19 = .ok (.iconst 2, 1) := by decide +kernel
theorem d_L_pair_20 : decode b_L_pair 20 = .ok (.ireturn, 1) := by decide +kernel
theorem d_L_pair_21 : decode b_L_pair 21 = .ok (.iconst 0, 1) := by decide +kernel
theorem d_L_pair_22 : decode b_L_pair 22 = .ok (.ireturn, 1) := by decide +kernel
theorem d_D_pair_0 : decode b_D_pair 0 = .ok (.iload_n 1, 1) := by decide +kernel
theorem d_D_pair_1 : decode b_D_pair 1 = .ok (.aload_n 0, 1) := by decide +kernel
theorem d_D_pair_2 : decode b_D_pair 2 = .ok (.getfield 44, 3) := by decide +kernel
theorem d_D_pair_5 : decode b_D_pair 5 = .ok (.getfield 148, 3) := by decide +kernel
theorem d_D_pair_8 : decode b_D_pair 8 = .ok (.invokestatic 96, 3) := by decide +kernel
theorem d_D_pair_11 : decode b_D_pair 11 = .ok (.iload_n 2, 1) := by decide +kernel
theorem d_D_pair_12 : decode b_D_pair 12 = .ok (.iconst 0, 1) := by decide +kernel
theorem d_D_pair_13 : decode b_D_pair 13 = .ok (.iconst 2, 1) := by decide +kernel
theorem d_D_pair_14 : decode b_D_pair 14 = .ok (.invokestatic 62, 3) := by decide +kernel
theorem d_D_pair_17 : decode b_D_pair 17 = .ok (.iload_n 2, 1) := by decide +kernel
theorem d_D_pair_18 : decode b_D_pair 18 = .ok (.ifCond .ne 13, 3) := by decide +kernel
theorem d_D_pair_21 : decode b_D_pair 21 = .ok (.aload_n 0, 1) := by decide +kernel
theorem d_D_pair_22 : decode b_D_pair 22 = .ok (.getfield 44, 3) := by decide +kernel
theorem d_D_pair_25 : decode b_D_pair 25 = .ok (.getfield 151, 3) := by decide +kernel
theorem d_D_pair_28 : decode b_D_pair 28 = .ok (.iload_n 1, 1) := by decide +kernel
theorem d_D_pair_29 : decode b_D_pair 29 = .ok (.iaload, 1) := by decide +kernel
theorem d_D_pair_30 : decode b_D_pair 30 = .ok (.ireturn, 1) := by decide +kernel
theorem d_D_pair_31 : decode b_D_pair 31 = .ok (.iload_n 2, 1) := by decide +kernel
theorem d_D_pair_32 : decode b_D_pair 32 = .ok (.iconst 1, 1) := by decide +kernel
theorem d_D_pair_33 : decode b_D_pair 33 = .ok (.if_icmp .ne 15, 3) := by decide +kernel
theorem d_D_pair_36 : decode b_D_pair 36 = .ok (.aload_n 0, 1) := by decide +kernel
theorem d_D_pair_37 : decode b_D_pair 37 = .ok (.getfield 44, 3) := by decide +kernel
theorem d_D_pair_40 : decode b_D_pair 40 = .ok (.getfield 154, 3) := by decide +kernel
theorem d_D_pair_43 : decode b_D_pair 43 = .ok (.iload_n 1, 1) := by decide +kernel
theorem d_D_pair_44 : decode b_D_pair 44 = .ok (.iaload, 1) := by decide +kernel
theorem d_D_pair_45 : decode b_D_pair 45 = .ok (.goto 12, 3) := by decide +kernel
theorem d_D_pair_48 : decode b_D_pair 48 = .ok (.aload_n 0, 1) := by decide +kernel
theorem d_D_pair_49 : decode b_D_pair 49 = .ok (.getfield 44, 3) := by decide +kernel
theorem d_D_pair_52 : decode b_D_pair 52 = .ok (.getfield 157, 3) := by decide +kernel
theorem d_D_pair_55 : decode b_D_pair 55 = .ok (.iload_n 1, 1) := by decide +kernel
theorem d_D_pair_56 : decode b_D_pair 56 = .ok (.iaload, 1) := by decide +kernel
theorem d_D_pair_57 : decode b_D_pair 57 = .ok (.ireturn, 1) := by decide +kernel
theorem d_L_undo_0 : decode b_L_undo 0 = .ok (.aload_n 2, 1) := by decide +kernel
theorem d_L_undo_1 : decode b_L_undo 1 = .ok (.iconst 0, 1) := by decide +kernel
theorem d_L_undo_2 : decode b_L_undo 2 = .ok (.aload_n 0, 1) := by decide +kernel
theorem d_L_undo_3 : decode b_L_undo 3 = .ok (.iload_n 1, 1) := by decide +kernel
theorem d_L_undo_4 : decode b_L_undo 4 = .ok (.invokevirtual 48, 3) := by decide +kernel
theorem d_L_undo_7 : decode b_L_undo 7 = .ok (.i2l, 1) := by decide +kernel
theorem d_L_undo_8 : decode b_L_undo 8 = .ok (.lastore, 1) := by decide +kernel
theorem d_L_undo_9 : decode b_L_undo 9 = .ok (.goto 6, 3) := by decide +kernel
theorem d_L_undo_12 : decode b_L_undo 12 = .ok (.astore_n 3, 1) := by decide +kernel
theorem d_L_undo_13 : decode b_L_undo 13 = .ok (.iconst 1, 1) := by decide +kernel
theorem d_L_undo_14 : decode b_L_undo 14 = .ok (.ireturn, 1) := by decide +kernel
theorem d_L_undo_15 : decode b_L_undo 15 = .ok (.iconst 0, 1) := by decide +kernel
theorem d_L_undo_16 : decode b_L_undo 16 = .ok (.ireturn, 1) := by decide +kernel
theorem d_D_undo_0 : decode b_D_undo 0 = .ok (.iload_n 1, 1) := by decide +kernel
theorem d_D_undo_1 : decode b_D_undo 1 = .ok (.aload_n 0, 1) := by decide +kernel
theorem d_D_undo_2 : decode b_D_undo 2 = .ok (.getfield 44, 3) := by decide +kernel
theorem d_D_undo_5 : decode b_D_undo 5 = .ok (.getfield 148, 3) := by decide +kernel
theorem d_D_undo_8 : decode b_D_undo 8 = .ok (.invokestatic 96, 3) := by decide +kernel
theorem d_D_undo_11 : decode b_D_undo 11 = .ok (.aload_n 0, 1) := by decide +kernel
theorem d_D_undo_12 : decode b_D_undo 12 = .ok (.getfield 44, 3) := by decide +kernel
theorem d_D_undo_15 : decode b_D_undo 15 = .ok (.getfield 157, 3) := by decide +kernel
theorem d_D_undo_18 : decode b_D_undo 18 = .ok (.iload_n 1, 1) := by decide +kernel
theorem d_D_undo_19 : decode b_D_undo 19 = .ok (.iaload, 1) := by decide +kernel
theorem d_D_undo_20 : decode b_D_undo 20 = .ok (.istore_n 2, 1) := by decide +kernel
theorem d_D_undo_21 : decode b_D_undo 21 = .ok (.aload_n 0, 1) := by decide +kernel
theorem d_D_undo_22 : decode b_D_undo 22 = .ok (.getfield 44, 3) := by decide +kernel
theorem d_D_undo_25 : decode b_D_undo 25 = .ok (.iload_n 1, 1) := by decide +kernel
theorem d_D_undo_26 : decode b_D_undo 26 = .ok (.invokevirtual 160, 3) := by decide +kernel
theorem d_D_undo_29 : decode b_D_undo 29 = .ok (.iload_n 2, 1) := by decide +kernel
theorem d_D_undo_30 : decode b_D_undo 30 = .ok (.ireturn, 1) := by decide +kernel
theorem d_P_removeAt_0 : decode b_P_removeAt 0 = .ok (.iload_n 1, 1) := by decide +kernel
theorem d_P_removeAt_1 : decode b_P_removeAt 1 = .ok (.iconst 1, 1) := by decide +kernel
theorem d_P_removeAt_2 : decode b_P_removeAt 2 = .ok (.iadd, 1) := by decide +kernel
theorem d_P_removeAt_3 : decode b_P_removeAt 3 = .ok (.istore_n 2, 1) := by decide +kernel
theorem d_P_removeAt_4 : decode b_P_removeAt 4 = .ok (.iload_n 2, 1) := by decide +kernel
theorem d_P_removeAt_5 : decode b_P_removeAt 5 = .ok (.aload_n 0, 1) := by decide +kernel
theorem d_P_removeAt_6 : decode b_P_removeAt 6 = .ok (.getfield 21, 3) := by decide +kernel
theorem d_P_removeAt_9 : decode b_P_removeAt 9 = .ok (.if_icmp .ge 51, 3) := by decide +kernel
theorem d_P_removeAt_12 : decode b_P_removeAt 12 = .ok (.aload_n 0, 1) := by decide +kernel
theorem d_P_removeAt_13 : decode b_P_removeAt 13 = .ok (.getfield 9, 3) := by decide +kernel
theorem d_P_removeAt_16 : decode b_P_removeAt 16 = .ok (.iload_n 2, 1) := by decide +kernel
theorem d_P_removeAt_17 : decode b_P_removeAt 17 = .ok (.iconst 1, 1) := by decide +kernel
theorem d_P_removeAt_18 : decode b_P_removeAt 18 = .ok (.isub, 1) := by decide +kernel
theorem d_P_removeAt_19 : decode b_P_removeAt 19 = .ok (.aload_n 0, 1) := by decide +kernel
theorem d_P_removeAt_20 : decode b_P_removeAt 20 = .ok (.getfield 9, 3) := by decide +kernel
theorem d_P_removeAt_23 : decode b_P_removeAt 23 = .ok (.iload_n 2, 1) := by decide +kernel
theorem d_P_removeAt_24 : decode b_P_removeAt 24 = .ok (.iaload, 1) := by decide +kernel
theorem d_P_removeAt_25 : decode b_P_removeAt 25 = .ok (.iastore, 1) := by decide +kernel
theorem d_P_removeAt_26 : decode b_P_removeAt 26 = .ok (.aload_n 0, 1) := by decide +kernel
theorem d_P_removeAt_27 : decode b_P_removeAt 27 = .ok (.getfield 15, 3) := by decide +kernel
theorem d_P_removeAt_30 : decode b_P_removeAt 30 = .ok (.iload_n 2, 1) := by decide +kernel
theorem d_P_removeAt_31 : decode b_P_removeAt 31 = .ok (.iconst 1, 1) := by decide +kernel
theorem d_P_removeAt_32 : decode b_P_removeAt 32 = .ok (.isub, 1) := by decide +kernel
theorem d_P_removeAt_33 : decode b_P_removeAt 33 = .ok (.aload_n 0, 1) := by decide +kernel
theorem d_P_removeAt_34 : decode b_P_removeAt 34 = .ok (.getfield 15, 3) := by decide +kernel
theorem d_P_removeAt_37 : decode b_P_removeAt 37 = .ok (.iload_n 2, 1) := by decide +kernel
theorem d_P_removeAt_38 : decode b_P_removeAt 38 = .ok (.iaload, 1) := by decide +kernel
theorem d_P_removeAt_39 : decode b_P_removeAt 39 = .ok (.iastore, 1) := by decide +kernel
theorem d_P_removeAt_40 : decode b_P_removeAt 40 = .ok (.aload_n 0, 1) := by decide +kernel
theorem d_P_removeAt_41 : decode b_P_removeAt 41 = .ok (.getfield 18, 3) := by decide +kernel
theorem d_P_removeAt_44 : decode b_P_removeAt 44 = .ok (.iload_n 2, 1) := by decide +kernel
theorem d_P_removeAt_45 : decode b_P_removeAt 45 = .ok (.iconst 1, 1) := by decide +kernel
theorem d_P_removeAt_46 : decode b_P_removeAt 46 = .ok (.isub, 1) := by decide +kernel
theorem d_P_removeAt_47 : decode b_P_removeAt 47 = .ok (.aload_n 0, 1) := by decide +kernel
theorem d_P_removeAt_48 : decode b_P_removeAt 48 = .ok (.getfield 18, 3) := by decide +kernel
theorem d_P_removeAt_51 : decode b_P_removeAt 51 = .ok (.iload_n 2, 1) := by decide +kernel
theorem d_P_removeAt_52 : decode b_P_removeAt 52 = .ok (.iaload, 1) := by decide +kernel
theorem d_P_removeAt_53 : decode b_P_removeAt 53 = .ok (.iastore, 1) := by decide +kernel
theorem d_P_removeAt_54 : decode b_P_removeAt 54 = .ok (.iinc 2 1, 3) := by decide +kernel
theorem d_P_removeAt_57 : decode b_P_removeAt 57 = .ok (.goto (-53), 3) := by decide +kernel
theorem d_P_removeAt_60 : decode b_P_removeAt 60 = .ok (.aload_n 0, 1) := by decide +kernel
theorem d_P_removeAt_61 : decode b_P_removeAt 61 = .ok (.dup, 1) := by decide +kernel
theorem d_P_removeAt_62 : decode b_P_removeAt 62 = .ok (.getfield 21, 3) := by decide +kernel
theorem d_P_removeAt_65 : decode b_P_removeAt 65 = .ok (.iconst 1, 1) := by decide +kernel
theorem d_P_removeAt_66 : decode b_P_removeAt 66 = .ok (.isub, 1) := by decide +kernel
theorem d_P_removeAt_67 : decode b_P_removeAt 67 = .ok (.putfield 21, 3) := by decide +kernel
theorem d_P_removeAt_70 : decode b_P_removeAt 70 = .ok (.return_, 1) := by decide +kernel
theorem d_L_split_0 : decode b_L_split 0 = .ok (.aload_n 3, 1) := by decide +kernel
theorem d_L_split_1 : decode b_L_split 1 = .ok (.iconst 0, 1) := by decide +kernel
theorem d_L_split_2 : decode b_L_split 2 = .ok (.aload_n 0, 1) := by decide +kernel
theorem d_L_split_3 : decode b_L_split 3 = .ok (.iload_n 1, 1) := by decide +kernel
theorem d_L_split_4 : decode b_L_split 4 = .ok (.iload_n 2, 1) := by decide +kernel
theorem d_L_split_5 : decode b_L_split 5 = .ok (.invokevirtual 51, 3) := by decide +kernel
theorem d_L_split_8 : decode b_L_split 8 = .ok (.i2l, 1) := by decide +kernel
theorem d_L_split_9 : decode b_L_split 9 = .ok (.lastore, 1) := by decide +kernel
theorem d_L_split_10 : decode b_L_split 10 = .ok (.goto 19, 3) := by decide +kernel
theorem d_L_split_13 : decode b_L_split 13 = .ok (.astore 4, 2) := by decide +kernel
theorem d_L_split_15 : decode b_L_split 15 = .ok (.iconst 1, 1) := by decide +kernel
theorem d_L_split_16 : decode b_L_split 16 = .ok (.ireturn, 1) := by decide +kernel
theorem d_L_split_17 : decode b_L_split 17 = .ok (.astore 4, 2) := by decide +kernel
theorem d_L_split_19 : decode b_L_split 19 = .ok (.iconst 2, 1) := by decide +kernel
theorem d_L_split_20 : decode b_L_split 20 = .ok (.ireturn, 1) := by decide +kernel
theorem d_L_split_21 : decode b_L_split 21 = .ok (.astore 4, 2) := by decide +kernel
theorem d_L_split_23 : decode b_L_split 23 = .ok (.iconst 3, 1) := by decide +kernel
theorem d_L_split_24 : decode b_L_split 24 = .ok (.ireturn, 1) := by decide +kernel
theorem d_L_split_25 : decode b_L_split 25 = .ok (.astore 4, 2) := by decide +kernel
theorem d_L_split_27 : decode b_L_split 27 = .ok (.iconst 4, 1) := by decide +kernel
theorem d_L_split_28 : decode b_L_split 28 = .ok (.ireturn, 1) := by decide +kernel
theorem d_L_split_29 : decode b_L_split 29 = .ok (.iconst 0, 1) := by decide +kernel
theorem d_L_split_30 : decode b_L_split 30 = .ok (.ireturn, 1) := by decide +kernel
theorem d_D_split_0 : decode b_D_split 0 = .ok (.iload_n 1, 1) := by decide +kernel
theorem d_D_split_1 : decode b_D_split 1 = .ok (.aload_n 0, 1) := by decide +kernel
theorem d_D_split_2 : decode b_D_split 2 = .ok (.getfield 48, 3) := by decide +kernel
theorem d_D_split_5 : decode b_D_split 5 = .ok (.invokestatic 96, 3) := by decide +kernel
theorem d_D_split_8 : decode b_D_split 8 = .ok (.aload_n 0, 1) := by decide +kernel
theorem d_D_split_9 : decode b_D_split 9 = .ok (.getfield 11, 3) := by decide +kernel
theorem d_D_split_12 : decode b_D_split 12 = .ok (.iload_n 1, 1) := by decide +kernel
theorem d_D_split_13 : decode b_D_split 13 = .ok (.aaload, 1) := by decide +kernel
theorem d_D_split_14 : decode b_D_split 14 = .ok (.astore_n 3, 1) := by decide +kernel
theorem d_D_split_15 : decode b_D_split 15 = .ok (.iload_n 2, 1) := by decide +kernel
theorem d_D_split_16 : decode b_D_split 16 = .ok (.iconst 1, 1) := by decide +kernel
theorem d_D_split_17 : decode b_D_split 17 = .ok (.aload_n 3, 1) := by decide +kernel
theorem d_D_split_18 : decode b_D_split 18 = .ok (.getfield 79, 3) := by decide +kernel
theorem d_D_split_21 : decode b_D_split 21 = .ok (.iconst 1, 1) := by decide +kernel
theorem d_D_split_22 : decode b_D_split 22 = .ok (.isub, 1) := by decide +kernel
theorem d_D_split_23 : decode b_D_split 23 = .ok (.invokestatic 62, 3) := by decide +kernel
theorem d_D_split_26 : decode b_D_split 26 = .ok (.aload_n 0, 1) := by decide +kernel
theorem d_D_split_27 : decode b_D_split 27 = .ok (.getfield 44, 3) := by decide +kernel
theorem d_D_split_30 : decode b_D_split 30 = .ok (.iload_n 1, 1) := by decide +kernel
theorem d_D_split_31 : decode b_D_split 31 = .ok (.invokevirtual 99, 3) := by decide +kernel
theorem d_D_split_34 : decode b_D_split 34 = .ok (.ifCond .le 13, 3) := by decide +kernel
theorem d_D_split_37 : decode b_D_split 37 = .ok (.new 103, 3) := by decide +kernel
theorem d_D_split_40 : decode b_D_split 40 = .ok (.dup, 1) := by decide +kernel
theorem d_D_split_41 : decode b_D_split 41 = .ok (.ldc 164, 2) := by decide +kernel
theorem d_D_split_43 : decode b_D_split 43 = .ok (.invokespecial 107, 3) := by decide +kernel
theorem d_D_split_46 : decode b_D_split 46 = .ok (.athrow, 1) := by decide +kernel
theorem d_D_split_47 : decode b_D_split 47 = .ok (.aload_n 0, 1) := by decide +kernel
theorem d_D_split_48 : decode b_D_split 48 = .ok (.getfield 48, 3) := by decide +kernel
theorem d_D_split_51 : decode b_D_split 51 = .ok (.bipush 8, 2) := by decide +kernel
theorem d_D_split_53 : decode b_D_split 53 = .ok (.invokestatic 66, 3) := by decide +kernel
theorem d_D_split_56 : decode b_D_split 56 = .ok (.aload_n 3, 1) := by decide +kernel
theorem d_D_split_57 : decode b_D_split 57 = .ok (.aload_n 0, 1) := by decide +kernel
theorem d_D_split_58 : decode b_D_split 58 = .ok (.getfield 11, 3) := by decide +kernel
theorem d_D_split_61 : decode b_D_split 61 = .ok (.aload_n 0, 1) := by decide +kernel
theorem d_D_split_62 : decode b_D_split 62 = .ok (.getfield 48, 3) := by decide +kernel
theorem d_D_split_65 : decode b_D_split 65 = .ok (.aaload, 1) := by decide +kernel
theorem d_D_split_66 : decode b_D_split 66 = .ok (.iload_n 2, 1) := by decide +kernel
theorem d_D_split_67 : decode b_D_split 67 = .ok (.invokevirtual 166, 3) := by decide +kernel
theorem d_D_split_70 : decode b_D_split 70 = .ok (.aload_n 0, 1) := by decide +kernel
theorem d_D_split_71 : decode b_D_split 71 = .ok (.dup, 1) := by decide +kernel
theorem d_D_split_72 : decode b_D_split 72 = .ok (.getfield 48, 3) := by decide +kernel
theorem d_D_split_75 : decode b_D_split 75 = .ok (.iconst 1, 1) := by decide +kernel
theorem d_D_split_76 : decode b_D_split 76 = .ok (.iadd, 1) := by decide +kernel
theorem d_D_split_77 : decode b_D_split 77 = .ok (.putfield 48, 3) := by decide +kernel
theorem d_D_split_80 : decode b_D_split 80 = .ok (.aload_n 0, 1) := by decide +kernel
theorem d_D_split_81 : decode b_D_split 81 = .ok (.getfield 48, 3) := by decide +kernel
theorem d_D_split_84 : decode b_D_split 84 = .ok (.iconst 1, 1) := by decide +kernel
theorem d_D_split_85 : decode b_D_split 85 = .ok (.isub, 1) := by decide +kernel
theorem d_D_split_86 : decode b_D_split 86 = .ok (.ireturn, 1) := by decide +kernel
theorem d_A_moveTo_0 : decode b_A_moveTo 0 = .ok (.aload_n 0, 1) := by decide +kernel
theorem d_A_moveTo_1 : decode b_A_moveTo 1 = .ok (.getfield 13, 3) := by decide +kernel
theorem d_A_moveTo_4 : decode b_A_moveTo 4 = .ok (.aload_n 0, 1) := by decide +kernel
theorem d_A_moveTo_5 : decode b_A_moveTo 5 = .ok (.getfield 7, 3) := by decide +kernel
theorem d_A_moveTo_8 : decode b_A_moveTo 8 = .ok (.iload_n 2, 1) := by decide +kernel
theorem d_A_moveTo_9 : decode b_A_moveTo 9 = .ok (.isub, 1) := by decide +kernel
theorem d_A_moveTo_10 : decode b_A_moveTo 10 = .ok (.invokestatic 19, 3) := by decide +kernel
theorem d_A_moveTo_13 : decode b_A_moveTo 13 = .ok (.istore_n 3, 1) := by decide +kernel
theorem d_A_moveTo_14 : decode b_A_moveTo 14 = .ok (.aload_n 1, 1) := by decide +kernel
theorem d_A_moveTo_15 : decode b_A_moveTo 15 = .ok (.aload_n 0, 1) := by decide +kernel
theorem d_A_moveTo_16 : decode b_A_moveTo 16 = .ok (.getfield 25, 3) := by decide +kernel
theorem d_A_moveTo_19 : decode b_A_moveTo 19 = .ok (.putfield 25, 3) := by decide +kernel
theorem d_A_moveTo_22 : decode b_A_moveTo 22 = .ok (.aload_n 1, 1) := by decide +kernel
theorem d_A_moveTo_23 : decode b_A_moveTo 23 = .ok (.aload_n 0, 1) := by decide +kernel
theorem d_A_moveTo_24 : decode b_A_moveTo 24 = .ok (.getfield 28, 3) := by decide +kernel
theorem d_A_moveTo_27 : decode b_A_moveTo 27 = .ok (.putfield 28, 3) := by decide +kernel
theorem d_A_moveTo_30 : decode b_A_moveTo 30 = .ok (.aload_n 1, 1) := by decide +kernel
theorem d_A_moveTo_31 : decode b_A_moveTo 31 = .ok (.aload_n 0, 1) := by decide +kernel
theorem d_A_moveTo_32 : decode b_A_moveTo 32 = .ok (.getfield 31, 3) := by decide +kernel
theorem d_A_moveTo_35 : decode b_A_moveTo 35 = .ok (.putfield 31, 3) := by decide +kernel
theorem d_A_moveTo_38 : decode b_A_moveTo 38 = .ok (.aload_n 1, 1) := by decide +kernel
theorem d_A_moveTo_39 : decode b_A_moveTo 39 = .ok (.iload_n 2, 1) := by decide +kernel
theorem d_A_moveTo_40 : decode b_A_moveTo 40 = .ok (.putfield 7, 3) := by decide +kernel
theorem d_A_moveTo_43 : decode b_A_moveTo 43 = .ok (.aload_n 1, 1) := by decide +kernel
theorem d_A_moveTo_44 : decode b_A_moveTo 44 = .ok (.aload_n 0, 1) := by decide +kernel
theorem d_A_moveTo_45 : decode b_A_moveTo 45 = .ok (.getfield 13, 3) := by decide +kernel
theorem d_A_moveTo_48 : decode b_A_moveTo 48 = .ok (.iload_n 3, 1) := by decide +kernel
theorem d_A_moveTo_49 : decode b_A_moveTo 49 = .ok (.isub, 1) := by decide +kernel
theorem d_A_moveTo_50 : decode b_A_moveTo 50 = .ok (.putfield 13, 3) := by decide +kernel
theorem d_A_moveTo_53 : decode b_A_moveTo 53 = .ok (.aload_n 1, 1) := by decide +kernel
theorem d_A_moveTo_54 : decode b_A_moveTo 54 = .ok (.aload_n 0, 1) := by decide +kernel
theorem d_A_moveTo_55 : decode b_A_moveTo 55 = .ok (.getfield 16, 3) := by decide +kernel
theorem d_A_moveTo_58 : decode b_A_moveTo 58 = .ok (.putfield 16, 3) := by decide +kernel
theorem d_A_moveTo_61 : decode b_A_moveTo 61 = .ok (.aload_n 0, 1) := by decide +kernel
theorem d_A_moveTo_62 : decode b_A_moveTo 62 = .ok (.dup, 1) := by decide +kernel
theorem d_A_moveTo_63 : decode b_A_moveTo 63 = .ok (.getfield 7, 3) := by decide +kernel
theorem d_A_moveTo_66 : decode b_A_moveTo 66 = .ok (.iload_n 2, 1) := by decide +kernel
theorem d_A_moveTo_67 : decode b_A_moveTo 67 = .ok (.isub, 1) := by decide +kernel
theorem d_A_moveTo_68 : decode b_A_moveTo 68 = .ok (.putfield 7, 3) := by decide +kernel
theorem d_A_moveTo_71 : decode b_A_moveTo 71 = .ok (.aload_n 0, 1) := by decide +kernel
theorem d_A_moveTo_72 : decode b_A_moveTo 72 = .ok (.iload_n 3, 1) := by decide +kernel
theorem d_A_moveTo_73 : decode b_A_moveTo 73 = .ok (.putfield 13, 3) := by decide +kernel
theorem d_A_moveTo_76 : decode b_A_moveTo 76 = .ok (.return_, 1) := by decide +kernel
theorem d_L_late_0 : decode b_L_late 0 = .ok (.aload_n 3, 1) := by decide +kernel
theorem d_L_late_1 : decode b_L_late 1 = .ok (.iconst 0, 1) := by decide +kernel
theorem d_L_late_2 : decode b_L_late 2 = .ok (.aload_n 0, 1) := by decide +kernel
theorem d_L_late_3 : decode b_L_late 3 = .ok (.iload_n 1, 1) := by decide +kernel
theorem d_L_late_4 : decode b_L_late 4 = .ok (.iload_n 2, 1) := by decide +kernel
theorem d_L_late_5 : decode b_L_late 5 = .ok (.invokevirtual 54, 3) := by decide +kernel
theorem d_L_late_8 : decode b_L_late 8 = .ok (.i2l, 1) := by decide +kernel
theorem d_L_late_9 : decode b_L_late 9 = .ok (.lastore, 1) := by decide +kernel
theorem d_L_late_10 : decode b_L_late 10 = .ok (.goto 11, 3) := by decide +kernel
theorem d_L_late_13 : decode b_L_late 13 = .ok (.astore 4, 2) := by decide +kernel
theorem d_L_late_15 : decode b_L_late 15 = .ok (.iconst 1, 1) := by decide +kernel
theorem d_L_late_16 : decode b_L_late 16 = .ok (.ireturn, 1) := by decide +kernel
theorem d_L_late_17 : decode b_L_late 17 = .ok (.astore 4, 2) := by decide +kernel
theorem d_L_late_19 : decode b_L_late 19 = .ok (.iconst 2, 1) := by decide +kernel
theorem d_L_late_20 : decode b_L_late 20 = .ok (.ireturn, 1) := by decide +kernel
theorem d_L_late_21 : decode b_L_late 21 = .ok (.iconst 0, 1) := by decide +kernel
theorem d_L_late_22 : decode b_L_late 22 = .ok (.ireturn, 1) := by decide +kernel
theorem d_D_late_0 : decode b_D_late 0 = .ok (.iload_n 1, 1) := by decide +kernel
theorem d_D_late_1 : decode b_D_late 1 = .ok (.aload_n 0, 1) := by decide +kernel
theorem d_D_late_2 : decode b_D_late 2 = .ok (.getfield 48, 3) := by decide +kernel
theorem d_D_late_5 : decode b_D_late 5 = .ok (.invokestatic 96, 3) := by decide +kernel
theorem d_D_late_8 : decode b_D_late 8 = .ok (.iload_n 2, 1) := by decide +kernel
theorem d_D_late_9 : decode b_D_late 9 = .ok (.iconst 0, 1) := by decide +kernel
theorem d_D_late_10 : decode b_D_late 10 = .ok (.sipush 1000, 3) := by decide +kernel
theorem d_D_late_13 : decode b_D_late 13 = .ok (.invokestatic 62, 3) := by decide +kernel
theorem d_D_late_16 : decode b_D_late 16 = .ok (.aload_n 0, 1) := by decide +kernel
theorem d_D_late_17 : decode b_D_late 17 = .ok (.getfield 11, 3) := by decide +kernel
theorem d_D_late_20 : decode b_D_late 20 = .ok (.iload_n 1, 1) := by decide +kernel
theorem d_D_late_21 : decode b_D_late 21 = .ok (.aaload, 1) := by decide +kernel
theorem d_D_late_22 : decode b_D_late 22 = .ok (.iload_n 2, 1) := by decide +kernel
theorem d_D_late_23 : decode b_D_late 23 = .ok (.putfield 76, 3) := by decide +kernel
theorem d_D_late_26 : decode b_D_late 26 = .ok (.iconst 0, 1) := by decide +kernel
theorem d_D_late_27 : decode b_D_late 27 = .ok (.istore_n 3, 1) := by decide +kernel
theorem d_D_late_28 : decode b_D_late 28 = .ok (.aload_n 0, 1) := by decide +kernel
theorem d_D_late_29 : decode b_D_late 29 = .ok (.getfield 44, 3) := by decide +kernel
theorem d_D_late_32 : decode b_D_late 32 = .ok (.getfield 148, 3) := by decide +kernel
theorem d_D_late_35 : decode b_D_late 35 = .ok (.iconst 1, 1) := by decide +kernel
theorem d_D_late_36 : decode b_D_late 36 = .ok (.isub, 1) := by decide +kernel
theorem d_D_late_37 : decode b_D_late 37 = .ok (.istore 4, 2) := by decide +kernel
theorem d_D_late_39 : decode b_D_late 39 = .ok (.iload 4, 2) := by decide +kernel
theorem d_D_late_41 : decode b_D_late 41 = .ok (.ifCond .lt 53, 3) := by decide +kernel
theorem d_D_late_44 : decode b_D_late 44 = .ok (.aload_n 0, 1) := by decide +kernel
theorem d_D_late_45 : decode b_D_late 45 = .ok (.getfield 44, 3) := by decide +kernel
theorem d_D_late_48 : decode b_D_late 48 = .ok (.getfield 151, 3) := by decide +kernel
theorem d_D_late_51 : decode b_D_late 51 = .ok (.iload 4, 2) := by decide +kernel
theorem d_D_late_53 : decode b_D_late 53 = .ok (.iaload, 1) := by decide +kernel
theorem d_D_late_54 : decode b_D_late 54 = .ok (.iload_n 1, 1) := by decide +kernel
theorem d_D_late_55 : decode b_D_late 55 = .ok (.if_icmp .ne 33, 3) := by decide +kernel
theorem d_D_late_58 : decode b_D_late 58 = .ok (.aload_n 0, 1) := by decide +kernel
theorem d_D_late_59 : decode b_D_late 59 = .ok (.iload_n 1, 1) := by decide +kernel
theorem d_D_late_60 : decode b_D_late 60 = .ok (.aload_n 0, 1) := by decide +kernel
theorem d_D_late_61 : decode b_D_late 61 = .ok (.getfield 44, 3) := by decide +kernel
theorem d_D_late_64 : decode b_D_late 64 = .ok (.getfield 154, 3) := by decide +kernel
theorem d_D_late_67 : decode b_D_late 67 = .ok (.iload 4, 2) := by decide +kernel
theorem d_D_late_69 : decode b_D_late 69 = .ok (.iaload, 1) := by decide +kernel
theorem d_D_late_70 : decode b_D_late 70 = .ok (.invokevirtual 170, 3) := by decide +kernel
theorem d_D_late_73 : decode b_D_late 73 = .ok (.ifCond .eq 15, 3) := by decide +kernel
theorem d_D_late_76 : decode b_D_late 76 = .ok (.aload_n 0, 1) := by decide +kernel
theorem d_D_late_77 : decode b_D_late 77 = .ok (.getfield 44, 3) := by decide +kernel
theorem d_D_late_80 : decode b_D_late 80 = .ok (.iload 4, 2) := by decide +kernel
theorem d_D_late_82 : decode b_D_late 82 = .ok (.invokevirtual 160, 3) := by decide +kernel
theorem d_D_late_85 : decode b_D_late 85 = .ok (.iinc 3 1, 3) := by decide +kernel
theorem d_D_late_88 : decode b_D_late 88 = .ok (.iinc 4 (-1), 3) := by decide +kernel
theorem d_D_late_91 : decode b_D_late 91 = .ok (.goto (-52), 3) := by decide +kernel
theorem d_D_late_94 : decode b_D_late 94 = .ok (.iload_n 3, 1) := by decide +kernel
theorem d_D_late_95 : decode b_D_late 95 = .ok (.ireturn, 1) := by decide +kernel
theorem d_D_isUnfit_0 : decode b_D_isUnfit 0 = .ok (.aload_n 0, 1) := by decide +kernel
theorem d_D_isUnfit_1 : decode b_D_isUnfit 1 = .ok (.iload_n 1, 1) := by decide +kernel
theorem d_D_isUnfit_2 : decode b_D_isUnfit 2 = .ok (.iload_n 2, 1) := by decide +kernel
theorem d_D_isUnfit_3 : decode b_D_isUnfit 3 = .ok (.invokevirtual 209, 3) := by decide +kernel
theorem d_D_isUnfit_6 : decode b_D_isUnfit 6 = .ok (.istore_n 3, 1) := by decide +kernel
theorem d_D_isUnfit_7 : decode b_D_isUnfit 7 = .ok (.iload_n 3, 1) := by decide +kernel
theorem d_D_isUnfit_8 : decode b_D_isUnfit 8 = .ok (.ifCond .eq 12, 3) := by decide +kernel
theorem d_D_isUnfit_11 : decode b_D_isUnfit 11 = .ok (.iload_n 3, 1) := by decide +kernel
theorem d_D_isUnfit_12 : decode b_D_isUnfit 12 = .ok (.iconst 5, 1) := by decide +kernel
theorem d_D_isUnfit_13 : decode b_D_isUnfit 13 = .ok (.if_icmp .eq 7, 3) := by decide +kernel
theorem d_D_isUnfit_16 : decode b_D_isUnfit 16 = .ok (.iconst 1, 1) := by decide +kernel
theorem d_D_isUnfit_17 : decode b_D_isUnfit 17 = .ok (.goto 4, 3) := by decide +kernel
theorem d_D_isUnfit_20 : decode b_D_isUnfit 20 = .ok (.iconst 0, 1) := by decide +kernel
theorem d_D_isUnfit_21 : decode b_D_isUnfit 21 = .ok (.ireturn, 1) := by decide +kernel
theorem d_L_arrival_0 : decode b_L_arrival 0 = .ok (.aload_n 3, 1) := by decide +kernel
theorem d_L_arrival_1 : decode b_L_arrival 1 = .ok (.iconst 0, 1) := by decide +kernel
theorem d_L_arrival_2 : decode b_L_arrival 2 = .ok (.aload_n 0, 1) := by decide +kernel
theorem d_L_arrival_3 : decode b_L_arrival 3 = .ok (.iload_n 1, 1) := by decide +kernel
theorem d_L_arrival_4 : decode b_L_arrival 4 = .ok (.iload_n 2, 1) := by decide +kernel
theorem d_L_arrival_5 : decode b_L_arrival 5 = .ok (.invokevirtual 57, 3) := by decide +kernel
theorem d_L_arrival_8 : decode b_L_arrival 8 = .ok (.i2l, 1) := by decide +kernel
theorem d_L_arrival_9 : decode b_L_arrival 9 = .ok (.lastore, 1) := by decide +kernel
theorem d_L_arrival_10 : decode b_L_arrival 10 = .ok (.goto 11, 3) := by decide +kernel
theorem d_L_arrival_13 : decode b_L_arrival 13 = .ok (.astore 4, 2) := by decide +kernel
theorem d_L_arrival_15 : decode b_L_arrival 15 = .ok (.iconst 1, 1) := by decide +kernel
theorem d_L_arrival_16 : decode b_L_arrival 16 = .ok (.ireturn, 1) := by decide +kernel
theorem d_L_arrival_17 : decode b_L_arrival 17 = .ok (.astore 4, 2) := by decide +kernel
theorem d_L_arrival_19 : decode b_L_arrival 19 = .ok (.iconst 2, 1) := by decide +kernel
theorem d_L_arrival_20 : decode b_L_arrival 20 = .ok (.ireturn, 1) := by decide +kernel
theorem d_L_arrival_21 : decode b_L_arrival 21 = .ok (.iconst 0, 1) := by decide +kernel
theorem d_L_arrival_22 : decode b_L_arrival 22 = .ok (.ireturn, 1) := by decide +kernel
theorem d_D_arrival_0 : decode b_D_arrival 0 = .ok (.iload_n 1, 1) := by decide +kernel
theorem d_D_arrival_1 : decode b_D_arrival 1 = .ok (.aload_n 0, 1) := by decide +kernel
theorem d_D_arrival_2 : decode b_D_arrival 2 = .ok (.getfield 48, 3) := by decide +kernel
theorem d_D_arrival_5 : decode b_D_arrival 5 = .ok (.invokestatic 96, 3) := by decide +kernel
theorem d_D_arrival_8 : decode b_D_arrival 8 = .ok (.iload_n 2, 1) := by decide +kernel
theorem d_D_arrival_9 : decode b_D_arrival 9 = .ok (.iconst 0, 1) := by decide +kernel
theorem d_D_arrival_10 : decode b_D_arrival 10 = .ok (.iconst 3, 1) := by decide +kernel
theorem d_D_arrival_11 : decode b_D_arrival 11 = .ok (.invokestatic 62, 3) := by decide +kernel
theorem d_D_arrival_14 : decode b_D_arrival 14 = .ok (.iload_n 2, 1) := by decide +kernel
theorem d_D_arrival_15 : decode b_D_arrival 15 = .ok (.tableswitch 64 0 2 #[25, 44, 54], 25) := by decide +kernel
theorem d_D_arrival_40 : decode b_D_arrival 40 = .ok (.aload_n 0, 1) := by decide +kernel
theorem d_D_arrival_41 : decode b_D_arrival 41 = .ok (.getfield 11, 3) := by decide +kernel
theorem d_D_arrival_44 : decode b_D_arrival 44 = .ok (.iload_n 1, 1) := by decide +kernel
theorem d_D_arrival_45 : decode b_D_arrival 45 = .ok (.aaload, 1) := by decide +kernel
theorem d_D_arrival_46 : decode b_D_arrival 46 = .ok (.invokevirtual 173, 3) := by decide +kernel
theorem d_D_arrival_49 : decode b_D_arrival 49 = .ok (.aload_n 0, 1) := by decide +kernel
theorem d_D_arrival_50 : decode b_D_arrival 50 = .ok (.getfield 44, 3) := by decide +kernel
theorem d_D_arrival_53 : decode b_D_arrival 53 = .ok (.iload_n 1, 1) := by decide +kernel
theorem d_D_arrival_54 : decode b_D_arrival 54 = .ok (.invokevirtual 99, 3) := by decide +kernel
theorem d_D_arrival_57 : decode b_D_arrival 57 = .ok (.isub, 1) := by decide +kernel
theorem d_D_arrival_58 : decode b_D_arrival 58 = .ok (.ireturn, 1) := by decide +kernel
theorem d_D_arrival_59 : decode b_D_arrival 59 = .ok (.aload_n 0, 1) := by decide +kernel
theorem d_D_arrival_60 : decode b_D_arrival 60 = .ok (.getfield 11, 3) := by decide +kernel
theorem d_D_arrival_63 : decode b_D_arrival 63 = .ok (.iload_n 1, 1) := by decide +kernel
theorem d_D_arrival_64 : decode b_D_arrival 64 = .ok (.aaload, 1) := by decide +kernel
theorem d_D_arrival_65 : decode b_D_arrival 65 = .ok (.getfield 76, 3) := by decide +kernel
theorem d_D_arrival_68 : decode b_D_arrival 68 = .ok (.ireturn, 1) := by decide +kernel
theorem d_D_arrival_69 : decode b_D_arrival 69 = .ok (.aload_n 0, 1) := by decide +kernel
theorem d_D_arrival_70 : decode b_D_arrival 70 = .ok (.getfield 11, 3) := by decide +kernel
theorem d_D_arrival_73 : decode b_D_arrival 73 = .ok (.iload_n 1, 1) := by decide +kernel
theorem d_D_arrival_74 : decode b_D_arrival 74 = .ok (.aaload, 1) := by decide +kernel
theorem d_D_arrival_75 : decode b_D_arrival 75 = .ok (.getfield 79, 3) := by decide +kernel
theorem d_D_arrival_78 : decode b_D_arrival 78 = .ok (.ireturn, 1) := by decide +kernel
theorem d_D_arrival_79 : decode b_D_arrival 79 = .ok (.aload_n 0, 1) := by decide +kernel
theorem d_D_arrival_80 : decode b_D_arrival 80 = .ok (.iload_n 1, 1) := by decide +kernel
theorem d_D_arrival_81 : decode b_D_arrival 81 = .ok (.invokevirtual 145, 3) := by decide +kernel
theorem d_D_arrival_84 : decode b_D_arrival 84 = .ok (.ireturn, 1) := by decide +kernel
theorem d_L_wanted_0 : decode b_L_wanted 0 = .ok (.aload_n 3, 1) := by decide +kernel
theorem d_L_wanted_1 : decode b_L_wanted 1 = .ok (.iconst 0, 1) := by decide +kernel
theorem d_L_wanted_2 : decode b_L_wanted 2 = .ok (.aload_n 0, 1) := by decide +kernel
theorem d_L_wanted_3 : decode b_L_wanted 3 = .ok (.iload_n 1, 1) := by decide +kernel
theorem d_L_wanted_4 : decode b_L_wanted 4 = .ok (.iload_n 2, 1) := by decide +kernel
theorem d_L_wanted_5 : decode b_L_wanted 5 = .ok (.invokevirtual 60, 3) := by decide +kernel
theorem d_L_wanted_8 : decode b_L_wanted 8 = .ok (.i2l, 1) := by decide +kernel
theorem d_L_wanted_9 : decode b_L_wanted 9 = .ok (.lastore, 1) := by decide +kernel
theorem d_L_wanted_10 : decode b_L_wanted 10 = .ok (.goto 11, 3) := by decide +kernel
theorem d_L_wanted_13 : decode b_L_wanted 13 = .ok (.astore 4, 2) := by decide +kernel
theorem d_L_wanted_15 : decode b_L_wanted 15 = .ok (.iconst 1, 1) := by decide +kernel
theorem d_L_wanted_16 : decode b_L_wanted 16 = .ok (.ireturn, 1) := by decide +kernel
end
section
theorem d_L_wanted_17 : decode b_L_wanted 17 = .ok (.astore 4, 2) := by decide +kernel
theorem d_L_wanted_19 : decode b_L_wanted 19 = .ok (.iconst 2, 1) := by decide +kernel
theorem d_L_wanted_20 : decode b_L_wanted 20 = .ok (.ireturn, 1) := by decide +kernel
theorem d_L_wanted_21 : decode b_L_wanted 21 = .ok (.iconst 0, 1) := by decide +kernel
theorem d_L_wanted_22 : decode b_L_wanted 22 = .ok (.ireturn, 1) := by decide +kernel
theorem d_D_wanted_0 : decode b_D_wanted 0 = .ok (.iload_n 1, 1) := by decide +kernel
theorem d_D_wanted_1 : decode b_D_wanted 1 = .ok (.aload_n 0, 1) := by decide +kernel
theorem d_D_wanted_2 : decode b_D_wanted 2 = .ok (.getfield 52, 3) := by decide +kernel
theorem d_D_wanted_5 : decode b_D_wanted 5 = .ok (.invokestatic 96, 3) := by decide +kernel
theorem d_D_wanted_8 : decode b_D_wanted 8 = .ok (.iload_n 2, 1) := by decide +kernel
theorem d_D_wanted_9 : decode b_D_wanted 9 = .ok (.iconst 0, 1) := by decide +kernel
theorem d_D_wanted_10 : decode b_D_wanted 10 = .ok (.iconst 3, 1) := by decide +kernel
theorem d_D_wanted_11 : decode b_D_wanted 11 = .ok (.invokestatic 62, 3) := by decide +kernel
theorem d_D_wanted_14 : decode b_D_wanted 14 = .ok (.iload_n 2, 1) := by decide +kernel
theorem d_D_wanted_15 : decode b_D_wanted 15 = .ok (.tableswitch 60 0 2 #[25, 44, 54], 25) := by decide +kernel
theorem d_D_wanted_40 : decode b_D_wanted 40 = .ok (.aload_n 0, 1) := by decide +kernel
theorem d_D_wanted_41 : decode b_D_wanted 41 = .ok (.getfield 18, 3) := by decide +kernel
theorem d_D_wanted_44 : decode b_D_wanted 44 = .ok (.iload_n 1, 1) := by decide +kernel
theorem d_D_wanted_45 : decode b_D_wanted 45 = .ok (.aaload, 1) := by decide +kernel
theorem d_D_wanted_46 : decode b_D_wanted 46 = .ok (.getfield 83, 3) := by decide +kernel
theorem d_D_wanted_49 : decode b_D_wanted 49 = .ok (.aload_n 0, 1) := by decide +kernel
theorem d_D_wanted_50 : decode b_D_wanted 50 = .ok (.getfield 44, 3) := by decide +kernel
theorem d_D_wanted_53 : decode b_D_wanted 53 = .ok (.iload_n 1, 1) := by decide +kernel
theorem d_D_wanted_54 : decode b_D_wanted 54 = .ok (.invokevirtual 176, 3) := by decide +kernel
theorem d_D_wanted_57 : decode b_D_wanted 57 = .ok (.isub, 1) := by decide +kernel
theorem d_D_wanted_58 : decode b_D_wanted 58 = .ok (.ireturn, 1) := by decide +kernel
theorem d_D_wanted_59 : decode b_D_wanted 59 = .ok (.aload_n 0, 1) := by decide +kernel
theorem d_D_wanted_60 : decode b_D_wanted 60 = .ok (.getfield 18, 3) := by decide +kernel
theorem d_D_wanted_63 : decode b_D_wanted 63 = .ok (.iload_n 1, 1) := by decide +kernel
theorem d_D_wanted_64 : decode b_D_wanted 64 = .ok (.aaload, 1) := by decide +kernel
theorem d_D_wanted_65 : decode b_D_wanted 65 = .ok (.getfield 90, 3) := by decide +kernel
theorem d_D_wanted_68 : decode b_D_wanted 68 = .ok (.ireturn, 1) := by decide +kernel
theorem d_D_wanted_69 : decode b_D_wanted 69 = .ok (.aload_n 0, 1) := by decide +kernel
theorem d_D_wanted_70 : decode b_D_wanted 70 = .ok (.iload_n 1, 1) := by decide +kernel
theorem d_D_wanted_71 : decode b_D_wanted 71 = .ok (.invokevirtual 142, 3) := by decide +kernel
theorem d_D_wanted_74 : decode b_D_wanted 74 = .ok (.ireturn, 1) := by decide +kernel
theorem d_D_wanted_75 : decode b_D_wanted 75 = .ok (.aload_n 0, 1) := by decide +kernel
theorem d_D_wanted_76 : decode b_D_wanted 76 = .ok (.iload_n 1, 1) := by decide +kernel
theorem d_D_wanted_77 : decode b_D_wanted 77 = .ok (.invokevirtual 179, 3) := by decide +kernel
theorem d_D_wanted_80 : decode b_D_wanted 80 = .ok (.ireturn, 1) := by decide +kernel
theorem d_D_whatBarsAll_0 : decode b_D_whatBarsAll 0 = .ok (.iconst 1, 1) := by decide +kernel
theorem d_D_whatBarsAll_1 : decode b_D_whatBarsAll 1 = .ok (.istore_n 2, 1) := by decide +kernel
theorem d_D_whatBarsAll_2 : decode b_D_whatBarsAll 2 = .ok (.iconst 0, 1) := by decide +kernel
theorem d_D_whatBarsAll_3 : decode b_D_whatBarsAll 3 = .ok (.istore_n 3, 1) := by decide +kernel
theorem d_D_whatBarsAll_4 : decode b_D_whatBarsAll 4 = .ok (.iload_n 3, 1) := by decide +kernel
theorem d_D_whatBarsAll_5 : decode b_D_whatBarsAll 5 = .ok (.aload_n 0, 1) := by decide +kernel
theorem d_D_whatBarsAll_6 : decode b_D_whatBarsAll 6 = .ok (.getfield 48, 3) := by decide +kernel
theorem d_D_whatBarsAll_9 : decode b_D_whatBarsAll 9 = .ok (.if_icmp .ge 31, 3) := by decide +kernel
theorem d_D_whatBarsAll_12 : decode b_D_whatBarsAll 12 = .ok (.aload_n 0, 1) := by decide +kernel
theorem d_D_whatBarsAll_13 : decode b_D_whatBarsAll 13 = .ok (.iload_n 3, 1) := by decide +kernel
theorem d_D_whatBarsAll_14 : decode b_D_whatBarsAll 14 = .ok (.iload_n 1, 1) := by decide +kernel
theorem d_D_whatBarsAll_15 : decode b_D_whatBarsAll 15 = .ok (.invokevirtual 209, 3) := by decide +kernel
theorem d_D_whatBarsAll_18 : decode b_D_whatBarsAll 18 = .ok (.istore 4, 2) := by decide +kernel
theorem d_D_whatBarsAll_20 : decode b_D_whatBarsAll 20 = .ok (.iload 4, 2) := by decide +kernel
theorem d_D_whatBarsAll_22 : decode b_D_whatBarsAll 22 = .ok (.ifCond .ne 5, 3) := by decide +kernel
theorem d_D_whatBarsAll_25 : decode b_D_whatBarsAll 25 = .ok (.iconst 0, 1) := by decide +kernel
theorem d_D_whatBarsAll_26 : decode b_D_whatBarsAll 26 = .ok (.ireturn, 1) := by decide +kernel
theorem d_D_whatBarsAll_27 : decode b_D_whatBarsAll 27 = .ok (.iload_n 2, 1) := by decide +kernel
theorem d_D_whatBarsAll_28 : decode b_D_whatBarsAll 28 = .ok (.iload 4, 2) := by decide +kernel
theorem d_D_whatBarsAll_30 : decode b_D_whatBarsAll 30 = .ok (.invokestatic 213, 3) := by decide +kernel
theorem d_D_whatBarsAll_33 : decode b_D_whatBarsAll 33 = .ok (.istore_n 2, 1) := by decide +kernel
theorem d_D_whatBarsAll_34 : decode b_D_whatBarsAll 34 = .ok (.iinc 3 1, 3) := by decide +kernel
theorem d_D_whatBarsAll_37 : decode b_D_whatBarsAll 37 = .ok (.goto (-33), 3) := by decide +kernel
theorem d_D_whatBarsAll_40 : decode b_D_whatBarsAll 40 = .ok (.iload_n 2, 1) := by decide +kernel
theorem d_D_whatBarsAll_41 : decode b_D_whatBarsAll 41 = .ok (.ireturn, 1) := by decide +kernel
theorem d_M_init_0 : decode b_M_init 0 = .ok (.aload_n 0, 1) := by decide +kernel
theorem d_M_init_1 : decode b_M_init 1 = .ok (.invokespecial 1, 3) := by decide +kernel
theorem d_M_init_4 : decode b_M_init 4 = .ok (.aload_n 0, 1) := by decide +kernel
theorem d_M_init_5 : decode b_M_init 5 = .ok (.bipush 8, 2) := by decide +kernel
theorem d_M_init_7 : decode b_M_init 7 = .ok (.newarray .int, 2) := by decide +kernel
theorem d_M_init_9 : decode b_M_init 9 = .ok (.putfield 7, 3) := by decide +kernel
theorem d_M_init_12 : decode b_M_init 12 = .ok (.aload_n 0, 1) := by decide +kernel
theorem d_M_init_13 : decode b_M_init 13 = .ok (.bipush 8, 2) := by decide +kernel
theorem d_M_init_15 : decode b_M_init 15 = .ok (.newarray .int, 2) := by decide +kernel
theorem d_M_init_17 : decode b_M_init 17 = .ok (.putfield 13, 3) := by decide +kernel
theorem d_M_init_20 : decode b_M_init 20 = .ok (.aload_n 0, 1) := by decide +kernel
theorem d_M_init_21 : decode b_M_init 21 = .ok (.bipush 8, 2) := by decide +kernel
theorem d_M_init_23 : decode b_M_init 23 = .ok (.newarray .int, 2) := by decide +kernel
theorem d_M_init_25 : decode b_M_init 25 = .ok (.putfield 16, 3) := by decide +kernel
theorem d_M_init_28 : decode b_M_init 28 = .ok (.aload_n 0, 1) := by decide +kernel
theorem d_M_init_29 : decode b_M_init 29 = .ok (.bipush 8, 2) := by decide +kernel
theorem d_M_init_31 : decode b_M_init 31 = .ok (.newarray .int, 2) := by decide +kernel
theorem d_M_init_33 : decode b_M_init 33 = .ok (.putfield 19, 3) := by decide +kernel
theorem d_M_init_36 : decode b_M_init 36 = .ok (.aload_n 0, 1) := by decide +kernel
theorem d_M_init_37 : decode b_M_init 37 = .ok (.bipush 8, 2) := by decide +kernel
theorem d_M_init_39 : decode b_M_init 39 = .ok (.newarray .int, 2) := by decide +kernel
theorem d_M_init_41 : decode b_M_init 41 = .ok (.putfield 22, 3) := by decide +kernel
theorem d_M_init_44 : decode b_M_init 44 = .ok (.aload_n 0, 1) := by decide +kernel
theorem d_M_init_45 : decode b_M_init 45 = .ok (.bipush 8, 2) := by decide +kernel
theorem d_M_init_47 : decode b_M_init 47 = .ok (.newarray .int, 2) := by decide +kernel
theorem d_M_init_49 : decode b_M_init 49 = .ok (.putfield 25, 3) := by decide +kernel
theorem d_M_init_52 : decode b_M_init 52 = .ok (.aload_n 0, 1) := by decide +kernel
theorem d_M_init_53 : decode b_M_init 53 = .ok (.bipush 8, 2) := by decide +kernel
theorem d_M_init_55 : decode b_M_init 55 = .ok (.newarray .int, 2) := by decide +kernel
theorem d_M_init_57 : decode b_M_init 57 = .ok (.putfield 28, 3) := by decide +kernel
theorem d_M_init_60 : decode b_M_init 60 = .ok (.aload_n 0, 1) := by decide +kernel
theorem d_M_init_61 : decode b_M_init 61 = .ok (.bipush 8, 2) := by decide +kernel
theorem d_M_init_63 : decode b_M_init 63 = .ok (.newarray .int, 2) := by decide +kernel
theorem d_M_init_65 : decode b_M_init 65 = .ok (.putfield 31, 3) := by decide +kernel
theorem d_M_init_68 : decode b_M_init 68 = .ok (.aload_n 0, 1) := by decide +kernel
theorem d_M_init_69 : decode b_M_init 69 = .ok (.bipush 8, 2) := by decide +kernel
theorem d_M_init_71 : decode b_M_init 71 = .ok (.newarray .int, 2) := by decide +kernel
theorem d_M_init_73 : decode b_M_init 73 = .ok (.putfield 34, 3) := by decide +kernel
theorem d_M_init_76 : decode b_M_init 76 = .ok (.aload_n 0, 1) := by decide +kernel
theorem d_M_init_77 : decode b_M_init 77 = .ok (.bipush 8, 2) := by decide +kernel
theorem d_M_init_79 : decode b_M_init 79 = .ok (.newarray .int, 2) := by decide +kernel
theorem d_M_init_81 : decode b_M_init 81 = .ok (.putfield 37, 3) := by decide +kernel
theorem d_M_init_84 : decode b_M_init 84 = .ok (.aload_n 0, 1) := by decide +kernel
theorem d_M_init_85 : decode b_M_init 85 = .ok (.bipush 8, 2) := by decide +kernel
theorem d_M_init_87 : decode b_M_init 87 = .ok (.newarray .int, 2) := by decide +kernel
theorem d_M_init_89 : decode b_M_init 89 = .ok (.putfield 40, 3) := by decide +kernel
theorem d_M_init_92 : decode b_M_init 92 = .ok (.aload_n 0, 1) := by decide +kernel
theorem d_M_init_93 : decode b_M_init 93 = .ok (.bipush 64, 2) := by decide +kernel
theorem d_M_init_95 : decode b_M_init 95 = .ok (.newarray .boolean, 2) := by decide +kernel
theorem d_M_init_97 : decode b_M_init 97 = .ok (.putfield 43, 3) := by decide +kernel
theorem d_M_init_100 : decode b_M_init 100 = .ok (.aload_n 0, 1) := by decide +kernel
theorem d_M_init_101 : decode b_M_init 101 = .ok (.iconst 4, 1) := by decide +kernel
theorem d_M_init_102 : decode b_M_init 102 = .ok (.newarray .boolean, 2) := by decide +kernel
theorem d_M_init_104 : decode b_M_init 104 = .ok (.putfield 47, 3) := by decide +kernel
theorem d_M_init_107 : decode b_M_init 107 = .ok (.aload_n 0, 1) := by decide +kernel
theorem d_M_init_108 : decode b_M_init 108 = .ok (.bipush 64, 2) := by decide +kernel
theorem d_M_init_110 : decode b_M_init 110 = .ok (.newarray .int, 2) := by decide +kernel
theorem d_M_init_112 : decode b_M_init 112 = .ok (.putfield 50, 3) := by decide +kernel
theorem d_M_init_115 : decode b_M_init 115 = .ok (.aload_n 0, 1) := by decide +kernel
theorem d_M_init_116 : decode b_M_init 116 = .ok (.bipush 64, 2) := by decide +kernel
theorem d_M_init_118 : decode b_M_init 118 = .ok (.newarray .int, 2) := by decide +kernel
theorem d_M_init_120 : decode b_M_init 120 = .ok (.putfield 53, 3) := by decide +kernel
theorem d_M_init_123 : decode b_M_init 123 = .ok (.aload_n 0, 1) := by decide +kernel
theorem d_M_init_124 : decode b_M_init 124 = .ok (.bipush 64, 2) := by decide +kernel
theorem d_M_init_126 : decode b_M_init 126 = .ok (.newarray .int, 2) := by decide +kernel
theorem d_M_init_128 : decode b_M_init 128 = .ok (.putfield 56, 3) := by decide +kernel
theorem d_M_init_131 : decode b_M_init 131 = .ok (.aload_n 0, 1) := by decide +kernel
theorem d_M_init_132 : decode b_M_init 132 = .ok (.bipush 64, 2) := by decide +kernel
theorem d_M_init_134 : decode b_M_init 134 = .ok (.newarray .int, 2) := by decide +kernel
theorem d_M_init_136 : decode b_M_init 136 = .ok (.putfield 59, 3) := by decide +kernel
theorem d_M_init_139 : decode b_M_init 139 = .ok (.aload_n 0, 1) := by decide +kernel
theorem d_M_init_140 : decode b_M_init 140 = .ok (.bipush 64, 2) := by decide +kernel
theorem d_M_init_142 : decode b_M_init 142 = .ok (.newarray .int, 2) := by decide +kernel
theorem d_M_init_144 : decode b_M_init 144 = .ok (.putfield 62, 3) := by decide +kernel
theorem d_M_init_147 : decode b_M_init 147 = .ok (.aload_n 0, 1) := by decide +kernel
theorem d_M_init_148 : decode b_M_init 148 = .ok (.bipush 65, 2) := by decide +kernel
theorem d_M_init_150 : decode b_M_init 150 = .ok (.newarray .int, 2) := by decide +kernel
theorem d_M_init_152 : decode b_M_init 152 = .ok (.putfield 65, 3) := by decide +kernel
theorem d_M_init_155 : decode b_M_init 155 = .ok (.aload_n 0, 1) := by decide +kernel
theorem d_M_init_156 : decode b_M_init 156 = .ok (.bipush 64, 2) := by decide +kernel
theorem d_M_init_158 : decode b_M_init 158 = .ok (.newarray .int, 2) := by decide +kernel
theorem d_M_init_160 : decode b_M_init 160 = .ok (.putfield 68, 3) := by decide +kernel
theorem d_M_init_163 : decode b_M_init 163 = .ok (.aload_n 0, 1) := by decide +kernel
theorem d_M_init_164 : decode b_M_init 164 = .ok (.bipush 8, 2) := by decide +kernel
theorem d_M_init_166 : decode b_M_init 166 = .ok (.newarray .int, 2) := by decide +kernel
theorem d_M_init_168 : decode b_M_init 168 = .ok (.putfield 71, 3) := by decide +kernel
theorem d_M_init_171 : decode b_M_init 171 = .ok (.return_, 1) := by decide +kernel
theorem d_M_thrown_0 : decode b_M_thrown 0 = .ok (.aload_n 0, 1) := by decide +kernel
theorem d_M_thrown_1 : decode b_M_thrown 1 = .ok (.getfield 74, 3) := by decide +kernel
theorem d_M_thrown_4 : decode b_M_thrown 4 = .ok (.ireturn, 1) := by decide +kernel
theorem d_M_arrive_0 : decode b_M_arrive 0 = .ok (.aload_n 0, 1) := by decide +kernel
theorem d_M_arrive_1 : decode b_M_arrive 1 = .ok (.iload_n 1, 1) := by decide +kernel
theorem d_M_arrive_2 : decode b_M_arrive 2 = .ok (.iconst 0, 1) := by decide +kernel
theorem d_M_arrive_3 : decode b_M_arrive 3 = .ok (.bipush 7, 2) := by decide +kernel
theorem d_M_arrive_5 : decode b_M_arrive 5 = .ok (.invokestatic 81, 3) := by decide +kernel
theorem d_M_arrive_8 : decode b_M_arrive 8 = .ok (.ifCond .eq 35, 3) := by decide +kernel
theorem d_M_arrive_11 : decode b_M_arrive 11 = .ok (.iload_n 2, 1) := by decide +kernel
theorem d_M_arrive_12 : decode b_M_arrive 12 = .ok (.iconst 0, 1) := by decide +kernel
theorem d_M_arrive_13 : decode b_M_arrive 13 = .ok (.bipush 9, 2) := by decide +kernel
theorem d_M_arrive_15 : decode b_M_arrive 15 = .ok (.invokestatic 81, 3) := by decide +kernel
theorem d_M_arrive_18 : decode b_M_arrive 18 = .ok (.ifCond .eq 25, 3) := by decide +kernel
theorem d_M_arrive_21 : decode b_M_arrive 21 = .ok (.iload_n 3, 1) := by decide +kernel
theorem d_M_arrive_22 : decode b_M_arrive 22 = .ok (.iconst 0, 1) := by decide +kernel
theorem d_M_arrive_23 : decode b_M_arrive 23 = .ok (.sipush 1000, 3) := by decide +kernel
theorem d_M_arrive_26 : decode b_M_arrive 26 = .ok (.invokestatic 81, 3) := by decide +kernel
theorem d_M_arrive_29 : decode b_M_arrive 29 = .ok (.ifCond .eq 14, 3) := by decide +kernel
theorem d_M_arrive_32 : decode b_M_arrive 32 = .ok (.iload 4, 2) := by decide +kernel
theorem d_M_arrive_34 : decode b_M_arrive 34 = .ok (.iconst 1, 1) := by decide +kernel
theorem d_M_arrive_35 : decode b_M_arrive 35 = .ok (.bipush 6, 2) := by decide +kernel
theorem d_M_arrive_37 : decode b_M_arrive 37 = .ok (.invokestatic 81, 3) := by decide +kernel
theorem d_M_arrive_40 : decode b_M_arrive 40 = .ok (.ifCond .ne 7, 3) := by decide +kernel
theorem d_M_arrive_43 : decode b_M_arrive 43 = .ok (.iconst 1, 1) := by decide +kernel
theorem d_M_arrive_44 : decode b_M_arrive 44 = .ok (.goto 17, 3) := by decide +kernel
theorem d_M_arrive_47 : decode b_M_arrive 47 = .ok (.aload_n 0, 1) := by decide +kernel
theorem d_M_arrive_48 : decode b_M_arrive 48 = .ok (.getfield 78, 3) := by decide +kernel
theorem d_M_arrive_51 : decode b_M_arrive 51 = .ok (.bipush 8, 2) := by decide +kernel
theorem d_M_arrive_53 : decode b_M_arrive 53 = .ok (.if_icmp .ne 7, 3) := by decide +kernel
theorem d_M_arrive_56 : decode b_M_arrive 56 = .ok (.iconst 2, 1) := by decide +kernel
theorem d_M_arrive_57 : decode b_M_arrive 57 = .ok (.goto 4, 3) := by decide +kernel
theorem d_M_arrive_60 : decode b_M_arrive 60 = .ok (.iconst 0, 1) := by decide +kernel
theorem d_M_arrive_61 : decode b_M_arrive 61 = .ok (.putfield 74, 3) := by decide +kernel
theorem d_M_arrive_64 : decode b_M_arrive 64 = .ok (.aload_n 0, 1) := by decide +kernel
theorem d_M_arrive_65 : decode b_M_arrive 65 = .ok (.getfield 74, 3) := by decide +kernel
theorem d_M_arrive_68 : decode b_M_arrive 68 = .ok (.ifCond .le 5, 3) := by decide +kernel
theorem d_M_arrive_71 : decode b_M_arrive 71 = .ok (.iconst 0, 1) := by decide +kernel
theorem d_M_arrive_72 : decode b_M_arrive 72 = .ok (.ireturn, 1) := by decide +kernel
theorem d_M_arrive_73 : decode b_M_arrive 73 = .ok (.aload_n 0, 1) := by decide +kernel
theorem d_M_arrive_74 : decode b_M_arrive 74 = .ok (.getfield 7, 3) := by decide +kernel
theorem d_M_arrive_77 : decode b_M_arrive 77 = .ok (.aload_n 0, 1) := by decide +kernel
theorem d_M_arrive_78 : decode b_M_arrive 78 = .ok (.getfield 78, 3) := by decide +kernel
theorem d_M_arrive_81 : decode b_M_arrive 81 = .ok (.iload_n 1, 1) := by decide +kernel
theorem d_M_arrive_82 : decode b_M_arrive 82 = .ok (.iastore, 1) := by decide +kernel
theorem d_M_arrive_83 : decode b_M_arrive 83 = .ok (.aload_n 0, 1) := by decide +kernel
theorem d_M_arrive_84 : decode b_M_arrive 84 = .ok (.getfield 13, 3) := by decide +kernel
theorem d_M_arrive_87 : decode b_M_arrive 87 = .ok (.aload_n 0, 1) := by decide +kernel
theorem d_M_arrive_88 : decode b_M_arrive 88 = .ok (.getfield 78, 3) := by decide +kernel
theorem d_M_arrive_91 : decode b_M_arrive 91 = .ok (.iload_n 2, 1) := by decide +kernel
theorem d_M_arrive_92 : decode b_M_arrive 92 = .ok (.iastore, 1) := by decide +kernel
theorem d_M_arrive_93 : decode b_M_arrive 93 = .ok (.aload_n 0, 1) := by decide +kernel
theorem d_M_arrive_94 : decode b_M_arrive 94 = .ok (.getfield 16, 3) := by decide +kernel
theorem d_M_arrive_97 : decode b_M_arrive 97 = .ok (.aload_n 0, 1) := by decide +kernel
theorem d_M_arrive_98 : decode b_M_arrive 98 = .ok (.getfield 78, 3) := by decide +kernel
theorem d_M_arrive_101 : decode b_M_arrive 101 = .ok (.iload_n 3, 1) := by decide +kernel
theorem d_M_arrive_102 : decode b_M_arrive 102 = .ok (.iastore, 1) := by decide +kernel
theorem d_M_arrive_103 : decode b_M_arrive 103 = .ok (.aload_n 0, 1) := by decide +kernel
theorem d_M_arrive_104 : decode b_M_arrive 104 = .ok (.getfield 19, 3) := by decide +kernel
theorem d_M_arrive_107 : decode b_M_arrive 107 = .ok (.aload_n 0, 1) := by decide +kernel
theorem d_M_arrive_108 : decode b_M_arrive 108 = .ok (.getfield 78, 3) := by decide +kernel
theorem d_M_arrive_111 : decode b_M_arrive 111 = .ok (.iload 4, 2) := by decide +kernel
theorem d_M_arrive_113 : decode b_M_arrive 113 = .ok (.iastore, 1) := by decide +kernel
theorem d_M_arrive_114 : decode b_M_arrive 114 = .ok (.aload_n 0, 1) := by decide +kernel
theorem d_M_arrive_115 : decode b_M_arrive 115 = .ok (.dup, 1) := by decide +kernel
theorem d_M_arrive_116 : decode b_M_arrive 116 = .ok (.getfield 78, 3) := by decide +kernel
theorem d_M_arrive_119 : decode b_M_arrive 119 = .ok (.iconst 1, 1) := by decide +kernel
theorem d_M_arrive_120 : decode b_M_arrive 120 = .ok (.iadd, 1) := by decide +kernel
theorem d_M_arrive_121 : decode b_M_arrive 121 = .ok (.putfield 78, 3) := by decide +kernel
theorem d_M_arrive_124 : decode b_M_arrive 124 = .ok (.aload_n 0, 1) := by decide +kernel
theorem d_M_arrive_125 : decode b_M_arrive 125 = .ok (.getfield 78, 3) := by decide +kernel
theorem d_M_arrive_128 : decode b_M_arrive 128 = .ok (.iconst 1, 1) := by decide +kernel
theorem d_M_arrive_129 : decode b_M_arrive 129 = .ok (.isub, 1) := by decide +kernel
theorem d_M_arrive_130 : decode b_M_arrive 130 = .ok (.ireturn, 1) := by decide +kernel
theorem d_M_in_0 : decode b_M_in 0 = .ok (.iload_n 0, 1) := by decide +kernel
theorem d_M_in_1 : decode b_M_in 1 = .ok (.iload_n 1, 1) := by decide +kernel
theorem d_M_in_2 : decode b_M_in 2 = .ok (.if_icmp .lt 12, 3) := by decide +kernel
theorem d_M_in_5 : decode b_M_in 5 = .ok (.iload_n 0, 1) := by decide +kernel
theorem d_M_in_6 : decode b_M_in 6 = .ok (.iload_n 2, 1) := by decide +kernel
theorem d_M_in_7 : decode b_M_in 7 = .ok (.if_icmp .gt 7, 3) := by decide +kernel
theorem d_M_in_10 : decode b_M_in 10 = .ok (.iconst 1, 1) := by decide +kernel
theorem d_M_in_11 : decode b_M_in 11 = .ok (.goto 4, 3) := by decide +kernel
theorem d_M_in_14 : decode b_M_in 14 = .ok (.iconst 0, 1) := by decide +kernel
theorem d_M_in_15 : decode b_M_in 15 = .ok (.ireturn, 1) := by decide +kernel
theorem d_M_order_0 : decode b_M_order 0 = .ok (.aload_n 0, 1) := by decide +kernel
theorem d_M_order_1 : decode b_M_order 1 = .ok (.iload_n 1, 1) := by decide +kernel
theorem d_M_order_2 : decode b_M_order 2 = .ok (.iconst 0, 1) := by decide +kernel
theorem d_M_order_3 : decode b_M_order 3 = .ok (.bipush 7, 2) := by decide +kernel
theorem d_M_order_5 : decode b_M_order 5 = .ok (.invokestatic 81, 3) := by decide +kernel
theorem d_M_order_8 : decode b_M_order 8 = .ok (.ifCond .eq 33, 3) := by decide +kernel
theorem d_M_order_11 : decode b_M_order 11 = .ok (.iload_n 2, 1) := by decide +kernel
theorem d_M_order_12 : decode b_M_order 12 = .ok (.iconst 1, 1) := by decide +kernel
theorem d_M_order_13 : decode b_M_order 13 = .ok (.bipush 6, 2) := by decide +kernel
theorem d_M_order_15 : decode b_M_order 15 = .ok (.invokestatic 81, 3) := by decide +kernel
theorem d_M_order_18 : decode b_M_order 18 = .ok (.ifCond .eq 23, 3) := by decide +kernel
theorem d_M_order_21 : decode b_M_order 21 = .ok (.iload_n 3, 1) := by decide +kernel
theorem d_M_order_22 : decode b_M_order 22 = .ok (.iconst 1, 1) := by decide +kernel
theorem d_M_order_23 : decode b_M_order 23 = .ok (.bipush 9, 2) := by decide +kernel
theorem d_M_order_25 : decode b_M_order 25 = .ok (.invokestatic 81, 3) := by decide +kernel
theorem d_M_order_28 : decode b_M_order 28 = .ok (.ifCond .eq 13, 3) := by decide +kernel
theorem d_M_order_31 : decode b_M_order 31 = .ok (.iload 4, 2) := by decide +kernel
theorem d_M_order_33 : decode b_M_order 33 = .ok (.iconst 0, 1) := by decide +kernel
theorem d_M_order_34 : decode b_M_order 34 = .ok (.iconst 3, 1) := by decide +kernel
theorem d_M_order_35 : decode b_M_order 35 = .ok (.invokestatic 81, 3) := by decide +kernel
theorem d_M_order_38 : decode b_M_order 38 = .ok (.ifCond .ne 7, 3) := by decide +kernel
theorem d_M_order_41 : decode b_M_order 41 = .ok (.iconst 1, 1) := by decide +kernel
theorem d_M_order_42 : decode b_M_order 42 = .ok (.goto 17, 3) := by decide +kernel
theorem d_M_order_45 : decode b_M_order 45 = .ok (.aload_n 0, 1) := by decide +kernel
theorem d_M_order_46 : decode b_M_order 46 = .ok (.getfield 85, 3) := by decide +kernel
theorem d_M_order_49 : decode b_M_order 49 = .ok (.bipush 8, 2) := by decide +kernel
theorem d_M_order_51 : decode b_M_order 51 = .ok (.if_icmp .ne 7, 3) := by decide +kernel
theorem d_M_order_54 : decode b_M_order 54 = .ok (.iconst 2, 1) := by decide +kernel
theorem d_M_order_55 : decode b_M_order 55 = .ok (.goto 4, 3) := by decide +kernel
theorem d_M_order_58 : decode b_M_order 58 = .ok (.iconst 0, 1) := by decide +kernel
theorem d_M_order_59 : decode b_M_order 59 = .ok (.putfield 74, 3) := by decide +kernel
theorem d_M_order_62 : decode b_M_order 62 = .ok (.aload_n 0, 1) := by decide +kernel
theorem d_M_order_63 : decode b_M_order 63 = .ok (.getfield 74, 3) := by decide +kernel
theorem d_M_order_66 : decode b_M_order 66 = .ok (.ifCond .le 5, 3) := by decide +kernel
theorem d_M_order_69 : decode b_M_order 69 = .ok (.iconst 0, 1) := by decide +kernel
theorem d_M_order_70 : decode b_M_order 70 = .ok (.ireturn, 1) := by decide +kernel
theorem d_M_order_71 : decode b_M_order 71 = .ok (.aload_n 0, 1) := by decide +kernel
theorem d_M_order_72 : decode b_M_order 72 = .ok (.getfield 25, 3) := by decide +kernel
theorem d_M_order_75 : decode b_M_order 75 = .ok (.aload_n 0, 1) := by decide +kernel
theorem d_M_order_76 : decode b_M_order 76 = .ok (.getfield 85, 3) := by decide +kernel
theorem d_M_order_79 : decode b_M_order 79 = .ok (.iload_n 1, 1) := by decide +kernel
theorem d_M_order_80 : decode b_M_order 80 = .ok (.iastore, 1) := by decide +kernel
theorem d_M_order_81 : decode b_M_order 81 = .ok (.aload_n 0, 1) := by decide +kernel
theorem d_M_order_82 : decode b_M_order 82 = .ok (.getfield 28, 3) := by decide +kernel
theorem d_M_order_85 : decode b_M_order 85 = .ok (.aload_n 0, 1) := by decide +kernel
theorem d_M_order_86 : decode b_M_order 86 = .ok (.getfield 85, 3) := by decide +kernel
theorem d_M_order_89 : decode b_M_order 89 = .ok (.iload_n 2, 1) := by decide +kernel
theorem d_M_order_90 : decode b_M_order 90 = .ok (.iastore, 1) := by decide +kernel
theorem d_M_order_91 : decode b_M_order 91 = .ok (.aload_n 0, 1) := by decide +kernel
theorem d_M_order_92 : decode b_M_order 92 = .ok (.getfield 31, 3) := by decide +kernel
theorem d_M_order_95 : decode b_M_order 95 = .ok (.aload_n 0, 1) := by decide +kernel
theorem d_M_order_96 : decode b_M_order 96 = .ok (.getfield 85, 3) := by decide +kernel
theorem d_M_order_99 : decode b_M_order 99 = .ok (.iload_n 3, 1) := by decide +kernel
theorem d_M_order_100 : decode b_M_order 100 = .ok (.iastore, 1) := by decide +kernel
theorem d_M_order_101 : decode b_M_order 101 = .ok (.aload_n 0, 1) := by decide +kernel
theorem d_M_order_102 : decode b_M_order 102 = .ok (.getfield 34, 3) := by decide +kernel
theorem d_M_order_105 : decode b_M_order 105 = .ok (.aload_n 0, 1) := by decide +kernel
theorem d_M_order_106 : decode b_M_order 106 = .ok (.getfield 85, 3) := by decide +kernel
theorem d_M_order_109 : decode b_M_order 109 = .ok (.iload 4, 2) := by decide +kernel
theorem d_M_order_111 : decode b_M_order 111 = .ok (.iastore, 1) := by decide +kernel
theorem d_M_order_112 : decode b_M_order 112 = .ok (.aload_n 0, 1) := by decide +kernel
theorem d_M_order_113 : decode b_M_order 113 = .ok (.getfield 37, 3) := by decide +kernel
theorem d_M_order_116 : decode b_M_order 116 = .ok (.aload_n 0, 1) := by decide +kernel
theorem d_M_order_117 : decode b_M_order 117 = .ok (.getfield 85, 3) := by decide +kernel
theorem d_M_order_120 : decode b_M_order 120 = .ok (.sipush 1000, 3) := by decide +kernel
theorem d_M_order_123 : decode b_M_order 123 = .ok (.iastore, 1) := by decide +kernel
theorem d_M_order_124 : decode b_M_order 124 = .ok (.aload_n 0, 1) := by decide +kernel
theorem d_M_order_125 : decode b_M_order 125 = .ok (.getfield 40, 3) := by decide +kernel
theorem d_M_order_128 : decode b_M_order 128 = .ok (.aload_n 0, 1) := by decide +kernel
theorem d_M_order_129 : decode b_M_order 129 = .ok (.getfield 85, 3) := by decide +kernel
theorem d_M_order_132 : decode b_M_order 132 = .ok (.sipush 1023, 3) := by decide +kernel
theorem d_M_order_135 : decode b_M_order 135 = .ok (.iastore, 1) := by decide +kernel
theorem d_M_order_136 : decode b_M_order 136 = .ok (.aload_n 0, 1) := by decide +kernel
theorem d_M_order_137 : decode b_M_order 137 = .ok (.dup, 1) := by decide +kernel
theorem d_M_order_138 : decode b_M_order 138 = .ok (.getfield 85, 3) := by decide +kernel
theorem d_M_order_141 : decode b_M_order 141 = .ok (.iconst 1, 1) := by decide +kernel
theorem d_M_order_142 : decode b_M_order 142 = .ok (.iadd, 1) := by decide +kernel
theorem d_M_order_143 : decode b_M_order 143 = .ok (.putfield 85, 3) := by decide +kernel
theorem d_M_order_146 : decode b_M_order 146 = .ok (.aload_n 0, 1) := by decide +kernel
theorem d_M_order_147 : decode b_M_order 147 = .ok (.getfield 85, 3) := by decide +kernel
theorem d_M_order_150 : decode b_M_order 150 = .ok (.iconst 1, 1) := by decide +kernel
theorem d_M_order_151 : decode b_M_order 151 = .ok (.isub, 1) := by decide +kernel
theorem d_M_order_152 : decode b_M_order 152 = .ok (.ireturn, 1) := by decide +kernel
theorem d_M_wants_0 : decode b_M_wants 0 = .ok (.aload_n 0, 1) := by decide +kernel
theorem d_M_wants_1 : decode b_M_wants 1 = .ok (.aload_n 0, 1) := by decide +kernel
theorem d_M_wants_2 : decode b_M_wants 2 = .ok (.iload_n 1, 1) := by decide +kernel
theorem d_M_wants_3 : decode b_M_wants 3 = .ok (.invokevirtual 88, 3) := by decide +kernel
theorem d_M_wants_6 : decode b_M_wants 6 = .ok (.ifCond .ne 7, 3) := by decide +kernel
theorem d_M_wants_9 : decode b_M_wants 9 = .ok (.iconst 1, 1) := by decide +kernel
theorem d_M_wants_10 : decode b_M_wants 10 = .ok (.goto 30, 3) := by decide +kernel
theorem d_M_wants_13 : decode b_M_wants 13 = .ok (.iload_n 2, 1) := by decide +kernel
theorem d_M_wants_14 : decode b_M_wants 14 = .ok (.iconst 0, 1) := by decide +kernel
theorem d_M_wants_15 : decode b_M_wants 15 = .ok (.sipush 1000, 3) := by decide +kernel
theorem d_M_wants_18 : decode b_M_wants 18 = .ok (.invokestatic 81, 3) := by decide +kernel
theorem d_M_wants_21 : decode b_M_wants 21 = .ok (.ifCond .eq 14, 3) := by decide +kernel
theorem d_M_wants_24 : decode b_M_wants 24 = .ok (.iload_n 3, 1) := by decide +kernel
theorem d_M_wants_25 : decode b_M_wants 25 = .ok (.iconst 0, 1) := by decide +kernel
theorem d_M_wants_26 : decode b_M_wants 26 = .ok (.sipush 1023, 3) := by decide +kernel
theorem d_M_wants_29 : decode b_M_wants 29 = .ok (.invokestatic 81, 3) := by decide +kernel
theorem d_M_wants_32 : decode b_M_wants 32 = .ok (.ifCond .ne 7, 3) := by decide +kernel
theorem d_M_wants_35 : decode b_M_wants 35 = .ok (.iconst 2, 1) := by decide +kernel
theorem d_M_wants_36 : decode b_M_wants 36 = .ok (.goto 4, 3) := by decide +kernel
theorem d_M_wants_39 : decode b_M_wants 39 = .ok (.iconst 0, 1) := by decide +kernel
theorem d_M_wants_40 : decode b_M_wants 40 = .ok (.putfield 74, 3) := by decide +kernel
theorem d_M_wants_43 : decode b_M_wants 43 = .ok (.aload_n 0, 1) := by decide +kernel
theorem d_M_wants_44 : decode b_M_wants 44 = .ok (.getfield 74, 3) := by decide +kernel
theorem d_M_wants_47 : decode b_M_wants 47 = .ok (.ifCond .le 4, 3) := by decide +kernel
theorem d_M_wants_50 : decode b_M_wants 50 = .ok (.return_, 1) := by decide +kernel
theorem d_M_wants_51 : decode b_M_wants 51 = .ok (.aload_n 0, 1) := by decide +kernel
theorem d_M_wants_52 : decode b_M_wants 52 = .ok (.getfield 37, 3) := by decide +kernel
theorem d_M_wants_55 : decode b_M_wants 55 = .ok (.iload_n 1, 1) := by decide +kernel
theorem d_M_wants_56 : decode b_M_wants 56 = .ok (.iload_n 2, 1) := by decide +kernel
theorem d_M_wants_57 : decode b_M_wants 57 = .ok (.iastore, 1) := by decide +kernel
theorem d_M_wants_58 : decode b_M_wants 58 = .ok (.aload_n 0, 1) := by decide +kernel
theorem d_M_wants_59 : decode b_M_wants 59 = .ok (.getfield 40, 3) := by decide +kernel
theorem d_M_wants_62 : decode b_M_wants 62 = .ok (.iload_n 1, 1) := by decide +kernel
theorem d_M_wants_63 : decode b_M_wants 63 = .ok (.iload_n 3, 1) := by decide +kernel
theorem d_M_wants_64 : decode b_M_wants 64 = .ok (.iastore, 1) := by decide +kernel
theorem d_M_wants_65 : decode b_M_wants 65 = .ok (.return_, 1) := by decide +kernel
theorem d_M_isOrder_0 : decode b_M_isOrder 0 = .ok (.iload_n 1, 1) := by decide +kernel
theorem d_M_isOrder_1 : decode b_M_isOrder 1 = .ok (.iconst 0, 1) := by decide +kernel
theorem d_M_isOrder_2 : decode b_M_isOrder 2 = .ok (.aload_n 0, 1) := by decide +kernel
theorem d_M_isOrder_3 : decode b_M_isOrder 3 = .ok (.getfield 85, 3) := by decide +kernel
theorem d_M_isOrder_6 : decode b_M_isOrder 6 = .ok (.iconst 1, 1) := by decide +kernel
theorem d_M_isOrder_7 : decode b_M_isOrder 7 = .ok (.isub, 1) := by decide +kernel
theorem d_M_isOrder_8 : decode b_M_isOrder 8 = .ok (.invokestatic 81, 3) := by decide +kernel
theorem d_M_isOrder_11 : decode b_M_isOrder 11 = .ok (.ireturn, 1) := by decide +kernel
theorem d_M_promised_0 : decode b_M_promised 0 = .ok (.aload_n 0, 1) := by decide +kernel
theorem d_M_promised_1 : decode b_M_promised 1 = .ok (.aload_n 0, 1) := by decide +kernel
theorem d_M_promised_2 : decode b_M_promised 2 = .ok (.iload_n 1, 1) := by decide +kernel
theorem d_M_promised_3 : decode b_M_promised 3 = .ok (.invokevirtual 95, 3) := by decide +kernel
theorem d_M_promised_6 : decode b_M_promised 6 = .ok (.ifCond .ne 7, 3) := by decide +kernel
theorem d_M_promised_9 : decode b_M_promised 9 = .ok (.iconst 1, 1) := by decide +kernel
theorem d_M_promised_10 : decode b_M_promised 10 = .ok (.goto 42, 3) := by decide +kernel
theorem d_M_promised_13 : decode b_M_promised 13 = .ok (.iload_n 2, 1) := by decide +kernel
theorem d_M_promised_14 : decode b_M_promised 14 = .ok (.iconst 0, 1) := by decide +kernel
theorem d_M_promised_15 : decode b_M_promised 15 = .ok (.aload_n 0, 1) := by decide +kernel
theorem d_M_promised_16 : decode b_M_promised 16 = .ok (.getfield 19, 3) := by decide +kernel
theorem d_M_promised_19 : decode b_M_promised 19 = .ok (.iload_n 1, 1) := by decide +kernel
theorem d_M_promised_20 : decode b_M_promised 20 = .ok (.iaload, 1) := by decide +kernel
theorem d_M_promised_21 : decode b_M_promised 21 = .ok (.invokestatic 81, 3) := by decide +kernel
theorem d_M_promised_24 : decode b_M_promised 24 = .ok (.ifCond .ne 7, 3) := by decide +kernel
theorem d_M_promised_27 : decode b_M_promised 27 = .ok (.iconst 2, 1) := by decide +kernel
theorem d_M_promised_28 : decode b_M_promised 28 = .ok (.goto 24, 3) := by decide +kernel
theorem d_M_promised_31 : decode b_M_promised 31 = .ok (.iload_n 2, 1) := by decide +kernel
theorem d_M_promised_32 : decode b_M_promised 32 = .ok (.aload_n 0, 1) := by decide +kernel
theorem d_M_promised_33 : decode b_M_promised 33 = .ok (.iload_n 1, 1) := by decide +kernel
theorem d_M_promised_34 : decode b_M_promised 34 = .ok (.invokevirtual 98, 3) := by decide +kernel
theorem d_M_promised_37 : decode b_M_promised 37 = .ok (.iadd, 1) := by decide +kernel
theorem d_M_promised_38 : decode b_M_promised 38 = .ok (.aload_n 0, 1) := by decide +kernel
theorem d_M_promised_39 : decode b_M_promised 39 = .ok (.getfield 19, 3) := by decide +kernel
theorem d_M_promised_42 : decode b_M_promised 42 = .ok (.iload_n 1, 1) := by decide +kernel
theorem d_M_promised_43 : decode b_M_promised 43 = .ok (.iaload, 1) := by decide +kernel
theorem d_M_promised_44 : decode b_M_promised 44 = .ok (.if_icmp .le 7, 3) := by decide +kernel
theorem d_M_promised_47 : decode b_M_promised 47 = .ok (.iconst 3, 1) := by decide +kernel
theorem d_M_promised_48 : decode b_M_promised 48 = .ok (.goto 4, 3) := by decide +kernel
theorem d_M_promised_51 : decode b_M_promised 51 = .ok (.iconst 0, 1) := by decide +kernel
theorem d_M_promised_52 : decode b_M_promised 52 = .ok (.putfield 74, 3) := by decide +kernel
theorem d_M_promised_55 : decode b_M_promised 55 = .ok (.aload_n 0, 1) := by decide +kernel
theorem d_M_promised_56 : decode b_M_promised 56 = .ok (.getfield 74, 3) := by decide +kernel
theorem d_M_promised_59 : decode b_M_promised 59 = .ok (.ifCond .ne 10, 3) := by decide +kernel
theorem d_M_promised_62 : decode b_M_promised 62 = .ok (.aload_n 0, 1) := by decide +kernel
theorem d_M_promised_63 : decode b_M_promised 63 = .ok (.getfield 22, 3) := by decide +kernel
theorem d_M_promised_66 : decode b_M_promised 66 = .ok (.iload_n 1, 1) := by decide +kernel
theorem d_M_promised_67 : decode b_M_promised 67 = .ok (.iload_n 2, 1) := by decide +kernel
theorem d_M_promised_68 : decode b_M_promised 68 = .ok (.iastore, 1) := by decide +kernel
theorem d_M_promised_69 : decode b_M_promised 69 = .ok (.return_, 1) := by decide +kernel
theorem d_M_isArrival_0 : decode b_M_isArrival 0 = .ok (.iload_n 1, 1) := by decide +kernel
theorem d_M_isArrival_1 : decode b_M_isArrival 1 = .ok (.iconst 0, 1) := by decide +kernel
theorem d_M_isArrival_2 : decode b_M_isArrival 2 = .ok (.aload_n 0, 1) := by decide +kernel
theorem d_M_isArrival_3 : decode b_M_isArrival 3 = .ok (.getfield 78, 3) := by decide +kernel
theorem d_M_isArrival_6 : decode b_M_isArrival 6 = .ok (.iconst 1, 1) := by decide +kernel
theorem d_M_isArrival_7 : decode b_M_isArrival 7 = .ok (.isub, 1) := by decide +kernel
theorem d_M_isArrival_8 : decode b_M_isArrival 8 = .ok (.invokestatic 81, 3) := by decide +kernel
theorem d_M_isArrival_11 : decode b_M_isArrival 11 = .ok (.ireturn, 1) := by decide +kernel
theorem d_M_held_0 : decode b_M_held 0 = .ok (.iconst 0, 1) := by decide +kernel
theorem d_M_held_1 : decode b_M_held 1 = .ok (.istore_n 2, 1) := by decide +kernel
theorem d_M_held_2 : decode b_M_held 2 = .ok (.iconst 0, 1) := by decide +kernel
theorem d_M_held_3 : decode b_M_held 3 = .ok (.istore_n 3, 1) := by decide +kernel
theorem d_M_held_4 : decode b_M_held 4 = .ok (.iload_n 3, 1) := by decide +kernel
theorem d_M_held_5 : decode b_M_held 5 = .ok (.aload_n 0, 1) := by decide +kernel
theorem d_M_held_6 : decode b_M_held 6 = .ok (.getfield 92, 3) := by decide +kernel
theorem d_M_held_9 : decode b_M_held 9 = .ok (.if_icmp .ge 32, 3) := by decide +kernel
theorem d_M_held_12 : decode b_M_held 12 = .ok (.iload_n 2, 1) := by decide +kernel
theorem d_M_held_13 : decode b_M_held 13 = .ok (.aload_n 0, 1) := by decide +kernel
theorem d_M_held_14 : decode b_M_held 14 = .ok (.getfield 50, 3) := by decide +kernel
theorem d_M_held_17 : decode b_M_held 17 = .ok (.iload_n 3, 1) := by decide +kernel
theorem d_M_held_18 : decode b_M_held 18 = .ok (.iaload, 1) := by decide +kernel
theorem d_M_held_19 : decode b_M_held 19 = .ok (.iload_n 1, 1) := by decide +kernel
theorem d_M_held_20 : decode b_M_held 20 = .ok (.if_icmp .ne 12, 3) := by decide +kernel
theorem d_M_held_23 : decode b_M_held 23 = .ok (.aload_n 0, 1) := by decide +kernel
theorem d_M_held_24 : decode b_M_held 24 = .ok (.getfield 56, 3) := by decide +kernel
theorem d_M_held_27 : decode b_M_held 27 = .ok (.iload_n 3, 1) := by decide +kernel
theorem d_M_held_28 : decode b_M_held 28 = .ok (.iaload, 1) := by decide +kernel
theorem d_M_held_29 : decode b_M_held 29 = .ok (.goto 4, 3) := by decide +kernel
theorem d_M_held_32 : decode b_M_held 32 = .ok (.iconst 0, 1) := by decide +kernel
theorem d_M_held_33 : decode b_M_held 33 = .ok (.iadd, 1) := by decide +kernel
theorem d_M_held_34 : decode b_M_held 34 = .ok (.istore_n 2, 1) := by decide +kernel
theorem d_M_held_35 : decode b_M_held 35 = .ok (.iinc 3 1, 3) := by decide +kernel
theorem d_M_held_38 : decode b_M_held 38 = .ok (.goto (-34), 3) := by decide +kernel
theorem d_M_held_41 : decode b_M_held 41 = .ok (.iload_n 2, 1) := by decide +kernel
theorem d_M_held_42 : decode b_M_held 42 = .ok (.ireturn, 1) := by decide +kernel
theorem d_M_rule_0 : decode b_M_rule 0 = .ok (.aload_n 0, 1) := by decide +kernel
theorem d_M_rule_1 : decode b_M_rule 1 = .ok (.aload_n 0, 1) := by decide +kernel
theorem d_M_rule_2 : decode b_M_rule 2 = .ok (.iload_n 1, 1) := by decide +kernel
theorem d_M_rule_3 : decode b_M_rule 3 = .ok (.invokevirtual 95, 3) := by decide +kernel
theorem d_M_rule_6 : decode b_M_rule 6 = .ok (.ifCond .eq 11, 3) := by decide +kernel
theorem d_M_rule_9 : decode b_M_rule 9 = .ok (.aload_n 0, 1) := by decide +kernel
theorem d_M_rule_10 : decode b_M_rule 10 = .ok (.iload_n 2, 1) := by decide +kernel
theorem d_M_rule_11 : decode b_M_rule 11 = .ok (.invokevirtual 88, 3) := by decide +kernel
theorem d_M_rule_14 : decode b_M_rule 14 = .ok (.ifCond .ne 7, 3) := by decide +kernel
theorem d_M_rule_17 : decode b_M_rule 17 = .ok (.iconst 1, 1) := by decide +kernel
theorem d_M_rule_18 : decode b_M_rule 18 = .ok (.goto 4, 3) := by decide +kernel
theorem d_M_rule_21 : decode b_M_rule 21 = .ok (.iconst 0, 1) := by decide +kernel
theorem d_M_rule_22 : decode b_M_rule 22 = .ok (.putfield 74, 3) := by decide +kernel
theorem d_M_rule_25 : decode b_M_rule 25 = .ok (.aload_n 0, 1) := by decide +kernel
theorem d_M_rule_26 : decode b_M_rule 26 = .ok (.getfield 74, 3) := by decide +kernel
theorem d_M_rule_29 : decode b_M_rule 29 = .ok (.ifCond .le 5, 3) := by decide +kernel
theorem d_M_rule_32 : decode b_M_rule 32 = .ok (.iconst 0, 1) := by decide +kernel
theorem d_M_rule_33 : decode b_M_rule 33 = .ok (.ireturn, 1) := by decide +kernel
theorem d_M_rule_34 : decode b_M_rule 34 = .ok (.aload_n 0, 1) := by decide +kernel
theorem d_M_rule_35 : decode b_M_rule 35 = .ok (.getfield 43, 3) := by decide +kernel
theorem d_M_rule_38 : decode b_M_rule 38 = .ok (.bipush 8, 2) := by decide +kernel
theorem d_M_rule_40 : decode b_M_rule 40 = .ok (.iload_n 1, 1) := by decide +kernel
theorem d_M_rule_41 : decode b_M_rule 41 = .ok (.imul, 1) := by decide +kernel
theorem d_M_rule_42 : decode b_M_rule 42 = .ok (.iload_n 2, 1) := by decide +kernel
theorem d_M_rule_43 : decode b_M_rule 43 = .ok (.iadd, 1) := by decide +kernel
theorem d_M_rule_44 : decode b_M_rule 44 = .ok (.iload_n 3, 1) := by decide +kernel
theorem d_M_rule_45 : decode b_M_rule 45 = .ok (.bastore, 1) := by decide +kernel
theorem d_M_rule_46 : decode b_M_rule 46 = .ok (.aload_n 0, 1) := by decide +kernel
theorem d_M_rule_47 : decode b_M_rule 47 = .ok (.iload_n 1, 1) := by decide +kernel
theorem d_M_rule_48 : decode b_M_rule 48 = .ok (.iload_n 2, 1) := by decide +kernel
theorem d_M_rule_49 : decode b_M_rule 49 = .ok (.invokevirtual 105, 3) := by decide +kernel
theorem d_M_rule_52 : decode b_M_rule 52 = .ok (.ireturn, 1) := by decide +kernel
theorem d_M_mayServe_0 : decode b_M_mayServe 0 = .ok (.aload_n 0, 1) := by decide +kernel
theorem d_M_mayServe_1 : decode b_M_mayServe 1 = .ok (.iload_n 1, 1) := by decide +kernel
theorem d_M_mayServe_2 : decode b_M_mayServe 2 = .ok (.iload_n 2, 1) := by decide +kernel
theorem d_M_mayServe_3 : decode b_M_mayServe 3 = .ok (.iconst 5, 1) := by decide +kernel
theorem d_M_mayServe_4 : decode b_M_mayServe 4 = .ok (.invokevirtual 102, 3) := by decide +kernel
theorem d_M_mayServe_7 : decode b_M_mayServe 7 = .ok (.ireturn, 1) := by decide +kernel
theorem d_M_passes_0 : decode b_M_passes 0 = .ok (.iload_n 3, 1) := by decide +kernel
theorem d_M_passes_1 : decode b_M_passes 1 = .ok (.ifCond .le 20, 3) := by decide +kernel
theorem d_M_passes_4 : decode b_M_passes 4 = .ok (.aload_n 0, 1) := by decide +kernel
theorem d_M_passes_5 : decode b_M_passes 5 = .ok (.getfield 7, 3) := by decide +kernel
theorem d_M_passes_8 : decode b_M_passes 8 = .ok (.iload_n 1, 1) := by decide +kernel
theorem d_M_passes_9 : decode b_M_passes 9 = .ok (.iaload, 1) := by decide +kernel
theorem d_M_passes_10 : decode b_M_passes 10 = .ok (.aload_n 0, 1) := by decide +kernel
theorem d_M_passes_11 : decode b_M_passes 11 = .ok (.getfield 25, 3) := by decide +kernel
theorem d_M_passes_14 : decode b_M_passes 14 = .ok (.iload_n 2, 1) := by decide +kernel
theorem d_M_passes_15 : decode b_M_passes 15 = .ok (.iaload, 1) := by decide +kernel
theorem d_M_passes_16 : decode b_M_passes 16 = .ok (.if_icmp .eq 5, 3) := by decide +kernel
theorem d_M_passes_19 : decode b_M_passes 19 = .ok (.iconst 0, 1) := by decide +kernel
theorem d_M_passes_20 : decode b_M_passes 20 = .ok (.ireturn, 1) := by decide +kernel
theorem d_M_passes_21 : decode b_M_passes 21 = .ok (.iload_n 3, 1) := by decide +kernel
theorem d_M_passes_22 : decode b_M_passes 22 = .ok (.iconst 1, 1) := by decide +kernel
theorem d_M_passes_23 : decode b_M_passes 23 = .ok (.if_icmp .le 20, 3) := by decide +kernel
theorem d_M_passes_26 : decode b_M_passes 26 = .ok (.aload_n 0, 1) := by decide +kernel
theorem d_M_passes_27 : decode b_M_passes 27 = .ok (.getfield 16, 3) := by decide +kernel
theorem d_M_passes_30 : decode b_M_passes 30 = .ok (.iload_n 1, 1) := by decide +kernel
theorem d_M_passes_31 : decode b_M_passes 31 = .ok (.iaload, 1) := by decide +kernel
theorem d_M_passes_32 : decode b_M_passes 32 = .ok (.aload_n 0, 1) := by decide +kernel
theorem d_M_passes_33 : decode b_M_passes 33 = .ok (.getfield 37, 3) := by decide +kernel
theorem d_M_passes_36 : decode b_M_passes 36 = .ok (.iload_n 2, 1) := by decide +kernel
theorem d_M_passes_37 : decode b_M_passes 37 = .ok (.iaload, 1) := by decide +kernel
theorem d_M_passes_38 : decode b_M_passes 38 = .ok (.if_icmp .le 5, 3) := by decide +kernel
theorem d_M_passes_41 : decode b_M_passes 41 = .ok (.iconst 0, 1) := by decide +kernel
theorem d_M_passes_42 : decode b_M_passes 42 = .ok (.ireturn, 1) := by decide +kernel
theorem d_M_passes_43 : decode b_M_passes 43 = .ok (.iload_n 3, 1) := by decide +kernel
theorem d_M_passes_44 : decode b_M_passes 44 = .ok (.iconst 2, 1) := by decide +kernel
theorem d_M_passes_45 : decode b_M_passes 45 = .ok (.if_icmp .le 23, 3) := by decide +kernel
theorem d_M_passes_48 : decode b_M_passes 48 = .ok (.aload_n 0, 1) := by decide +kernel
theorem d_M_passes_49 : decode b_M_passes 49 = .ok (.getfield 40, 3) := by decide +kernel
theorem d_M_passes_52 : decode b_M_passes 52 = .ok (.iload_n 2, 1) := by decide +kernel
theorem d_M_passes_53 : decode b_M_passes 53 = .ok (.iaload, 1) := by decide +kernel
theorem d_M_passes_54 : decode b_M_passes 54 = .ok (.aload_n 0, 1) := by decide +kernel
theorem d_M_passes_55 : decode b_M_passes 55 = .ok (.getfield 13, 3) := by decide +kernel
theorem d_M_passes_58 : decode b_M_passes 58 = .ok (.iload_n 1, 1) := by decide +kernel
theorem d_M_passes_59 : decode b_M_passes 59 = .ok (.iaload, 1) := by decide +kernel
theorem d_M_passes_60 : decode b_M_passes 60 = .ok (.ishr, 1) := by decide +kernel
theorem d_M_passes_61 : decode b_M_passes 61 = .ok (.iconst 1, 1) := by decide +kernel
theorem d_M_passes_62 : decode b_M_passes 62 = .ok (.iand, 1) := by decide +kernel
theorem d_M_passes_63 : decode b_M_passes 63 = .ok (.ifCond .ne 5, 3) := by decide +kernel
theorem d_M_passes_66 : decode b_M_passes 66 = .ok (.iconst 0, 1) := by decide +kernel
theorem d_M_passes_67 : decode b_M_passes 67 = .ok (.ireturn, 1) := by decide +kernel
theorem d_M_passes_68 : decode b_M_passes 68 = .ok (.iload_n 3, 1) := by decide +kernel
theorem d_M_passes_69 : decode b_M_passes 69 = .ok (.iconst 3, 1) := by decide +kernel
theorem d_M_passes_70 : decode b_M_passes 70 = .ok (.if_icmp .le 19, 3) := by decide +kernel
theorem d_M_passes_73 : decode b_M_passes 73 = .ok (.aload_n 0, 1) := by decide +kernel
theorem d_M_passes_74 : decode b_M_passes 74 = .ok (.getfield 43, 3) := by decide +kernel
theorem d_M_passes_77 : decode b_M_passes 77 = .ok (.bipush 8, 2) := by decide +kernel
theorem d_M_passes_79 : decode b_M_passes 79 = .ok (.iload_n 1, 1) := by decide +kernel
theorem d_M_passes_80 : decode b_M_passes 80 = .ok (.imul, 1) := by decide +kernel
theorem d_M_passes_81 : decode b_M_passes 81 = .ok (.iload_n 2, 1) := by decide +kernel
theorem d_M_passes_82 : decode b_M_passes 82 = .ok (.iadd, 1) := by decide +kernel
theorem d_M_passes_83 : decode b_M_passes 83 = .ok (.baload, 1) := by decide +kernel
theorem d_M_passes_84 : decode b_M_passes 84 = .ok (.ifCond .eq 5, 3) := by decide +kernel
theorem d_M_passes_87 : decode b_M_passes 87 = .ok (.iconst 0, 1) := by decide +kernel
theorem d_M_passes_88 : decode b_M_passes 88 = .ok (.ireturn, 1) := by decide +kernel
theorem d_M_passes_89 : decode b_M_passes 89 = .ok (.iload_n 3, 1) := by decide +kernel
theorem d_M_passes_90 : decode b_M_passes 90 = .ok (.iconst 5, 1) := by decide +kernel
theorem d_M_passes_91 : decode b_M_passes 91 = .ok (.if_icmp .lt 17, 3) := by decide +kernel
theorem d_M_passes_94 : decode b_M_passes 94 = .ok (.aload_n 0, 1) := by decide +kernel
theorem d_M_passes_95 : decode b_M_passes 95 = .ok (.getfield 47, 3) := by decide +kernel
theorem d_M_passes_98 : decode b_M_passes 98 = .ok (.aload_n 0, 1) := by decide +kernel
theorem d_M_passes_99 : decode b_M_passes 99 = .ok (.getfield 34, 3) := by decide +kernel
theorem d_M_passes_102 : decode b_M_passes 102 = .ok (.iload_n 2, 1) := by decide +kernel
theorem d_M_passes_103 : decode b_M_passes 103 = .ok (.iaload, 1) := by decide +kernel
theorem d_M_passes_104 : decode b_M_passes 104 = .ok (.baload, 1) := by decide +kernel
theorem d_M_passes_105 : decode b_M_passes 105 = .ok (.ifCond .ne 7, 3) := by decide +kernel
theorem d_M_passes_108 : decode b_M_passes 108 = .ok (.iconst 1, 1) := by decide +kernel
theorem d_M_passes_109 : decode b_M_passes 109 = .ok (.goto 4, 3) := by decide +kernel
theorem d_M_passes_112 : decode b_M_passes 112 = .ok (.iconst 0, 1) := by decide +kernel
theorem d_M_passes_113 : decode b_M_passes 113 = .ok (.ireturn, 1) := by decide +kernel
theorem d_M_full_0 : decode b_M_full 0 = .ok (.aload_n 0, 1) := by decide +kernel
theorem d_M_full_1 : decode b_M_full 1 = .ok (.iload_n 1, 1) := by decide +kernel
theorem d_M_full_2 : decode b_M_full 2 = .ok (.iconst 0, 1) := by decide +kernel
theorem d_M_full_3 : decode b_M_full 3 = .ok (.iconst 3, 1) := by decide +kernel
theorem d_M_full_4 : decode b_M_full 4 = .ok (.invokestatic 81, 3) := by decide +kernel
theorem d_M_full_7 : decode b_M_full 7 = .ok (.ifCond .eq 7, 3) := by decide +kernel
theorem d_M_full_10 : decode b_M_full 10 = .ok (.iconst 0, 1) := by decide +kernel
theorem d_M_full_11 : decode b_M_full 11 = .ok (.goto 4, 3) := by decide +kernel
theorem d_M_full_14 : decode b_M_full 14 = .ok (.iconst 1, 1) := by decide +kernel
theorem d_M_full_15 : decode b_M_full 15 = .ok (.putfield 74, 3) := by decide +kernel
theorem d_M_full_18 : decode b_M_full 18 = .ok (.aload_n 0, 1) := by decide +kernel
theorem d_M_full_19 : decode b_M_full 19 = .ok (.getfield 74, 3) := by decide +kernel
theorem d_M_full_22 : decode b_M_full 22 = .ok (.ifCond .le 5, 3) := by decide +kernel
theorem d_M_full_25 : decode b_M_full 25 = .ok (.iconst 0, 1) := by decide +kernel
theorem d_M_full_26 : decode b_M_full 26 = .ok (.ireturn, 1) := by decide +kernel
theorem d_M_full_27 : decode b_M_full 27 = .ok (.aload_n 0, 1) := by decide +kernel
theorem d_M_full_28 : decode b_M_full 28 = .ok (.getfield 47, 3) := by decide +kernel
theorem d_M_full_31 : decode b_M_full 31 = .ok (.iload_n 1, 1) := by decide +kernel
theorem d_M_full_32 : decode b_M_full 32 = .ok (.iload_n 2, 1) := by decide +kernel
theorem d_M_full_33 : decode b_M_full 33 = .ok (.bastore, 1) := by decide +kernel
theorem d_M_full_34 : decode b_M_full 34 = .ok (.iconst 0, 1) := by decide +kernel
theorem d_M_full_35 : decode b_M_full 35 = .ok (.istore_n 3, 1) := by decide +kernel
theorem d_M_full_36 : decode b_M_full 36 = .ok (.iconst 0, 1) := by decide +kernel
theorem d_M_full_37 : decode b_M_full 37 = .ok (.istore 4, 2) := by decide +kernel
theorem d_M_full_39 : decode b_M_full 39 = .ok (.iload 4, 2) := by decide +kernel
theorem d_M_full_41 : decode b_M_full 41 = .ok (.aload_n 0, 1) := by decide +kernel
theorem d_M_full_42 : decode b_M_full 42 = .ok (.getfield 85, 3) := by decide +kernel
theorem d_M_full_45 : decode b_M_full 45 = .ok (.if_icmp .ge 28, 3) := by decide +kernel
theorem d_M_full_48 : decode b_M_full 48 = .ok (.iload_n 3, 1) := by decide +kernel
theorem d_M_full_49 : decode b_M_full 49 = .ok (.aload_n 0, 1) := by decide +kernel
theorem d_M_full_50 : decode b_M_full 50 = .ok (.getfield 34, 3) := by decide +kernel
theorem d_M_full_53 : decode b_M_full 53 = .ok (.iload 4, 2) := by decide +kernel
theorem d_M_full_55 : decode b_M_full 55 = .ok (.iaload, 1) := by decide +kernel
theorem d_M_full_56 : decode b_M_full 56 = .ok (.iload_n 1, 1) := by decide +kernel
theorem d_M_full_57 : decode b_M_full 57 = .ok (.if_icmp .ne 7, 3) := by decide +kernel
theorem d_M_full_60 : decode b_M_full 60 = .ok (.iconst 1, 1) := by decide +kernel
theorem d_M_full_61 : decode b_M_full 61 = .ok (.goto 4, 3) := by decide +kernel
theorem d_M_full_64 : decode b_M_full 64 = .ok (.iconst 0, 1) := by decide +kernel
theorem d_M_full_65 : decode b_M_full 65 = .ok (.iadd, 1) := by decide +kernel
theorem d_M_full_66 : decode b_M_full 66 = .ok (.istore_n 3, 1) := by decide +kernel
theorem d_M_full_67 : decode b_M_full 67 = .ok (.iinc 4 1, 3) := by decide +kernel
theorem d_M_full_70 : decode b_M_full 70 = .ok (.goto (-31), 3) := by decide +kernel
theorem d_M_full_73 : decode b_M_full 73 = .ok (.iload_n 3, 1) := by decide +kernel
theorem d_M_full_74 : decode b_M_full 74 = .ok (.ireturn, 1) := by decide +kernel
theorem d_M_match_0 : decode b_M_match 0 = .ok (.aload_n 0, 1) := by decide +kernel
theorem d_M_match_1 : decode b_M_match 1 = .ok (.iload_n 1, 1) := by decide +kernel
theorem d_M_match_2 : decode b_M_match 2 = .ok (.iconst 0, 1) := by decide +kernel
theorem d_M_match_3 : decode b_M_match 3 = .ok (.sipush 20000, 3) := by decide +kernel
theorem d_M_match_6 : decode b_M_match 6 = .ok (.invokestatic 81, 3) := by decide +kernel
theorem d_M_match_9 : decode b_M_match 9 = .ok (.ifCond .eq 7, 3) := by decide +kernel
theorem d_M_match_12 : decode b_M_match 12 = .ok (.iconst 0, 1) := by decide +kernel
end
section
theorem d_M_match_13 : decode b_M_match 13 = .ok (.goto 4, 3) := by decide +kernel
theorem d_M_match_16 : decode b_M_match 16 = .ok (.iconst 1, 1) := by decide +kernel
theorem d_M_match_17 : decode b_M_match 17 = .ok (.putfield 74, 3) := by decide +kernel
theorem d_M_match_20 : decode b_M_match 20 = .ok (.aload_n 0, 1) := by decide +kernel
theorem d_M_match_21 : decode b_M_match 21 = .ok (.getfield 74, 3) := by decide +kernel
theorem d_M_match_24 : decode b_M_match 24 = .ok (.ifCond .le 5, 3) := by decide +kernel
theorem d_M_match_27 : decode b_M_match 27 = .ok (.iconst 0, 1) := by decide +kernel
theorem d_M_match_28 : decode b_M_match 28 = .ok (.ireturn, 1) := by decide +kernel
theorem d_M_match_29 : decode b_M_match 29 = .ok (.aload_n 0, 1) := by decide +kernel
theorem d_M_match_30 : decode b_M_match 30 = .ok (.invokevirtual 137, 3) := by decide +kernel
theorem d_M_match_33 : decode b_M_match 33 = .ok (.aload_n 0, 1) := by decide +kernel
theorem d_M_match_34 : decode b_M_match 34 = .ok (.aload_n 0, 1) := by decide +kernel
theorem d_M_match_35 : decode b_M_match 35 = .ok (.iload_n 1, 1) := by decide +kernel
theorem d_M_match_36 : decode b_M_match 36 = .ok (.invokevirtual 140, 3) := by decide +kernel
theorem d_M_match_39 : decode b_M_match 39 = .ok (.putfield 143, 3) := by decide +kernel
theorem d_M_match_42 : decode b_M_match 42 = .ok (.aload_n 0, 1) := by decide +kernel
theorem d_M_match_43 : decode b_M_match 43 = .ok (.getfield 143, 3) := by decide +kernel
theorem d_M_match_46 : decode b_M_match 46 = .ok (.ifCond .ne 7, 3) := by decide +kernel
theorem d_M_match_49 : decode b_M_match 49 = .ok (.aload_n 0, 1) := by decide +kernel
theorem d_M_match_50 : decode b_M_match 50 = .ok (.invokevirtual 147, 3) := by decide +kernel
theorem d_M_match_53 : decode b_M_match 53 = .ok (.aload_n 0, 1) := by decide +kernel
theorem d_M_match_54 : decode b_M_match 54 = .ok (.iconst 0, 1) := by decide +kernel
theorem d_M_match_55 : decode b_M_match 55 = .ok (.putfield 92, 3) := by decide +kernel
theorem d_M_match_58 : decode b_M_match 58 = .ok (.iconst 0, 1) := by decide +kernel
theorem d_M_match_59 : decode b_M_match 59 = .ok (.istore_n 2, 1) := by decide +kernel
theorem d_M_match_60 : decode b_M_match 60 = .ok (.iload_n 2, 1) := by decide +kernel
theorem d_M_match_61 : decode b_M_match 61 = .ok (.aload_n 0, 1) := by decide +kernel
theorem d_M_match_62 : decode b_M_match 62 = .ok (.getfield 115, 3) := by decide +kernel
theorem d_M_match_65 : decode b_M_match 65 = .ok (.if_icmp .ge 76, 3) := by decide +kernel
theorem d_M_match_68 : decode b_M_match 68 = .ok (.aload_n 0, 1) := by decide +kernel
theorem d_M_match_69 : decode b_M_match 69 = .ok (.getfield 68, 3) := by decide +kernel
theorem d_M_match_72 : decode b_M_match 72 = .ok (.iload_n 2, 1) := by decide +kernel
theorem d_M_match_73 : decode b_M_match 73 = .ok (.iaload, 1) := by decide +kernel
theorem d_M_match_74 : decode b_M_match 74 = .ok (.ifCond .ne 6, 3) := by decide +kernel
theorem d_M_match_77 : decode b_M_match 77 = .ok (.goto 58, 3) := by decide +kernel
theorem d_M_match_80 : decode b_M_match 80 = .ok (.aload_n 0, 1) := by decide +kernel
theorem d_M_match_81 : decode b_M_match 81 = .ok (.getfield 50, 3) := by decide +kernel
theorem d_M_match_84 : decode b_M_match 84 = .ok (.aload_n 0, 1) := by decide +kernel
theorem d_M_match_85 : decode b_M_match 85 = .ok (.getfield 92, 3) := by decide +kernel
theorem d_M_match_88 : decode b_M_match 88 = .ok (.aload_n 0, 1) := by decide +kernel
theorem d_M_match_89 : decode b_M_match 89 = .ok (.getfield 59, 3) := by decide +kernel
theorem d_M_match_92 : decode b_M_match 92 = .ok (.iload_n 2, 1) := by decide +kernel
theorem d_M_match_93 : decode b_M_match 93 = .ok (.iaload, 1) := by decide +kernel
theorem d_M_match_94 : decode b_M_match 94 = .ok (.iastore, 1) := by decide +kernel
theorem d_M_match_95 : decode b_M_match 95 = .ok (.aload_n 0, 1) := by decide +kernel
theorem d_M_match_96 : decode b_M_match 96 = .ok (.getfield 53, 3) := by decide +kernel
theorem d_M_match_99 : decode b_M_match 99 = .ok (.aload_n 0, 1) := by decide +kernel
theorem d_M_match_100 : decode b_M_match 100 = .ok (.getfield 92, 3) := by decide +kernel
theorem d_M_match_103 : decode b_M_match 103 = .ok (.aload_n 0, 1) := by decide +kernel
theorem d_M_match_104 : decode b_M_match 104 = .ok (.getfield 62, 3) := by decide +kernel
theorem d_M_match_107 : decode b_M_match 107 = .ok (.iload_n 2, 1) := by decide +kernel
theorem d_M_match_108 : decode b_M_match 108 = .ok (.iaload, 1) := by decide +kernel
theorem d_M_match_109 : decode b_M_match 109 = .ok (.iastore, 1) := by decide +kernel
theorem d_M_match_110 : decode b_M_match 110 = .ok (.aload_n 0, 1) := by decide +kernel
theorem d_M_match_111 : decode b_M_match 111 = .ok (.getfield 56, 3) := by decide +kernel
theorem d_M_match_114 : decode b_M_match 114 = .ok (.aload_n 0, 1) := by decide +kernel
theorem d_M_match_115 : decode b_M_match 115 = .ok (.getfield 92, 3) := by decide +kernel
theorem d_M_match_118 : decode b_M_match 118 = .ok (.aload_n 0, 1) := by decide +kernel
theorem d_M_match_119 : decode b_M_match 119 = .ok (.getfield 68, 3) := by decide +kernel
theorem d_M_match_122 : decode b_M_match 122 = .ok (.iload_n 2, 1) := by decide +kernel
theorem d_M_match_123 : decode b_M_match 123 = .ok (.iaload, 1) := by decide +kernel
theorem d_M_match_124 : decode b_M_match 124 = .ok (.iastore, 1) := by decide +kernel
theorem d_M_match_125 : decode b_M_match 125 = .ok (.aload_n 0, 1) := by decide +kernel
theorem d_M_match_126 : decode b_M_match 126 = .ok (.dup, 1) := by decide +kernel
theorem d_M_match_127 : decode b_M_match 127 = .ok (.getfield 92, 3) := by decide +kernel
theorem d_M_match_130 : decode b_M_match 130 = .ok (.iconst 1, 1) := by decide +kernel
theorem d_M_match_131 : decode b_M_match 131 = .ok (.iadd, 1) := by decide +kernel
theorem d_M_match_132 : decode b_M_match 132 = .ok (.putfield 92, 3) := by decide +kernel
theorem d_M_match_135 : decode b_M_match 135 = .ok (.iinc 2 1, 3) := by decide +kernel
theorem d_M_match_138 : decode b_M_match 138 = .ok (.goto (-78), 3) := by decide +kernel
theorem d_M_match_141 : decode b_M_match 141 = .ok (.aload_n 0, 1) := by decide +kernel
theorem d_M_match_142 : decode b_M_match 142 = .ok (.invokevirtual 150, 3) := by decide +kernel
theorem d_M_match_145 : decode b_M_match 145 = .ok (.ireturn, 1) := by decide +kernel
theorem d_M_layOut_0 : decode b_M_layOut 0 = .ok (.aload_n 0, 1) := by decide +kernel
theorem d_M_layOut_1 : decode b_M_layOut 1 = .ok (.iconst 0, 1) := by decide +kernel
theorem d_M_layOut_2 : decode b_M_layOut 2 = .ok (.putfield 115, 3) := by decide +kernel
theorem d_M_layOut_5 : decode b_M_layOut 5 = .ok (.iconst 0, 1) := by decide +kernel
theorem d_M_layOut_6 : decode b_M_layOut 6 = .ok (.istore_n 1, 1) := by decide +kernel
theorem d_M_layOut_7 : decode b_M_layOut 7 = .ok (.iload_n 1, 1) := by decide +kernel
theorem d_M_layOut_8 : decode b_M_layOut 8 = .ok (.aload_n 0, 1) := by decide +kernel
theorem d_M_layOut_9 : decode b_M_layOut 9 = .ok (.getfield 85, 3) := by decide +kernel
theorem d_M_layOut_12 : decode b_M_layOut 12 = .ok (.if_icmp .ge 82, 3) := by decide +kernel
theorem d_M_layOut_15 : decode b_M_layOut 15 = .ok (.aload_n 0, 1) := by decide +kernel
theorem d_M_layOut_16 : decode b_M_layOut 16 = .ok (.iload_n 1, 1) := by decide +kernel
theorem d_M_layOut_17 : decode b_M_layOut 17 = .ok (.invokevirtual 118, 3) := by decide +kernel
theorem d_M_layOut_20 : decode b_M_layOut 20 = .ok (.istore_n 2, 1) := by decide +kernel
theorem d_M_layOut_21 : decode b_M_layOut 21 = .ok (.iconst 0, 1) := by decide +kernel
theorem d_M_layOut_22 : decode b_M_layOut 22 = .ok (.istore_n 3, 1) := by decide +kernel
theorem d_M_layOut_23 : decode b_M_layOut 23 = .ok (.iload_n 3, 1) := by decide +kernel
theorem d_M_layOut_24 : decode b_M_layOut 24 = .ok (.aload_n 0, 1) := by decide +kernel
theorem d_M_layOut_25 : decode b_M_layOut 25 = .ok (.getfield 78, 3) := by decide +kernel
theorem d_M_layOut_28 : decode b_M_layOut 28 = .ok (.if_icmp .ge 60, 3) := by decide +kernel
theorem d_M_layOut_31 : decode b_M_layOut 31 = .ok (.aload_n 0, 1) := by decide +kernel
theorem d_M_layOut_32 : decode b_M_layOut 32 = .ok (.iload_n 3, 1) := by decide +kernel
theorem d_M_layOut_33 : decode b_M_layOut 33 = .ok (.invokevirtual 121, 3) := by decide +kernel
theorem d_M_layOut_36 : decode b_M_layOut 36 = .ok (.istore 4, 2) := by decide +kernel
theorem d_M_layOut_38 : decode b_M_layOut 38 = .ok (.aload_n 0, 1) := by decide +kernel
theorem d_M_layOut_39 : decode b_M_layOut 39 = .ok (.iload 4, 2) := by decide +kernel
theorem d_M_layOut_41 : decode b_M_layOut 41 = .ok (.iload_n 2, 1) := by decide +kernel
theorem d_M_layOut_42 : decode b_M_layOut 42 = .ok (.invokevirtual 105, 3) := by decide +kernel
theorem d_M_layOut_45 : decode b_M_layOut 45 = .ok (.ifCond .ne 6, 3) := by decide +kernel
theorem d_M_layOut_48 : decode b_M_layOut 48 = .ok (.goto 34, 3) := by decide +kernel
theorem d_M_layOut_51 : decode b_M_layOut 51 = .ok (.aload_n 0, 1) := by decide +kernel
theorem d_M_layOut_52 : decode b_M_layOut 52 = .ok (.getfield 59, 3) := by decide +kernel
theorem d_M_layOut_55 : decode b_M_layOut 55 = .ok (.aload_n 0, 1) := by decide +kernel
theorem d_M_layOut_56 : decode b_M_layOut 56 = .ok (.getfield 115, 3) := by decide +kernel
theorem d_M_layOut_59 : decode b_M_layOut 59 = .ok (.iload 4, 2) := by decide +kernel
theorem d_M_layOut_61 : decode b_M_layOut 61 = .ok (.iastore, 1) := by decide +kernel
theorem d_M_layOut_62 : decode b_M_layOut 62 = .ok (.aload_n 0, 1) := by decide +kernel
theorem d_M_layOut_63 : decode b_M_layOut 63 = .ok (.getfield 62, 3) := by decide +kernel
theorem d_M_layOut_66 : decode b_M_layOut 66 = .ok (.aload_n 0, 1) := by decide +kernel
theorem d_M_layOut_67 : decode b_M_layOut 67 = .ok (.getfield 115, 3) := by decide +kernel
theorem d_M_layOut_70 : decode b_M_layOut 70 = .ok (.iload_n 2, 1) := by decide +kernel
theorem d_M_layOut_71 : decode b_M_layOut 71 = .ok (.iastore, 1) := by decide +kernel
theorem d_M_layOut_72 : decode b_M_layOut 72 = .ok (.aload_n 0, 1) := by decide +kernel
theorem d_M_layOut_73 : decode b_M_layOut 73 = .ok (.dup, 1) := by decide +kernel
theorem d_M_layOut_74 : decode b_M_layOut 74 = .ok (.getfield 115, 3) := by decide +kernel
theorem d_M_layOut_77 : decode b_M_layOut 77 = .ok (.iconst 1, 1) := by decide +kernel
theorem d_M_layOut_78 : decode b_M_layOut 78 = .ok (.iadd, 1) := by decide +kernel
theorem d_M_layOut_79 : decode b_M_layOut 79 = .ok (.putfield 115, 3) := by decide +kernel
theorem d_M_layOut_82 : decode b_M_layOut 82 = .ok (.iinc 3 1, 3) := by decide +kernel
theorem d_M_layOut_85 : decode b_M_layOut 85 = .ok (.goto (-62), 3) := by decide +kernel
theorem d_M_layOut_88 : decode b_M_layOut 88 = .ok (.iinc 1 1, 3) := by decide +kernel
theorem d_M_layOut_91 : decode b_M_layOut 91 = .ok (.goto (-84), 3) := by decide +kernel
theorem d_M_layOut_94 : decode b_M_layOut 94 = .ok (.return_, 1) := by decide +kernel
theorem d_M_orderAt_0 : decode b_M_orderAt 0 = .ok (.iconst 0, 1) := by decide +kernel
theorem d_M_orderAt_1 : decode b_M_orderAt 1 = .ok (.istore_n 2, 1) := by decide +kernel
theorem d_M_orderAt_2 : decode b_M_orderAt 2 = .ok (.iload_n 2, 1) := by decide +kernel
theorem d_M_orderAt_3 : decode b_M_orderAt 3 = .ok (.aload_n 0, 1) := by decide +kernel
theorem d_M_orderAt_4 : decode b_M_orderAt 4 = .ok (.getfield 85, 3) := by decide +kernel
theorem d_M_orderAt_7 : decode b_M_orderAt 7 = .ok (.if_icmp .ge 54, 3) := by decide +kernel
theorem d_M_orderAt_10 : decode b_M_orderAt 10 = .ok (.iconst 0, 1) := by decide +kernel
theorem d_M_orderAt_11 : decode b_M_orderAt 11 = .ok (.istore_n 3, 1) := by decide +kernel
theorem d_M_orderAt_12 : decode b_M_orderAt 12 = .ok (.iconst 0, 1) := by decide +kernel
theorem d_M_orderAt_13 : decode b_M_orderAt 13 = .ok (.istore 4, 2) := by decide +kernel
theorem d_M_orderAt_15 : decode b_M_orderAt 15 = .ok (.iload 4, 2) := by decide +kernel
theorem d_M_orderAt_17 : decode b_M_orderAt 17 = .ok (.aload_n 0, 1) := by decide +kernel
theorem d_M_orderAt_18 : decode b_M_orderAt 18 = .ok (.getfield 85, 3) := by decide +kernel
theorem d_M_orderAt_21 : decode b_M_orderAt 21 = .ok (.if_icmp .ge 27, 3) := by decide +kernel
theorem d_M_orderAt_24 : decode b_M_orderAt 24 = .ok (.iload_n 3, 1) := by decide +kernel
theorem d_M_orderAt_25 : decode b_M_orderAt 25 = .ok (.aload_n 0, 1) := by decide +kernel
theorem d_M_orderAt_26 : decode b_M_orderAt 26 = .ok (.iload 4, 2) := by decide +kernel
theorem d_M_orderAt_28 : decode b_M_orderAt 28 = .ok (.iload_n 2, 1) := by decide +kernel
theorem d_M_orderAt_29 : decode b_M_orderAt 29 = .ok (.invokevirtual 109, 3) := by decide +kernel
theorem d_M_orderAt_32 : decode b_M_orderAt 32 = .ok (.ifCond .eq 7, 3) := by decide +kernel
theorem d_M_orderAt_35 : decode b_M_orderAt 35 = .ok (.iconst 1, 1) := by decide +kernel
theorem d_M_orderAt_36 : decode b_M_orderAt 36 = .ok (.goto 4, 3) := by decide +kernel
theorem d_M_orderAt_39 : decode b_M_orderAt 39 = .ok (.iconst 0, 1) := by decide +kernel
theorem d_M_orderAt_40 : decode b_M_orderAt 40 = .ok (.iadd, 1) := by decide +kernel
theorem d_M_orderAt_41 : decode b_M_orderAt 41 = .ok (.istore_n 3, 1) := by decide +kernel
theorem d_M_orderAt_42 : decode b_M_orderAt 42 = .ok (.iinc 4 1, 3) := by decide +kernel
theorem d_M_orderAt_45 : decode b_M_orderAt 45 = .ok (.goto (-30), 3) := by decide +kernel
theorem d_M_orderAt_48 : decode b_M_orderAt 48 = .ok (.iload_n 3, 1) := by decide +kernel
theorem d_M_orderAt_49 : decode b_M_orderAt 49 = .ok (.iload_n 1, 1) := by decide +kernel
theorem d_M_orderAt_50 : decode b_M_orderAt 50 = .ok (.if_icmp .ne 5, 3) := by decide +kernel
theorem d_M_orderAt_53 : decode b_M_orderAt 53 = .ok (.iload_n 2, 1) := by decide +kernel
theorem d_M_orderAt_54 : decode b_M_orderAt 54 = .ok (.ireturn, 1) := by decide +kernel
theorem d_M_orderAt_55 : decode b_M_orderAt 55 = .ok (.iinc 2 1, 3) := by decide +kernel
theorem d_M_orderAt_58 : decode b_M_orderAt 58 = .ok (.goto (-56), 3) := by decide +kernel
theorem d_M_orderAt_61 : decode b_M_orderAt 61 = .ok (.iconst (-1), 1) := by decide +kernel
theorem d_M_orderAt_62 : decode b_M_orderAt 62 = .ok (.ireturn, 1) := by decide +kernel
theorem d_M_isOrderBefore_0 : decode b_M_isOrderBefore 0 = .ok (.aload_n 0, 1) := by decide +kernel
theorem d_M_isOrderBefore_1 : decode b_M_isOrderBefore 1 = .ok (.getfield 31, 3) := by decide +kernel
theorem d_M_isOrderBefore_4 : decode b_M_isOrderBefore 4 = .ok (.iload_n 1, 1) := by decide +kernel
theorem d_M_isOrderBefore_5 : decode b_M_isOrderBefore 5 = .ok (.iaload, 1) := by decide +kernel
theorem d_M_isOrderBefore_6 : decode b_M_isOrderBefore 6 = .ok (.aload_n 0, 1) := by decide +kernel
theorem d_M_isOrderBefore_7 : decode b_M_isOrderBefore 7 = .ok (.getfield 31, 3) := by decide +kernel
theorem d_M_isOrderBefore_10 : decode b_M_isOrderBefore 10 = .ok (.iload_n 2, 1) := by decide +kernel
theorem d_M_isOrderBefore_11 : decode b_M_isOrderBefore 11 = .ok (.iaload, 1) := by decide +kernel
theorem d_M_isOrderBefore_12 : decode b_M_isOrderBefore 12 = .ok (.if_icmp .eq 26, 3) := by decide +kernel
theorem d_M_isOrderBefore_15 : decode b_M_isOrderBefore 15 = .ok (.aload_n 0, 1) := by decide +kernel
theorem d_M_isOrderBefore_16 : decode b_M_isOrderBefore 16 = .ok (.getfield 31, 3) := by decide +kernel
theorem d_M_isOrderBefore_19 : decode b_M_isOrderBefore 19 = .ok (.iload_n 1, 1) := by decide +kernel
theorem d_M_isOrderBefore_20 : decode b_M_isOrderBefore 20 = .ok (.iaload, 1) := by decide +kernel
theorem d_M_isOrderBefore_21 : decode b_M_isOrderBefore 21 = .ok (.aload_n 0, 1) := by decide +kernel
theorem d_M_isOrderBefore_22 : decode b_M_isOrderBefore 22 = .ok (.getfield 31, 3) := by decide +kernel
theorem d_M_isOrderBefore_25 : decode b_M_isOrderBefore 25 = .ok (.iload_n 2, 1) := by decide +kernel
theorem d_M_isOrderBefore_26 : decode b_M_isOrderBefore 26 = .ok (.iaload, 1) := by decide +kernel
theorem d_M_isOrderBefore_27 : decode b_M_isOrderBefore 27 = .ok (.if_icmp .ge 7, 3) := by decide +kernel
theorem d_M_isOrderBefore_30 : decode b_M_isOrderBefore 30 = .ok (.iconst 1, 1) := by decide +kernel
theorem d_M_isOrderBefore_31 : decode b_M_isOrderBefore 31 = .ok (.goto 17, 3) := by decide +kernel
theorem d_M_isOrderBefore_34 : decode b_M_isOrderBefore 34 = .ok (.iconst 0, 1) := by decide +kernel
theorem d_M_isOrderBefore_35 : decode b_M_isOrderBefore 35 = .ok (.goto 13, 3) := by decide +kernel
theorem d_M_isOrderBefore_38 : decode b_M_isOrderBefore 38 = .ok (.iload_n 1, 1) := by decide +kernel
theorem d_M_isOrderBefore_39 : decode b_M_isOrderBefore 39 = .ok (.iload_n 2, 1) := by decide +kernel
theorem d_M_isOrderBefore_40 : decode b_M_isOrderBefore 40 = .ok (.if_icmp .ge 7, 3) := by decide +kernel
theorem d_M_isOrderBefore_43 : decode b_M_isOrderBefore 43 = .ok (.iconst 1, 1) := by decide +kernel
theorem d_M_isOrderBefore_44 : decode b_M_isOrderBefore 44 = .ok (.goto 4, 3) := by decide +kernel
theorem d_M_isOrderBefore_47 : decode b_M_isOrderBefore 47 = .ok (.iconst 0, 1) := by decide +kernel
theorem d_M_isOrderBefore_48 : decode b_M_isOrderBefore 48 = .ok (.ireturn, 1) := by decide +kernel
theorem d_M_arrivalAt_0 : decode b_M_arrivalAt 0 = .ok (.iconst 0, 1) := by decide +kernel
theorem d_M_arrivalAt_1 : decode b_M_arrivalAt 1 = .ok (.istore_n 2, 1) := by decide +kernel
theorem d_M_arrivalAt_2 : decode b_M_arrivalAt 2 = .ok (.iload_n 2, 1) := by decide +kernel
theorem d_M_arrivalAt_3 : decode b_M_arrivalAt 3 = .ok (.aload_n 0, 1) := by decide +kernel
theorem d_M_arrivalAt_4 : decode b_M_arrivalAt 4 = .ok (.getfield 78, 3) := by decide +kernel
theorem d_M_arrivalAt_7 : decode b_M_arrivalAt 7 = .ok (.if_icmp .ge 54, 3) := by decide +kernel
theorem d_M_arrivalAt_10 : decode b_M_arrivalAt 10 = .ok (.iconst 0, 1) := by decide +kernel
theorem d_M_arrivalAt_11 : decode b_M_arrivalAt 11 = .ok (.istore_n 3, 1) := by decide +kernel
theorem d_M_arrivalAt_12 : decode b_M_arrivalAt 12 = .ok (.iconst 0, 1) := by decide +kernel
theorem d_M_arrivalAt_13 : decode b_M_arrivalAt 13 = .ok (.istore 4, 2) := by decide +kernel
theorem d_M_arrivalAt_15 : decode b_M_arrivalAt 15 = .ok (.iload 4, 2) := by decide +kernel
theorem d_M_arrivalAt_17 : decode b_M_arrivalAt 17 = .ok (.aload_n 0, 1) := by decide +kernel
theorem d_M_arrivalAt_18 : decode b_M_arrivalAt 18 = .ok (.getfield 78, 3) := by decide +kernel
theorem d_M_arrivalAt_21 : decode b_M_arrivalAt 21 = .ok (.if_icmp .ge 27, 3) := by decide +kernel
theorem d_M_arrivalAt_24 : decode b_M_arrivalAt 24 = .ok (.iload_n 3, 1) := by decide +kernel
theorem d_M_arrivalAt_25 : decode b_M_arrivalAt 25 = .ok (.aload_n 0, 1) := by decide +kernel
theorem d_M_arrivalAt_26 : decode b_M_arrivalAt 26 = .ok (.iload 4, 2) := by decide +kernel
theorem d_M_arrivalAt_28 : decode b_M_arrivalAt 28 = .ok (.iload_n 2, 1) := by decide +kernel
theorem d_M_arrivalAt_29 : decode b_M_arrivalAt 29 = .ok (.invokevirtual 112, 3) := by decide +kernel
theorem d_M_arrivalAt_32 : decode b_M_arrivalAt 32 = .ok (.ifCond .eq 7, 3) := by decide +kernel
theorem d_M_arrivalAt_35 : decode b_M_arrivalAt 35 = .ok (.iconst 1, 1) := by decide +kernel
theorem d_M_arrivalAt_36 : decode b_M_arrivalAt 36 = .ok (.goto 4, 3) := by decide +kernel
theorem d_M_arrivalAt_39 : decode b_M_arrivalAt 39 = .ok (.iconst 0, 1) := by decide +kernel
theorem d_M_arrivalAt_40 : decode b_M_arrivalAt 40 = .ok (.iadd, 1) := by decide +kernel
theorem d_M_arrivalAt_41 : decode b_M_arrivalAt 41 = .ok (.istore_n 3, 1) := by decide +kernel
theorem d_M_arrivalAt_42 : decode b_M_arrivalAt 42 = .ok (.iinc 4 1, 3) := by decide +kernel
theorem d_M_arrivalAt_45 : decode b_M_arrivalAt 45 = .ok (.goto (-30), 3) := by decide +kernel
theorem d_M_arrivalAt_48 : decode b_M_arrivalAt 48 = .ok (.iload_n 3, 1) := by decide +kernel
theorem d_M_arrivalAt_49 : decode b_M_arrivalAt 49 = .ok (.iload_n 1, 1) := by decide +kernel
theorem d_M_arrivalAt_50 : decode b_M_arrivalAt 50 = .ok (.if_icmp .ne 5, 3) := by decide +kernel
theorem d_M_arrivalAt_53 : decode b_M_arrivalAt 53 = .ok (.iload_n 2, 1) := by decide +kernel
theorem d_M_arrivalAt_54 : decode b_M_arrivalAt 54 = .ok (.ireturn, 1) := by decide +kernel
theorem d_M_arrivalAt_55 : decode b_M_arrivalAt 55 = .ok (.iinc 2 1, 3) := by decide +kernel
theorem d_M_arrivalAt_58 : decode b_M_arrivalAt 58 = .ok (.goto (-56), 3) := by decide +kernel
theorem d_M_arrivalAt_61 : decode b_M_arrivalAt 61 = .ok (.iconst (-1), 1) := by decide +kernel
theorem d_M_arrivalAt_62 : decode b_M_arrivalAt 62 = .ok (.ireturn, 1) := by decide +kernel
theorem d_M_isArrivalBefore_0 : decode b_M_isArrivalBefore 0 = .ok (.aload_n 0, 1) := by decide +kernel
theorem d_M_isArrivalBefore_1 : decode b_M_isArrivalBefore 1 = .ok (.getfield 16, 3) := by decide +kernel
theorem d_M_isArrivalBefore_4 : decode b_M_isArrivalBefore 4 = .ok (.iload_n 1, 1) := by decide +kernel
theorem d_M_isArrivalBefore_5 : decode b_M_isArrivalBefore 5 = .ok (.iaload, 1) := by decide +kernel
theorem d_M_isArrivalBefore_6 : decode b_M_isArrivalBefore 6 = .ok (.aload_n 0, 1) := by decide +kernel
theorem d_M_isArrivalBefore_7 : decode b_M_isArrivalBefore 7 = .ok (.getfield 16, 3) := by decide +kernel
theorem d_M_isArrivalBefore_10 : decode b_M_isArrivalBefore 10 = .ok (.iload_n 2, 1) := by decide +kernel
theorem d_M_isArrivalBefore_11 : decode b_M_isArrivalBefore 11 = .ok (.iaload, 1) := by decide +kernel
theorem d_M_isArrivalBefore_12 : decode b_M_isArrivalBefore 12 = .ok (.if_icmp .eq 26, 3) := by decide +kernel
theorem d_M_isArrivalBefore_15 : decode b_M_isArrivalBefore 15 = .ok (.aload_n 0, 1) := by decide +kernel
theorem d_M_isArrivalBefore_16 : decode b_M_isArrivalBefore 16 = .ok (.getfield 16, 3) := by decide +kernel
theorem d_M_isArrivalBefore_19 : decode b_M_isArrivalBefore 19 = .ok (.iload_n 1, 1) := by decide +kernel
theorem d_M_isArrivalBefore_20 : decode b_M_isArrivalBefore 20 = .ok (.iaload, 1) := by decide +kernel
theorem d_M_isArrivalBefore_21 : decode b_M_isArrivalBefore 21 = .ok (.aload_n 0, 1) := by decide +kernel
theorem d_M_isArrivalBefore_22 : decode b_M_isArrivalBefore 22 = .ok (.getfield 16, 3) := by decide +kernel
theorem d_M_isArrivalBefore_25 : decode b_M_isArrivalBefore 25 = .ok (.iload_n 2, 1) := by decide +kernel
theorem d_M_isArrivalBefore_26 : decode b_M_isArrivalBefore 26 = .ok (.iaload, 1) := by decide +kernel
theorem d_M_isArrivalBefore_27 : decode b_M_isArrivalBefore 27 = .ok (.if_icmp .ge 7, 3) := by decide +kernel
theorem d_M_isArrivalBefore_30 : decode b_M_isArrivalBefore 30 = .ok (.iconst 1, 1) := by decide +kernel
theorem d_M_isArrivalBefore_31 : decode b_M_isArrivalBefore 31 = .ok (.goto 17, 3) := by decide +kernel
theorem d_M_isArrivalBefore_34 : decode b_M_isArrivalBefore 34 = .ok (.iconst 0, 1) := by decide +kernel
theorem d_M_isArrivalBefore_35 : decode b_M_isArrivalBefore 35 = .ok (.goto 13, 3) := by decide +kernel
theorem d_M_isArrivalBefore_38 : decode b_M_isArrivalBefore 38 = .ok (.iload_n 1, 1) := by decide +kernel
theorem d_M_isArrivalBefore_39 : decode b_M_isArrivalBefore 39 = .ok (.iload_n 2, 1) := by decide +kernel
theorem d_M_isArrivalBefore_40 : decode b_M_isArrivalBefore 40 = .ok (.if_icmp .ge 7, 3) := by decide +kernel
theorem d_M_isArrivalBefore_43 : decode b_M_isArrivalBefore 43 = .ok (.iconst 1, 1) := by decide +kernel
theorem d_M_isArrivalBefore_44 : decode b_M_isArrivalBefore 44 = .ok (.goto 4, 3) := by decide +kernel
theorem d_M_isArrivalBefore_47 : decode b_M_isArrivalBefore 47 = .ok (.iconst 0, 1) := by decide +kernel
theorem d_M_isArrivalBefore_48 : decode b_M_isArrivalBefore 48 = .ok (.ireturn, 1) := by decide +kernel
theorem d_M_lookAtAll_0 : decode b_M_lookAtAll 0 = .ok (.iconst (-1), 1) := by decide +kernel
theorem d_M_lookAtAll_1 : decode b_M_lookAtAll 1 = .ok (.istore_n 2, 1) := by decide +kernel
theorem d_M_lookAtAll_2 : decode b_M_lookAtAll 2 = .ok (.aload_n 0, 1) := by decide +kernel
theorem d_M_lookAtAll_3 : decode b_M_lookAtAll 3 = .ok (.iconst 0, 1) := by decide +kernel
theorem d_M_lookAtAll_4 : decode b_M_lookAtAll 4 = .ok (.putfield 127, 3) := by decide +kernel
theorem d_M_lookAtAll_7 : decode b_M_lookAtAll 7 = .ok (.iconst 0, 1) := by decide +kernel
theorem d_M_lookAtAll_8 : decode b_M_lookAtAll 8 = .ok (.istore_n 3, 1) := by decide +kernel
theorem d_M_lookAtAll_9 : decode b_M_lookAtAll 9 = .ok (.aload_n 0, 1) := by decide +kernel
theorem d_M_lookAtAll_10 : decode b_M_lookAtAll 10 = .ok (.getfield 115, 3) := by decide +kernel
theorem d_M_lookAtAll_13 : decode b_M_lookAtAll 13 = .ok (.ifCond .le 16, 3) := by decide +kernel
theorem d_M_lookAtAll_16 : decode b_M_lookAtAll 16 = .ok (.aload_n 0, 1) := by decide +kernel
theorem d_M_lookAtAll_17 : decode b_M_lookAtAll 17 = .ok (.getfield 65, 3) := by decide +kernel
theorem d_M_lookAtAll_20 : decode b_M_lookAtAll 20 = .ok (.iconst 0, 1) := by decide +kernel
theorem d_M_lookAtAll_21 : decode b_M_lookAtAll 21 = .ok (.aload_n 0, 1) := by decide +kernel
theorem d_M_lookAtAll_22 : decode b_M_lookAtAll 22 = .ok (.iconst 0, 1) := by decide +kernel
theorem d_M_lookAtAll_23 : decode b_M_lookAtAll 23 = .ok (.invokevirtual 130, 3) := by decide +kernel
theorem d_M_lookAtAll_26 : decode b_M_lookAtAll 26 = .ok (.iconst 1, 1) := by decide +kernel
theorem d_M_lookAtAll_27 : decode b_M_lookAtAll 27 = .ok (.iadd, 1) := by decide +kernel
theorem d_M_lookAtAll_28 : decode b_M_lookAtAll 28 = .ok (.iastore, 1) := by decide +kernel
theorem d_M_lookAtAll_29 : decode b_M_lookAtAll 29 = .ok (.iload_n 3, 1) := by decide +kernel
theorem d_M_lookAtAll_30 : decode b_M_lookAtAll 30 = .ok (.ifCond .lt 136, 3) := by decide +kernel
theorem d_M_lookAtAll_33 : decode b_M_lookAtAll 33 = .ok (.iload_n 3, 1) := by decide +kernel
theorem d_M_lookAtAll_34 : decode b_M_lookAtAll 34 = .ok (.aload_n 0, 1) := by decide +kernel
theorem d_M_lookAtAll_35 : decode b_M_lookAtAll 35 = .ok (.getfield 115, 3) := by decide +kernel
theorem d_M_lookAtAll_38 : decode b_M_lookAtAll 38 = .ok (.if_icmp .ne 56, 3) := by decide +kernel
theorem d_M_lookAtAll_41 : decode b_M_lookAtAll 41 = .ok (.aload_n 0, 1) := by decide +kernel
theorem d_M_lookAtAll_42 : decode b_M_lookAtAll 42 = .ok (.invokevirtual 133, 3) := by decide +kernel
theorem d_M_lookAtAll_45 : decode b_M_lookAtAll 45 = .ok (.istore 4, 2) := by decide +kernel
theorem d_M_lookAtAll_47 : decode b_M_lookAtAll 47 = .ok (.iload 4, 2) := by decide +kernel
theorem d_M_lookAtAll_49 : decode b_M_lookAtAll 49 = .ok (.iload_n 2, 1) := by decide +kernel
theorem d_M_lookAtAll_50 : decode b_M_lookAtAll 50 = .ok (.if_icmp .le 38, 3) := by decide +kernel
theorem d_M_lookAtAll_53 : decode b_M_lookAtAll 53 = .ok (.iload 4, 2) := by decide +kernel
theorem d_M_lookAtAll_55 : decode b_M_lookAtAll 55 = .ok (.istore_n 2, 1) := by decide +kernel
theorem d_M_lookAtAll_56 : decode b_M_lookAtAll 56 = .ok (.iconst 0, 1) := by decide +kernel
theorem d_M_lookAtAll_57 : decode b_M_lookAtAll 57 = .ok (.istore 5, 2) := by decide +kernel
theorem d_M_lookAtAll_59 : decode b_M_lookAtAll 59 = .ok (.iload 5, 2) := by decide +kernel
theorem d_M_lookAtAll_61 : decode b_M_lookAtAll 61 = .ok (.aload_n 0, 1) := by decide +kernel
theorem d_M_lookAtAll_62 : decode b_M_lookAtAll 62 = .ok (.getfield 115, 3) := by decide +kernel
theorem d_M_lookAtAll_65 : decode b_M_lookAtAll 65 = .ok (.if_icmp .ge 23, 3) := by decide +kernel
theorem d_M_lookAtAll_68 : decode b_M_lookAtAll 68 = .ok (.aload_n 0, 1) := by decide +kernel
theorem d_M_lookAtAll_69 : decode b_M_lookAtAll 69 = .ok (.getfield 68, 3) := by decide +kernel
theorem d_M_lookAtAll_72 : decode b_M_lookAtAll 72 = .ok (.iload 5, 2) := by decide +kernel
theorem d_M_lookAtAll_74 : decode b_M_lookAtAll 74 = .ok (.aload_n 0, 1) := by decide +kernel
theorem d_M_lookAtAll_75 : decode b_M_lookAtAll 75 = .ok (.getfield 65, 3) := by decide +kernel
theorem d_M_lookAtAll_78 : decode b_M_lookAtAll 78 = .ok (.iload 5, 2) := by decide +kernel
theorem d_M_lookAtAll_80 : decode b_M_lookAtAll 80 = .ok (.iaload, 1) := by decide +kernel
theorem d_M_lookAtAll_81 : decode b_M_lookAtAll 81 = .ok (.iastore, 1) := by decide +kernel
theorem d_M_lookAtAll_82 : decode b_M_lookAtAll 82 = .ok (.iinc 5 1, 3) := by decide +kernel
theorem d_M_lookAtAll_85 : decode b_M_lookAtAll 85 = .ok (.goto (-26), 3) := by decide +kernel
theorem d_M_lookAtAll_88 : decode b_M_lookAtAll 88 = .ok (.iinc 3 (-1), 3) := by decide +kernel
theorem d_M_lookAtAll_91 : decode b_M_lookAtAll 91 = .ok (.goto (-62), 3) := by decide +kernel
theorem d_M_lookAtAll_94 : decode b_M_lookAtAll 94 = .ok (.aload_n 0, 1) := by decide +kernel
theorem d_M_lookAtAll_95 : decode b_M_lookAtAll 95 = .ok (.getfield 65, 3) := by decide +kernel
theorem d_M_lookAtAll_98 : decode b_M_lookAtAll 98 = .ok (.iload_n 3, 1) := by decide +kernel
theorem d_M_lookAtAll_99 : decode b_M_lookAtAll 99 = .ok (.iaload, 1) := by decide +kernel
theorem d_M_lookAtAll_100 : decode b_M_lookAtAll 100 = .ok (.ifCond .ne 9, 3) := by decide +kernel
theorem d_M_lookAtAll_103 : decode b_M_lookAtAll 103 = .ok (.iinc 3 (-1), 3) := by decide +kernel
theorem d_M_lookAtAll_106 : decode b_M_lookAtAll 106 = .ok (.goto (-77), 3) := by decide +kernel
theorem d_M_lookAtAll_109 : decode b_M_lookAtAll 109 = .ok (.aload_n 0, 1) := by decide +kernel
theorem d_M_lookAtAll_110 : decode b_M_lookAtAll 110 = .ok (.getfield 127, 3) := by decide +kernel
theorem d_M_lookAtAll_113 : decode b_M_lookAtAll 113 = .ok (.iload_n 1, 1) := by decide +kernel
theorem d_M_lookAtAll_114 : decode b_M_lookAtAll 114 = .ok (.if_icmp .ne 5, 3) := by decide +kernel
theorem d_M_lookAtAll_117 : decode b_M_lookAtAll 117 = .ok (.iconst 0, 1) := by decide +kernel
theorem d_M_lookAtAll_118 : decode b_M_lookAtAll 118 = .ok (.ireturn, 1) := by decide +kernel
theorem d_M_lookAtAll_119 : decode b_M_lookAtAll 119 = .ok (.aload_n 0, 1) := by decide +kernel
theorem d_M_lookAtAll_120 : decode b_M_lookAtAll 120 = .ok (.dup, 1) := by decide +kernel
theorem d_M_lookAtAll_121 : decode b_M_lookAtAll 121 = .ok (.getfield 127, 3) := by decide +kernel
theorem d_M_lookAtAll_124 : decode b_M_lookAtAll 124 = .ok (.iconst 1, 1) := by decide +kernel
theorem d_M_lookAtAll_125 : decode b_M_lookAtAll 125 = .ok (.iadd, 1) := by decide +kernel
theorem d_M_lookAtAll_126 : decode b_M_lookAtAll 126 = .ok (.putfield 127, 3) := by decide +kernel
theorem d_M_lookAtAll_129 : decode b_M_lookAtAll 129 = .ok (.aload_n 0, 1) := by decide +kernel
theorem d_M_lookAtAll_130 : decode b_M_lookAtAll 130 = .ok (.getfield 65, 3) := by decide +kernel
theorem d_M_lookAtAll_133 : decode b_M_lookAtAll 133 = .ok (.iload_n 3, 1) := by decide +kernel
theorem d_M_lookAtAll_134 : decode b_M_lookAtAll 134 = .ok (.dup2, 1) := by decide +kernel
theorem d_M_lookAtAll_135 : decode b_M_lookAtAll 135 = .ok (.iaload, 1) := by decide +kernel
theorem d_M_lookAtAll_136 : decode b_M_lookAtAll 136 = .ok (.iconst 1, 1) := by decide +kernel
theorem d_M_lookAtAll_137 : decode b_M_lookAtAll 137 = .ok (.isub, 1) := by decide +kernel
theorem d_M_lookAtAll_138 : decode b_M_lookAtAll 138 = .ok (.iastore, 1) := by decide +kernel
theorem d_M_lookAtAll_139 : decode b_M_lookAtAll 139 = .ok (.iinc 3 1, 3) := by decide +kernel
theorem d_M_lookAtAll_142 : decode b_M_lookAtAll 142 = .ok (.iload_n 3, 1) := by decide +kernel
theorem d_M_lookAtAll_143 : decode b_M_lookAtAll 143 = .ok (.aload_n 0, 1) := by decide +kernel
theorem d_M_lookAtAll_144 : decode b_M_lookAtAll 144 = .ok (.getfield 115, 3) := by decide +kernel
theorem d_M_lookAtAll_147 : decode b_M_lookAtAll 147 = .ok (.if_icmp .ge (-118), 3) := by decide +kernel
theorem d_M_lookAtAll_150 : decode b_M_lookAtAll 150 = .ok (.aload_n 0, 1) := by decide +kernel
theorem d_M_lookAtAll_151 : decode b_M_lookAtAll 151 = .ok (.getfield 65, 3) := by decide +kernel
theorem d_M_lookAtAll_154 : decode b_M_lookAtAll 154 = .ok (.iload_n 3, 1) := by decide +kernel
theorem d_M_lookAtAll_155 : decode b_M_lookAtAll 155 = .ok (.aload_n 0, 1) := by decide +kernel
theorem d_M_lookAtAll_156 : decode b_M_lookAtAll 156 = .ok (.iload_n 3, 1) := by decide +kernel
theorem d_M_lookAtAll_157 : decode b_M_lookAtAll 157 = .ok (.invokevirtual 130, 3) := by decide +kernel
theorem d_M_lookAtAll_160 : decode b_M_lookAtAll 160 = .ok (.iconst 1, 1) := by decide +kernel
theorem d_M_lookAtAll_161 : decode b_M_lookAtAll 161 = .ok (.iadd, 1) := by decide +kernel
theorem d_M_lookAtAll_162 : decode b_M_lookAtAll 162 = .ok (.iastore, 1) := by decide +kernel
theorem d_M_lookAtAll_163 : decode b_M_lookAtAll 163 = .ok (.goto (-134), 3) := by decide +kernel
theorem d_M_lookAtAll_166 : decode b_M_lookAtAll 166 = .ok (.iconst 1, 1) := by decide +kernel
theorem d_M_lookAtAll_167 : decode b_M_lookAtAll 167 = .ok (.ireturn, 1) := by decide +kernel
theorem d_M_greatest_0 : decode b_M_greatest 0 = .ok (.aload_n 0, 1) := by decide +kernel
theorem d_M_greatest_1 : decode b_M_greatest 1 = .ok (.aload_n 0, 1) := by decide +kernel
theorem d_M_greatest_2 : decode b_M_greatest 2 = .ok (.getfield 59, 3) := by decide +kernel
theorem d_M_greatest_5 : decode b_M_greatest 5 = .ok (.iload_n 1, 1) := by decide +kernel
theorem d_M_greatest_6 : decode b_M_greatest 6 = .ok (.iaload, 1) := by decide +kernel
theorem d_M_greatest_7 : decode b_M_greatest 7 = .ok (.invokevirtual 124, 3) := by decide +kernel
theorem d_M_greatest_10 : decode b_M_greatest 10 = .ok (.istore_n 2, 1) := by decide +kernel
theorem d_M_greatest_11 : decode b_M_greatest 11 = .ok (.aload_n 0, 1) := by decide +kernel
theorem d_M_greatest_12 : decode b_M_greatest 12 = .ok (.getfield 28, 3) := by decide +kernel
theorem d_M_greatest_15 : decode b_M_greatest 15 = .ok (.aload_n 0, 1) := by decide +kernel
theorem d_M_greatest_16 : decode b_M_greatest 16 = .ok (.getfield 62, 3) := by decide +kernel
theorem d_M_greatest_19 : decode b_M_greatest 19 = .ok (.iload_n 1, 1) := by decide +kernel
theorem d_M_greatest_20 : decode b_M_greatest 20 = .ok (.iaload, 1) := by decide +kernel
theorem d_M_greatest_21 : decode b_M_greatest 21 = .ok (.iaload, 1) := by decide +kernel
theorem d_M_greatest_22 : decode b_M_greatest 22 = .ok (.istore_n 3, 1) := by decide +kernel
theorem d_M_greatest_23 : decode b_M_greatest 23 = .ok (.iconst 0, 1) := by decide +kernel
theorem d_M_greatest_24 : decode b_M_greatest 24 = .ok (.istore 4, 2) := by decide +kernel
theorem d_M_greatest_26 : decode b_M_greatest 26 = .ok (.iload 4, 2) := by decide +kernel
theorem d_M_greatest_28 : decode b_M_greatest 28 = .ok (.iload_n 1, 1) := by decide +kernel
theorem d_M_greatest_29 : decode b_M_greatest 29 = .ok (.if_icmp .ge 69, 3) := by decide +kernel
theorem d_M_greatest_32 : decode b_M_greatest 32 = .ok (.iload_n 2, 1) := by decide +kernel
theorem d_M_greatest_33 : decode b_M_greatest 33 = .ok (.aload_n 0, 1) := by decide +kernel
theorem d_M_greatest_34 : decode b_M_greatest 34 = .ok (.getfield 59, 3) := by decide +kernel
theorem d_M_greatest_37 : decode b_M_greatest 37 = .ok (.iload 4, 2) := by decide +kernel
theorem d_M_greatest_39 : decode b_M_greatest 39 = .ok (.iaload, 1) := by decide +kernel
theorem d_M_greatest_40 : decode b_M_greatest 40 = .ok (.aload_n 0, 1) := by decide +kernel
theorem d_M_greatest_41 : decode b_M_greatest 41 = .ok (.getfield 59, 3) := by decide +kernel
theorem d_M_greatest_44 : decode b_M_greatest 44 = .ok (.iload_n 1, 1) := by decide +kernel
theorem d_M_greatest_45 : decode b_M_greatest 45 = .ok (.iaload, 1) := by decide +kernel
theorem d_M_greatest_46 : decode b_M_greatest 46 = .ok (.if_icmp .ne 13, 3) := by decide +kernel
theorem d_M_greatest_49 : decode b_M_greatest 49 = .ok (.aload_n 0, 1) := by decide +kernel
theorem d_M_greatest_50 : decode b_M_greatest 50 = .ok (.getfield 65, 3) := by decide +kernel
theorem d_M_greatest_53 : decode b_M_greatest 53 = .ok (.iload 4, 2) := by decide +kernel
theorem d_M_greatest_55 : decode b_M_greatest 55 = .ok (.iaload, 1) := by decide +kernel
theorem d_M_greatest_56 : decode b_M_greatest 56 = .ok (.goto 4, 3) := by decide +kernel
theorem d_M_greatest_59 : decode b_M_greatest 59 = .ok (.iconst 0, 1) := by decide +kernel
theorem d_M_greatest_60 : decode b_M_greatest 60 = .ok (.isub, 1) := by decide +kernel
theorem d_M_greatest_61 : decode b_M_greatest 61 = .ok (.istore_n 2, 1) := by decide +kernel
theorem d_M_greatest_62 : decode b_M_greatest 62 = .ok (.iload_n 3, 1) := by decide +kernel
theorem d_M_greatest_63 : decode b_M_greatest 63 = .ok (.aload_n 0, 1) := by decide +kernel
theorem d_M_greatest_64 : decode b_M_greatest 64 = .ok (.getfield 62, 3) := by decide +kernel
theorem d_M_greatest_67 : decode b_M_greatest 67 = .ok (.iload 4, 2) := by decide +kernel
theorem d_M_greatest_69 : decode b_M_greatest 69 = .ok (.iaload, 1) := by decide +kernel
theorem d_M_greatest_70 : decode b_M_greatest 70 = .ok (.aload_n 0, 1) := by decide +kernel
theorem d_M_greatest_71 : decode b_M_greatest 71 = .ok (.getfield 62, 3) := by decide +kernel
theorem d_M_greatest_74 : decode b_M_greatest 74 = .ok (.iload_n 1, 1) := by decide +kernel
theorem d_M_greatest_75 : decode b_M_greatest 75 = .ok (.iaload, 1) := by decide +kernel
theorem d_M_greatest_76 : decode b_M_greatest 76 = .ok (.if_icmp .ne 13, 3) := by decide +kernel
theorem d_M_greatest_79 : decode b_M_greatest 79 = .ok (.aload_n 0, 1) := by decide +kernel
theorem d_M_greatest_80 : decode b_M_greatest 80 = .ok (.getfield 65, 3) := by decide +kernel
theorem d_M_greatest_83 : decode b_M_greatest 83 = .ok (.iload 4, 2) := by decide +kernel
theorem d_M_greatest_85 : decode b_M_greatest 85 = .ok (.iaload, 1) := by decide +kernel
theorem d_M_greatest_86 : decode b_M_greatest 86 = .ok (.goto 4, 3) := by decide +kernel
theorem d_M_greatest_89 : decode b_M_greatest 89 = .ok (.iconst 0, 1) := by decide +kernel
theorem d_M_greatest_90 : decode b_M_greatest 90 = .ok (.isub, 1) := by decide +kernel
theorem d_M_greatest_91 : decode b_M_greatest 91 = .ok (.istore_n 3, 1) := by decide +kernel
theorem d_M_greatest_92 : decode b_M_greatest 92 = .ok (.iinc 4 1, 3) := by decide +kernel
theorem d_M_greatest_95 : decode b_M_greatest 95 = .ok (.goto (-69), 3) := by decide +kernel
theorem d_M_greatest_98 : decode b_M_greatest 98 = .ok (.iload_n 2, 1) := by decide +kernel
theorem d_M_greatest_99 : decode b_M_greatest 99 = .ok (.iload_n 3, 1) := by decide +kernel
theorem d_M_greatest_100 : decode b_M_greatest 100 = .ok (.if_icmp .ge 7, 3) := by decide +kernel
theorem d_M_greatest_103 : decode b_M_greatest 103 = .ok (.iload_n 2, 1) := by decide +kernel
theorem d_M_greatest_104 : decode b_M_greatest 104 = .ok (.goto 4, 3) := by decide +kernel
theorem d_M_greatest_107 : decode b_M_greatest 107 = .ok (.iload_n 3, 1) := by decide +kernel
theorem d_M_greatest_108 : decode b_M_greatest 108 = .ok (.ireturn, 1) := by decide +kernel
theorem d_M_has_0 : decode b_M_has 0 = .ok (.aload_n 0, 1) := by decide +kernel
theorem d_M_has_1 : decode b_M_has 1 = .ok (.getfield 19, 3) := by decide +kernel
theorem d_M_has_4 : decode b_M_has 4 = .ok (.iload_n 1, 1) := by decide +kernel
theorem d_M_has_5 : decode b_M_has 5 = .ok (.iaload, 1) := by decide +kernel
theorem d_M_has_6 : decode b_M_has 6 = .ok (.aload_n 0, 1) := by decide +kernel
theorem d_M_has_7 : decode b_M_has 7 = .ok (.getfield 22, 3) := by decide +kernel
theorem d_M_has_10 : decode b_M_has 10 = .ok (.iload_n 1, 1) := by decide +kernel
theorem d_M_has_11 : decode b_M_has 11 = .ok (.iaload, 1) := by decide +kernel
theorem d_M_has_12 : decode b_M_has 12 = .ok (.isub, 1) := by decide +kernel
theorem d_M_has_13 : decode b_M_has 13 = .ok (.ireturn, 1) := by decide +kernel
theorem d_M_worth_0 : decode b_M_worth 0 = .ok (.iconst 0, 1) := by decide +kernel
theorem d_M_worth_1 : decode b_M_worth 1 = .ok (.istore_n 1, 1) := by decide +kernel
theorem d_M_worth_2 : decode b_M_worth 2 = .ok (.iload_n 1, 1) := by decide +kernel
theorem d_M_worth_3 : decode b_M_worth 3 = .ok (.bipush 8, 2) := by decide +kernel
theorem d_M_worth_5 : decode b_M_worth 5 = .ok (.if_icmp .ge 16, 3) := by decide +kernel
theorem d_M_worth_8 : decode b_M_worth 8 = .ok (.aload_n 0, 1) := by decide +kernel
theorem d_M_worth_9 : decode b_M_worth 9 = .ok (.getfield 71, 3) := by decide +kernel
theorem d_M_worth_12 : decode b_M_worth 12 = .ok (.iload_n 1, 1) := by decide +kernel
theorem d_M_worth_13 : decode b_M_worth 13 = .ok (.iconst 0, 1) := by decide +kernel
theorem d_M_worth_14 : decode b_M_worth 14 = .ok (.iastore, 1) := by decide +kernel
theorem d_M_worth_15 : decode b_M_worth 15 = .ok (.iinc 1 1, 3) := by decide +kernel
theorem d_M_worth_18 : decode b_M_worth 18 = .ok (.goto (-16), 3) := by decide +kernel
theorem d_M_worth_21 : decode b_M_worth 21 = .ok (.iconst 0, 1) := by decide +kernel
theorem d_M_worth_22 : decode b_M_worth 22 = .ok (.istore_n 1, 1) := by decide +kernel
theorem d_M_worth_23 : decode b_M_worth 23 = .ok (.iconst 0, 1) := by decide +kernel
theorem d_M_worth_24 : decode b_M_worth 24 = .ok (.istore_n 2, 1) := by decide +kernel
theorem d_M_worth_25 : decode b_M_worth 25 = .ok (.iload_n 2, 1) := by decide +kernel
theorem d_M_worth_26 : decode b_M_worth 26 = .ok (.aload_n 0, 1) := by decide +kernel
theorem d_M_worth_27 : decode b_M_worth 27 = .ok (.getfield 115, 3) := by decide +kernel
theorem d_M_worth_30 : decode b_M_worth 30 = .ok (.if_icmp .ge 74, 3) := by decide +kernel
theorem d_M_worth_33 : decode b_M_worth 33 = .ok (.aload_n 0, 1) := by decide +kernel
theorem d_M_worth_34 : decode b_M_worth 34 = .ok (.getfield 71, 3) := by decide +kernel
theorem d_M_worth_37 : decode b_M_worth 37 = .ok (.aload_n 0, 1) := by decide +kernel
theorem d_M_worth_38 : decode b_M_worth 38 = .ok (.getfield 62, 3) := by decide +kernel
theorem d_M_worth_41 : decode b_M_worth 41 = .ok (.iload_n 2, 1) := by decide +kernel
theorem d_M_worth_42 : decode b_M_worth 42 = .ok (.iaload, 1) := by decide +kernel
theorem d_M_worth_43 : decode b_M_worth 43 = .ok (.dup2, 1) := by decide +kernel
theorem d_M_worth_44 : decode b_M_worth 44 = .ok (.iaload, 1) := by decide +kernel
theorem d_M_worth_45 : decode b_M_worth 45 = .ok (.aload_n 0, 1) := by decide +kernel
theorem d_M_worth_46 : decode b_M_worth 46 = .ok (.getfield 65, 3) := by decide +kernel
theorem d_M_worth_49 : decode b_M_worth 49 = .ok (.iload_n 2, 1) := by decide +kernel
theorem d_M_worth_50 : decode b_M_worth 50 = .ok (.iaload, 1) := by decide +kernel
theorem d_M_worth_51 : decode b_M_worth 51 = .ok (.iadd, 1) := by decide +kernel
theorem d_M_worth_52 : decode b_M_worth 52 = .ok (.iastore, 1) := by decide +kernel
theorem d_M_worth_53 : decode b_M_worth 53 = .ok (.iload_n 1, 1) := by decide +kernel
theorem d_M_worth_54 : decode b_M_worth 54 = .ok (.iconst 2, 1) := by decide +kernel
theorem d_M_worth_55 : decode b_M_worth 55 = .ok (.aload_n 0, 1) := by decide +kernel
theorem d_M_worth_56 : decode b_M_worth 56 = .ok (.getfield 65, 3) := by decide +kernel
theorem d_M_worth_59 : decode b_M_worth 59 = .ok (.iload_n 2, 1) := by decide +kernel
theorem d_M_worth_60 : decode b_M_worth 60 = .ok (.iaload, 1) := by decide +kernel
theorem d_M_worth_61 : decode b_M_worth 61 = .ok (.imul, 1) := by decide +kernel
theorem d_M_worth_62 : decode b_M_worth 62 = .ok (.aload_n 0, 1) := by decide +kernel
theorem d_M_worth_63 : decode b_M_worth 63 = .ok (.getfield 65, 3) := by decide +kernel
theorem d_M_worth_66 : decode b_M_worth 66 = .ok (.iload_n 2, 1) := by decide +kernel
theorem d_M_worth_67 : decode b_M_worth 67 = .ok (.iaload, 1) := by decide +kernel
theorem d_M_worth_68 : decode b_M_worth 68 = .ok (.ifCond .le 26, 3) := by decide +kernel
theorem d_M_worth_71 : decode b_M_worth 71 = .ok (.aload_n 0, 1) := by decide +kernel
theorem d_M_worth_72 : decode b_M_worth 72 = .ok (.getfield 65, 3) := by decide +kernel
theorem d_M_worth_75 : decode b_M_worth 75 = .ok (.iload_n 2, 1) := by decide +kernel
theorem d_M_worth_76 : decode b_M_worth 76 = .ok (.iaload, 1) := by decide +kernel
theorem d_M_worth_77 : decode b_M_worth 77 = .ok (.aload_n 0, 1) := by decide +kernel
theorem d_M_worth_78 : decode b_M_worth 78 = .ok (.aload_n 0, 1) := by decide +kernel
theorem d_M_worth_79 : decode b_M_worth 79 = .ok (.getfield 59, 3) := by decide +kernel
theorem d_M_worth_82 : decode b_M_worth 82 = .ok (.iload_n 2, 1) := by decide +kernel
theorem d_M_worth_83 : decode b_M_worth 83 = .ok (.iaload, 1) := by decide +kernel
theorem d_M_worth_84 : decode b_M_worth 84 = .ok (.invokevirtual 124, 3) := by decide +kernel
theorem d_M_worth_87 : decode b_M_worth 87 = .ok (.if_icmp .ne 7, 3) := by decide +kernel
theorem d_M_worth_90 : decode b_M_worth 90 = .ok (.iconst 1, 1) := by decide +kernel
theorem d_M_worth_91 : decode b_M_worth 91 = .ok (.goto 4, 3) := by decide +kernel
theorem d_M_worth_94 : decode b_M_worth 94 = .ok (.iconst 0, 1) := by decide +kernel
theorem d_M_worth_95 : decode b_M_worth 95 = .ok (.iadd, 1) := by decide +kernel
theorem d_M_worth_96 : decode b_M_worth 96 = .ok (.iadd, 1) := by decide +kernel
theorem d_M_worth_97 : decode b_M_worth 97 = .ok (.istore_n 1, 1) := by decide +kernel
theorem d_M_worth_98 : decode b_M_worth 98 = .ok (.iinc 2 1, 3) := by decide +kernel
theorem d_M_worth_101 : decode b_M_worth 101 = .ok (.goto (-76), 3) := by decide +kernel
theorem d_M_worth_104 : decode b_M_worth 104 = .ok (.iconst 0, 1) := by decide +kernel
theorem d_M_worth_105 : decode b_M_worth 105 = .ok (.istore_n 2, 1) := by decide +kernel
theorem d_M_worth_106 : decode b_M_worth 106 = .ok (.iload_n 2, 1) := by decide +kernel
theorem d_M_worth_107 : decode b_M_worth 107 = .ok (.aload_n 0, 1) := by decide +kernel
theorem d_M_worth_108 : decode b_M_worth 108 = .ok (.getfield 85, 3) := by decide +kernel
theorem d_M_worth_111 : decode b_M_worth 111 = .ok (.if_icmp .ge 32, 3) := by decide +kernel
theorem d_M_worth_114 : decode b_M_worth 114 = .ok (.iload_n 1, 1) := by decide +kernel
theorem d_M_worth_115 : decode b_M_worth 115 = .ok (.aload_n 0, 1) := by decide +kernel
theorem d_M_worth_116 : decode b_M_worth 116 = .ok (.getfield 71, 3) := by decide +kernel
theorem d_M_worth_119 : decode b_M_worth 119 = .ok (.iload_n 2, 1) := by decide +kernel
theorem d_M_worth_120 : decode b_M_worth 120 = .ok (.iaload, 1) := by decide +kernel
theorem d_M_worth_121 : decode b_M_worth 121 = .ok (.aload_n 0, 1) := by decide +kernel
theorem d_M_worth_122 : decode b_M_worth 122 = .ok (.getfield 28, 3) := by decide +kernel
theorem d_M_worth_125 : decode b_M_worth 125 = .ok (.iload_n 2, 1) := by decide +kernel
theorem d_M_worth_126 : decode b_M_worth 126 = .ok (.iaload, 1) := by decide +kernel
theorem d_M_worth_127 : decode b_M_worth 127 = .ok (.if_icmp .ne 7, 3) := by decide +kernel
theorem d_M_worth_130 : decode b_M_worth 130 = .ok (.iconst 3, 1) := by decide +kernel
theorem d_M_worth_131 : decode b_M_worth 131 = .ok (.goto 4, 3) := by decide +kernel
theorem d_M_worth_134 : decode b_M_worth 134 = .ok (.iconst 0, 1) := by decide +kernel
theorem d_M_worth_135 : decode b_M_worth 135 = .ok (.iadd, 1) := by decide +kernel
theorem d_M_worth_136 : decode b_M_worth 136 = .ok (.istore_n 1, 1) := by decide +kernel
theorem d_M_worth_137 : decode b_M_worth 137 = .ok (.iinc 2 1, 3) := by decide +kernel
theorem d_M_worth_140 : decode b_M_worth 140 = .ok (.goto (-34), 3) := by decide +kernel
theorem d_M_worth_143 : decode b_M_worth 143 = .ok (.iload_n 1, 1) := by decide +kernel
theorem d_M_worth_144 : decode b_M_worth 144 = .ok (.ireturn, 1) := by decide +kernel
theorem d_M_byRule_0 : decode b_M_byRule 0 = .ok (.iconst 0, 1) := by decide +kernel
theorem d_M_byRule_1 : decode b_M_byRule 1 = .ok (.istore_n 1, 1) := by decide +kernel
theorem d_M_byRule_2 : decode b_M_byRule 2 = .ok (.iload_n 1, 1) := by decide +kernel
theorem d_M_byRule_3 : decode b_M_byRule 3 = .ok (.aload_n 0, 1) := by decide +kernel
theorem d_M_byRule_4 : decode b_M_byRule 4 = .ok (.getfield 115, 3) := by decide +kernel
theorem d_M_byRule_7 : decode b_M_byRule 7 = .ok (.if_icmp .ge 32, 3) := by decide +kernel
theorem d_M_byRule_10 : decode b_M_byRule 10 = .ok (.aload_n 0, 1) := by decide +kernel
theorem d_M_byRule_11 : decode b_M_byRule 11 = .ok (.getfield 65, 3) := by decide +kernel
theorem d_M_byRule_14 : decode b_M_byRule 14 = .ok (.iload_n 1, 1) := by decide +kernel
theorem d_M_byRule_15 : decode b_M_byRule 15 = .ok (.aload_n 0, 1) := by decide +kernel
theorem d_M_byRule_16 : decode b_M_byRule 16 = .ok (.iload_n 1, 1) := by decide +kernel
theorem d_M_byRule_17 : decode b_M_byRule 17 = .ok (.invokevirtual 130, 3) := by decide +kernel
theorem d_M_byRule_20 : decode b_M_byRule 20 = .ok (.iastore, 1) := by decide +kernel
theorem d_M_byRule_21 : decode b_M_byRule 21 = .ok (.aload_n 0, 1) := by decide +kernel
theorem d_M_byRule_22 : decode b_M_byRule 22 = .ok (.getfield 68, 3) := by decide +kernel
theorem d_M_byRule_25 : decode b_M_byRule 25 = .ok (.iload_n 1, 1) := by decide +kernel
theorem d_M_byRule_26 : decode b_M_byRule 26 = .ok (.aload_n 0, 1) := by decide +kernel
theorem d_M_byRule_27 : decode b_M_byRule 27 = .ok (.getfield 65, 3) := by decide +kernel
theorem d_M_byRule_30 : decode b_M_byRule 30 = .ok (.iload_n 1, 1) := by decide +kernel
theorem d_M_byRule_31 : decode b_M_byRule 31 = .ok (.iaload, 1) := by decide +kernel
theorem d_M_byRule_32 : decode b_M_byRule 32 = .ok (.iastore, 1) := by decide +kernel
theorem d_M_byRule_33 : decode b_M_byRule 33 = .ok (.iinc 1 1, 3) := by decide +kernel
theorem d_M_byRule_36 : decode b_M_byRule 36 = .ok (.goto (-34), 3) := by decide +kernel
theorem d_M_byRule_39 : decode b_M_byRule 39 = .ok (.return_, 1) := by decide +kernel
theorem d_M_savedNow_0 : decode b_M_savedNow 0 = .ok (.iconst 0, 1) := by decide +kernel
theorem d_M_savedNow_1 : decode b_M_savedNow 1 = .ok (.istore_n 1, 1) := by decide +kernel
theorem d_M_savedNow_2 : decode b_M_savedNow 2 = .ok (.iconst 0, 1) := by decide +kernel
theorem d_M_savedNow_3 : decode b_M_savedNow 3 = .ok (.istore_n 2, 1) := by decide +kernel
theorem d_M_savedNow_4 : decode b_M_savedNow 4 = .ok (.iload_n 2, 1) := by decide +kernel
theorem d_M_savedNow_5 : decode b_M_savedNow 5 = .ok (.aload_n 0, 1) := by decide +kernel
theorem d_M_savedNow_6 : decode b_M_savedNow 6 = .ok (.getfield 92, 3) := by decide +kernel
theorem d_M_savedNow_9 : decode b_M_savedNow 9 = .ok (.if_icmp .ge 45, 3) := by decide +kernel
theorem d_M_savedNow_12 : decode b_M_savedNow 12 = .ok (.iload_n 1, 1) := by decide +kernel
theorem d_M_savedNow_13 : decode b_M_savedNow 13 = .ok (.iconst 2, 1) := by decide +kernel
theorem d_M_savedNow_14 : decode b_M_savedNow 14 = .ok (.aload_n 0, 1) := by decide +kernel
theorem d_M_savedNow_15 : decode b_M_savedNow 15 = .ok (.getfield 56, 3) := by decide +kernel
theorem d_M_savedNow_18 : decode b_M_savedNow 18 = .ok (.iload_n 2, 1) := by decide +kernel
theorem d_M_savedNow_19 : decode b_M_savedNow 19 = .ok (.iaload, 1) := by decide +kernel
theorem d_M_savedNow_20 : decode b_M_savedNow 20 = .ok (.imul, 1) := by decide +kernel
theorem d_M_savedNow_21 : decode b_M_savedNow 21 = .ok (.aload_n 0, 1) := by decide +kernel
theorem d_M_savedNow_22 : decode b_M_savedNow 22 = .ok (.getfield 56, 3) := by decide +kernel
theorem d_M_savedNow_25 : decode b_M_savedNow 25 = .ok (.iload_n 2, 1) := by decide +kernel
theorem d_M_savedNow_26 : decode b_M_savedNow 26 = .ok (.iaload, 1) := by decide +kernel
theorem d_M_savedNow_27 : decode b_M_savedNow 27 = .ok (.aload_n 0, 1) := by decide +kernel
theorem d_M_savedNow_28 : decode b_M_savedNow 28 = .ok (.aload_n 0, 1) := by decide +kernel
theorem d_M_savedNow_29 : decode b_M_savedNow 29 = .ok (.getfield 50, 3) := by decide +kernel
theorem d_M_savedNow_32 : decode b_M_savedNow 32 = .ok (.iload_n 2, 1) := by decide +kernel
theorem d_M_savedNow_33 : decode b_M_savedNow 33 = .ok (.iaload, 1) := by decide +kernel
theorem d_M_savedNow_34 : decode b_M_savedNow 34 = .ok (.invokevirtual 124, 3) := by decide +kernel
theorem d_M_savedNow_37 : decode b_M_savedNow 37 = .ok (.if_icmp .ne 7, 3) := by decide +kernel
theorem d_M_savedNow_40 : decode b_M_savedNow 40 = .ok (.iconst 1, 1) := by decide +kernel
theorem d_M_savedNow_41 : decode b_M_savedNow 41 = .ok (.goto 4, 3) := by decide +kernel
theorem d_M_savedNow_44 : decode b_M_savedNow 44 = .ok (.iconst 0, 1) := by decide +kernel
theorem d_M_savedNow_45 : decode b_M_savedNow 45 = .ok (.iadd, 1) := by decide +kernel
theorem d_M_savedNow_46 : decode b_M_savedNow 46 = .ok (.iadd, 1) := by decide +kernel
theorem d_M_savedNow_47 : decode b_M_savedNow 47 = .ok (.istore_n 1, 1) := by decide +kernel
theorem d_M_savedNow_48 : decode b_M_savedNow 48 = .ok (.iinc 2 1, 3) := by decide +kernel
theorem d_M_savedNow_51 : decode b_M_savedNow 51 = .ok (.goto (-47), 3) := by decide +kernel
theorem d_M_savedNow_54 : decode b_M_savedNow 54 = .ok (.iconst 0, 1) := by decide +kernel
theorem d_M_savedNow_55 : decode b_M_savedNow 55 = .ok (.istore_n 2, 1) := by decide +kernel
theorem d_M_savedNow_56 : decode b_M_savedNow 56 = .ok (.iload_n 2, 1) := by decide +kernel
theorem d_M_savedNow_57 : decode b_M_savedNow 57 = .ok (.aload_n 0, 1) := by decide +kernel
theorem d_M_savedNow_58 : decode b_M_savedNow 58 = .ok (.getfield 85, 3) := by decide +kernel
theorem d_M_savedNow_61 : decode b_M_savedNow 61 = .ok (.if_icmp .ge 31, 3) := by decide +kernel
theorem d_M_savedNow_64 : decode b_M_savedNow 64 = .ok (.iload_n 1, 1) := by decide +kernel
theorem d_M_savedNow_65 : decode b_M_savedNow 65 = .ok (.aload_n 0, 1) := by decide +kernel
theorem d_M_savedNow_66 : decode b_M_savedNow 66 = .ok (.iload_n 2, 1) := by decide +kernel
theorem d_M_savedNow_67 : decode b_M_savedNow 67 = .ok (.invokevirtual 153, 3) := by decide +kernel
theorem d_M_savedNow_70 : decode b_M_savedNow 70 = .ok (.aload_n 0, 1) := by decide +kernel
theorem d_M_savedNow_71 : decode b_M_savedNow 71 = .ok (.getfield 28, 3) := by decide +kernel
theorem d_M_savedNow_74 : decode b_M_savedNow 74 = .ok (.iload_n 2, 1) := by decide +kernel
theorem d_M_savedNow_75 : decode b_M_savedNow 75 = .ok (.iaload, 1) := by decide +kernel
theorem d_M_savedNow_76 : decode b_M_savedNow 76 = .ok (.if_icmp .ne 7, 3) := by decide +kernel
theorem d_M_savedNow_79 : decode b_M_savedNow 79 = .ok (.iconst 3, 1) := by decide +kernel
theorem d_M_savedNow_80 : decode b_M_savedNow 80 = .ok (.goto 4, 3) := by decide +kernel
theorem d_M_savedNow_83 : decode b_M_savedNow 83 = .ok (.iconst 0, 1) := by decide +kernel
theorem d_M_savedNow_84 : decode b_M_savedNow 84 = .ok (.iadd, 1) := by decide +kernel
theorem d_M_savedNow_85 : decode b_M_savedNow 85 = .ok (.istore_n 1, 1) := by decide +kernel
theorem d_M_savedNow_86 : decode b_M_savedNow 86 = .ok (.iinc 2 1, 3) := by decide +kernel
theorem d_M_savedNow_89 : decode b_M_savedNow 89 = .ok (.goto (-33), 3) := by decide +kernel
theorem d_M_savedNow_92 : decode b_M_savedNow 92 = .ok (.iload_n 1, 1) := by decide +kernel
theorem d_M_savedNow_93 : decode b_M_savedNow 93 = .ok (.ireturn, 1) := by decide +kernel
theorem d_M_hasGot_0 : decode b_M_hasGot 0 = .ok (.iconst 0, 1) := by decide +kernel
theorem d_M_hasGot_1 : decode b_M_hasGot 1 = .ok (.istore_n 2, 1) := by decide +kernel
theorem d_M_hasGot_2 : decode b_M_hasGot 2 = .ok (.iconst 0, 1) := by decide +kernel
end
section
theorem d_M_hasGot_3 : decode b_M_hasGot 3 = .ok (.istore_n 3, 1) := by decide +kernel
theorem d_M_hasGot_4 : decode b_M_hasGot 4 = .ok (.iload_n 3, 1) := by decide +kernel
theorem d_M_hasGot_5 : decode b_M_hasGot 5 = .ok (.aload_n 0, 1) := by decide +kernel
theorem d_M_hasGot_6 : decode b_M_hasGot 6 = .ok (.getfield 92, 3) := by decide +kernel
theorem d_M_hasGot_9 : decode b_M_hasGot 9 = .ok (.if_icmp .ge 32, 3) := by decide +kernel
theorem d_M_hasGot_12 : decode b_M_hasGot 12 = .ok (.iload_n 2, 1) := by decide +kernel
theorem d_M_hasGot_13 : decode b_M_hasGot 13 = .ok (.aload_n 0, 1) := by decide +kernel
theorem d_M_hasGot_14 : decode b_M_hasGot 14 = .ok (.getfield 53, 3) := by decide +kernel
theorem d_M_hasGot_17 : decode b_M_hasGot 17 = .ok (.iload_n 3, 1) := by decide +kernel
theorem d_M_hasGot_18 : decode b_M_hasGot 18 = .ok (.iaload, 1) := by decide +kernel
theorem d_M_hasGot_19 : decode b_M_hasGot 19 = .ok (.iload_n 1, 1) := by decide +kernel
theorem d_M_hasGot_20 : decode b_M_hasGot 20 = .ok (.if_icmp .ne 12, 3) := by decide +kernel
theorem d_M_hasGot_23 : decode b_M_hasGot 23 = .ok (.aload_n 0, 1) := by decide +kernel
theorem d_M_hasGot_24 : decode b_M_hasGot 24 = .ok (.getfield 56, 3) := by decide +kernel
theorem d_M_hasGot_27 : decode b_M_hasGot 27 = .ok (.iload_n 3, 1) := by decide +kernel
theorem d_M_hasGot_28 : decode b_M_hasGot 28 = .ok (.iaload, 1) := by decide +kernel
theorem d_M_hasGot_29 : decode b_M_hasGot 29 = .ok (.goto 4, 3) := by decide +kernel
theorem d_M_hasGot_32 : decode b_M_hasGot 32 = .ok (.iconst 0, 1) := by decide +kernel
theorem d_M_hasGot_33 : decode b_M_hasGot 33 = .ok (.iadd, 1) := by decide +kernel
theorem d_M_hasGot_34 : decode b_M_hasGot 34 = .ok (.istore_n 2, 1) := by decide +kernel
theorem d_M_hasGot_35 : decode b_M_hasGot 35 = .ok (.iinc 3 1, 3) := by decide +kernel
theorem d_M_hasGot_38 : decode b_M_hasGot 38 = .ok (.goto (-34), 3) := by decide +kernel
theorem d_M_hasGot_41 : decode b_M_hasGot 41 = .ok (.iload_n 2, 1) := by decide +kernel
theorem d_M_hasGot_42 : decode b_M_hasGot 42 = .ok (.ireturn, 1) := by decide +kernel
theorem d_M_exact_0 : decode b_M_exact 0 = .ok (.aload_n 0, 1) := by decide +kernel
theorem d_M_exact_1 : decode b_M_exact 1 = .ok (.iconst 0, 1) := by decide +kernel
theorem d_M_exact_2 : decode b_M_exact 2 = .ok (.putfield 74, 3) := by decide +kernel
theorem d_M_exact_5 : decode b_M_exact 5 = .ok (.aload_n 0, 1) := by decide +kernel
theorem d_M_exact_6 : decode b_M_exact 6 = .ok (.getfield 143, 3) := by decide +kernel
theorem d_M_exact_9 : decode b_M_exact 9 = .ok (.ireturn, 1) := by decide +kernel
theorem d_M_bound_0 : decode b_M_bound 0 = .ok (.aload_n 0, 1) := by decide +kernel
theorem d_M_bound_1 : decode b_M_bound 1 = .ok (.iconst 0, 1) := by decide +kernel
theorem d_M_bound_2 : decode b_M_bound 2 = .ok (.putfield 74, 3) := by decide +kernel
theorem d_M_bound_5 : decode b_M_bound 5 = .ok (.iconst 0, 1) := by decide +kernel
theorem d_M_bound_6 : decode b_M_bound 6 = .ok (.istore_n 1, 1) := by decide +kernel
theorem d_M_bound_7 : decode b_M_bound 7 = .ok (.iconst 0, 1) := by decide +kernel
theorem d_M_bound_8 : decode b_M_bound 8 = .ok (.istore_n 2, 1) := by decide +kernel
theorem d_M_bound_9 : decode b_M_bound 9 = .ok (.iload_n 2, 1) := by decide +kernel
theorem d_M_bound_10 : decode b_M_bound 10 = .ok (.aload_n 0, 1) := by decide +kernel
theorem d_M_bound_11 : decode b_M_bound 11 = .ok (.getfield 85, 3) := by decide +kernel
theorem d_M_bound_14 : decode b_M_bound 14 = .ok (.if_icmp .ge 70, 3) := by decide +kernel
theorem d_M_bound_17 : decode b_M_bound 17 = .ok (.iconst 0, 1) := by decide +kernel
theorem d_M_bound_18 : decode b_M_bound 18 = .ok (.istore_n 3, 1) := by decide +kernel
theorem d_M_bound_19 : decode b_M_bound 19 = .ok (.iconst 0, 1) := by decide +kernel
theorem d_M_bound_20 : decode b_M_bound 20 = .ok (.istore 4, 2) := by decide +kernel
theorem d_M_bound_22 : decode b_M_bound 22 = .ok (.iload 4, 2) := by decide +kernel
theorem d_M_bound_24 : decode b_M_bound 24 = .ok (.aload_n 0, 1) := by decide +kernel
theorem d_M_bound_25 : decode b_M_bound 25 = .ok (.getfield 78, 3) := by decide +kernel
theorem d_M_bound_28 : decode b_M_bound 28 = .ok (.if_icmp .ge 29, 3) := by decide +kernel
theorem d_M_bound_31 : decode b_M_bound 31 = .ok (.iload_n 3, 1) := by decide +kernel
theorem d_M_bound_32 : decode b_M_bound 32 = .ok (.ifCond .ne 13, 3) := by decide +kernel
theorem d_M_bound_35 : decode b_M_bound 35 = .ok (.aload_n 0, 1) := by decide +kernel
theorem d_M_bound_36 : decode b_M_bound 36 = .ok (.iload 4, 2) := by decide +kernel
theorem d_M_bound_38 : decode b_M_bound 38 = .ok (.iload_n 2, 1) := by decide +kernel
theorem d_M_bound_39 : decode b_M_bound 39 = .ok (.invokevirtual 105, 3) := by decide +kernel
theorem d_M_bound_42 : decode b_M_bound 42 = .ok (.ifCond .eq 7, 3) := by decide +kernel
theorem d_M_bound_45 : decode b_M_bound 45 = .ok (.iconst 1, 1) := by decide +kernel
theorem d_M_bound_46 : decode b_M_bound 46 = .ok (.goto 4, 3) := by decide +kernel
theorem d_M_bound_49 : decode b_M_bound 49 = .ok (.iconst 0, 1) := by decide +kernel
theorem d_M_bound_50 : decode b_M_bound 50 = .ok (.istore_n 3, 1) := by decide +kernel
theorem d_M_bound_51 : decode b_M_bound 51 = .ok (.iinc 4 1, 3) := by decide +kernel
theorem d_M_bound_54 : decode b_M_bound 54 = .ok (.goto (-32), 3) := by decide +kernel
theorem d_M_bound_57 : decode b_M_bound 57 = .ok (.iload_n 1, 1) := by decide +kernel
theorem d_M_bound_58 : decode b_M_bound 58 = .ok (.iload_n 3, 1) := by decide +kernel
theorem d_M_bound_59 : decode b_M_bound 59 = .ok (.ifCond .eq 16, 3) := by decide +kernel
theorem d_M_bound_62 : decode b_M_bound 62 = .ok (.iconst 2, 1) := by decide +kernel
theorem d_M_bound_63 : decode b_M_bound 63 = .ok (.aload_n 0, 1) := by decide +kernel
theorem d_M_bound_64 : decode b_M_bound 64 = .ok (.getfield 28, 3) := by decide +kernel
theorem d_M_bound_67 : decode b_M_bound 67 = .ok (.iload_n 2, 1) := by decide +kernel
theorem d_M_bound_68 : decode b_M_bound 68 = .ok (.iaload, 1) := by decide +kernel
theorem d_M_bound_69 : decode b_M_bound 69 = .ok (.imul, 1) := by decide +kernel
theorem d_M_bound_70 : decode b_M_bound 70 = .ok (.iconst 3, 1) := by decide +kernel
theorem d_M_bound_71 : decode b_M_bound 71 = .ok (.iadd, 1) := by decide +kernel
theorem d_M_bound_72 : decode b_M_bound 72 = .ok (.goto 4, 3) := by decide +kernel
theorem d_M_bound_75 : decode b_M_bound 75 = .ok (.iconst 0, 1) := by decide +kernel
theorem d_M_bound_76 : decode b_M_bound 76 = .ok (.iadd, 1) := by decide +kernel
theorem d_M_bound_77 : decode b_M_bound 77 = .ok (.istore_n 1, 1) := by decide +kernel
theorem d_M_bound_78 : decode b_M_bound 78 = .ok (.iinc 2 1, 3) := by decide +kernel
theorem d_M_bound_81 : decode b_M_bound 81 = .ok (.goto (-72), 3) := by decide +kernel
theorem d_M_bound_84 : decode b_M_bound 84 = .ok (.iconst 0, 1) := by decide +kernel
theorem d_M_bound_85 : decode b_M_bound 85 = .ok (.istore_n 2, 1) := by decide +kernel
theorem d_M_bound_86 : decode b_M_bound 86 = .ok (.iload_n 2, 1) := by decide +kernel
theorem d_M_bound_87 : decode b_M_bound 87 = .ok (.aload_n 0, 1) := by decide +kernel
theorem d_M_bound_88 : decode b_M_bound 88 = .ok (.getfield 78, 3) := by decide +kernel
theorem d_M_bound_91 : decode b_M_bound 91 = .ok (.if_icmp .ge 61, 3) := by decide +kernel
theorem d_M_bound_94 : decode b_M_bound 94 = .ok (.iconst 0, 1) := by decide +kernel
theorem d_M_bound_95 : decode b_M_bound 95 = .ok (.istore_n 3, 1) := by decide +kernel
theorem d_M_bound_96 : decode b_M_bound 96 = .ok (.iconst 0, 1) := by decide +kernel
theorem d_M_bound_97 : decode b_M_bound 97 = .ok (.istore 4, 2) := by decide +kernel
theorem d_M_bound_99 : decode b_M_bound 99 = .ok (.iload 4, 2) := by decide +kernel
theorem d_M_bound_101 : decode b_M_bound 101 = .ok (.aload_n 0, 1) := by decide +kernel
theorem d_M_bound_102 : decode b_M_bound 102 = .ok (.getfield 85, 3) := by decide +kernel
theorem d_M_bound_105 : decode b_M_bound 105 = .ok (.if_icmp .ge 29, 3) := by decide +kernel
theorem d_M_bound_108 : decode b_M_bound 108 = .ok (.iload_n 3, 1) := by decide +kernel
theorem d_M_bound_109 : decode b_M_bound 109 = .ok (.ifCond .ne 13, 3) := by decide +kernel
theorem d_M_bound_112 : decode b_M_bound 112 = .ok (.aload_n 0, 1) := by decide +kernel
theorem d_M_bound_113 : decode b_M_bound 113 = .ok (.iload_n 2, 1) := by decide +kernel
theorem d_M_bound_114 : decode b_M_bound 114 = .ok (.iload 4, 2) := by decide +kernel
theorem d_M_bound_116 : decode b_M_bound 116 = .ok (.invokevirtual 105, 3) := by decide +kernel
theorem d_M_bound_119 : decode b_M_bound 119 = .ok (.ifCond .eq 7, 3) := by decide +kernel
theorem d_M_bound_122 : decode b_M_bound 122 = .ok (.iconst 1, 1) := by decide +kernel
theorem d_M_bound_123 : decode b_M_bound 123 = .ok (.goto 4, 3) := by decide +kernel
theorem d_M_bound_126 : decode b_M_bound 126 = .ok (.iconst 0, 1) := by decide +kernel
theorem d_M_bound_127 : decode b_M_bound 127 = .ok (.istore_n 3, 1) := by decide +kernel
theorem d_M_bound_128 : decode b_M_bound 128 = .ok (.iinc 4 1, 3) := by decide +kernel
theorem d_M_bound_131 : decode b_M_bound 131 = .ok (.goto (-32), 3) := by decide +kernel
theorem d_M_bound_134 : decode b_M_bound 134 = .ok (.iload_n 1, 1) := by decide +kernel
theorem d_M_bound_135 : decode b_M_bound 135 = .ok (.iload_n 3, 1) := by decide +kernel
theorem d_M_bound_136 : decode b_M_bound 136 = .ok (.ifCond .eq 7, 3) := by decide +kernel
theorem d_M_bound_139 : decode b_M_bound 139 = .ok (.iconst 1, 1) := by decide +kernel
theorem d_M_bound_140 : decode b_M_bound 140 = .ok (.goto 4, 3) := by decide +kernel
theorem d_M_bound_143 : decode b_M_bound 143 = .ok (.iconst 0, 1) := by decide +kernel
theorem d_M_bound_144 : decode b_M_bound 144 = .ok (.iadd, 1) := by decide +kernel
theorem d_M_bound_145 : decode b_M_bound 145 = .ok (.istore_n 1, 1) := by decide +kernel
theorem d_M_bound_146 : decode b_M_bound 146 = .ok (.iinc 2 1, 3) := by decide +kernel
theorem d_M_bound_149 : decode b_M_bound 149 = .ok (.goto (-63), 3) := by decide +kernel
theorem d_M_bound_152 : decode b_M_bound 152 = .ok (.iload_n 1, 1) := by decide +kernel
theorem d_M_bound_153 : decode b_M_bound 153 = .ok (.ireturn, 1) := by decide +kernel
theorem d_M_steps_0 : decode b_M_steps 0 = .ok (.aload_n 0, 1) := by decide +kernel
theorem d_M_steps_1 : decode b_M_steps 1 = .ok (.iconst 0, 1) := by decide +kernel
theorem d_M_steps_2 : decode b_M_steps 2 = .ok (.putfield 74, 3) := by decide +kernel
theorem d_M_steps_5 : decode b_M_steps 5 = .ok (.aload_n 0, 1) := by decide +kernel
theorem d_M_steps_6 : decode b_M_steps 6 = .ok (.getfield 127, 3) := by decide +kernel
theorem d_M_steps_9 : decode b_M_steps 9 = .ok (.ireturn, 1) := by decide +kernel
theorem d_M_pair_0 : decode b_M_pair 0 = .ok (.aload_n 0, 1) := by decide +kernel
theorem d_M_pair_1 : decode b_M_pair 1 = .ok (.iload_n 1, 1) := by decide +kernel
theorem d_M_pair_2 : decode b_M_pair 2 = .ok (.iconst 0, 1) := by decide +kernel
theorem d_M_pair_3 : decode b_M_pair 3 = .ok (.aload_n 0, 1) := by decide +kernel
theorem d_M_pair_4 : decode b_M_pair 4 = .ok (.getfield 92, 3) := by decide +kernel
theorem d_M_pair_7 : decode b_M_pair 7 = .ok (.iconst 1, 1) := by decide +kernel
theorem d_M_pair_8 : decode b_M_pair 8 = .ok (.isub, 1) := by decide +kernel
theorem d_M_pair_9 : decode b_M_pair 9 = .ok (.invokestatic 81, 3) := by decide +kernel
theorem d_M_pair_12 : decode b_M_pair 12 = .ok (.ifCond .ne 7, 3) := by decide +kernel
theorem d_M_pair_15 : decode b_M_pair 15 = .ok (.iconst 1, 1) := by decide +kernel
theorem d_M_pair_16 : decode b_M_pair 16 = .ok (.goto 17, 3) := by decide +kernel
theorem d_M_pair_19 : decode b_M_pair 19 = .ok (.iload_n 2, 1) := by decide +kernel
theorem d_M_pair_20 : decode b_M_pair 20 = .ok (.iconst 0, 1) := by decide +kernel
theorem d_M_pair_21 : decode b_M_pair 21 = .ok (.iconst 2, 1) := by decide +kernel
theorem d_M_pair_22 : decode b_M_pair 22 = .ok (.invokestatic 81, 3) := by decide +kernel
theorem d_M_pair_25 : decode b_M_pair 25 = .ok (.ifCond .ne 7, 3) := by decide +kernel
theorem d_M_pair_28 : decode b_M_pair 28 = .ok (.iconst 2, 1) := by decide +kernel
theorem d_M_pair_29 : decode b_M_pair 29 = .ok (.goto 4, 3) := by decide +kernel
theorem d_M_pair_32 : decode b_M_pair 32 = .ok (.iconst 0, 1) := by decide +kernel
theorem d_M_pair_33 : decode b_M_pair 33 = .ok (.putfield 74, 3) := by decide +kernel
theorem d_M_pair_36 : decode b_M_pair 36 = .ok (.aload_n 0, 1) := by decide +kernel
theorem d_M_pair_37 : decode b_M_pair 37 = .ok (.getfield 74, 3) := by decide +kernel
theorem d_M_pair_40 : decode b_M_pair 40 = .ok (.ifCond .le 5, 3) := by decide +kernel
theorem d_M_pair_43 : decode b_M_pair 43 = .ok (.iconst 0, 1) := by decide +kernel
theorem d_M_pair_44 : decode b_M_pair 44 = .ok (.ireturn, 1) := by decide +kernel
theorem d_M_pair_45 : decode b_M_pair 45 = .ok (.iload_n 2, 1) := by decide +kernel
theorem d_M_pair_46 : decode b_M_pair 46 = .ok (.ifCond .ne 12, 3) := by decide +kernel
theorem d_M_pair_49 : decode b_M_pair 49 = .ok (.aload_n 0, 1) := by decide +kernel
theorem d_M_pair_50 : decode b_M_pair 50 = .ok (.getfield 50, 3) := by decide +kernel
theorem d_M_pair_53 : decode b_M_pair 53 = .ok (.iload_n 1, 1) := by decide +kernel
theorem d_M_pair_54 : decode b_M_pair 54 = .ok (.iaload, 1) := by decide +kernel
theorem d_M_pair_55 : decode b_M_pair 55 = .ok (.goto 23, 3) := by decide +kernel
theorem d_M_pair_58 : decode b_M_pair 58 = .ok (.iload_n 2, 1) := by decide +kernel
theorem d_M_pair_59 : decode b_M_pair 59 = .ok (.iconst 1, 1) := by decide +kernel
theorem d_M_pair_60 : decode b_M_pair 60 = .ok (.if_icmp .ne 12, 3) := by decide +kernel
theorem d_M_pair_63 : decode b_M_pair 63 = .ok (.aload_n 0, 1) := by decide +kernel
theorem d_M_pair_64 : decode b_M_pair 64 = .ok (.getfield 53, 3) := by decide +kernel
theorem d_M_pair_67 : decode b_M_pair 67 = .ok (.iload_n 1, 1) := by decide +kernel
theorem d_M_pair_68 : decode b_M_pair 68 = .ok (.iaload, 1) := by decide +kernel
theorem d_M_pair_69 : decode b_M_pair 69 = .ok (.goto 9, 3) := by decide +kernel
theorem d_M_pair_72 : decode b_M_pair 72 = .ok (.aload_n 0, 1) := by decide +kernel
theorem d_M_pair_73 : decode b_M_pair 73 = .ok (.getfield 56, 3) := by decide +kernel
theorem d_M_pair_76 : decode b_M_pair 76 = .ok (.iload_n 1, 1) := by decide +kernel
theorem d_M_pair_77 : decode b_M_pair 77 = .ok (.iaload, 1) := by decide +kernel
theorem d_M_pair_78 : decode b_M_pair 78 = .ok (.ireturn, 1) := by decide +kernel
theorem d_M_undo_0 : decode b_M_undo 0 = .ok (.aload_n 0, 1) := by decide +kernel
theorem d_M_undo_1 : decode b_M_undo 1 = .ok (.iload_n 1, 1) := by decide +kernel
theorem d_M_undo_2 : decode b_M_undo 2 = .ok (.iconst 0, 1) := by decide +kernel
theorem d_M_undo_3 : decode b_M_undo 3 = .ok (.aload_n 0, 1) := by decide +kernel
theorem d_M_undo_4 : decode b_M_undo 4 = .ok (.getfield 92, 3) := by decide +kernel
theorem d_M_undo_7 : decode b_M_undo 7 = .ok (.iconst 1, 1) := by decide +kernel
theorem d_M_undo_8 : decode b_M_undo 8 = .ok (.isub, 1) := by decide +kernel
theorem d_M_undo_9 : decode b_M_undo 9 = .ok (.invokestatic 81, 3) := by decide +kernel
theorem d_M_undo_12 : decode b_M_undo 12 = .ok (.ifCond .eq 7, 3) := by decide +kernel
theorem d_M_undo_15 : decode b_M_undo 15 = .ok (.iconst 0, 1) := by decide +kernel
theorem d_M_undo_16 : decode b_M_undo 16 = .ok (.goto 4, 3) := by decide +kernel
theorem d_M_undo_19 : decode b_M_undo 19 = .ok (.iconst 1, 1) := by decide +kernel
theorem d_M_undo_20 : decode b_M_undo 20 = .ok (.putfield 74, 3) := by decide +kernel
theorem d_M_undo_23 : decode b_M_undo 23 = .ok (.aload_n 0, 1) := by decide +kernel
theorem d_M_undo_24 : decode b_M_undo 24 = .ok (.getfield 74, 3) := by decide +kernel
theorem d_M_undo_27 : decode b_M_undo 27 = .ok (.ifCond .le 5, 3) := by decide +kernel
theorem d_M_undo_30 : decode b_M_undo 30 = .ok (.iconst 0, 1) := by decide +kernel
theorem d_M_undo_31 : decode b_M_undo 31 = .ok (.ireturn, 1) := by decide +kernel
theorem d_M_undo_32 : decode b_M_undo 32 = .ok (.aload_n 0, 1) := by decide +kernel
theorem d_M_undo_33 : decode b_M_undo 33 = .ok (.getfield 56, 3) := by decide +kernel
theorem d_M_undo_36 : decode b_M_undo 36 = .ok (.iload_n 1, 1) := by decide +kernel
theorem d_M_undo_37 : decode b_M_undo 37 = .ok (.iaload, 1) := by decide +kernel
theorem d_M_undo_38 : decode b_M_undo 38 = .ok (.istore_n 2, 1) := by decide +kernel
theorem d_M_undo_39 : decode b_M_undo 39 = .ok (.aload_n 0, 1) := by decide +kernel
theorem d_M_undo_40 : decode b_M_undo 40 = .ok (.iload_n 1, 1) := by decide +kernel
theorem d_M_undo_41 : decode b_M_undo 41 = .ok (.invokevirtual 156, 3) := by decide +kernel
theorem d_M_undo_44 : decode b_M_undo 44 = .ok (.iload_n 2, 1) := by decide +kernel
theorem d_M_undo_45 : decode b_M_undo 45 = .ok (.ireturn, 1) := by decide +kernel
theorem d_M_drop_0 : decode b_M_drop 0 = .ok (.aload_n 0, 1) := by decide +kernel
theorem d_M_drop_1 : decode b_M_drop 1 = .ok (.dup, 1) := by decide +kernel
theorem d_M_drop_2 : decode b_M_drop 2 = .ok (.getfield 92, 3) := by decide +kernel
theorem d_M_drop_5 : decode b_M_drop 5 = .ok (.iconst 1, 1) := by decide +kernel
theorem d_M_drop_6 : decode b_M_drop 6 = .ok (.isub, 1) := by decide +kernel
theorem d_M_drop_7 : decode b_M_drop 7 = .ok (.putfield 92, 3) := by decide +kernel
theorem d_M_drop_10 : decode b_M_drop 10 = .ok (.iload_n 1, 1) := by decide +kernel
theorem d_M_drop_11 : decode b_M_drop 11 = .ok (.istore_n 2, 1) := by decide +kernel
theorem d_M_drop_12 : decode b_M_drop 12 = .ok (.iload_n 2, 1) := by decide +kernel
theorem d_M_drop_13 : decode b_M_drop 13 = .ok (.aload_n 0, 1) := by decide +kernel
theorem d_M_drop_14 : decode b_M_drop 14 = .ok (.getfield 92, 3) := by decide +kernel
theorem d_M_drop_17 : decode b_M_drop 17 = .ok (.if_icmp .ge 51, 3) := by decide +kernel
theorem d_M_drop_20 : decode b_M_drop 20 = .ok (.aload_n 0, 1) := by decide +kernel
theorem d_M_drop_21 : decode b_M_drop 21 = .ok (.getfield 50, 3) := by decide +kernel
theorem d_M_drop_24 : decode b_M_drop 24 = .ok (.iload_n 2, 1) := by decide +kernel
theorem d_M_drop_25 : decode b_M_drop 25 = .ok (.aload_n 0, 1) := by decide +kernel
theorem d_M_drop_26 : decode b_M_drop 26 = .ok (.getfield 50, 3) := by decide +kernel
theorem d_M_drop_29 : decode b_M_drop 29 = .ok (.iload_n 2, 1) := by decide +kernel
theorem d_M_drop_30 : decode b_M_drop 30 = .ok (.iconst 1, 1) := by decide +kernel
theorem d_M_drop_31 : decode b_M_drop 31 = .ok (.iadd, 1) := by decide +kernel
theorem d_M_drop_32 : decode b_M_drop 32 = .ok (.iaload, 1) := by decide +kernel
theorem d_M_drop_33 : decode b_M_drop 33 = .ok (.iastore, 1) := by decide +kernel
theorem d_M_drop_34 : decode b_M_drop 34 = .ok (.aload_n 0, 1) := by decide +kernel
theorem d_M_drop_35 : decode b_M_drop 35 = .ok (.getfield 53, 3) := by decide +kernel
theorem d_M_drop_38 : decode b_M_drop 38 = .ok (.iload_n 2, 1) := by decide +kernel
theorem d_M_drop_39 : decode b_M_drop 39 = .ok (.aload_n 0, 1) := by decide +kernel
theorem d_M_drop_40 : decode b_M_drop 40 = .ok (.getfield 53, 3) := by decide +kernel
theorem d_M_drop_43 : decode b_M_drop 43 = .ok (.iload_n 2, 1) := by decide +kernel
theorem d_M_drop_44 : decode b_M_drop 44 = .ok (.iconst 1, 1) := by decide +kernel
theorem d_M_drop_45 : decode b_M_drop 45 = .ok (.iadd, 1) := by decide +kernel
theorem d_M_drop_46 : decode b_M_drop 46 = .ok (.iaload, 1) := by decide +kernel
theorem d_M_drop_47 : decode b_M_drop 47 = .ok (.iastore, 1) := by decide +kernel
theorem d_M_drop_48 : decode b_M_drop 48 = .ok (.aload_n 0, 1) := by decide +kernel
theorem d_M_drop_49 : decode b_M_drop 49 = .ok (.getfield 56, 3) := by decide +kernel
theorem d_M_drop_52 : decode b_M_drop 52 = .ok (.iload_n 2, 1) := by decide +kernel
theorem d_M_drop_53 : decode b_M_drop 53 = .ok (.aload_n 0, 1) := by decide +kernel
theorem d_M_drop_54 : decode b_M_drop 54 = .ok (.getfield 56, 3) := by decide +kernel
theorem d_M_drop_57 : decode b_M_drop 57 = .ok (.iload_n 2, 1) := by decide +kernel
theorem d_M_drop_58 : decode b_M_drop 58 = .ok (.iconst 1, 1) := by decide +kernel
theorem d_M_drop_59 : decode b_M_drop 59 = .ok (.iadd, 1) := by decide +kernel
theorem d_M_drop_60 : decode b_M_drop 60 = .ok (.iaload, 1) := by decide +kernel
theorem d_M_drop_61 : decode b_M_drop 61 = .ok (.iastore, 1) := by decide +kernel
theorem d_M_drop_62 : decode b_M_drop 62 = .ok (.iinc 2 1, 3) := by decide +kernel
theorem d_M_drop_65 : decode b_M_drop 65 = .ok (.goto (-53), 3) := by decide +kernel
theorem d_M_drop_68 : decode b_M_drop 68 = .ok (.return_, 1) := by decide +kernel
theorem d_M_split_0 : decode b_M_split 0 = .ok (.aload_n 0, 1) := by decide +kernel
theorem d_M_split_1 : decode b_M_split 1 = .ok (.aload_n 0, 1) := by decide +kernel
theorem d_M_split_2 : decode b_M_split 2 = .ok (.iload_n 1, 1) := by decide +kernel
theorem d_M_split_3 : decode b_M_split 3 = .ok (.invokevirtual 95, 3) := by decide +kernel
theorem d_M_split_6 : decode b_M_split 6 = .ok (.ifCond .ne 7, 3) := by decide +kernel
theorem d_M_split_9 : decode b_M_split 9 = .ok (.iconst 1, 1) := by decide +kernel
theorem d_M_split_10 : decode b_M_split 10 = .ok (.goto 49, 3) := by decide +kernel
theorem d_M_split_13 : decode b_M_split 13 = .ok (.iload_n 2, 1) := by decide +kernel
theorem d_M_split_14 : decode b_M_split 14 = .ok (.iconst 1, 1) := by decide +kernel
theorem d_M_split_15 : decode b_M_split 15 = .ok (.aload_n 0, 1) := by decide +kernel
theorem d_M_split_16 : decode b_M_split 16 = .ok (.getfield 19, 3) := by decide +kernel
theorem d_M_split_19 : decode b_M_split 19 = .ok (.iload_n 1, 1) := by decide +kernel
theorem d_M_split_20 : decode b_M_split 20 = .ok (.iaload, 1) := by decide +kernel
theorem d_M_split_21 : decode b_M_split 21 = .ok (.iconst 1, 1) := by decide +kernel
theorem d_M_split_22 : decode b_M_split 22 = .ok (.isub, 1) := by decide +kernel
theorem d_M_split_23 : decode b_M_split 23 = .ok (.invokestatic 81, 3) := by decide +kernel
theorem d_M_split_26 : decode b_M_split 26 = .ok (.ifCond .ne 7, 3) := by decide +kernel
theorem d_M_split_29 : decode b_M_split 29 = .ok (.iconst 2, 1) := by decide +kernel
theorem d_M_split_30 : decode b_M_split 30 = .ok (.goto 29, 3) := by decide +kernel
theorem d_M_split_33 : decode b_M_split 33 = .ok (.aload_n 0, 1) := by decide +kernel
theorem d_M_split_34 : decode b_M_split 34 = .ok (.iload_n 1, 1) := by decide +kernel
theorem d_M_split_35 : decode b_M_split 35 = .ok (.invokevirtual 98, 3) := by decide +kernel
theorem d_M_split_38 : decode b_M_split 38 = .ok (.ifCond .le 7, 3) := by decide +kernel
theorem d_M_split_41 : decode b_M_split 41 = .ok (.iconst 3, 1) := by decide +kernel
theorem d_M_split_42 : decode b_M_split 42 = .ok (.goto 17, 3) := by decide +kernel
theorem d_M_split_45 : decode b_M_split 45 = .ok (.aload_n 0, 1) := by decide +kernel
theorem d_M_split_46 : decode b_M_split 46 = .ok (.getfield 78, 3) := by decide +kernel
theorem d_M_split_49 : decode b_M_split 49 = .ok (.bipush 8, 2) := by decide +kernel
theorem d_M_split_51 : decode b_M_split 51 = .ok (.if_icmp .ne 7, 3) := by decide +kernel
theorem d_M_split_54 : decode b_M_split 54 = .ok (.iconst 4, 1) := by decide +kernel
theorem d_M_split_55 : decode b_M_split 55 = .ok (.goto 4, 3) := by decide +kernel
theorem d_M_split_58 : decode b_M_split 58 = .ok (.iconst 0, 1) := by decide +kernel
theorem d_M_split_59 : decode b_M_split 59 = .ok (.putfield 74, 3) := by decide +kernel
theorem d_M_split_62 : decode b_M_split 62 = .ok (.aload_n 0, 1) := by decide +kernel
theorem d_M_split_63 : decode b_M_split 63 = .ok (.getfield 74, 3) := by decide +kernel
theorem d_M_split_66 : decode b_M_split 66 = .ok (.ifCond .le 5, 3) := by decide +kernel
theorem d_M_split_69 : decode b_M_split 69 = .ok (.iconst 0, 1) := by decide +kernel
theorem d_M_split_70 : decode b_M_split 70 = .ok (.ireturn, 1) := by decide +kernel
theorem d_M_split_71 : decode b_M_split 71 = .ok (.aload_n 0, 1) := by decide +kernel
theorem d_M_split_72 : decode b_M_split 72 = .ok (.getfield 78, 3) := by decide +kernel
theorem d_M_split_75 : decode b_M_split 75 = .ok (.istore_n 3, 1) := by decide +kernel
theorem d_M_split_76 : decode b_M_split 76 = .ok (.aload_n 0, 1) := by decide +kernel
theorem d_M_split_77 : decode b_M_split 77 = .ok (.dup, 1) := by decide +kernel
theorem d_M_split_78 : decode b_M_split 78 = .ok (.getfield 78, 3) := by decide +kernel
theorem d_M_split_81 : decode b_M_split 81 = .ok (.iconst 1, 1) := by decide +kernel
theorem d_M_split_82 : decode b_M_split 82 = .ok (.iadd, 1) := by decide +kernel
theorem d_M_split_83 : decode b_M_split 83 = .ok (.putfield 78, 3) := by decide +kernel
theorem d_M_split_86 : decode b_M_split 86 = .ok (.aload_n 0, 1) := by decide +kernel
theorem d_M_split_87 : decode b_M_split 87 = .ok (.getfield 7, 3) := by decide +kernel
theorem d_M_split_90 : decode b_M_split 90 = .ok (.iload_n 3, 1) := by decide +kernel
theorem d_M_split_91 : decode b_M_split 91 = .ok (.aload_n 0, 1) := by decide +kernel
theorem d_M_split_92 : decode b_M_split 92 = .ok (.getfield 7, 3) := by decide +kernel
theorem d_M_split_95 : decode b_M_split 95 = .ok (.iload_n 1, 1) := by decide +kernel
theorem d_M_split_96 : decode b_M_split 96 = .ok (.iaload, 1) := by decide +kernel
theorem d_M_split_97 : decode b_M_split 97 = .ok (.iastore, 1) := by decide +kernel
theorem d_M_split_98 : decode b_M_split 98 = .ok (.aload_n 0, 1) := by decide +kernel
theorem d_M_split_99 : decode b_M_split 99 = .ok (.getfield 13, 3) := by decide +kernel
theorem d_M_split_102 : decode b_M_split 102 = .ok (.iload_n 3, 1) := by decide +kernel
theorem d_M_split_103 : decode b_M_split 103 = .ok (.aload_n 0, 1) := by decide +kernel
theorem d_M_split_104 : decode b_M_split 104 = .ok (.getfield 13, 3) := by decide +kernel
theorem d_M_split_107 : decode b_M_split 107 = .ok (.iload_n 1, 1) := by decide +kernel
theorem d_M_split_108 : decode b_M_split 108 = .ok (.iaload, 1) := by decide +kernel
theorem d_M_split_109 : decode b_M_split 109 = .ok (.iastore, 1) := by decide +kernel
theorem d_M_split_110 : decode b_M_split 110 = .ok (.aload_n 0, 1) := by decide +kernel
theorem d_M_split_111 : decode b_M_split 111 = .ok (.getfield 16, 3) := by decide +kernel
theorem d_M_split_114 : decode b_M_split 114 = .ok (.iload_n 3, 1) := by decide +kernel
theorem d_M_split_115 : decode b_M_split 115 = .ok (.aload_n 0, 1) := by decide +kernel
theorem d_M_split_116 : decode b_M_split 116 = .ok (.getfield 16, 3) := by decide +kernel
theorem d_M_split_119 : decode b_M_split 119 = .ok (.iload_n 1, 1) := by decide +kernel
theorem d_M_split_120 : decode b_M_split 120 = .ok (.iaload, 1) := by decide +kernel
theorem d_M_split_121 : decode b_M_split 121 = .ok (.iastore, 1) := by decide +kernel
theorem d_M_split_122 : decode b_M_split 122 = .ok (.aload_n 0, 1) := by decide +kernel
theorem d_M_split_123 : decode b_M_split 123 = .ok (.getfield 19, 3) := by decide +kernel
theorem d_M_split_126 : decode b_M_split 126 = .ok (.iload_n 3, 1) := by decide +kernel
theorem d_M_split_127 : decode b_M_split 127 = .ok (.iload_n 2, 1) := by decide +kernel
theorem d_M_split_128 : decode b_M_split 128 = .ok (.iastore, 1) := by decide +kernel
theorem d_M_split_129 : decode b_M_split 129 = .ok (.aload_n 0, 1) := by decide +kernel
theorem d_M_split_130 : decode b_M_split 130 = .ok (.getfield 19, 3) := by decide +kernel
theorem d_M_split_133 : decode b_M_split 133 = .ok (.iload_n 1, 1) := by decide +kernel
theorem d_M_split_134 : decode b_M_split 134 = .ok (.dup2, 1) := by decide +kernel
theorem d_M_split_135 : decode b_M_split 135 = .ok (.iaload, 1) := by decide +kernel
theorem d_M_split_136 : decode b_M_split 136 = .ok (.iload_n 2, 1) := by decide +kernel
theorem d_M_split_137 : decode b_M_split 137 = .ok (.isub, 1) := by decide +kernel
theorem d_M_split_138 : decode b_M_split 138 = .ok (.iastore, 1) := by decide +kernel
theorem d_M_split_139 : decode b_M_split 139 = .ok (.aload_n 0, 1) := by decide +kernel
theorem d_M_split_140 : decode b_M_split 140 = .ok (.getfield 22, 3) := by decide +kernel
theorem d_M_split_143 : decode b_M_split 143 = .ok (.iload_n 1, 1) := by decide +kernel
theorem d_M_split_144 : decode b_M_split 144 = .ok (.iaload, 1) := by decide +kernel
theorem d_M_split_145 : decode b_M_split 145 = .ok (.aload_n 0, 1) := by decide +kernel
theorem d_M_split_146 : decode b_M_split 146 = .ok (.getfield 19, 3) := by decide +kernel
theorem d_M_split_149 : decode b_M_split 149 = .ok (.iload_n 1, 1) := by decide +kernel
theorem d_M_split_150 : decode b_M_split 150 = .ok (.iaload, 1) := by decide +kernel
theorem d_M_split_151 : decode b_M_split 151 = .ok (.if_icmp .ge 12, 3) := by decide +kernel
theorem d_M_split_154 : decode b_M_split 154 = .ok (.aload_n 0, 1) := by decide +kernel
theorem d_M_split_155 : decode b_M_split 155 = .ok (.getfield 22, 3) := by decide +kernel
theorem d_M_split_158 : decode b_M_split 158 = .ok (.iload_n 1, 1) := by decide +kernel
theorem d_M_split_159 : decode b_M_split 159 = .ok (.iaload, 1) := by decide +kernel
theorem d_M_split_160 : decode b_M_split 160 = .ok (.goto 9, 3) := by decide +kernel
theorem d_M_split_163 : decode b_M_split 163 = .ok (.aload_n 0, 1) := by decide +kernel
theorem d_M_split_164 : decode b_M_split 164 = .ok (.getfield 19, 3) := by decide +kernel
theorem d_M_split_167 : decode b_M_split 167 = .ok (.iload_n 1, 1) := by decide +kernel
theorem d_M_split_168 : decode b_M_split 168 = .ok (.iaload, 1) := by decide +kernel
theorem d_M_split_169 : decode b_M_split 169 = .ok (.istore 4, 2) := by decide +kernel
theorem d_M_split_171 : decode b_M_split 171 = .ok (.aload_n 0, 1) := by decide +kernel
theorem d_M_split_172 : decode b_M_split 172 = .ok (.getfield 22, 3) := by decide +kernel
theorem d_M_split_175 : decode b_M_split 175 = .ok (.iload_n 3, 1) := by decide +kernel
theorem d_M_split_176 : decode b_M_split 176 = .ok (.aload_n 0, 1) := by decide +kernel
theorem d_M_split_177 : decode b_M_split 177 = .ok (.getfield 22, 3) := by decide +kernel
theorem d_M_split_180 : decode b_M_split 180 = .ok (.iload_n 1, 1) := by decide +kernel
theorem d_M_split_181 : decode b_M_split 181 = .ok (.iaload, 1) := by decide +kernel
theorem d_M_split_182 : decode b_M_split 182 = .ok (.iload 4, 2) := by decide +kernel
theorem d_M_split_184 : decode b_M_split 184 = .ok (.isub, 1) := by decide +kernel
theorem d_M_split_185 : decode b_M_split 185 = .ok (.iastore, 1) := by decide +kernel
theorem d_M_split_186 : decode b_M_split 186 = .ok (.aload_n 0, 1) := by decide +kernel
theorem d_M_split_187 : decode b_M_split 187 = .ok (.getfield 22, 3) := by decide +kernel
theorem d_M_split_190 : decode b_M_split 190 = .ok (.iload_n 1, 1) := by decide +kernel
theorem d_M_split_191 : decode b_M_split 191 = .ok (.iload 4, 2) := by decide +kernel
theorem d_M_split_193 : decode b_M_split 193 = .ok (.iastore, 1) := by decide +kernel
theorem d_M_split_194 : decode b_M_split 194 = .ok (.iconst 0, 1) := by decide +kernel
theorem d_M_split_195 : decode b_M_split 195 = .ok (.istore 5, 2) := by decide +kernel
theorem d_M_split_197 : decode b_M_split 197 = .ok (.iload 5, 2) := by decide +kernel
theorem d_M_split_199 : decode b_M_split 199 = .ok (.bipush 8, 2) := by decide +kernel
theorem d_M_split_201 : decode b_M_split 201 = .ok (.if_icmp .ge 33, 3) := by decide +kernel
theorem d_M_split_204 : decode b_M_split 204 = .ok (.aload_n 0, 1) := by decide +kernel
theorem d_M_split_205 : decode b_M_split 205 = .ok (.getfield 43, 3) := by decide +kernel
theorem d_M_split_208 : decode b_M_split 208 = .ok (.bipush 8, 2) := by decide +kernel
theorem d_M_split_210 : decode b_M_split 210 = .ok (.iload_n 3, 1) := by decide +kernel
theorem d_M_split_211 : decode b_M_split 211 = .ok (.imul, 1) := by decide +kernel
theorem d_M_split_212 : decode b_M_split 212 = .ok (.iload 5, 2) := by decide +kernel
theorem d_M_split_214 : decode b_M_split 214 = .ok (.iadd, 1) := by decide +kernel
theorem d_M_split_215 : decode b_M_split 215 = .ok (.aload_n 0, 1) := by decide +kernel
theorem d_M_split_216 : decode b_M_split 216 = .ok (.getfield 43, 3) := by decide +kernel
theorem d_M_split_219 : decode b_M_split 219 = .ok (.bipush 8, 2) := by decide +kernel
theorem d_M_split_221 : decode b_M_split 221 = .ok (.iload_n 1, 1) := by decide +kernel
theorem d_M_split_222 : decode b_M_split 222 = .ok (.imul, 1) := by decide +kernel
theorem d_M_split_223 : decode b_M_split 223 = .ok (.iload 5, 2) := by decide +kernel
theorem d_M_split_225 : decode b_M_split 225 = .ok (.iadd, 1) := by decide +kernel
theorem d_M_split_226 : decode b_M_split 226 = .ok (.baload, 1) := by decide +kernel
theorem d_M_split_227 : decode b_M_split 227 = .ok (.bastore, 1) := by decide +kernel
theorem d_M_split_228 : decode b_M_split 228 = .ok (.iinc 5 1, 3) := by decide +kernel
theorem d_M_split_231 : decode b_M_split 231 = .ok (.goto (-34), 3) := by decide +kernel
theorem d_M_split_234 : decode b_M_split 234 = .ok (.iload_n 3, 1) := by decide +kernel
theorem d_M_split_235 : decode b_M_split 235 = .ok (.ireturn, 1) := by decide +kernel
theorem d_M_late_0 : decode b_M_late 0 = .ok (.aload_n 0, 1) := by decide +kernel
theorem d_M_late_1 : decode b_M_late 1 = .ok (.aload_n 0, 1) := by decide +kernel
theorem d_M_late_2 : decode b_M_late 2 = .ok (.iload_n 1, 1) := by decide +kernel
theorem d_M_late_3 : decode b_M_late 3 = .ok (.invokevirtual 95, 3) := by decide +kernel
theorem d_M_late_6 : decode b_M_late 6 = .ok (.ifCond .ne 7, 3) := by decide +kernel
theorem d_M_late_9 : decode b_M_late 9 = .ok (.iconst 1, 1) := by decide +kernel
theorem d_M_late_10 : decode b_M_late 10 = .ok (.goto 19, 3) := by decide +kernel
theorem d_M_late_13 : decode b_M_late 13 = .ok (.iload_n 2, 1) := by decide +kernel
theorem d_M_late_14 : decode b_M_late 14 = .ok (.iconst 0, 1) := by decide +kernel
theorem d_M_late_15 : decode b_M_late 15 = .ok (.sipush 1000, 3) := by decide +kernel
theorem d_M_late_18 : decode b_M_late 18 = .ok (.invokestatic 81, 3) := by decide +kernel
theorem d_M_late_21 : decode b_M_late 21 = .ok (.ifCond .ne 7, 3) := by decide +kernel
theorem d_M_late_24 : decode b_M_late 24 = .ok (.iconst 2, 1) := by decide +kernel
theorem d_M_late_25 : decode b_M_late 25 = .ok (.goto 4, 3) := by decide +kernel
theorem d_M_late_28 : decode b_M_late 28 = .ok (.iconst 0, 1) := by decide +kernel
theorem d_M_late_29 : decode b_M_late 29 = .ok (.putfield 74, 3) := by decide +kernel
theorem d_M_late_32 : decode b_M_late 32 = .ok (.aload_n 0, 1) := by decide +kernel
theorem d_M_late_33 : decode b_M_late 33 = .ok (.getfield 74, 3) := by decide +kernel
theorem d_M_late_36 : decode b_M_late 36 = .ok (.ifCond .le 5, 3) := by decide +kernel
theorem d_M_late_39 : decode b_M_late 39 = .ok (.iconst 0, 1) := by decide +kernel
theorem d_M_late_40 : decode b_M_late 40 = .ok (.ireturn, 1) := by decide +kernel
theorem d_M_late_41 : decode b_M_late 41 = .ok (.aload_n 0, 1) := by decide +kernel
theorem d_M_late_42 : decode b_M_late 42 = .ok (.getfield 16, 3) := by decide +kernel
theorem d_M_late_45 : decode b_M_late 45 = .ok (.iload_n 1, 1) := by decide +kernel
theorem d_M_late_46 : decode b_M_late 46 = .ok (.iload_n 2, 1) := by decide +kernel
theorem d_M_late_47 : decode b_M_late 47 = .ok (.iastore, 1) := by decide +kernel
theorem d_M_late_48 : decode b_M_late 48 = .ok (.iconst 0, 1) := by decide +kernel
theorem d_M_late_49 : decode b_M_late 49 = .ok (.istore_n 3, 1) := by decide +kernel
theorem d_M_late_50 : decode b_M_late 50 = .ok (.aload_n 0, 1) := by decide +kernel
theorem d_M_late_51 : decode b_M_late 51 = .ok (.getfield 92, 3) := by decide +kernel
theorem d_M_late_54 : decode b_M_late 54 = .ok (.iconst 1, 1) := by decide +kernel
theorem d_M_late_55 : decode b_M_late 55 = .ok (.isub, 1) := by decide +kernel
theorem d_M_late_56 : decode b_M_late 56 = .ok (.istore 4, 2) := by decide +kernel
theorem d_M_late_58 : decode b_M_late 58 = .ok (.iload 4, 2) := by decide +kernel
theorem d_M_late_60 : decode b_M_late 60 = .ok (.ifCond .lt 48, 3) := by decide +kernel
theorem d_M_late_63 : decode b_M_late 63 = .ok (.aload_n 0, 1) := by decide +kernel
theorem d_M_late_64 : decode b_M_late 64 = .ok (.getfield 50, 3) := by decide +kernel
theorem d_M_late_67 : decode b_M_late 67 = .ok (.iload 4, 2) := by decide +kernel
theorem d_M_late_69 : decode b_M_late 69 = .ok (.iaload, 1) := by decide +kernel
theorem d_M_late_70 : decode b_M_late 70 = .ok (.iload_n 1, 1) := by decide +kernel
theorem d_M_late_71 : decode b_M_late 71 = .ok (.if_icmp .ne 31, 3) := by decide +kernel
theorem d_M_late_74 : decode b_M_late 74 = .ok (.aload_n 0, 1) := by decide +kernel
theorem d_M_late_75 : decode b_M_late 75 = .ok (.iload_n 1, 1) := by decide +kernel
theorem d_M_late_76 : decode b_M_late 76 = .ok (.aload_n 0, 1) := by decide +kernel
theorem d_M_late_77 : decode b_M_late 77 = .ok (.getfield 53, 3) := by decide +kernel
theorem d_M_late_80 : decode b_M_late 80 = .ok (.iload 4, 2) := by decide +kernel
theorem d_M_late_82 : decode b_M_late 82 = .ok (.iaload, 1) := by decide +kernel
theorem d_M_late_83 : decode b_M_late 83 = .ok (.iconst 4, 1) := by decide +kernel
theorem d_M_late_84 : decode b_M_late 84 = .ok (.invokevirtual 102, 3) := by decide +kernel
theorem d_M_late_87 : decode b_M_late 87 = .ok (.ifCond .eq 6, 3) := by decide +kernel
theorem d_M_late_90 : decode b_M_late 90 = .ok (.goto 12, 3) := by decide +kernel
theorem d_M_late_93 : decode b_M_late 93 = .ok (.aload_n 0, 1) := by decide +kernel
theorem d_M_late_94 : decode b_M_late 94 = .ok (.iload 4, 2) := by decide +kernel
theorem d_M_late_96 : decode b_M_late 96 = .ok (.invokevirtual 156, 3) := by decide +kernel
theorem d_M_late_99 : decode b_M_late 99 = .ok (.iinc 3 1, 3) := by decide +kernel
theorem d_M_late_102 : decode b_M_late 102 = .ok (.iinc 4 (-1), 3) := by decide +kernel
theorem d_M_late_105 : decode b_M_late 105 = .ok (.goto (-47), 3) := by decide +kernel
theorem d_M_late_108 : decode b_M_late 108 = .ok (.iload_n 3, 1) := by decide +kernel
theorem d_M_late_109 : decode b_M_late 109 = .ok (.ireturn, 1) := by decide +kernel
theorem d_M_arrival_0 : decode b_M_arrival 0 = .ok (.aload_n 0, 1) := by decide +kernel
theorem d_M_arrival_1 : decode b_M_arrival 1 = .ok (.aload_n 0, 1) := by decide +kernel
theorem d_M_arrival_2 : decode b_M_arrival 2 = .ok (.iload_n 1, 1) := by decide +kernel
theorem d_M_arrival_3 : decode b_M_arrival 3 = .ok (.invokevirtual 95, 3) := by decide +kernel
theorem d_M_arrival_6 : decode b_M_arrival 6 = .ok (.ifCond .ne 7, 3) := by decide +kernel
theorem d_M_arrival_9 : decode b_M_arrival 9 = .ok (.iconst 1, 1) := by decide +kernel
theorem d_M_arrival_10 : decode b_M_arrival 10 = .ok (.goto 17, 3) := by decide +kernel
theorem d_M_arrival_13 : decode b_M_arrival 13 = .ok (.iload_n 2, 1) := by decide +kernel
theorem d_M_arrival_14 : decode b_M_arrival 14 = .ok (.iconst 0, 1) := by decide +kernel
theorem d_M_arrival_15 : decode b_M_arrival 15 = .ok (.iconst 3, 1) := by decide +kernel
theorem d_M_arrival_16 : decode b_M_arrival 16 = .ok (.invokestatic 81, 3) := by decide +kernel
theorem d_M_arrival_19 : decode b_M_arrival 19 = .ok (.ifCond .ne 7, 3) := by decide +kernel
theorem d_M_arrival_22 : decode b_M_arrival 22 = .ok (.iconst 2, 1) := by decide +kernel
theorem d_M_arrival_23 : decode b_M_arrival 23 = .ok (.goto 4, 3) := by decide +kernel
theorem d_M_arrival_26 : decode b_M_arrival 26 = .ok (.iconst 0, 1) := by decide +kernel
theorem d_M_arrival_27 : decode b_M_arrival 27 = .ok (.putfield 74, 3) := by decide +kernel
theorem d_M_arrival_30 : decode b_M_arrival 30 = .ok (.aload_n 0, 1) := by decide +kernel
theorem d_M_arrival_31 : decode b_M_arrival 31 = .ok (.getfield 74, 3) := by decide +kernel
theorem d_M_arrival_34 : decode b_M_arrival 34 = .ok (.ifCond .le 5, 3) := by decide +kernel
theorem d_M_arrival_37 : decode b_M_arrival 37 = .ok (.iconst 0, 1) := by decide +kernel
theorem d_M_arrival_38 : decode b_M_arrival 38 = .ok (.ireturn, 1) := by decide +kernel
theorem d_M_arrival_39 : decode b_M_arrival 39 = .ok (.iload_n 2, 1) := by decide +kernel
theorem d_M_arrival_40 : decode b_M_arrival 40 = .ok (.ifCond .ne 15, 3) := by decide +kernel
theorem d_M_arrival_43 : decode b_M_arrival 43 = .ok (.aload_n 0, 1) := by decide +kernel
theorem d_M_arrival_44 : decode b_M_arrival 44 = .ok (.iload_n 1, 1) := by decide +kernel
theorem d_M_arrival_45 : decode b_M_arrival 45 = .ok (.invokevirtual 124, 3) := by decide +kernel
theorem d_M_arrival_48 : decode b_M_arrival 48 = .ok (.aload_n 0, 1) := by decide +kernel
theorem d_M_arrival_49 : decode b_M_arrival 49 = .ok (.iload_n 1, 1) := by decide +kernel
theorem d_M_arrival_50 : decode b_M_arrival 50 = .ok (.invokevirtual 98, 3) := by decide +kernel
theorem d_M_arrival_53 : decode b_M_arrival 53 = .ok (.isub, 1) := by decide +kernel
theorem d_M_arrival_54 : decode b_M_arrival 54 = .ok (.ireturn, 1) := by decide +kernel
theorem d_M_arrival_55 : decode b_M_arrival 55 = .ok (.iload_n 2, 1) := by decide +kernel
theorem d_M_arrival_56 : decode b_M_arrival 56 = .ok (.iconst 1, 1) := by decide +kernel
theorem d_M_arrival_57 : decode b_M_arrival 57 = .ok (.if_icmp .ne 10, 3) := by decide +kernel
theorem d_M_arrival_60 : decode b_M_arrival 60 = .ok (.aload_n 0, 1) := by decide +kernel
theorem d_M_arrival_61 : decode b_M_arrival 61 = .ok (.getfield 16, 3) := by decide +kernel
theorem d_M_arrival_64 : decode b_M_arrival 64 = .ok (.iload_n 1, 1) := by decide +kernel
theorem d_M_arrival_65 : decode b_M_arrival 65 = .ok (.iaload, 1) := by decide +kernel
theorem d_M_arrival_66 : decode b_M_arrival 66 = .ok (.ireturn, 1) := by decide +kernel
theorem d_M_arrival_67 : decode b_M_arrival 67 = .ok (.iload_n 2, 1) := by decide +kernel
theorem d_M_arrival_68 : decode b_M_arrival 68 = .ok (.iconst 2, 1) := by decide +kernel
theorem d_M_arrival_69 : decode b_M_arrival 69 = .ok (.if_icmp .ne 10, 3) := by decide +kernel
theorem d_M_arrival_72 : decode b_M_arrival 72 = .ok (.aload_n 0, 1) := by decide +kernel
theorem d_M_arrival_73 : decode b_M_arrival 73 = .ok (.getfield 19, 3) := by decide +kernel
theorem d_M_arrival_76 : decode b_M_arrival 76 = .ok (.iload_n 1, 1) := by decide +kernel
theorem d_M_arrival_77 : decode b_M_arrival 77 = .ok (.iaload, 1) := by decide +kernel
theorem d_M_arrival_78 : decode b_M_arrival 78 = .ok (.ireturn, 1) := by decide +kernel
theorem d_M_arrival_79 : decode b_M_arrival 79 = .ok (.iconst 0, 1) := by decide +kernel
theorem d_M_arrival_80 : decode b_M_arrival 80 = .ok (.istore_n 3, 1) := by decide +kernel
theorem d_M_arrival_81 : decode b_M_arrival 81 = .ok (.iconst 0, 1) := by decide +kernel
theorem d_M_arrival_82 : decode b_M_arrival 82 = .ok (.istore 4, 2) := by decide +kernel
theorem d_M_arrival_84 : decode b_M_arrival 84 = .ok (.iload 4, 2) := by decide +kernel
theorem d_M_arrival_86 : decode b_M_arrival 86 = .ok (.aload_n 0, 1) := by decide +kernel
theorem d_M_arrival_87 : decode b_M_arrival 87 = .ok (.getfield 85, 3) := by decide +kernel
theorem d_M_arrival_90 : decode b_M_arrival 90 = .ok (.if_icmp .ge 27, 3) := by decide +kernel
theorem d_M_arrival_93 : decode b_M_arrival 93 = .ok (.iload_n 3, 1) := by decide +kernel
theorem d_M_arrival_94 : decode b_M_arrival 94 = .ok (.aload_n 0, 1) := by decide +kernel
theorem d_M_arrival_95 : decode b_M_arrival 95 = .ok (.iload_n 1, 1) := by decide +kernel
theorem d_M_arrival_96 : decode b_M_arrival 96 = .ok (.iload 4, 2) := by decide +kernel
theorem d_M_arrival_98 : decode b_M_arrival 98 = .ok (.invokevirtual 105, 3) := by decide +kernel
theorem d_M_arrival_101 : decode b_M_arrival 101 = .ok (.ifCond .eq 7, 3) := by decide +kernel
theorem d_M_arrival_104 : decode b_M_arrival 104 = .ok (.iconst 1, 1) := by decide +kernel
theorem d_M_arrival_105 : decode b_M_arrival 105 = .ok (.goto 4, 3) := by decide +kernel
theorem d_M_arrival_108 : decode b_M_arrival 108 = .ok (.iconst 0, 1) := by decide +kernel
theorem d_M_arrival_109 : decode b_M_arrival 109 = .ok (.iadd, 1) := by decide +kernel
theorem d_M_arrival_110 : decode b_M_arrival 110 = .ok (.istore_n 3, 1) := by decide +kernel
theorem d_M_arrival_111 : decode b_M_arrival 111 = .ok (.iinc 4 1, 3) := by decide +kernel
theorem d_M_arrival_114 : decode b_M_arrival 114 = .ok (.goto (-30), 3) := by decide +kernel
theorem d_M_arrival_117 : decode b_M_arrival 117 = .ok (.iload_n 3, 1) := by decide +kernel
theorem d_M_arrival_118 : decode b_M_arrival 118 = .ok (.ireturn, 1) := by decide +kernel
theorem d_M_wanted_0 : decode b_M_wanted 0 = .ok (.aload_n 0, 1) := by decide +kernel
theorem d_M_wanted_1 : decode b_M_wanted 1 = .ok (.aload_n 0, 1) := by decide +kernel
theorem d_M_wanted_2 : decode b_M_wanted 2 = .ok (.iload_n 1, 1) := by decide +kernel
theorem d_M_wanted_3 : decode b_M_wanted 3 = .ok (.invokevirtual 88, 3) := by decide +kernel
theorem d_M_wanted_6 : decode b_M_wanted 6 = .ok (.ifCond .ne 7, 3) := by decide +kernel
theorem d_M_wanted_9 : decode b_M_wanted 9 = .ok (.iconst 1, 1) := by decide +kernel
theorem d_M_wanted_10 : decode b_M_wanted 10 = .ok (.goto 17, 3) := by decide +kernel
theorem d_M_wanted_13 : decode b_M_wanted 13 = .ok (.iload_n 2, 1) := by decide +kernel
theorem d_M_wanted_14 : decode b_M_wanted 14 = .ok (.iconst 0, 1) := by decide +kernel
theorem d_M_wanted_15 : decode b_M_wanted 15 = .ok (.iconst 3, 1) := by decide +kernel
theorem d_M_wanted_16 : decode b_M_wanted 16 = .ok (.invokestatic 81, 3) := by decide +kernel
theorem d_M_wanted_19 : decode b_M_wanted 19 = .ok (.ifCond .ne 7, 3) := by decide +kernel
theorem d_M_wanted_22 : decode b_M_wanted 22 = .ok (.iconst 2, 1) := by decide +kernel
theorem d_M_wanted_23 : decode b_M_wanted 23 = .ok (.goto 4, 3) := by decide +kernel
theorem d_M_wanted_26 : decode b_M_wanted 26 = .ok (.iconst 0, 1) := by decide +kernel
theorem d_M_wanted_27 : decode b_M_wanted 27 = .ok (.putfield 74, 3) := by decide +kernel
theorem d_M_wanted_30 : decode b_M_wanted 30 = .ok (.aload_n 0, 1) := by decide +kernel
theorem d_M_wanted_31 : decode b_M_wanted 31 = .ok (.getfield 74, 3) := by decide +kernel
theorem d_M_wanted_34 : decode b_M_wanted 34 = .ok (.ifCond .le 5, 3) := by decide +kernel
theorem d_M_wanted_37 : decode b_M_wanted 37 = .ok (.iconst 0, 1) := by decide +kernel
theorem d_M_wanted_38 : decode b_M_wanted 38 = .ok (.ireturn, 1) := by decide +kernel
theorem d_M_wanted_39 : decode b_M_wanted 39 = .ok (.iload_n 2, 1) := by decide +kernel
theorem d_M_wanted_40 : decode b_M_wanted 40 = .ok (.ifCond .ne 16, 3) := by decide +kernel
theorem d_M_wanted_43 : decode b_M_wanted 43 = .ok (.aload_n 0, 1) := by decide +kernel
theorem d_M_wanted_44 : decode b_M_wanted 44 = .ok (.getfield 28, 3) := by decide +kernel
theorem d_M_wanted_47 : decode b_M_wanted 47 = .ok (.iload_n 1, 1) := by decide +kernel
theorem d_M_wanted_48 : decode b_M_wanted 48 = .ok (.iaload, 1) := by decide +kernel
theorem d_M_wanted_49 : decode b_M_wanted 49 = .ok (.aload_n 0, 1) := by decide +kernel
theorem d_M_wanted_50 : decode b_M_wanted 50 = .ok (.iload_n 1, 1) := by decide +kernel
theorem d_M_wanted_51 : decode b_M_wanted 51 = .ok (.invokevirtual 153, 3) := by decide +kernel
theorem d_M_wanted_54 : decode b_M_wanted 54 = .ok (.isub, 1) := by decide +kernel
theorem d_M_wanted_55 : decode b_M_wanted 55 = .ok (.ireturn, 1) := by decide +kernel
theorem d_M_wanted_56 : decode b_M_wanted 56 = .ok (.iload_n 2, 1) := by decide +kernel
theorem d_M_wanted_57 : decode b_M_wanted 57 = .ok (.iconst 1, 1) := by decide +kernel
theorem d_M_wanted_58 : decode b_M_wanted 58 = .ok (.if_icmp .ne 10, 3) := by decide +kernel
theorem d_M_wanted_61 : decode b_M_wanted 61 = .ok (.aload_n 0, 1) := by decide +kernel
theorem d_M_wanted_62 : decode b_M_wanted 62 = .ok (.getfield 37, 3) := by decide +kernel
theorem d_M_wanted_65 : decode b_M_wanted 65 = .ok (.iload_n 1, 1) := by decide +kernel
theorem d_M_wanted_66 : decode b_M_wanted 66 = .ok (.iaload, 1) := by decide +kernel
theorem d_M_wanted_67 : decode b_M_wanted 67 = .ok (.ireturn, 1) := by decide +kernel
theorem d_M_wanted_68 : decode b_M_wanted 68 = .ok (.iload_n 2, 1) := by decide +kernel
theorem d_M_wanted_69 : decode b_M_wanted 69 = .ok (.iconst 2, 1) := by decide +kernel
theorem d_M_wanted_70 : decode b_M_wanted 70 = .ok (.if_icmp .ne 10, 3) := by decide +kernel
theorem d_M_wanted_73 : decode b_M_wanted 73 = .ok (.aload_n 0, 1) := by decide +kernel
theorem d_M_wanted_74 : decode b_M_wanted 74 = .ok (.iload_n 1, 1) := by decide +kernel
theorem d_M_wanted_75 : decode b_M_wanted 75 = .ok (.iconst 5, 1) := by decide +kernel
theorem d_M_wanted_76 : decode b_M_wanted 76 = .ok (.invokevirtual 160, 3) := by decide +kernel
theorem d_M_wanted_79 : decode b_M_wanted 79 = .ok (.ireturn, 1) := by decide +kernel
theorem d_M_wanted_80 : decode b_M_wanted 80 = .ok (.iconst 1, 1) := by decide +kernel
theorem d_M_wanted_81 : decode b_M_wanted 81 = .ok (.istore_n 3, 1) := by decide +kernel
theorem d_M_wanted_82 : decode b_M_wanted 82 = .ok (.iload_n 3, 1) := by decide +kernel
theorem d_M_wanted_83 : decode b_M_wanted 83 = .ok (.bipush 6, 2) := by decide +kernel
theorem d_M_wanted_85 : decode b_M_wanted 85 = .ok (.if_icmp .ge 20, 3) := by decide +kernel
theorem d_M_wanted_88 : decode b_M_wanted 88 = .ok (.aload_n 0, 1) := by decide +kernel
theorem d_M_wanted_89 : decode b_M_wanted 89 = .ok (.iload_n 1, 1) := by decide +kernel
theorem d_M_wanted_90 : decode b_M_wanted 90 = .ok (.iload_n 3, 1) := by decide +kernel
theorem d_M_wanted_91 : decode b_M_wanted 91 = .ok (.invokevirtual 160, 3) := by decide +kernel
theorem d_M_wanted_94 : decode b_M_wanted 94 = .ok (.ifCond .ne 5, 3) := by decide +kernel
theorem d_M_wanted_97 : decode b_M_wanted 97 = .ok (.iload_n 3, 1) := by decide +kernel
theorem d_M_wanted_98 : decode b_M_wanted 98 = .ok (.ireturn, 1) := by decide +kernel
theorem d_M_wanted_99 : decode b_M_wanted 99 = .ok (.iinc 3 1, 3) := by decide +kernel
theorem d_M_wanted_102 : decode b_M_wanted 102 = .ok (.goto (-20), 3) := by decide +kernel
theorem d_M_wanted_105 : decode b_M_wanted 105 = .ok (.iconst 0, 1) := by decide +kernel
theorem d_M_wanted_106 : decode b_M_wanted 106 = .ok (.ireturn, 1) := by decide +kernel
theorem d_M_passing_0 : decode b_M_passing 0 = .ok (.iconst 0, 1) := by decide +kernel
theorem d_M_passing_1 : decode b_M_passing 1 = .ok (.istore_n 3, 1) := by decide +kernel
theorem d_M_passing_2 : decode b_M_passing 2 = .ok (.iconst 0, 1) := by decide +kernel
theorem d_M_passing_3 : decode b_M_passing 3 = .ok (.istore 4, 2) := by decide +kernel
theorem d_M_passing_5 : decode b_M_passing 5 = .ok (.iload 4, 2) := by decide +kernel
theorem d_M_passing_7 : decode b_M_passing 7 = .ok (.aload_n 0, 1) := by decide +kernel
theorem d_M_passing_8 : decode b_M_passing 8 = .ok (.getfield 78, 3) := by decide +kernel
theorem d_M_passing_11 : decode b_M_passing 11 = .ok (.if_icmp .ge 28, 3) := by decide +kernel
theorem d_M_passing_14 : decode b_M_passing 14 = .ok (.iload_n 3, 1) := by decide +kernel
theorem d_M_passing_15 : decode b_M_passing 15 = .ok (.aload_n 0, 1) := by decide +kernel
theorem d_M_passing_16 : decode b_M_passing 16 = .ok (.iload 4, 2) := by decide +kernel
theorem d_M_passing_18 : decode b_M_passing 18 = .ok (.iload_n 1, 1) := by decide +kernel
theorem d_M_passing_19 : decode b_M_passing 19 = .ok (.iload_n 2, 1) := by decide +kernel
theorem d_M_passing_20 : decode b_M_passing 20 = .ok (.invokevirtual 102, 3) := by decide +kernel
theorem d_M_passing_23 : decode b_M_passing 23 = .ok (.ifCond .eq 7, 3) := by decide +kernel
theorem d_M_passing_26 : decode b_M_passing 26 = .ok (.iconst 1, 1) := by decide +kernel
theorem d_M_passing_27 : decode b_M_passing 27 = .ok (.goto 4, 3) := by decide +kernel
theorem d_M_passing_30 : decode b_M_passing 30 = .ok (.iconst 0, 1) := by decide +kernel
theorem d_M_passing_31 : decode b_M_passing 31 = .ok (.iadd, 1) := by decide +kernel
theorem d_M_passing_32 : decode b_M_passing 32 = .ok (.istore_n 3, 1) := by decide +kernel
theorem d_M_passing_33 : decode b_M_passing 33 = .ok (.iinc 4 1, 3) := by decide +kernel
theorem d_M_passing_36 : decode b_M_passing 36 = .ok (.goto (-31), 3) := by decide +kernel
end
section
theorem d_M_passing_39 : decode b_M_passing 39 = .ok (.iload_n 3, 1) := by decide +kernel
theorem d_M_passing_40 : decode b_M_passing 40 = .ok (.ireturn, 1) := by decide +kernel
theorem d_M_saved_0 : decode b_M_saved 0 = .ok (.aload_n 0, 1) := by decide +kernel
theorem d_M_saved_1 : decode b_M_saved 1 = .ok (.iconst 0, 1) := by decide +kernel
theorem d_M_saved_2 : decode b_M_saved 2 = .ok (.putfield 74, 3) := by decide +kernel
theorem d_M_saved_5 : decode b_M_saved 5 = .ok (.aload_n 0, 1) := by decide +kernel
theorem d_M_saved_6 : decode b_M_saved 6 = .ok (.invokevirtual 150, 3) := by decide +kernel
theorem d_M_saved_9 : decode b_M_saved 9 = .ok (.ireturn, 1) := by decide +kernel
theorem d_M_count_0 : decode b_M_count 0 = .ok (.aload_n 0, 1) := by decide +kernel
theorem d_M_count_1 : decode b_M_count 1 = .ok (.iconst 0, 1) := by decide +kernel
theorem d_M_count_2 : decode b_M_count 2 = .ok (.putfield 74, 3) := by decide +kernel
theorem d_M_count_5 : decode b_M_count 5 = .ok (.iload_n 1, 1) := by decide +kernel
theorem d_M_count_6 : decode b_M_count 6 = .ok (.ifCond .ne 8, 3) := by decide +kernel
theorem d_M_count_9 : decode b_M_count 9 = .ok (.aload_n 0, 1) := by decide +kernel
theorem d_M_count_10 : decode b_M_count 10 = .ok (.getfield 78, 3) := by decide +kernel
theorem d_M_count_13 : decode b_M_count 13 = .ok (.ireturn, 1) := by decide +kernel
theorem d_M_count_14 : decode b_M_count 14 = .ok (.iload_n 1, 1) := by decide +kernel
theorem d_M_count_15 : decode b_M_count 15 = .ok (.iconst 1, 1) := by decide +kernel
theorem d_M_count_16 : decode b_M_count 16 = .ok (.if_icmp .ne 8, 3) := by decide +kernel
theorem d_M_count_19 : decode b_M_count 19 = .ok (.aload_n 0, 1) := by decide +kernel
theorem d_M_count_20 : decode b_M_count 20 = .ok (.getfield 85, 3) := by decide +kernel
theorem d_M_count_23 : decode b_M_count 23 = .ok (.ireturn, 1) := by decide +kernel
theorem d_M_count_24 : decode b_M_count 24 = .ok (.iload_n 1, 1) := by decide +kernel
theorem d_M_count_25 : decode b_M_count 25 = .ok (.iconst 2, 1) := by decide +kernel
theorem d_M_count_26 : decode b_M_count 26 = .ok (.if_icmp .ne 8, 3) := by decide +kernel
theorem d_M_count_29 : decode b_M_count 29 = .ok (.aload_n 0, 1) := by decide +kernel
theorem d_M_count_30 : decode b_M_count 30 = .ok (.getfield 92, 3) := by decide +kernel
theorem d_M_count_33 : decode b_M_count 33 = .ok (.ireturn, 1) := by decide +kernel
theorem d_M_count_34 : decode b_M_count 34 = .ok (.iconst 0, 1) := by decide +kernel
theorem d_M_count_35 : decode b_M_count 35 = .ok (.istore_n 2, 1) := by decide +kernel
theorem d_M_count_36 : decode b_M_count 36 = .ok (.iconst 0, 1) := by decide +kernel
theorem d_M_count_37 : decode b_M_count 37 = .ok (.istore_n 3, 1) := by decide +kernel
theorem d_M_count_38 : decode b_M_count 38 = .ok (.iload_n 3, 1) := by decide +kernel
theorem d_M_count_39 : decode b_M_count 39 = .ok (.aload_n 0, 1) := by decide +kernel
theorem d_M_count_40 : decode b_M_count 40 = .ok (.getfield 92, 3) := by decide +kernel
theorem d_M_count_43 : decode b_M_count 43 = .ok (.if_icmp .ge 23, 3) := by decide +kernel
theorem d_M_count_46 : decode b_M_count 46 = .ok (.iload_n 1, 1) := by decide +kernel
theorem d_M_count_47 : decode b_M_count 47 = .ok (.iconst 3, 1) := by decide +kernel
theorem d_M_count_48 : decode b_M_count 48 = .ok (.if_icmp .ne 18, 3) := by decide +kernel
theorem d_M_count_51 : decode b_M_count 51 = .ok (.iload_n 2, 1) := by decide +kernel
theorem d_M_count_52 : decode b_M_count 52 = .ok (.aload_n 0, 1) := by decide +kernel
theorem d_M_count_53 : decode b_M_count 53 = .ok (.getfield 56, 3) := by decide +kernel
theorem d_M_count_56 : decode b_M_count 56 = .ok (.iload_n 3, 1) := by decide +kernel
theorem d_M_count_57 : decode b_M_count 57 = .ok (.iaload, 1) := by decide +kernel
theorem d_M_count_58 : decode b_M_count 58 = .ok (.iadd, 1) := by decide +kernel
theorem d_M_count_59 : decode b_M_count 59 = .ok (.istore_n 2, 1) := by decide +kernel
theorem d_M_count_60 : decode b_M_count 60 = .ok (.iinc 3 1, 3) := by decide +kernel
theorem d_M_count_63 : decode b_M_count 63 = .ok (.goto (-25), 3) := by decide +kernel
theorem d_M_count_66 : decode b_M_count 66 = .ok (.iconst 0, 1) := by decide +kernel
theorem d_M_count_67 : decode b_M_count 67 = .ok (.istore_n 3, 1) := by decide +kernel
theorem d_M_count_68 : decode b_M_count 68 = .ok (.iload_n 3, 1) := by decide +kernel
theorem d_M_count_69 : decode b_M_count 69 = .ok (.iconst 4, 1) := by decide +kernel
theorem d_M_count_70 : decode b_M_count 70 = .ok (.if_icmp .ge 31, 3) := by decide +kernel
theorem d_M_count_73 : decode b_M_count 73 = .ok (.iload_n 1, 1) := by decide +kernel
theorem d_M_count_74 : decode b_M_count 74 = .ok (.iconst 4, 1) := by decide +kernel
theorem d_M_count_75 : decode b_M_count 75 = .ok (.if_icmp .ne 26, 3) := by decide +kernel
theorem d_M_count_78 : decode b_M_count 78 = .ok (.iload_n 2, 1) := by decide +kernel
theorem d_M_count_79 : decode b_M_count 79 = .ok (.aload_n 0, 1) := by decide +kernel
theorem d_M_count_80 : decode b_M_count 80 = .ok (.getfield 47, 3) := by decide +kernel
theorem d_M_count_83 : decode b_M_count 83 = .ok (.iload_n 3, 1) := by decide +kernel
theorem d_M_count_84 : decode b_M_count 84 = .ok (.baload, 1) := by decide +kernel
theorem d_M_count_85 : decode b_M_count 85 = .ok (.ifCond .eq 7, 3) := by decide +kernel
theorem d_M_count_88 : decode b_M_count 88 = .ok (.iconst 1, 1) := by decide +kernel
theorem d_M_count_89 : decode b_M_count 89 = .ok (.goto 4, 3) := by decide +kernel
theorem d_M_count_92 : decode b_M_count 92 = .ok (.iconst 0, 1) := by decide +kernel
theorem d_M_count_93 : decode b_M_count 93 = .ok (.iadd, 1) := by decide +kernel
theorem d_M_count_94 : decode b_M_count 94 = .ok (.istore_n 2, 1) := by decide +kernel
theorem d_M_count_95 : decode b_M_count 95 = .ok (.iinc 3 1, 3) := by decide +kernel
theorem d_M_count_98 : decode b_M_count 98 = .ok (.goto (-30), 3) := by decide +kernel
theorem d_M_count_101 : decode b_M_count 101 = .ok (.iload_n 1, 1) := by decide +kernel
theorem d_M_count_102 : decode b_M_count 102 = .ok (.iconst 3, 1) := by decide +kernel
theorem d_M_count_103 : decode b_M_count 103 = .ok (.if_icmp .eq 8, 3) := by decide +kernel
theorem d_M_count_106 : decode b_M_count 106 = .ok (.iload_n 1, 1) := by decide +kernel
theorem d_M_count_107 : decode b_M_count 107 = .ok (.iconst 4, 1) := by decide +kernel
theorem d_M_count_108 : decode b_M_count 108 = .ok (.if_icmp .ne 7, 3) := by decide +kernel
theorem d_M_count_111 : decode b_M_count 111 = .ok (.iload_n 2, 1) := by decide +kernel
theorem d_M_count_112 : decode b_M_count 112 = .ok (.goto 4, 3) := by decide +kernel
theorem d_M_count_115 : decode b_M_count 115 = .ok (.iconst (-1), 1) := by decide +kernel
theorem d_M_count_116 : decode b_M_count 116 = .ok (.ireturn, 1) := by decide +kernel
end
section
abbrev b_L_law : ByteArray := code
theorem d_L_law_0 : decode b_L_law 0 = .ok (.new 8, 3) := by decide +kernel
theorem d_L_law_3 : decode b_L_law 3 = .ok (.dup, 1) := by decide +kernel
theorem d_L_law_4 : decode b_L_law 4 = .ok (.invokespecial 63, 3) := by decide +kernel
theorem d_L_law_7 : decode b_L_law 7 = .ok (.astore_n 1, 1) := by decide +kernel
theorem d_L_law_8 : decode b_L_law 8 = .ok (.new 64, 3) := by decide +kernel
theorem d_L_law_11 : decode b_L_law 11 = .ok (.dup, 1) := by decide +kernel
theorem d_L_law_12 : decode b_L_law 12 = .ok (.invokespecial 66, 3) := by decide +kernel
theorem d_L_law_15 : decode b_L_law 15 = .ok (.astore_n 2, 1) := by decide +kernel
theorem d_L_law_16 : decode b_L_law 16 = .ok (.iconst 1, 1) := by decide +kernel
theorem d_L_law_17 : decode b_L_law 17 = .ok (.newarray .long, 2) := by decide +kernel
theorem d_L_law_19 : decode b_L_law 19 = .ok (.astore_n 3, 1) := by decide +kernel
theorem d_L_law_20 : decode b_L_law 20 = .ok (.iconst 0, 1) := by decide +kernel
theorem d_L_law_21 : decode b_L_law 21 = .ok (.istore 4, 2) := by decide +kernel
theorem d_L_law_23 : decode b_L_law 23 = .ok (.iload 4, 2) := by decide +kernel
theorem d_L_law_25 : decode b_L_law 25 = .ok (.aload_n 0, 1) := by decide +kernel
theorem d_L_law_26 : decode b_L_law 26 = .ok (.arraylength, 1) := by decide +kernel
theorem d_L_law_27 : decode b_L_law 27 = .ok (.iconst 5, 1) := by decide +kernel
theorem d_L_law_28 : decode b_L_law 28 = .ok (.isub, 1) := by decide +kernel
theorem d_L_law_29 : decode b_L_law 29 = .ok (.if_icmp .gt 1109, 3) := by decide +kernel
theorem d_L_law_32 : decode b_L_law 32 = .ok (.aload_n 0, 1) := by decide +kernel
theorem d_L_law_33 : decode b_L_law 33 = .ok (.iload 4, 2) := by decide +kernel
theorem d_L_law_35 : decode b_L_law 35 = .ok (.iaload, 1) := by decide +kernel
theorem d_L_law_36 : decode b_L_law 36 = .ok (.bipush 31, 2) := by decide +kernel
theorem d_L_law_38 : decode b_L_law 38 = .ok (.iand, 1) := by decide +kernel
theorem d_L_law_39 : decode b_L_law 39 = .ok (.tableswitch 1093 0 17 #[85, 177, 269, 329, 377, 480, 564, 620, 633, 646, 659, 727, 783, 851, 919, 987, 1055, 1068], 85) := by decide +kernel
theorem d_L_law_124 : decode b_L_law 124 = .ok (.aload_n 1, 1) := by decide +kernel
theorem d_L_law_125 : decode b_L_law 125 = .ok (.aload_n 0, 1) := by decide +kernel
theorem d_L_law_126 : decode b_L_law 126 = .ok (.iload 4, 2) := by decide +kernel
theorem d_L_law_128 : decode b_L_law 128 = .ok (.iconst 1, 1) := by decide +kernel
theorem d_L_law_129 : decode b_L_law 129 = .ok (.iadd, 1) := by decide +kernel
theorem d_L_law_130 : decode b_L_law 130 = .ok (.iaload, 1) := by decide +kernel
theorem d_L_law_131 : decode b_L_law 131 = .ok (.aload_n 0, 1) := by decide +kernel
theorem d_L_law_132 : decode b_L_law 132 = .ok (.iload 4, 2) := by decide +kernel
theorem d_L_law_134 : decode b_L_law 134 = .ok (.iconst 2, 1) := by decide +kernel
theorem d_L_law_135 : decode b_L_law 135 = .ok (.iadd, 1) := by decide +kernel
theorem d_L_law_136 : decode b_L_law 136 = .ok (.iaload, 1) := by decide +kernel
theorem d_L_law_137 : decode b_L_law 137 = .ok (.aload_n 0, 1) := by decide +kernel
theorem d_L_law_138 : decode b_L_law 138 = .ok (.iload 4, 2) := by decide +kernel
theorem d_L_law_140 : decode b_L_law 140 = .ok (.iconst 3, 1) := by decide +kernel
theorem d_L_law_141 : decode b_L_law 141 = .ok (.iadd, 1) := by decide +kernel
theorem d_L_law_142 : decode b_L_law 142 = .ok (.iaload, 1) := by decide +kernel
theorem d_L_law_143 : decode b_L_law 143 = .ok (.aload_n 0, 1) := by decide +kernel
theorem d_L_law_144 : decode b_L_law 144 = .ok (.iload 4, 2) := by decide +kernel
theorem d_L_law_146 : decode b_L_law 146 = .ok (.iconst 4, 1) := by decide +kernel
theorem d_L_law_147 : decode b_L_law 147 = .ok (.iadd, 1) := by decide +kernel
theorem d_L_law_148 : decode b_L_law 148 = .ok (.iaload, 1) := by decide +kernel
theorem d_L_law_149 : decode b_L_law 149 = .ok (.aload_n 3, 1) := by decide +kernel
theorem d_L_law_150 : decode b_L_law 150 = .ok (.invokestatic 67, 3) := by decide +kernel
theorem d_L_law_153 : decode b_L_law 153 = .ok (.istore 5, 2) := by decide +kernel
theorem d_L_law_155 : decode b_L_law 155 = .ok (.aload_n 2, 1) := by decide +kernel
theorem d_L_law_156 : decode b_L_law 156 = .ok (.aload_n 0, 1) := by decide +kernel
theorem d_L_law_157 : decode b_L_law 157 = .ok (.iload 4, 2) := by decide +kernel
theorem d_L_law_159 : decode b_L_law 159 = .ok (.iconst 1, 1) := by decide +kernel
theorem d_L_law_160 : decode b_L_law 160 = .ok (.iadd, 1) := by decide +kernel
theorem d_L_law_161 : decode b_L_law 161 = .ok (.iaload, 1) := by decide +kernel
theorem d_L_law_162 : decode b_L_law 162 = .ok (.aload_n 0, 1) := by decide +kernel
theorem d_L_law_163 : decode b_L_law 163 = .ok (.iload 4, 2) := by decide +kernel
theorem d_L_law_165 : decode b_L_law 165 = .ok (.iconst 2, 1) := by decide +kernel
theorem d_L_law_166 : decode b_L_law 166 = .ok (.iadd, 1) := by decide +kernel
theorem d_L_law_167 : decode b_L_law 167 = .ok (.iaload, 1) := by decide +kernel
theorem d_L_law_168 : decode b_L_law 168 = .ok (.aload_n 0, 1) := by decide +kernel
theorem d_L_law_169 : decode b_L_law 169 = .ok (.iload 4, 2) := by decide +kernel
theorem d_L_law_171 : decode b_L_law 171 = .ok (.iconst 3, 1) := by decide +kernel
theorem d_L_law_172 : decode b_L_law 172 = .ok (.iadd, 1) := by decide +kernel
theorem d_L_law_173 : decode b_L_law 173 = .ok (.iaload, 1) := by decide +kernel
theorem d_L_law_174 : decode b_L_law 174 = .ok (.aload_n 0, 1) := by decide +kernel
theorem d_L_law_175 : decode b_L_law 175 = .ok (.iload 4, 2) := by decide +kernel
theorem d_L_law_177 : decode b_L_law 177 = .ok (.iconst 4, 1) := by decide +kernel
theorem d_L_law_178 : decode b_L_law 178 = .ok (.iadd, 1) := by decide +kernel
theorem d_L_law_179 : decode b_L_law 179 = .ok (.iaload, 1) := by decide +kernel
theorem d_L_law_180 : decode b_L_law 180 = .ok (.invokevirtual 72, 3) := by decide +kernel
theorem d_L_law_183 : decode b_L_law 183 = .ok (.istore 6, 2) := by decide +kernel
theorem d_L_law_185 : decode b_L_law 185 = .ok (.aload_n 2, 1) := by decide +kernel
theorem d_L_law_186 : decode b_L_law 186 = .ok (.invokevirtual 73, 3) := by decide +kernel
theorem d_L_law_189 : decode b_L_law 189 = .ok (.iload 5, 2) := by decide +kernel
theorem d_L_law_191 : decode b_L_law 191 = .ok (.if_icmp .eq 5, 3) := by decide +kernel
theorem d_L_law_194 : decode b_L_law 194 = .ok (.iconst 0, 1) := by decide +kernel
theorem d_L_law_195 : decode b_L_law 195 = .ok (.ireturn, 1) := by decide +kernel
theorem d_L_law_196 : decode b_L_law 196 = .ok (.iload 5, 2) := by decide +kernel
theorem d_L_law_198 : decode b_L_law 198 = .ok (.ifCond .ne 15, 3) := by decide +kernel
theorem d_L_law_201 : decode b_L_law 201 = .ok (.aload_n 3, 1) := by decide +kernel
theorem d_L_law_202 : decode b_L_law 202 = .ok (.iconst 0, 1) := by decide +kernel
theorem d_L_law_203 : decode b_L_law 203 = .ok (.laload, 1) := by decide +kernel
theorem d_L_law_204 : decode b_L_law 204 = .ok (.iload 6, 2) := by decide +kernel
theorem d_L_law_206 : decode b_L_law 206 = .ok (.i2l, 1) := by decide +kernel
theorem d_L_law_207 : decode b_L_law 207 = .ok (.lcmp, 1) := by decide +kernel
theorem d_L_law_208 : decode b_L_law 208 = .ok (.ifCond .eq 5, 3) := by decide +kernel
theorem d_L_law_211 : decode b_L_law 211 = .ok (.iconst 0, 1) := by decide +kernel
theorem d_L_law_212 : decode b_L_law 212 = .ok (.ireturn, 1) := by decide +kernel
theorem d_L_law_213 : decode b_L_law 213 = .ok (.goto 919, 3) := by decide +kernel
theorem d_L_law_216 : decode b_L_law 216 = .ok (.aload_n 1, 1) := by decide +kernel
theorem d_L_law_217 : decode b_L_law 217 = .ok (.aload_n 0, 1) := by decide +kernel
theorem d_L_law_218 : decode b_L_law 218 = .ok (.iload 4, 2) := by decide +kernel
theorem d_L_law_220 : decode b_L_law 220 = .ok (.iconst 1, 1) := by decide +kernel
theorem d_L_law_221 : decode b_L_law 221 = .ok (.iadd, 1) := by decide +kernel
theorem d_L_law_222 : decode b_L_law 222 = .ok (.iaload, 1) := by decide +kernel
theorem d_L_law_223 : decode b_L_law 223 = .ok (.aload_n 0, 1) := by decide +kernel
theorem d_L_law_224 : decode b_L_law 224 = .ok (.iload 4, 2) := by decide +kernel
theorem d_L_law_226 : decode b_L_law 226 = .ok (.iconst 2, 1) := by decide +kernel
theorem d_L_law_227 : decode b_L_law 227 = .ok (.iadd, 1) := by decide +kernel
theorem d_L_law_228 : decode b_L_law 228 = .ok (.iaload, 1) := by decide +kernel
theorem d_L_law_229 : decode b_L_law 229 = .ok (.aload_n 0, 1) := by decide +kernel
theorem d_L_law_230 : decode b_L_law 230 = .ok (.iload 4, 2) := by decide +kernel
theorem d_L_law_232 : decode b_L_law 232 = .ok (.iconst 3, 1) := by decide +kernel
theorem d_L_law_233 : decode b_L_law 233 = .ok (.iadd, 1) := by decide +kernel
theorem d_L_law_234 : decode b_L_law 234 = .ok (.iaload, 1) := by decide +kernel
theorem d_L_law_235 : decode b_L_law 235 = .ok (.aload_n 0, 1) := by decide +kernel
theorem d_L_law_236 : decode b_L_law 236 = .ok (.iload 4, 2) := by decide +kernel
theorem d_L_law_238 : decode b_L_law 238 = .ok (.iconst 4, 1) := by decide +kernel
theorem d_L_law_239 : decode b_L_law 239 = .ok (.iadd, 1) := by decide +kernel
theorem d_L_law_240 : decode b_L_law 240 = .ok (.iaload, 1) := by decide +kernel
theorem d_L_law_241 : decode b_L_law 241 = .ok (.aload_n 3, 1) := by decide +kernel
theorem d_L_law_242 : decode b_L_law 242 = .ok (.invokestatic 77, 3) := by decide +kernel
theorem d_L_law_245 : decode b_L_law 245 = .ok (.istore 5, 2) := by decide +kernel
theorem d_L_law_247 : decode b_L_law 247 = .ok (.aload_n 2, 1) := by decide +kernel
theorem d_L_law_248 : decode b_L_law 248 = .ok (.aload_n 0, 1) := by decide +kernel
theorem d_L_law_249 : decode b_L_law 249 = .ok (.iload 4, 2) := by decide +kernel
theorem d_L_law_251 : decode b_L_law 251 = .ok (.iconst 1, 1) := by decide +kernel
theorem d_L_law_252 : decode b_L_law 252 = .ok (.iadd, 1) := by decide +kernel
theorem d_L_law_253 : decode b_L_law 253 = .ok (.iaload, 1) := by decide +kernel
theorem d_L_law_254 : decode b_L_law 254 = .ok (.aload_n 0, 1) := by decide +kernel
theorem d_L_law_255 : decode b_L_law 255 = .ok (.iload 4, 2) := by decide +kernel
theorem d_L_law_257 : decode b_L_law 257 = .ok (.iconst 2, 1) := by decide +kernel
theorem d_L_law_258 : decode b_L_law 258 = .ok (.iadd, 1) := by decide +kernel
theorem d_L_law_259 : decode b_L_law 259 = .ok (.iaload, 1) := by decide +kernel
theorem d_L_law_260 : decode b_L_law 260 = .ok (.aload_n 0, 1) := by decide +kernel
theorem d_L_law_261 : decode b_L_law 261 = .ok (.iload 4, 2) := by decide +kernel
theorem d_L_law_263 : decode b_L_law 263 = .ok (.iconst 3, 1) := by decide +kernel
theorem d_L_law_264 : decode b_L_law 264 = .ok (.iadd, 1) := by decide +kernel
theorem d_L_law_265 : decode b_L_law 265 = .ok (.iaload, 1) := by decide +kernel
theorem d_L_law_266 : decode b_L_law 266 = .ok (.aload_n 0, 1) := by decide +kernel
theorem d_L_law_267 : decode b_L_law 267 = .ok (.iload 4, 2) := by decide +kernel
theorem d_L_law_269 : decode b_L_law 269 = .ok (.iconst 4, 1) := by decide +kernel
theorem d_L_law_270 : decode b_L_law 270 = .ok (.iadd, 1) := by decide +kernel
theorem d_L_law_271 : decode b_L_law 271 = .ok (.iaload, 1) := by decide +kernel
theorem d_L_law_272 : decode b_L_law 272 = .ok (.invokevirtual 79, 3) := by decide +kernel
theorem d_L_law_275 : decode b_L_law 275 = .ok (.istore 6, 2) := by decide +kernel
theorem d_L_law_277 : decode b_L_law 277 = .ok (.aload_n 2, 1) := by decide +kernel
theorem d_L_law_278 : decode b_L_law 278 = .ok (.invokevirtual 73, 3) := by decide +kernel
theorem d_L_law_281 : decode b_L_law 281 = .ok (.iload 5, 2) := by decide +kernel
theorem d_L_law_283 : decode b_L_law 283 = .ok (.if_icmp .eq 5, 3) := by decide +kernel
theorem d_L_law_286 : decode b_L_law 286 = .ok (.iconst 0, 1) := by decide +kernel
theorem d_L_law_287 : decode b_L_law 287 = .ok (.ireturn, 1) := by decide +kernel
theorem d_L_law_288 : decode b_L_law 288 = .ok (.iload 5, 2) := by decide +kernel
theorem d_L_law_290 : decode b_L_law 290 = .ok (.ifCond .ne 15, 3) := by decide +kernel
theorem d_L_law_293 : decode b_L_law 293 = .ok (.aload_n 3, 1) := by decide +kernel
theorem d_L_law_294 : decode b_L_law 294 = .ok (.iconst 0, 1) := by decide +kernel
theorem d_L_law_295 : decode b_L_law 295 = .ok (.laload, 1) := by decide +kernel
theorem d_L_law_296 : decode b_L_law 296 = .ok (.iload 6, 2) := by decide +kernel
theorem d_L_law_298 : decode b_L_law 298 = .ok (.i2l, 1) := by decide +kernel
theorem d_L_law_299 : decode b_L_law 299 = .ok (.lcmp, 1) := by decide +kernel
theorem d_L_law_300 : decode b_L_law 300 = .ok (.ifCond .eq 5, 3) := by decide +kernel
theorem d_L_law_303 : decode b_L_law 303 = .ok (.iconst 0, 1) := by decide +kernel
theorem d_L_law_304 : decode b_L_law 304 = .ok (.ireturn, 1) := by decide +kernel
theorem d_L_law_305 : decode b_L_law 305 = .ok (.goto 827, 3) := by decide +kernel
theorem d_L_law_308 : decode b_L_law 308 = .ok (.aload_n 1, 1) := by decide +kernel
theorem d_L_law_309 : decode b_L_law 309 = .ok (.aload_n 0, 1) := by decide +kernel
theorem d_L_law_310 : decode b_L_law 310 = .ok (.iload 4, 2) := by decide +kernel
theorem d_L_law_312 : decode b_L_law 312 = .ok (.iconst 1, 1) := by decide +kernel
theorem d_L_law_313 : decode b_L_law 313 = .ok (.iadd, 1) := by decide +kernel
theorem d_L_law_314 : decode b_L_law 314 = .ok (.iaload, 1) := by decide +kernel
theorem d_L_law_315 : decode b_L_law 315 = .ok (.aload_n 0, 1) := by decide +kernel
theorem d_L_law_316 : decode b_L_law 316 = .ok (.iload 4, 2) := by decide +kernel
theorem d_L_law_318 : decode b_L_law 318 = .ok (.iconst 2, 1) := by decide +kernel
theorem d_L_law_319 : decode b_L_law 319 = .ok (.iadd, 1) := by decide +kernel
theorem d_L_law_320 : decode b_L_law 320 = .ok (.iaload, 1) := by decide +kernel
theorem d_L_law_321 : decode b_L_law 321 = .ok (.aload_n 0, 1) := by decide +kernel
theorem d_L_law_322 : decode b_L_law 322 = .ok (.iload 4, 2) := by decide +kernel
theorem d_L_law_324 : decode b_L_law 324 = .ok (.iconst 3, 1) := by decide +kernel
theorem d_L_law_325 : decode b_L_law 325 = .ok (.iadd, 1) := by decide +kernel
theorem d_L_law_326 : decode b_L_law 326 = .ok (.iaload, 1) := by decide +kernel
theorem d_L_law_327 : decode b_L_law 327 = .ok (.invokestatic 80, 3) := by decide +kernel
theorem d_L_law_330 : decode b_L_law 330 = .ok (.istore 5, 2) := by decide +kernel
theorem d_L_law_332 : decode b_L_law 332 = .ok (.aload_n 2, 1) := by decide +kernel
theorem d_L_law_333 : decode b_L_law 333 = .ok (.aload_n 0, 1) := by decide +kernel
theorem d_L_law_334 : decode b_L_law 334 = .ok (.iload 4, 2) := by decide +kernel
theorem d_L_law_336 : decode b_L_law 336 = .ok (.iconst 1, 1) := by decide +kernel
theorem d_L_law_337 : decode b_L_law 337 = .ok (.iadd, 1) := by decide +kernel
theorem d_L_law_338 : decode b_L_law 338 = .ok (.iaload, 1) := by decide +kernel
theorem d_L_law_339 : decode b_L_law 339 = .ok (.aload_n 0, 1) := by decide +kernel
theorem d_L_law_340 : decode b_L_law 340 = .ok (.iload 4, 2) := by decide +kernel
theorem d_L_law_342 : decode b_L_law 342 = .ok (.iconst 2, 1) := by decide +kernel
theorem d_L_law_343 : decode b_L_law 343 = .ok (.iadd, 1) := by decide +kernel
theorem d_L_law_344 : decode b_L_law 344 = .ok (.iaload, 1) := by decide +kernel
theorem d_L_law_345 : decode b_L_law 345 = .ok (.aload_n 0, 1) := by decide +kernel
theorem d_L_law_346 : decode b_L_law 346 = .ok (.iload 4, 2) := by decide +kernel
theorem d_L_law_348 : decode b_L_law 348 = .ok (.iconst 3, 1) := by decide +kernel
theorem d_L_law_349 : decode b_L_law 349 = .ok (.iadd, 1) := by decide +kernel
theorem d_L_law_350 : decode b_L_law 350 = .ok (.iaload, 1) := by decide +kernel
theorem d_L_law_351 : decode b_L_law 351 = .ok (.invokevirtual 83, 3) := by decide +kernel
theorem d_L_law_354 : decode b_L_law 354 = .ok (.aload_n 2, 1) := by decide +kernel
theorem d_L_law_355 : decode b_L_law 355 = .ok (.invokevirtual 73, 3) := by decide +kernel
theorem d_L_law_358 : decode b_L_law 358 = .ok (.iload 5, 2) := by decide +kernel
theorem d_L_law_360 : decode b_L_law 360 = .ok (.if_icmp .eq 5, 3) := by decide +kernel
theorem d_L_law_363 : decode b_L_law 363 = .ok (.iconst 0, 1) := by decide +kernel
theorem d_L_law_364 : decode b_L_law 364 = .ok (.ireturn, 1) := by decide +kernel
theorem d_L_law_365 : decode b_L_law 365 = .ok (.goto 767, 3) := by decide +kernel
theorem d_L_law_368 : decode b_L_law 368 = .ok (.aload_n 1, 1) := by decide +kernel
theorem d_L_law_369 : decode b_L_law 369 = .ok (.aload_n 0, 1) := by decide +kernel
theorem d_L_law_370 : decode b_L_law 370 = .ok (.iload 4, 2) := by decide +kernel
theorem d_L_law_372 : decode b_L_law 372 = .ok (.iconst 1, 1) := by decide +kernel
theorem d_L_law_373 : decode b_L_law 373 = .ok (.iadd, 1) := by decide +kernel
theorem d_L_law_374 : decode b_L_law 374 = .ok (.iaload, 1) := by decide +kernel
theorem d_L_law_375 : decode b_L_law 375 = .ok (.aload_n 0, 1) := by decide +kernel
theorem d_L_law_376 : decode b_L_law 376 = .ok (.iload 4, 2) := by decide +kernel
theorem d_L_law_378 : decode b_L_law 378 = .ok (.iconst 2, 1) := by decide +kernel
theorem d_L_law_379 : decode b_L_law 379 = .ok (.iadd, 1) := by decide +kernel
theorem d_L_law_380 : decode b_L_law 380 = .ok (.iaload, 1) := by decide +kernel
theorem d_L_law_381 : decode b_L_law 381 = .ok (.invokestatic 84, 3) := by decide +kernel
theorem d_L_law_384 : decode b_L_law 384 = .ok (.istore 5, 2) := by decide +kernel
theorem d_L_law_386 : decode b_L_law 386 = .ok (.aload_n 2, 1) := by decide +kernel
theorem d_L_law_387 : decode b_L_law 387 = .ok (.aload_n 0, 1) := by decide +kernel
theorem d_L_law_388 : decode b_L_law 388 = .ok (.iload 4, 2) := by decide +kernel
theorem d_L_law_390 : decode b_L_law 390 = .ok (.iconst 1, 1) := by decide +kernel
theorem d_L_law_391 : decode b_L_law 391 = .ok (.iadd, 1) := by decide +kernel
theorem d_L_law_392 : decode b_L_law 392 = .ok (.iaload, 1) := by decide +kernel
theorem d_L_law_393 : decode b_L_law 393 = .ok (.aload_n 0, 1) := by decide +kernel
theorem d_L_law_394 : decode b_L_law 394 = .ok (.iload 4, 2) := by decide +kernel
theorem d_L_law_396 : decode b_L_law 396 = .ok (.iconst 2, 1) := by decide +kernel
theorem d_L_law_397 : decode b_L_law 397 = .ok (.iadd, 1) := by decide +kernel
theorem d_L_law_398 : decode b_L_law 398 = .ok (.iaload, 1) := by decide +kernel
theorem d_L_law_399 : decode b_L_law 399 = .ok (.invokevirtual 87, 3) := by decide +kernel
theorem d_L_law_402 : decode b_L_law 402 = .ok (.aload_n 2, 1) := by decide +kernel
theorem d_L_law_403 : decode b_L_law 403 = .ok (.invokevirtual 73, 3) := by decide +kernel
theorem d_L_law_406 : decode b_L_law 406 = .ok (.iload 5, 2) := by decide +kernel
theorem d_L_law_408 : decode b_L_law 408 = .ok (.if_icmp .eq 5, 3) := by decide +kernel
theorem d_L_law_411 : decode b_L_law 411 = .ok (.iconst 0, 1) := by decide +kernel
theorem d_L_law_412 : decode b_L_law 412 = .ok (.ireturn, 1) := by decide +kernel
theorem d_L_law_413 : decode b_L_law 413 = .ok (.goto 719, 3) := by decide +kernel
theorem d_L_law_416 : decode b_L_law 416 = .ok (.aload_n 1, 1) := by decide +kernel
theorem d_L_law_417 : decode b_L_law 417 = .ok (.aload_n 0, 1) := by decide +kernel
theorem d_L_law_418 : decode b_L_law 418 = .ok (.iload 4, 2) := by decide +kernel
theorem d_L_law_420 : decode b_L_law 420 = .ok (.iconst 1, 1) := by decide +kernel
theorem d_L_law_421 : decode b_L_law 421 = .ok (.iadd, 1) := by decide +kernel
theorem d_L_law_422 : decode b_L_law 422 = .ok (.iaload, 1) := by decide +kernel
theorem d_L_law_423 : decode b_L_law 423 = .ok (.aload_n 0, 1) := by decide +kernel
theorem d_L_law_424 : decode b_L_law 424 = .ok (.iload 4, 2) := by decide +kernel
theorem d_L_law_426 : decode b_L_law 426 = .ok (.iconst 2, 1) := by decide +kernel
theorem d_L_law_427 : decode b_L_law 427 = .ok (.iadd, 1) := by decide +kernel
theorem d_L_law_428 : decode b_L_law 428 = .ok (.iaload, 1) := by decide +kernel
theorem d_L_law_429 : decode b_L_law 429 = .ok (.aload_n 0, 1) := by decide +kernel
theorem d_L_law_430 : decode b_L_law 430 = .ok (.iload 4, 2) := by decide +kernel
theorem d_L_law_432 : decode b_L_law 432 = .ok (.iconst 3, 1) := by decide +kernel
theorem d_L_law_433 : decode b_L_law 433 = .ok (.iadd, 1) := by decide +kernel
theorem d_L_law_434 : decode b_L_law 434 = .ok (.iaload, 1) := by decide +kernel
theorem d_L_law_435 : decode b_L_law 435 = .ok (.ifCond .eq 7, 3) := by decide +kernel
theorem d_L_law_438 : decode b_L_law 438 = .ok (.iconst 1, 1) := by decide +kernel
theorem d_L_law_439 : decode b_L_law 439 = .ok (.goto 4, 3) := by decide +kernel
theorem d_L_law_442 : decode b_L_law 442 = .ok (.iconst 0, 1) := by decide +kernel
theorem d_L_law_443 : decode b_L_law 443 = .ok (.aload_n 3, 1) := by decide +kernel
theorem d_L_law_444 : decode b_L_law 444 = .ok (.invokestatic 88, 3) := by decide +kernel
theorem d_L_law_447 : decode b_L_law 447 = .ok (.istore 5, 2) := by decide +kernel
theorem d_L_law_449 : decode b_L_law 449 = .ok (.aload_n 2, 1) := by decide +kernel
theorem d_L_law_450 : decode b_L_law 450 = .ok (.aload_n 0, 1) := by decide +kernel
theorem d_L_law_451 : decode b_L_law 451 = .ok (.iload 4, 2) := by decide +kernel
theorem d_L_law_453 : decode b_L_law 453 = .ok (.iconst 1, 1) := by decide +kernel
theorem d_L_law_454 : decode b_L_law 454 = .ok (.iadd, 1) := by decide +kernel
theorem d_L_law_455 : decode b_L_law 455 = .ok (.iaload, 1) := by decide +kernel
theorem d_L_law_456 : decode b_L_law 456 = .ok (.aload_n 0, 1) := by decide +kernel
theorem d_L_law_457 : decode b_L_law 457 = .ok (.iload 4, 2) := by decide +kernel
theorem d_L_law_459 : decode b_L_law 459 = .ok (.iconst 2, 1) := by decide +kernel
theorem d_L_law_460 : decode b_L_law 460 = .ok (.iadd, 1) := by decide +kernel
theorem d_L_law_461 : decode b_L_law 461 = .ok (.iaload, 1) := by decide +kernel
theorem d_L_law_462 : decode b_L_law 462 = .ok (.aload_n 0, 1) := by decide +kernel
theorem d_L_law_463 : decode b_L_law 463 = .ok (.iload 4, 2) := by decide +kernel
theorem d_L_law_465 : decode b_L_law 465 = .ok (.iconst 3, 1) := by decide +kernel
theorem d_L_law_466 : decode b_L_law 466 = .ok (.iadd, 1) := by decide +kernel
theorem d_L_law_467 : decode b_L_law 467 = .ok (.iaload, 1) := by decide +kernel
theorem d_L_law_468 : decode b_L_law 468 = .ok (.ifCond .eq 7, 3) := by decide +kernel
theorem d_L_law_471 : decode b_L_law 471 = .ok (.iconst 1, 1) := by decide +kernel
theorem d_L_law_472 : decode b_L_law 472 = .ok (.goto 4, 3) := by decide +kernel
theorem d_L_law_475 : decode b_L_law 475 = .ok (.iconst 0, 1) := by decide +kernel
theorem d_L_law_476 : decode b_L_law 476 = .ok (.invokevirtual 91, 3) := by decide +kernel
theorem d_L_law_479 : decode b_L_law 479 = .ok (.istore 6, 2) := by decide +kernel
theorem d_L_law_481 : decode b_L_law 481 = .ok (.aload_n 2, 1) := by decide +kernel
theorem d_L_law_482 : decode b_L_law 482 = .ok (.invokevirtual 73, 3) := by decide +kernel
theorem d_L_law_485 : decode b_L_law 485 = .ok (.iload 5, 2) := by decide +kernel
theorem d_L_law_487 : decode b_L_law 487 = .ok (.if_icmp .eq 5, 3) := by decide +kernel
theorem d_L_law_490 : decode b_L_law 490 = .ok (.iconst 0, 1) := by decide +kernel
theorem d_L_law_491 : decode b_L_law 491 = .ok (.ireturn, 1) := by decide +kernel
theorem d_L_law_492 : decode b_L_law 492 = .ok (.iload 5, 2) := by decide +kernel
theorem d_L_law_494 : decode b_L_law 494 = .ok (.ifCond .ne 22, 3) := by decide +kernel
theorem d_L_law_497 : decode b_L_law 497 = .ok (.aload_n 3, 1) := by decide +kernel
theorem d_L_law_498 : decode b_L_law 498 = .ok (.iconst 0, 1) := by decide +kernel
theorem d_L_law_499 : decode b_L_law 499 = .ok (.laload, 1) := by decide +kernel
theorem d_L_law_500 : decode b_L_law 500 = .ok (.iload 6, 2) := by decide +kernel
theorem d_L_law_502 : decode b_L_law 502 = .ok (.ifCond .eq 7, 3) := by decide +kernel
theorem d_L_law_505 : decode b_L_law 505 = .ok (.lconst 1, 1) := by decide +kernel
theorem d_L_law_506 : decode b_L_law 506 = .ok (.goto 4, 3) := by decide +kernel
theorem d_L_law_509 : decode b_L_law 509 = .ok (.lconst 0, 1) := by decide +kernel
theorem d_L_law_510 : decode b_L_law 510 = .ok (.lcmp, 1) := by decide +kernel
theorem d_L_law_511 : decode b_L_law 511 = .ok (.ifCond .eq 5, 3) := by decide +kernel
theorem d_L_law_514 : decode b_L_law 514 = .ok (.iconst 0, 1) := by decide +kernel
theorem d_L_law_515 : decode b_L_law 515 = .ok (.ireturn, 1) := by decide +kernel
theorem d_L_law_516 : decode b_L_law 516 = .ok (.goto 616, 3) := by decide +kernel
theorem d_L_law_519 : decode b_L_law 519 = .ok (.aload_n 1, 1) := by decide +kernel
theorem d_L_law_520 : decode b_L_law 520 = .ok (.aload_n 0, 1) := by decide +kernel
theorem d_L_law_521 : decode b_L_law 521 = .ok (.iload 4, 2) := by decide +kernel
theorem d_L_law_523 : decode b_L_law 523 = .ok (.iconst 1, 1) := by decide +kernel
theorem d_L_law_524 : decode b_L_law 524 = .ok (.iadd, 1) := by decide +kernel
theorem d_L_law_525 : decode b_L_law 525 = .ok (.iaload, 1) := by decide +kernel
theorem d_L_law_526 : decode b_L_law 526 = .ok (.aload_n 0, 1) := by decide +kernel
theorem d_L_law_527 : decode b_L_law 527 = .ok (.iload 4, 2) := by decide +kernel
theorem d_L_law_529 : decode b_L_law 529 = .ok (.iconst 2, 1) := by decide +kernel
theorem d_L_law_530 : decode b_L_law 530 = .ok (.iadd, 1) := by decide +kernel
theorem d_L_law_531 : decode b_L_law 531 = .ok (.iaload, 1) := by decide +kernel
theorem d_L_law_532 : decode b_L_law 532 = .ok (.ifCond .eq 7, 3) := by decide +kernel
theorem d_L_law_535 : decode b_L_law 535 = .ok (.iconst 1, 1) := by decide +kernel
theorem d_L_law_536 : decode b_L_law 536 = .ok (.goto 4, 3) := by decide +kernel
theorem d_L_law_539 : decode b_L_law 539 = .ok (.iconst 0, 1) := by decide +kernel
theorem d_L_law_540 : decode b_L_law 540 = .ok (.aload_n 3, 1) := by decide +kernel
theorem d_L_law_541 : decode b_L_law 541 = .ok (.invokestatic 92, 3) := by decide +kernel
theorem d_L_law_544 : decode b_L_law 544 = .ok (.istore 5, 2) := by decide +kernel
theorem d_L_law_546 : decode b_L_law 546 = .ok (.aload_n 2, 1) := by decide +kernel
theorem d_L_law_547 : decode b_L_law 547 = .ok (.aload_n 0, 1) := by decide +kernel
theorem d_L_law_548 : decode b_L_law 548 = .ok (.iload 4, 2) := by decide +kernel
theorem d_L_law_550 : decode b_L_law 550 = .ok (.iconst 1, 1) := by decide +kernel
theorem d_L_law_551 : decode b_L_law 551 = .ok (.iadd, 1) := by decide +kernel
theorem d_L_law_552 : decode b_L_law 552 = .ok (.iaload, 1) := by decide +kernel
theorem d_L_law_553 : decode b_L_law 553 = .ok (.aload_n 0, 1) := by decide +kernel
theorem d_L_law_554 : decode b_L_law 554 = .ok (.iload 4, 2) := by decide +kernel
theorem d_L_law_556 : decode b_L_law 556 = .ok (.iconst 2, 1) := by decide +kernel
theorem d_L_law_557 : decode b_L_law 557 = .ok (.iadd, 1) := by decide +kernel
theorem d_L_law_558 : decode b_L_law 558 = .ok (.iaload, 1) := by decide +kernel
theorem d_L_law_559 : decode b_L_law 559 = .ok (.ifCond .eq 7, 3) := by decide +kernel
theorem d_L_law_562 : decode b_L_law 562 = .ok (.iconst 1, 1) := by decide +kernel
theorem d_L_law_563 : decode b_L_law 563 = .ok (.goto 4, 3) := by decide +kernel
theorem d_L_law_566 : decode b_L_law 566 = .ok (.iconst 0, 1) := by decide +kernel
theorem d_L_law_567 : decode b_L_law 567 = .ok (.invokevirtual 95, 3) := by decide +kernel
theorem d_L_law_570 : decode b_L_law 570 = .ok (.istore 6, 2) := by decide +kernel
theorem d_L_law_572 : decode b_L_law 572 = .ok (.aload_n 2, 1) := by decide +kernel
theorem d_L_law_573 : decode b_L_law 573 = .ok (.invokevirtual 73, 3) := by decide +kernel
theorem d_L_law_576 : decode b_L_law 576 = .ok (.iload 5, 2) := by decide +kernel
theorem d_L_law_578 : decode b_L_law 578 = .ok (.if_icmp .eq 5, 3) := by decide +kernel
theorem d_L_law_581 : decode b_L_law 581 = .ok (.iconst 0, 1) := by decide +kernel
theorem d_L_law_582 : decode b_L_law 582 = .ok (.ireturn, 1) := by decide +kernel
theorem d_L_law_583 : decode b_L_law 583 = .ok (.iload 5, 2) := by decide +kernel
theorem d_L_law_585 : decode b_L_law 585 = .ok (.ifCond .ne 15, 3) := by decide +kernel
theorem d_L_law_588 : decode b_L_law 588 = .ok (.aload_n 3, 1) := by decide +kernel
theorem d_L_law_589 : decode b_L_law 589 = .ok (.iconst 0, 1) := by decide +kernel
theorem d_L_law_590 : decode b_L_law 590 = .ok (.laload, 1) := by decide +kernel
theorem d_L_law_591 : decode b_L_law 591 = .ok (.iload 6, 2) := by decide +kernel
theorem d_L_law_593 : decode b_L_law 593 = .ok (.i2l, 1) := by decide +kernel
theorem d_L_law_594 : decode b_L_law 594 = .ok (.lcmp, 1) := by decide +kernel
theorem d_L_law_595 : decode b_L_law 595 = .ok (.ifCond .eq 5, 3) := by decide +kernel
theorem d_L_law_598 : decode b_L_law 598 = .ok (.iconst 0, 1) := by decide +kernel
theorem d_L_law_599 : decode b_L_law 599 = .ok (.ireturn, 1) := by decide +kernel
theorem d_L_law_600 : decode b_L_law 600 = .ok (.goto 532, 3) := by decide +kernel
theorem d_L_law_603 : decode b_L_law 603 = .ok (.aload_n 1, 1) := by decide +kernel
end
section
theorem d_L_law_604 : decode b_L_law 604 = .ok (.aload_n 0, 1) := by decide +kernel
theorem d_L_law_605 : decode b_L_law 605 = .ok (.iload 4, 2) := by decide +kernel
theorem d_L_law_607 : decode b_L_law 607 = .ok (.iconst 1, 1) := by decide +kernel
theorem d_L_law_608 : decode b_L_law 608 = .ok (.iadd, 1) := by decide +kernel
theorem d_L_law_609 : decode b_L_law 609 = .ok (.iaload, 1) := by decide +kernel
theorem d_L_law_610 : decode b_L_law 610 = .ok (.aload_n 3, 1) := by decide +kernel
theorem d_L_law_611 : decode b_L_law 611 = .ok (.invokestatic 96, 3) := by decide +kernel
theorem d_L_law_614 : decode b_L_law 614 = .ok (.istore 5, 2) := by decide +kernel
theorem d_L_law_616 : decode b_L_law 616 = .ok (.aload_n 2, 1) := by decide +kernel
theorem d_L_law_617 : decode b_L_law 617 = .ok (.aload_n 0, 1) := by decide +kernel
theorem d_L_law_618 : decode b_L_law 618 = .ok (.iload 4, 2) := by decide +kernel
theorem d_L_law_620 : decode b_L_law 620 = .ok (.iconst 1, 1) := by decide +kernel
theorem d_L_law_621 : decode b_L_law 621 = .ok (.iadd, 1) := by decide +kernel
theorem d_L_law_622 : decode b_L_law 622 = .ok (.iaload, 1) := by decide +kernel
theorem d_L_law_623 : decode b_L_law 623 = .ok (.invokevirtual 99, 3) := by decide +kernel
theorem d_L_law_626 : decode b_L_law 626 = .ok (.istore 6, 2) := by decide +kernel
theorem d_L_law_628 : decode b_L_law 628 = .ok (.aload_n 2, 1) := by decide +kernel
theorem d_L_law_629 : decode b_L_law 629 = .ok (.invokevirtual 73, 3) := by decide +kernel
theorem d_L_law_632 : decode b_L_law 632 = .ok (.iload 5, 2) := by decide +kernel
theorem d_L_law_634 : decode b_L_law 634 = .ok (.if_icmp .eq 5, 3) := by decide +kernel
theorem d_L_law_637 : decode b_L_law 637 = .ok (.iconst 0, 1) := by decide +kernel
theorem d_L_law_638 : decode b_L_law 638 = .ok (.ireturn, 1) := by decide +kernel
theorem d_L_law_639 : decode b_L_law 639 = .ok (.iload 5, 2) := by decide +kernel
theorem d_L_law_641 : decode b_L_law 641 = .ok (.ifCond .ne 15, 3) := by decide +kernel
theorem d_L_law_644 : decode b_L_law 644 = .ok (.aload_n 3, 1) := by decide +kernel
theorem d_L_law_645 : decode b_L_law 645 = .ok (.iconst 0, 1) := by decide +kernel
theorem d_L_law_646 : decode b_L_law 646 = .ok (.laload, 1) := by decide +kernel
theorem d_L_law_647 : decode b_L_law 647 = .ok (.iload 6, 2) := by decide +kernel
theorem d_L_law_649 : decode b_L_law 649 = .ok (.i2l, 1) := by decide +kernel
theorem d_L_law_650 : decode b_L_law 650 = .ok (.lcmp, 1) := by decide +kernel
theorem d_L_law_651 : decode b_L_law 651 = .ok (.ifCond .eq 5, 3) := by decide +kernel
theorem d_L_law_654 : decode b_L_law 654 = .ok (.iconst 0, 1) := by decide +kernel
theorem d_L_law_655 : decode b_L_law 655 = .ok (.ireturn, 1) := by decide +kernel
theorem d_L_law_656 : decode b_L_law 656 = .ok (.goto 476, 3) := by decide +kernel
theorem d_L_law_659 : decode b_L_law 659 = .ok (.aload_n 1, 1) := by decide +kernel
theorem d_L_law_660 : decode b_L_law 660 = .ok (.invokevirtual 100, 3) := by decide +kernel
theorem d_L_law_663 : decode b_L_law 663 = .ok (.aload_n 2, 1) := by decide +kernel
theorem d_L_law_664 : decode b_L_law 664 = .ok (.invokevirtual 104, 3) := by decide +kernel
theorem d_L_law_667 : decode b_L_law 667 = .ok (.if_icmp .eq 465, 3) := by decide +kernel
theorem d_L_law_670 : decode b_L_law 670 = .ok (.iconst 0, 1) := by decide +kernel
theorem d_L_law_671 : decode b_L_law 671 = .ok (.ireturn, 1) := by decide +kernel
theorem d_L_law_672 : decode b_L_law 672 = .ok (.aload_n 1, 1) := by decide +kernel
theorem d_L_law_673 : decode b_L_law 673 = .ok (.invokevirtual 105, 3) := by decide +kernel
theorem d_L_law_676 : decode b_L_law 676 = .ok (.aload_n 2, 1) := by decide +kernel
theorem d_L_law_677 : decode b_L_law 677 = .ok (.invokevirtual 108, 3) := by decide +kernel
theorem d_L_law_680 : decode b_L_law 680 = .ok (.if_icmp .eq 452, 3) := by decide +kernel
theorem d_L_law_683 : decode b_L_law 683 = .ok (.iconst 0, 1) := by decide +kernel
theorem d_L_law_684 : decode b_L_law 684 = .ok (.ireturn, 1) := by decide +kernel
theorem d_L_law_685 : decode b_L_law 685 = .ok (.aload_n 1, 1) := by decide +kernel
theorem d_L_law_686 : decode b_L_law 686 = .ok (.invokevirtual 109, 3) := by decide +kernel
theorem d_L_law_689 : decode b_L_law 689 = .ok (.aload_n 2, 1) := by decide +kernel
theorem d_L_law_690 : decode b_L_law 690 = .ok (.invokevirtual 112, 3) := by decide +kernel
theorem d_L_law_693 : decode b_L_law 693 = .ok (.if_icmp .eq 439, 3) := by decide +kernel
theorem d_L_law_696 : decode b_L_law 696 = .ok (.iconst 0, 1) := by decide +kernel
theorem d_L_law_697 : decode b_L_law 697 = .ok (.ireturn, 1) := by decide +kernel
theorem d_L_law_698 : decode b_L_law 698 = .ok (.aload_n 1, 1) := by decide +kernel
theorem d_L_law_699 : decode b_L_law 699 = .ok (.aload_n 0, 1) := by decide +kernel
theorem d_L_law_700 : decode b_L_law 700 = .ok (.iload 4, 2) := by decide +kernel
theorem d_L_law_702 : decode b_L_law 702 = .ok (.iconst 1, 1) := by decide +kernel
theorem d_L_law_703 : decode b_L_law 703 = .ok (.iadd, 1) := by decide +kernel
theorem d_L_law_704 : decode b_L_law 704 = .ok (.iaload, 1) := by decide +kernel
theorem d_L_law_705 : decode b_L_law 705 = .ok (.aload_n 0, 1) := by decide +kernel
theorem d_L_law_706 : decode b_L_law 706 = .ok (.iload 4, 2) := by decide +kernel
theorem d_L_law_708 : decode b_L_law 708 = .ok (.iconst 2, 1) := by decide +kernel
theorem d_L_law_709 : decode b_L_law 709 = .ok (.iadd, 1) := by decide +kernel
theorem d_L_law_710 : decode b_L_law 710 = .ok (.iaload, 1) := by decide +kernel
theorem d_L_law_711 : decode b_L_law 711 = .ok (.aload_n 3, 1) := by decide +kernel
theorem d_L_law_712 : decode b_L_law 712 = .ok (.invokestatic 113, 3) := by decide +kernel
theorem d_L_law_715 : decode b_L_law 715 = .ok (.istore 5, 2) := by decide +kernel
theorem d_L_law_717 : decode b_L_law 717 = .ok (.aload_n 2, 1) := by decide +kernel
theorem d_L_law_718 : decode b_L_law 718 = .ok (.aload_n 0, 1) := by decide +kernel
theorem d_L_law_719 : decode b_L_law 719 = .ok (.iload 4, 2) := by decide +kernel
theorem d_L_law_721 : decode b_L_law 721 = .ok (.iconst 1, 1) := by decide +kernel
theorem d_L_law_722 : decode b_L_law 722 = .ok (.iadd, 1) := by decide +kernel
theorem d_L_law_723 : decode b_L_law 723 = .ok (.iaload, 1) := by decide +kernel
theorem d_L_law_724 : decode b_L_law 724 = .ok (.aload_n 0, 1) := by decide +kernel
theorem d_L_law_725 : decode b_L_law 725 = .ok (.iload 4, 2) := by decide +kernel
theorem d_L_law_727 : decode b_L_law 727 = .ok (.iconst 2, 1) := by decide +kernel
theorem d_L_law_728 : decode b_L_law 728 = .ok (.iadd, 1) := by decide +kernel
theorem d_L_law_729 : decode b_L_law 729 = .ok (.iaload, 1) := by decide +kernel
theorem d_L_law_730 : decode b_L_law 730 = .ok (.invokevirtual 116, 3) := by decide +kernel
theorem d_L_law_733 : decode b_L_law 733 = .ok (.istore 6, 2) := by decide +kernel
theorem d_L_law_735 : decode b_L_law 735 = .ok (.aload_n 2, 1) := by decide +kernel
theorem d_L_law_736 : decode b_L_law 736 = .ok (.invokevirtual 73, 3) := by decide +kernel
theorem d_L_law_739 : decode b_L_law 739 = .ok (.iload 5, 2) := by decide +kernel
theorem d_L_law_741 : decode b_L_law 741 = .ok (.if_icmp .eq 5, 3) := by decide +kernel
theorem d_L_law_744 : decode b_L_law 744 = .ok (.iconst 0, 1) := by decide +kernel
theorem d_L_law_745 : decode b_L_law 745 = .ok (.ireturn, 1) := by decide +kernel
theorem d_L_law_746 : decode b_L_law 746 = .ok (.iload 5, 2) := by decide +kernel
theorem d_L_law_748 : decode b_L_law 748 = .ok (.ifCond .ne 15, 3) := by decide +kernel
theorem d_L_law_751 : decode b_L_law 751 = .ok (.aload_n 3, 1) := by decide +kernel
theorem d_L_law_752 : decode b_L_law 752 = .ok (.iconst 0, 1) := by decide +kernel
theorem d_L_law_753 : decode b_L_law 753 = .ok (.laload, 1) := by decide +kernel
theorem d_L_law_754 : decode b_L_law 754 = .ok (.iload 6, 2) := by decide +kernel
theorem d_L_law_756 : decode b_L_law 756 = .ok (.i2l, 1) := by decide +kernel
theorem d_L_law_757 : decode b_L_law 757 = .ok (.lcmp, 1) := by decide +kernel
theorem d_L_law_758 : decode b_L_law 758 = .ok (.ifCond .eq 5, 3) := by decide +kernel
theorem d_L_law_761 : decode b_L_law 761 = .ok (.iconst 0, 1) := by decide +kernel
theorem d_L_law_762 : decode b_L_law 762 = .ok (.ireturn, 1) := by decide +kernel
theorem d_L_law_763 : decode b_L_law 763 = .ok (.goto 369, 3) := by decide +kernel
theorem d_L_law_766 : decode b_L_law 766 = .ok (.aload_n 1, 1) := by decide +kernel
theorem d_L_law_767 : decode b_L_law 767 = .ok (.aload_n 0, 1) := by decide +kernel
theorem d_L_law_768 : decode b_L_law 768 = .ok (.iload 4, 2) := by decide +kernel
theorem d_L_law_770 : decode b_L_law 770 = .ok (.iconst 1, 1) := by decide +kernel
theorem d_L_law_771 : decode b_L_law 771 = .ok (.iadd, 1) := by decide +kernel
theorem d_L_law_772 : decode b_L_law 772 = .ok (.iaload, 1) := by decide +kernel
theorem d_L_law_773 : decode b_L_law 773 = .ok (.aload_n 3, 1) := by decide +kernel
theorem d_L_law_774 : decode b_L_law 774 = .ok (.invokestatic 117, 3) := by decide +kernel
theorem d_L_law_777 : decode b_L_law 777 = .ok (.istore 5, 2) := by decide +kernel
theorem d_L_law_779 : decode b_L_law 779 = .ok (.aload_n 2, 1) := by decide +kernel
theorem d_L_law_780 : decode b_L_law 780 = .ok (.aload_n 0, 1) := by decide +kernel
theorem d_L_law_781 : decode b_L_law 781 = .ok (.iload 4, 2) := by decide +kernel
theorem d_L_law_783 : decode b_L_law 783 = .ok (.iconst 1, 1) := by decide +kernel
theorem d_L_law_784 : decode b_L_law 784 = .ok (.iadd, 1) := by decide +kernel
theorem d_L_law_785 : decode b_L_law 785 = .ok (.iaload, 1) := by decide +kernel
theorem d_L_law_786 : decode b_L_law 786 = .ok (.invokevirtual 119, 3) := by decide +kernel
theorem d_L_law_789 : decode b_L_law 789 = .ok (.istore 6, 2) := by decide +kernel
theorem d_L_law_791 : decode b_L_law 791 = .ok (.aload_n 2, 1) := by decide +kernel
theorem d_L_law_792 : decode b_L_law 792 = .ok (.invokevirtual 73, 3) := by decide +kernel
theorem d_L_law_795 : decode b_L_law 795 = .ok (.iload 5, 2) := by decide +kernel
theorem d_L_law_797 : decode b_L_law 797 = .ok (.if_icmp .eq 5, 3) := by decide +kernel
theorem d_L_law_800 : decode b_L_law 800 = .ok (.iconst 0, 1) := by decide +kernel
theorem d_L_law_801 : decode b_L_law 801 = .ok (.ireturn, 1) := by decide +kernel
theorem d_L_law_802 : decode b_L_law 802 = .ok (.iload 5, 2) := by decide +kernel
theorem d_L_law_804 : decode b_L_law 804 = .ok (.ifCond .ne 15, 3) := by decide +kernel
theorem d_L_law_807 : decode b_L_law 807 = .ok (.aload_n 3, 1) := by decide +kernel
theorem d_L_law_808 : decode b_L_law 808 = .ok (.iconst 0, 1) := by decide +kernel
theorem d_L_law_809 : decode b_L_law 809 = .ok (.laload, 1) := by decide +kernel
theorem d_L_law_810 : decode b_L_law 810 = .ok (.iload 6, 2) := by decide +kernel
theorem d_L_law_812 : decode b_L_law 812 = .ok (.i2l, 1) := by decide +kernel
theorem d_L_law_813 : decode b_L_law 813 = .ok (.lcmp, 1) := by decide +kernel
theorem d_L_law_814 : decode b_L_law 814 = .ok (.ifCond .eq 5, 3) := by decide +kernel
theorem d_L_law_817 : decode b_L_law 817 = .ok (.iconst 0, 1) := by decide +kernel
theorem d_L_law_818 : decode b_L_law 818 = .ok (.ireturn, 1) := by decide +kernel
theorem d_L_law_819 : decode b_L_law 819 = .ok (.goto 313, 3) := by decide +kernel
theorem d_L_law_822 : decode b_L_law 822 = .ok (.aload_n 1, 1) := by decide +kernel
theorem d_L_law_823 : decode b_L_law 823 = .ok (.aload_n 0, 1) := by decide +kernel
theorem d_L_law_824 : decode b_L_law 824 = .ok (.iload 4, 2) := by decide +kernel
theorem d_L_law_826 : decode b_L_law 826 = .ok (.iconst 1, 1) := by decide +kernel
theorem d_L_law_827 : decode b_L_law 827 = .ok (.iadd, 1) := by decide +kernel
theorem d_L_law_828 : decode b_L_law 828 = .ok (.iaload, 1) := by decide +kernel
theorem d_L_law_829 : decode b_L_law 829 = .ok (.aload_n 0, 1) := by decide +kernel
theorem d_L_law_830 : decode b_L_law 830 = .ok (.iload 4, 2) := by decide +kernel
theorem d_L_law_832 : decode b_L_law 832 = .ok (.iconst 2, 1) := by decide +kernel
theorem d_L_law_833 : decode b_L_law 833 = .ok (.iadd, 1) := by decide +kernel
theorem d_L_law_834 : decode b_L_law 834 = .ok (.iaload, 1) := by decide +kernel
theorem d_L_law_835 : decode b_L_law 835 = .ok (.aload_n 3, 1) := by decide +kernel
theorem d_L_law_836 : decode b_L_law 836 = .ok (.invokestatic 120, 3) := by decide +kernel
theorem d_L_law_839 : decode b_L_law 839 = .ok (.istore 5, 2) := by decide +kernel
theorem d_L_law_841 : decode b_L_law 841 = .ok (.aload_n 2, 1) := by decide +kernel
theorem d_L_law_842 : decode b_L_law 842 = .ok (.aload_n 0, 1) := by decide +kernel
theorem d_L_law_843 : decode b_L_law 843 = .ok (.iload 4, 2) := by decide +kernel
theorem d_L_law_845 : decode b_L_law 845 = .ok (.iconst 1, 1) := by decide +kernel
theorem d_L_law_846 : decode b_L_law 846 = .ok (.iadd, 1) := by decide +kernel
theorem d_L_law_847 : decode b_L_law 847 = .ok (.iaload, 1) := by decide +kernel
theorem d_L_law_848 : decode b_L_law 848 = .ok (.aload_n 0, 1) := by decide +kernel
theorem d_L_law_849 : decode b_L_law 849 = .ok (.iload 4, 2) := by decide +kernel
theorem d_L_law_851 : decode b_L_law 851 = .ok (.iconst 2, 1) := by decide +kernel
theorem d_L_law_852 : decode b_L_law 852 = .ok (.iadd, 1) := by decide +kernel
theorem d_L_law_853 : decode b_L_law 853 = .ok (.iaload, 1) := by decide +kernel
theorem d_L_law_854 : decode b_L_law 854 = .ok (.invokevirtual 122, 3) := by decide +kernel
theorem d_L_law_857 : decode b_L_law 857 = .ok (.istore 6, 2) := by decide +kernel
theorem d_L_law_859 : decode b_L_law 859 = .ok (.aload_n 2, 1) := by decide +kernel
theorem d_L_law_860 : decode b_L_law 860 = .ok (.invokevirtual 73, 3) := by decide +kernel
theorem d_L_law_863 : decode b_L_law 863 = .ok (.iload 5, 2) := by decide +kernel
theorem d_L_law_865 : decode b_L_law 865 = .ok (.if_icmp .eq 5, 3) := by decide +kernel
theorem d_L_law_868 : decode b_L_law 868 = .ok (.iconst 0, 1) := by decide +kernel
theorem d_L_law_869 : decode b_L_law 869 = .ok (.ireturn, 1) := by decide +kernel
theorem d_L_law_870 : decode b_L_law 870 = .ok (.iload 5, 2) := by decide +kernel
theorem d_L_law_872 : decode b_L_law 872 = .ok (.ifCond .ne 15, 3) := by decide +kernel
theorem d_L_law_875 : decode b_L_law 875 = .ok (.aload_n 3, 1) := by decide +kernel
theorem d_L_law_876 : decode b_L_law 876 = .ok (.iconst 0, 1) := by decide +kernel
theorem d_L_law_877 : decode b_L_law 877 = .ok (.laload, 1) := by decide +kernel
theorem d_L_law_878 : decode b_L_law 878 = .ok (.iload 6, 2) := by decide +kernel
theorem d_L_law_880 : decode b_L_law 880 = .ok (.i2l, 1) := by decide +kernel
theorem d_L_law_881 : decode b_L_law 881 = .ok (.lcmp, 1) := by decide +kernel
theorem d_L_law_882 : decode b_L_law 882 = .ok (.ifCond .eq 5, 3) := by decide +kernel
theorem d_L_law_885 : decode b_L_law 885 = .ok (.iconst 0, 1) := by decide +kernel
theorem d_L_law_886 : decode b_L_law 886 = .ok (.ireturn, 1) := by decide +kernel
theorem d_L_law_887 : decode b_L_law 887 = .ok (.goto 245, 3) := by decide +kernel
theorem d_L_law_890 : decode b_L_law 890 = .ok (.aload_n 1, 1) := by decide +kernel
theorem d_L_law_891 : decode b_L_law 891 = .ok (.aload_n 0, 1) := by decide +kernel
theorem d_L_law_892 : decode b_L_law 892 = .ok (.iload 4, 2) := by decide +kernel
theorem d_L_law_894 : decode b_L_law 894 = .ok (.iconst 1, 1) := by decide +kernel
theorem d_L_law_895 : decode b_L_law 895 = .ok (.iadd, 1) := by decide +kernel
theorem d_L_law_896 : decode b_L_law 896 = .ok (.iaload, 1) := by decide +kernel
theorem d_L_law_897 : decode b_L_law 897 = .ok (.aload_n 0, 1) := by decide +kernel
theorem d_L_law_898 : decode b_L_law 898 = .ok (.iload 4, 2) := by decide +kernel
theorem d_L_law_900 : decode b_L_law 900 = .ok (.iconst 2, 1) := by decide +kernel
theorem d_L_law_901 : decode b_L_law 901 = .ok (.iadd, 1) := by decide +kernel
theorem d_L_law_902 : decode b_L_law 902 = .ok (.iaload, 1) := by decide +kernel
theorem d_L_law_903 : decode b_L_law 903 = .ok (.aload_n 3, 1) := by decide +kernel
theorem d_L_law_904 : decode b_L_law 904 = .ok (.invokestatic 123, 3) := by decide +kernel
theorem d_L_law_907 : decode b_L_law 907 = .ok (.istore 5, 2) := by decide +kernel
theorem d_L_law_909 : decode b_L_law 909 = .ok (.aload_n 2, 1) := by decide +kernel
theorem d_L_law_910 : decode b_L_law 910 = .ok (.aload_n 0, 1) := by decide +kernel
theorem d_L_law_911 : decode b_L_law 911 = .ok (.iload 4, 2) := by decide +kernel
theorem d_L_law_913 : decode b_L_law 913 = .ok (.iconst 1, 1) := by decide +kernel
theorem d_L_law_914 : decode b_L_law 914 = .ok (.iadd, 1) := by decide +kernel
theorem d_L_law_915 : decode b_L_law 915 = .ok (.iaload, 1) := by decide +kernel
theorem d_L_law_916 : decode b_L_law 916 = .ok (.aload_n 0, 1) := by decide +kernel
theorem d_L_law_917 : decode b_L_law 917 = .ok (.iload 4, 2) := by decide +kernel
theorem d_L_law_919 : decode b_L_law 919 = .ok (.iconst 2, 1) := by decide +kernel
theorem d_L_law_920 : decode b_L_law 920 = .ok (.iadd, 1) := by decide +kernel
theorem d_L_law_921 : decode b_L_law 921 = .ok (.iaload, 1) := by decide +kernel
theorem d_L_law_922 : decode b_L_law 922 = .ok (.invokevirtual 125, 3) := by decide +kernel
theorem d_L_law_925 : decode b_L_law 925 = .ok (.istore 6, 2) := by decide +kernel
theorem d_L_law_927 : decode b_L_law 927 = .ok (.aload_n 2, 1) := by decide +kernel
theorem d_L_law_928 : decode b_L_law 928 = .ok (.invokevirtual 73, 3) := by decide +kernel
theorem d_L_law_931 : decode b_L_law 931 = .ok (.iload 5, 2) := by decide +kernel
theorem d_L_law_933 : decode b_L_law 933 = .ok (.if_icmp .eq 5, 3) := by decide +kernel
theorem d_L_law_936 : decode b_L_law 936 = .ok (.iconst 0, 1) := by decide +kernel
theorem d_L_law_937 : decode b_L_law 937 = .ok (.ireturn, 1) := by decide +kernel
theorem d_L_law_938 : decode b_L_law 938 = .ok (.iload 5, 2) := by decide +kernel
theorem d_L_law_940 : decode b_L_law 940 = .ok (.ifCond .ne 15, 3) := by decide +kernel
theorem d_L_law_943 : decode b_L_law 943 = .ok (.aload_n 3, 1) := by decide +kernel
theorem d_L_law_944 : decode b_L_law 944 = .ok (.iconst 0, 1) := by decide +kernel
theorem d_L_law_945 : decode b_L_law 945 = .ok (.laload, 1) := by decide +kernel
theorem d_L_law_946 : decode b_L_law 946 = .ok (.iload 6, 2) := by decide +kernel
theorem d_L_law_948 : decode b_L_law 948 = .ok (.i2l, 1) := by decide +kernel
theorem d_L_law_949 : decode b_L_law 949 = .ok (.lcmp, 1) := by decide +kernel
theorem d_L_law_950 : decode b_L_law 950 = .ok (.ifCond .eq 5, 3) := by decide +kernel
theorem d_L_law_953 : decode b_L_law 953 = .ok (.iconst 0, 1) := by decide +kernel
theorem d_L_law_954 : decode b_L_law 954 = .ok (.ireturn, 1) := by decide +kernel
theorem d_L_law_955 : decode b_L_law 955 = .ok (.goto 177, 3) := by decide +kernel
theorem d_L_law_958 : decode b_L_law 958 = .ok (.aload_n 1, 1) := by decide +kernel
theorem d_L_law_959 : decode b_L_law 959 = .ok (.aload_n 0, 1) := by decide +kernel
theorem d_L_law_960 : decode b_L_law 960 = .ok (.iload 4, 2) := by decide +kernel
theorem d_L_law_962 : decode b_L_law 962 = .ok (.iconst 1, 1) := by decide +kernel
theorem d_L_law_963 : decode b_L_law 963 = .ok (.iadd, 1) := by decide +kernel
theorem d_L_law_964 : decode b_L_law 964 = .ok (.iaload, 1) := by decide +kernel
theorem d_L_law_965 : decode b_L_law 965 = .ok (.aload_n 0, 1) := by decide +kernel
theorem d_L_law_966 : decode b_L_law 966 = .ok (.iload 4, 2) := by decide +kernel
theorem d_L_law_968 : decode b_L_law 968 = .ok (.iconst 2, 1) := by decide +kernel
theorem d_L_law_969 : decode b_L_law 969 = .ok (.iadd, 1) := by decide +kernel
theorem d_L_law_970 : decode b_L_law 970 = .ok (.iaload, 1) := by decide +kernel
theorem d_L_law_971 : decode b_L_law 971 = .ok (.aload_n 3, 1) := by decide +kernel
theorem d_L_law_972 : decode b_L_law 972 = .ok (.invokestatic 126, 3) := by decide +kernel
theorem d_L_law_975 : decode b_L_law 975 = .ok (.istore 5, 2) := by decide +kernel
theorem d_L_law_977 : decode b_L_law 977 = .ok (.aload_n 2, 1) := by decide +kernel
theorem d_L_law_978 : decode b_L_law 978 = .ok (.aload_n 0, 1) := by decide +kernel
theorem d_L_law_979 : decode b_L_law 979 = .ok (.iload 4, 2) := by decide +kernel
theorem d_L_law_981 : decode b_L_law 981 = .ok (.iconst 1, 1) := by decide +kernel
theorem d_L_law_982 : decode b_L_law 982 = .ok (.iadd, 1) := by decide +kernel
theorem d_L_law_983 : decode b_L_law 983 = .ok (.iaload, 1) := by decide +kernel
theorem d_L_law_984 : decode b_L_law 984 = .ok (.aload_n 0, 1) := by decide +kernel
theorem d_L_law_985 : decode b_L_law 985 = .ok (.iload 4, 2) := by decide +kernel
theorem d_L_law_987 : decode b_L_law 987 = .ok (.iconst 2, 1) := by decide +kernel
theorem d_L_law_988 : decode b_L_law 988 = .ok (.iadd, 1) := by decide +kernel
theorem d_L_law_989 : decode b_L_law 989 = .ok (.iaload, 1) := by decide +kernel
theorem d_L_law_990 : decode b_L_law 990 = .ok (.invokevirtual 128, 3) := by decide +kernel
theorem d_L_law_993 : decode b_L_law 993 = .ok (.istore 6, 2) := by decide +kernel
theorem d_L_law_995 : decode b_L_law 995 = .ok (.aload_n 2, 1) := by decide +kernel
theorem d_L_law_996 : decode b_L_law 996 = .ok (.invokevirtual 73, 3) := by decide +kernel
theorem d_L_law_999 : decode b_L_law 999 = .ok (.iload 5, 2) := by decide +kernel
theorem d_L_law_1001 : decode b_L_law 1001 = .ok (.if_icmp .eq 5, 3) := by decide +kernel
theorem d_L_law_1004 : decode b_L_law 1004 = .ok (.iconst 0, 1) := by decide +kernel
theorem d_L_law_1005 : decode b_L_law 1005 = .ok (.ireturn, 1) := by decide +kernel
theorem d_L_law_1006 : decode b_L_law 1006 = .ok (.iload 5, 2) := by decide +kernel
theorem d_L_law_1008 : decode b_L_law 1008 = .ok (.ifCond .ne 15, 3) := by decide +kernel
theorem d_L_law_1011 : decode b_L_law 1011 = .ok (.aload_n 3, 1) := by decide +kernel
theorem d_L_law_1012 : decode b_L_law 1012 = .ok (.iconst 0, 1) := by decide +kernel
theorem d_L_law_1013 : decode b_L_law 1013 = .ok (.laload, 1) := by decide +kernel
theorem d_L_law_1014 : decode b_L_law 1014 = .ok (.iload 6, 2) := by decide +kernel
theorem d_L_law_1016 : decode b_L_law 1016 = .ok (.i2l, 1) := by decide +kernel
theorem d_L_law_1017 : decode b_L_law 1017 = .ok (.lcmp, 1) := by decide +kernel
theorem d_L_law_1018 : decode b_L_law 1018 = .ok (.ifCond .eq 5, 3) := by decide +kernel
theorem d_L_law_1021 : decode b_L_law 1021 = .ok (.iconst 0, 1) := by decide +kernel
theorem d_L_law_1022 : decode b_L_law 1022 = .ok (.ireturn, 1) := by decide +kernel
theorem d_L_law_1023 : decode b_L_law 1023 = .ok (.goto 109, 3) := by decide +kernel
theorem d_L_law_1026 : decode b_L_law 1026 = .ok (.aload_n 1, 1) := by decide +kernel
theorem d_L_law_1027 : decode b_L_law 1027 = .ok (.aload_n 0, 1) := by decide +kernel
theorem d_L_law_1028 : decode b_L_law 1028 = .ok (.iload 4, 2) := by decide +kernel
theorem d_L_law_1030 : decode b_L_law 1030 = .ok (.iconst 1, 1) := by decide +kernel
theorem d_L_law_1031 : decode b_L_law 1031 = .ok (.iadd, 1) := by decide +kernel
theorem d_L_law_1032 : decode b_L_law 1032 = .ok (.iaload, 1) := by decide +kernel
theorem d_L_law_1033 : decode b_L_law 1033 = .ok (.aload_n 0, 1) := by decide +kernel
theorem d_L_law_1034 : decode b_L_law 1034 = .ok (.iload 4, 2) := by decide +kernel
theorem d_L_law_1036 : decode b_L_law 1036 = .ok (.iconst 2, 1) := by decide +kernel
theorem d_L_law_1037 : decode b_L_law 1037 = .ok (.iadd, 1) := by decide +kernel
theorem d_L_law_1038 : decode b_L_law 1038 = .ok (.iaload, 1) := by decide +kernel
theorem d_L_law_1039 : decode b_L_law 1039 = .ok (.aload_n 3, 1) := by decide +kernel
theorem d_L_law_1040 : decode b_L_law 1040 = .ok (.invokestatic 129, 3) := by decide +kernel
theorem d_L_law_1043 : decode b_L_law 1043 = .ok (.istore 5, 2) := by decide +kernel
theorem d_L_law_1045 : decode b_L_law 1045 = .ok (.aload_n 2, 1) := by decide +kernel
theorem d_L_law_1046 : decode b_L_law 1046 = .ok (.aload_n 0, 1) := by decide +kernel
theorem d_L_law_1047 : decode b_L_law 1047 = .ok (.iload 4, 2) := by decide +kernel
theorem d_L_law_1049 : decode b_L_law 1049 = .ok (.iconst 1, 1) := by decide +kernel
theorem d_L_law_1050 : decode b_L_law 1050 = .ok (.iadd, 1) := by decide +kernel
theorem d_L_law_1051 : decode b_L_law 1051 = .ok (.iaload, 1) := by decide +kernel
theorem d_L_law_1052 : decode b_L_law 1052 = .ok (.aload_n 0, 1) := by decide +kernel
theorem d_L_law_1053 : decode b_L_law 1053 = .ok (.iload 4, 2) := by decide +kernel
theorem d_L_law_1055 : decode b_L_law 1055 = .ok (.iconst 2, 1) := by decide +kernel
theorem d_L_law_1056 : decode b_L_law 1056 = .ok (.iadd, 1) := by decide +kernel
theorem d_L_law_1057 : decode b_L_law 1057 = .ok (.iaload, 1) := by decide +kernel
theorem d_L_law_1058 : decode b_L_law 1058 = .ok (.invokevirtual 131, 3) := by decide +kernel
theorem d_L_law_1061 : decode b_L_law 1061 = .ok (.istore 6, 2) := by decide +kernel
theorem d_L_law_1063 : decode b_L_law 1063 = .ok (.aload_n 2, 1) := by decide +kernel
theorem d_L_law_1064 : decode b_L_law 1064 = .ok (.invokevirtual 73, 3) := by decide +kernel
theorem d_L_law_1067 : decode b_L_law 1067 = .ok (.iload 5, 2) := by decide +kernel
theorem d_L_law_1069 : decode b_L_law 1069 = .ok (.if_icmp .eq 5, 3) := by decide +kernel
theorem d_L_law_1072 : decode b_L_law 1072 = .ok (.iconst 0, 1) := by decide +kernel
theorem d_L_law_1073 : decode b_L_law 1073 = .ok (.ireturn, 1) := by decide +kernel
theorem d_L_law_1074 : decode b_L_law 1074 = .ok (.iload 5, 2) := by decide +kernel
theorem d_L_law_1076 : decode b_L_law 1076 = .ok (.ifCond .ne 15, 3) := by decide +kernel
theorem d_L_law_1079 : decode b_L_law 1079 = .ok (.aload_n 3, 1) := by decide +kernel
theorem d_L_law_1080 : decode b_L_law 1080 = .ok (.iconst 0, 1) := by decide +kernel
theorem d_L_law_1081 : decode b_L_law 1081 = .ok (.laload, 1) := by decide +kernel
theorem d_L_law_1082 : decode b_L_law 1082 = .ok (.iload 6, 2) := by decide +kernel
theorem d_L_law_1084 : decode b_L_law 1084 = .ok (.i2l, 1) := by decide +kernel
theorem d_L_law_1085 : decode b_L_law 1085 = .ok (.lcmp, 1) := by decide +kernel
theorem d_L_law_1086 : decode b_L_law 1086 = .ok (.ifCond .eq 5, 3) := by decide +kernel
theorem d_L_law_1089 : decode b_L_law 1089 = .ok (.iconst 0, 1) := by decide +kernel
theorem d_L_law_1090 : decode b_L_law 1090 = .ok (.ireturn, 1) := by decide +kernel
theorem d_L_law_1091 : decode b_L_law 1091 = .ok (.goto 41, 3) := by decide +kernel
theorem d_L_law_1094 : decode b_L_law 1094 = .ok (.aload_n 1, 1) := by decide +kernel
theorem d_L_law_1095 : decode b_L_law 1095 = .ok (.invokevirtual 132, 3) := by decide +kernel
theorem d_L_law_1098 : decode b_L_law 1098 = .ok (.aload_n 2, 1) := by decide +kernel
theorem d_L_law_1099 : decode b_L_law 1099 = .ok (.invokevirtual 135, 3) := by decide +kernel
theorem d_L_law_1102 : decode b_L_law 1102 = .ok (.if_icmp .eq 30, 3) := by decide +kernel
theorem d_L_law_1105 : decode b_L_law 1105 = .ok (.iconst 0, 1) := by decide +kernel
theorem d_L_law_1106 : decode b_L_law 1106 = .ok (.ireturn, 1) := by decide +kernel
theorem d_L_law_1107 : decode b_L_law 1107 = .ok (.aload_n 1, 1) := by decide +kernel
theorem d_L_law_1108 : decode b_L_law 1108 = .ok (.aload_n 0, 1) := by decide +kernel
theorem d_L_law_1109 : decode b_L_law 1109 = .ok (.iload 4, 2) := by decide +kernel
theorem d_L_law_1111 : decode b_L_law 1111 = .ok (.iconst 1, 1) := by decide +kernel
theorem d_L_law_1112 : decode b_L_law 1112 = .ok (.iadd, 1) := by decide +kernel
theorem d_L_law_1113 : decode b_L_law 1113 = .ok (.iaload, 1) := by decide +kernel
theorem d_L_law_1114 : decode b_L_law 1114 = .ok (.invokevirtual 136, 3) := by decide +kernel
theorem d_L_law_1117 : decode b_L_law 1117 = .ok (.aload_n 2, 1) := by decide +kernel
theorem d_L_law_1118 : decode b_L_law 1118 = .ok (.aload_n 0, 1) := by decide +kernel
theorem d_L_law_1119 : decode b_L_law 1119 = .ok (.iload 4, 2) := by decide +kernel
theorem d_L_law_1121 : decode b_L_law 1121 = .ok (.iconst 1, 1) := by decide +kernel
theorem d_L_law_1122 : decode b_L_law 1122 = .ok (.iadd, 1) := by decide +kernel
theorem d_L_law_1123 : decode b_L_law 1123 = .ok (.iaload, 1) := by decide +kernel
theorem d_L_law_1124 : decode b_L_law 1124 = .ok (.invokevirtual 139, 3) := by decide +kernel
theorem d_L_law_1127 : decode b_L_law 1127 = .ok (.if_icmp .eq 5, 3) := by decide +kernel
theorem d_L_law_1130 : decode b_L_law 1130 = .ok (.iconst 0, 1) := by decide +kernel
theorem d_L_law_1131 : decode b_L_law 1131 = .ok (.ireturn, 1) := by decide +kernel
theorem d_L_law_1132 : decode b_L_law 1132 = .ok (.iinc 4 5, 3) := by decide +kernel
theorem d_L_law_1135 : decode b_L_law 1135 = .ok (.goto (-1112), 3) := by decide +kernel
theorem d_L_law_1138 : decode b_L_law 1138 = .ok (.iconst 1, 1) := by decide +kernel
theorem d_L_law_1139 : decode b_L_law 1139 = .ok (.ireturn, 1) := by decide +kernel
end
section
/-! THE CALCULUS: contracts that may throw; states as register files; one row an instruction, goal first -/
/-- what a method's end leaves, returned or thrown -/
def xFr (first t : State) (L : List Loc) (k n : Nat) : Prop := first.WarmedH t.vm ∧ first.sameButNew ({ t with vm := first.vm } : State) L k n
/-- a contract whose end may be a throw -/
def xMet (l : Launch) (y : MethodName) (ws : List Cond) (rm : Room) (Pc : Array Value → State → Prop) (Qc : Array Value → State → Outcome → State → Prop) (mc ms : Nat) (free : Addr → Prop) : Prop :=
  MetFree l y (headSpec ws rm) Pc (fun _ _ _ _ _ => True) (fun a st o t => Qc a st o t ∧ ∃ L, xFr st t L mc ms ∧ ∀ q ∈ L, free q.base)
def xMQ (below : List Frame) (Qc : Array Value → State → Outcome → State → Prop) (a : Array Value) (s : State) (mc ms : Nat) (free : Addr → Prop) : State → Prop := fun t =>
  ∃ o, t.status = .running ∧ Ended t below o ∧ Qc a s o t ∧ ∃ L, xFr s t L mc ms ∧ ∀ q ∈ L, free q.base
section XM
variable {p : Program} {l : Launch} {e : Env} {R : Room} {s : State} {m : MethodId} {args : Array Value} {below : List Frame} {meth : Method} {c : Code} {T : State} {H : Heap} {locs : List Loc} {cells slots : Nat}
variable {y : MethodName} {ws ws' : List Cond} {rm : Room} {Pc : Array Value → State → Prop} {Qc : Array Value → State → Outcome → State → Prop} {mc ms : Nat} {free : Addr → Prop} {cc bytes : ByteArray} {maxL : Nat} {ret : Option FieldType}
theorem xMet.ofW (hy : plainName y.cls = true) (hw : ws = Cond.code y cc maxL ret :: ws')
    (body : ∀ p e s m args below meth c s₁, BodyLoose p l y (headSpec ws rm) cc maxL ret e s m args below meth c s₁ → c.maxLocals = maxL → Pc args s →
      W p l e (headSpec ws rm).room s m args below meth c s.heap [] 0 0 (xMQ below Qc args s mc ms free) (entryFrame m args maxL)) : xMet l y ws rm Pc Qc mc ms free := by
  refine MetFree.of_bodyS (code := cc) (maxLocals := maxL) (ret := ret) hy ?_ ?_
  · intro args s m h hn
    obtain ⟨meth, c, h1, h2, h3, h4, h5, h6, -, -⟩ := Cond.code_spec hn (atoms_spec (ws := ws) h _ (by rw [hw]; exact List.mem_cons_self))
    exact ⟨meth, c, h1, h2, h3, h4, h5, h6⟩
  · intro p e s m args below meth c s₁ B hml hP _
    have hh0 : s₁.heap = s.heap := by rw [B.state]; rfl
    obtain ⟨t, a1, o, b1, b2, b3⟩ := body p e s m args below meth c s₁ B hml hP s₁ hh0 (Stand.of_body B)
    exact ⟨t, o, a1, b1, b2, ⟨b3.1, b3.2⟩⟩
theorem xMet.of (h : Met l y ws rm Pc Qc mc ms free) : xMet l y ws rm Pc Qc mc ms free := by
  intro p e ha hc hk s m args below hf happ hP hK
  obtain ⟨n, o, h1, h2, h3, h4, L, h5, h6⟩ := h p e ha hc hk s m args below hf happ hP hK
  exact ⟨n, o, h1, h2, h3, h4, L, ⟨h5.2.1, h5.2.2⟩, h6⟩
/-- a call of a method with such a contract: it comes back, or it throws -/
theorem xBack (hM : xMet l y ws rm Pc Qc mc ms free) (hbl : FrameBlind Pc)
    (cb : rm.cells = mc ∧ rm.slots = ms ∧ rm.frames + 1 ≤ R.frames ∧ 8 + (maxL + 11) + rm.locals ≤ R.locals ∧ (∀ w ∈ ws, ∀ (a' : Array Value) (U : State), s.WarmedH U.vm → w.before a' U = true) ∧ Cond.code y bytes maxL ret ∈ ws)
    (hini : ∀ (a' : Array Value) (U : State), s.WarmedH U.vm → (Cond.initialized y.cls).before a' U = true)
    (X : Stand p l e R s m args below meth c T locs cells slots) {g : JFrame} (hg : g.method = m) (hsize : g.locals.size = c.maxLocals) {ig : Instr} {len : Nat} (hdg : decode c.code g.pc = .ok (ig, len)) (hW : 2 * g.monitorRoom + (g.stack.map fun v => v.category).sum ≤ 8)
    {mk : MethodId} (hn : T.methodNamed? y = some mk) {a : Array Value} (hc : cells + mc ≤ R.cells) (hs : slots + ms ≤ R.slots) (hP : Pc a T) :
    ∃ (o : Outcome) (t T' : State) (L : List Loc), Stand p l e R s m args below meth c T' (locs ++ L) (cells + mc) (slots + ms) ∧ (∀ q ∈ L, free q.base) ∧ T'.heap = t.heap ∧ T'.vm = t.vm ∧ Qc a (T.calling g mk a) o t ∧
      ((∃ v, o = .returned v ∧ Steps p.tables e below (doInvoke e (T.setTop g) [] mk a).1 (T'.setTop { g with pc := g.pc + len, stack := v.toList ++ g.stack })) ∨
       (∃ x, o = .threw x ∧ Steps p.tables e below (doInvoke e (T.setTop g) [] mk a).1 ((T'.setTop g).pushFrame (.throwing x)))) := by
  obtain ⟨hrc, hrs, hfr, hlo, hws, hcw⟩ := cb
  obtain ⟨methY, cY, hmY, hcY, -, hlY, -, -, -, -⟩ := Cond.code_spec hn (hws _ hcw a T X.warmed)
  obtain ⟨kY, hkY, -⟩ := className_of_methodNamed hn
  have hinitY : kY.init = .initialized := Cond.initialized_spec (findClass_of_methodNamed hn) hkY (hini a T X.warmed)
  have h : At T g.method c below := by rw [hg]; exact X.here
  have happ : (headSpec ws rm).appliesLoose y e.platform (T.calling g mk a) = true :=
    Spec.appliesLoose_calling (g := g) h hdg hn hkY hinitY
      (X.room_calling (g := g) (R' := (headSpec ws rm).room) hsize hmY hcY hfr (by rw [hlY]; show _ + rm.locals ≤ _; omega) (by show _ + rm.cells ≤ _; rw [hrc]; exact hc) (by show _ + rm.slots ≤ _; rw [hrs]; exact hs)) (atoms_intro fun w hw => hws w hw _ _ X.warmed)
  obtain ⟨mid, hmid⟩ := h.above
  have hfr2 : (T.setTop g).frames = (.java g :: mid) ++ below := by rw [State.frames_setTop' g h.top, hmid]; rfl
  obtain ⟨o, t, hsteps, -, hend, hq, L, ⟨hWt, hsame⟩, hL⟩ := Steps.callFree hM p X.admits X.cas X.clock (acts := []) hfr2 happ (hbl _ _ _ _ hP) trivial
  rw [State.frames_setTop' g h.top, X.tail] at hend
  cases o with
  | returned v =>
    obtain ⟨T', X', hW', hs', ht⟩ := X.outOf hg hdg (mk := mk) (a := a) hend hWt hsame
    refine ⟨.returned v, t, T', L, X', hL, by rw [ht]; rfl, by rw [ht]; rfl, hq, Or.inl ⟨v, rfl, ?_⟩⟩
    rw [← ht]; exact hsteps
  | threw x =>
    obtain ⟨T', X', hW', hs', ht⟩ := X.outOfThrown hg (mk := mk) (a := a) hend hWt hsame
    refine ⟨.threw x, t, T', L, X', hL, by rw [ht]; rfl, by rw [ht]; rfl, hq, Or.inr ⟨x, rfl, ?_⟩⟩
    rw [← ht]; exact hsteps
variable {Q : State → Prop} {pc : Nat} {ls : Array Slot}
theorem xiret {v : Int32} {ty : FieldType} (hexec : p.tables.exec = Jvm.exec) (hb : c.code = cc) (hr : meth.sig.returnType = some ty) (hn : narrow ty (.int v) = .int v)
    (hq : ∀ t : State, t.heap = H → s.WarmedH t.vm → Qc args s (.returned (some (.int v))) t) (hf : ∀ q ∈ locs, free q.base)
    (hdg : decode cc pc = .ok (.ireturn, 1)) (hlocks : meth.locks = false) : W p l e R s m args below meth c H locs cells slots (xMQ below Qc args s cells slots free) (F0 m pc ls [.int v]) := by
  intro T hT X
  obtain ⟨fs, hret, hrun, hended, hW, hframe⟩ := X.leave (v := some (.int v)) (fun h => by rw [hr] at h; cases h)
  have hmeth' : T.vm.method? m = some meth := X.method'
  refine ⟨T.setFrames fs, ?_, .returned (some (.int v)), hrun, hended, hq _ hT hW, locs, ⟨hW, hframe⟩, hf⟩
  jvm_step X.here [X.here.top, hexec, hb, hdg, hmeth', hr, hn]
  (try refine ⟨rfl, ?_⟩); (try refine ⟨rfl, ?_⟩)
  first | (intro acts; rw [hret _ acts rfl rfl rfl]) | rw [hret _ _ rfl rfl rfl]
  exact Steps.refl _
theorem xvret (hexec : p.tables.exec = Jvm.exec) (hb : c.code = cc) (hr : meth.sig.returnType = none)
    (hq : ∀ t : State, t.heap = H → s.WarmedH t.vm → Qc args s (.returned none) t) (hf : ∀ q ∈ locs, free q.base)
    (hdg : decode cc pc = .ok (.return_, 1)) (hlocks : meth.locks = false) : W p l e R s m args below meth c H locs cells slots (xMQ below Qc args s cells slots free) (F0 m pc ls []) := by
  intro T hT X
  obtain ⟨fs, hret, hrun, hended, hW, hframe⟩ := X.leave (v := none) (fun _ => rfl)
  have hmeth' : T.vm.method? m = some meth := X.method'
  refine ⟨T.setFrames fs, ?_, .returned none, hrun, hended, hq _ hT hW, locs, ⟨hW, hframe⟩, hf⟩
  jvm_step X.here [X.here.top, hexec, hb, hdg, hmeth', hr]
  (try refine ⟨rfl, ?_⟩); (try refine ⟨rfl, ?_⟩)
  first | (intro acts; rw [hret _ acts rfl rfl rfl]) | rw [hret _ _ rfl rfl rfl]
  exact Steps.refl _
end XM
abbrev xSt : Type := Nat → Nat → Int32
/-- a register's place gets a value -/
def xw (g : xSt) (a i : Nat) (v : Int32) : xSt := va_up g a (upd (g a) i v)
theorem xw_self (g : xSt) (a i : Nat) (v : Int32) : xw g a i v a i = v := by simp [xw, va_up, upd]
theorem xw_reg (g : xSt) {a b : Nat} (i : Nat) (v : Int32) (h : b ≠ a) : xw g a i v b = g b := by simp [xw, va_up, h]
theorem xw_ix (g : xSt) (a : Nat) {i j : Nat} (v : Int32) (h : j ≠ i) : xw g a i v a j = g a j := by simp [xw, va_up, upd, h]
/-- from every heap that holds the state g, at this place of the code with these locals: the machine comes to Q -/
def xV (p : Program) (l : Launch) (e : Env) (R : Room) (s : State) (m : MethodId) (args : Array Value) (below : List Frame) (meth : Method) (c : Code) (D : va_G) (cl : List vw_C) (w : xSt → va_W) (A : Nat → Prop) (nL cells slots : Nat) (Q : State → Prop) (g : xSt) (pc : Nat) (lv : List (Nat × Value)) (stk : List Value) : Prop :=
  ∀ (H : Heap) (locs : List Loc) (ls : Array Slot), va_P D cl (w g) H → va_S A s.heap H locs → lv_has ls nL lv → W p l e R s m args below meth c H locs cells slots Q (F0 m pc ls stk)
/-- what stays the same in a method's walk -/
def xC (p : Program) (s : State) (m : MethodId) (args : Array Value) (c : Code) (cc : ByteArray) (own : String) (Ts : List Cond) (nL : Nat) (D : va_G) (cl : List vw_C) (w : xSt → va_W) (tys : List (ClassId × FieldType)) (A : Nat → Prop) : Prop :=
  p.tables.exec = Jvm.exec ∧ c.code = cc ∧ c.maxLocals = nL ∧ s.vm.findClass own = some m.cls ∧ (∀ q ∈ Ts, q.before args s = true) ∧ va_K D cl tys s ∧ (∀ g, va_D A (w g)) ∧ ∀ q, s.heap.size ≤ q → A q
section XR
variable {p : Program} {l : Launch} {e : Env} {R : Room} {s : State} {m : MethodId} {args : Array Value} {below : List Frame} {meth : Method} {c : Code} {D : va_G} {cl : List vw_C} {w : xSt → va_W} {A : Nat → Prop} {nL cells slots : Nat} {Q : State → Prop}
variable {cc : ByteArray} {own : String} {Ts : List Cond} {tys : List (ClassId × FieldType)} {g : xSt} {pc : Nat} {lv lv' : List (Nat × Value)} {stk : List Value}
theorem v_iconst (C : xC p s m args c cc own Ts nL D cl w tys A) {n : Int} {v : Int32} (hdg : decode cc pc = .ok (.iconst n, 1)) (hv : Int32.ofInt n = v) (k : xV p l e R s m args below meth c D cl w A nL cells slots Q g (pc + 1) lv (.int v :: stk)) : xV p l e R s m args below meth c D cl w A nL cells slots Q g pc lv stk := fun H locs ls hP hS hl => lv_iconst C.1 C.2.1 hdg hv (k H locs ls hP hS hl)
theorem v_bipush (C : xC p s m args c cc own Ts nL D cl w tys A) {n : Int} {v : Int32} (hdg : decode cc pc = .ok (.bipush n, 2)) (hv : (Int8.ofInt n).toInt32 = v) (k : xV p l e R s m args below meth c D cl w A nL cells slots Q g (pc + 2) lv (.int v :: stk)) : xV p l e R s m args below meth c D cl w A nL cells slots Q g pc lv stk := fun H locs ls hP hS hl => lv_bipush C.1 C.2.1 hdg hv (k H locs ls hP hS hl)
theorem v_sipush (C : xC p s m args c cc own Ts nL D cl w tys A) {n : Int} {v : Int32} (hdg : decode cc pc = .ok (.sipush n, 3)) (hv : (Int16.ofInt n).toInt32 = v) (k : xV p l e R s m args below meth c D cl w A nL cells slots Q g (pc + 3) lv (.int v :: stk)) : xV p l e R s m args below meth c D cl w A nL cells slots Q g pc lv stk := fun H locs ls hP hS hl => lv_sipush C.1 C.2.1 hdg hv (k H locs ls hP hS hl)
theorem v_iload_n (C : xC p s m args c cc own Ts nL D cl w tys A) {k0 : Fin 4} {i : Nat} {x : Int32} (hdg : decode cc pc = .ok (.iload_n k0, 1)) (hi : (k0 : Nat) = i) (q : Nat) (hq : lv[q]? = some (i, .int x)) (k : xV p l e R s m args below meth c D cl w A nL cells slots Q g (pc + 1) lv (.int x :: stk)) : xV p l e R s m args below meth c D cl w A nL cells slots Q g pc lv stk := fun H locs ls hP hS hl => lv_iload_n C.1 C.2.1 hdg hi (lv_at hl q hq) (k H locs ls hP hS hl)
theorem v_iload (C : xC p s m args c cc own Ts nL D cl w tys A) {i : Nat} {x : Int32} (hdg : decode cc pc = .ok (.iload i, 2)) (q : Nat) (hq : lv[q]? = some (i, .int x)) (k : xV p l e R s m args below meth c D cl w A nL cells slots Q g (pc + 2) lv (.int x :: stk)) : xV p l e R s m args below meth c D cl w A nL cells slots Q g pc lv stk := fun H locs ls hP hS hl => lv_iload C.1 C.2.1 hdg (lv_at hl q hq) (k H locs ls hP hS hl)
theorem v_aload_n (C : xC p s m args c cc own Ts nL D cl w tys A) {k0 : Fin 4} {i : Nat} {x : Nat} (hdg : decode cc pc = .ok (.aload_n k0, 1)) (hi : (k0 : Nat) = i) (q : Nat) (hq : lv[q]? = some (i, .ref x)) (k : xV p l e R s m args below meth c D cl w A nL cells slots Q g (pc + 1) lv (.ref x :: stk)) : xV p l e R s m args below meth c D cl w A nL cells slots Q g pc lv stk := fun H locs ls hP hS hl => lv_aload_n C.1 C.2.1 hdg hi (lv_at hl q hq) (k H locs ls hP hS hl)
theorem v_aload (C : xC p s m args c cc own Ts nL D cl w tys A) {i : Nat} {x : Nat} (hdg : decode cc pc = .ok (.aload i, 2)) (q : Nat) (hq : lv[q]? = some (i, .ref x)) (k : xV p l e R s m args below meth c D cl w A nL cells slots Q g (pc + 2) lv (.ref x :: stk)) : xV p l e R s m args below meth c D cl w A nL cells slots Q g pc lv stk := fun H locs ls hP hS hl => lv_aload C.1 C.2.1 hdg (lv_at hl q hq) (k H locs ls hP hS hl)
theorem v_lload_n (C : xC p s m args c cc own Ts nL D cl w tys A) {k0 : Fin 4} {i : Nat} {x : Int64} (hdg : decode cc pc = .ok (.lload_n k0, 1)) (hi : (k0 : Nat) = i) (q : Nat) (hq : lv[q]? = some (i, .long x)) (k : xV p l e R s m args below meth c D cl w A nL cells slots Q g (pc + 1) lv (.long x :: stk)) : xV p l e R s m args below meth c D cl w A nL cells slots Q g pc lv stk := fun H locs ls hP hS hl => lv_lload_n C.1 C.2.1 hdg hi (lv_at hl q hq) (k H locs ls hP hS hl)
theorem v_lload (C : xC p s m args c cc own Ts nL D cl w tys A) {i : Nat} {x : Int64} (hdg : decode cc pc = .ok (.lload i, 2)) (q : Nat) (hq : lv[q]? = some (i, .long x)) (k : xV p l e R s m args below meth c D cl w A nL cells slots Q g (pc + 2) lv (.long x :: stk)) : xV p l e R s m args below meth c D cl w A nL cells slots Q g pc lv stk := fun H locs ls hP hS hl => lv_lload C.1 C.2.1 hdg (lv_at hl q hq) (k H locs ls hP hS hl)
theorem v_istore_n (C : xC p s m args c cc own Ts nL D cl w tys A) {k0 : Fin 4} {i : Nat} {x : Int32} (hdg : decode cc pc = .ok (.istore_n k0, 1)) (hi : (k0 : Nat) = i) (hn : i < nL) (hv : (i, Value.int x) :: lv.filter (fun q => !(q.1 == i) && !(q.1 + 1 == i && q.2.category == 2)) = lv') (k : xV p l e R s m args below meth c D cl w A nL cells slots Q g (pc + 1) lv' stk) : xV p l e R s m args below meth c D cl w A nL cells slots Q g pc lv (.int x :: stk) := fun H locs ls hP hS hl => lv_istore_n C.1 C.2.1 hdg hi hl hn hv (fun ls' hl' => k H locs ls' hP hS hl')
theorem v_istore (C : xC p s m args c cc own Ts nL D cl w tys A) {i : Nat} {x : Int32} (hdg : decode cc pc = .ok (.istore i, 2)) (hn : i < nL) (hv : (i, Value.int x) :: lv.filter (fun q => !(q.1 == i) && !(q.1 + 1 == i && q.2.category == 2)) = lv') (k : xV p l e R s m args below meth c D cl w A nL cells slots Q g (pc + 2) lv' stk) : xV p l e R s m args below meth c D cl w A nL cells slots Q g pc lv (.int x :: stk) := fun H locs ls hP hS hl => lv_istore C.1 C.2.1 hdg hl hn hv (fun ls' hl' => k H locs ls' hP hS hl')
theorem v_astore_n (C : xC p s m args c cc own Ts nL D cl w tys A) {k0 : Fin 4} {i : Nat} {x : Nat} (hdg : decode cc pc = .ok (.astore_n k0, 1)) (hi : (k0 : Nat) = i) (hn : i < nL) (hv : (i, Value.ref x) :: lv.filter (fun q => !(q.1 == i) && !(q.1 + 1 == i && q.2.category == 2)) = lv') (k : xV p l e R s m args below meth c D cl w A nL cells slots Q g (pc + 1) lv' stk) : xV p l e R s m args below meth c D cl w A nL cells slots Q g pc lv (.ref x :: stk) := fun H locs ls hP hS hl => lv_astore_n C.1 C.2.1 hdg hi hl hn hv (fun ls' hl' => k H locs ls' hP hS hl')
theorem v_astore (C : xC p s m args c cc own Ts nL D cl w tys A) {i : Nat} {x : Nat} (hdg : decode cc pc = .ok (.astore i, 2)) (hn : i < nL) (hv : (i, Value.ref x) :: lv.filter (fun q => !(q.1 == i) && !(q.1 + 1 == i && q.2.category == 2)) = lv') (k : xV p l e R s m args below meth c D cl w A nL cells slots Q g (pc + 2) lv' stk) : xV p l e R s m args below meth c D cl w A nL cells slots Q g pc lv (.ref x :: stk) := fun H locs ls hP hS hl => lv_astore C.1 C.2.1 hdg hl hn hv (fun ls' hl' => k H locs ls' hP hS hl')
theorem v_iinc (C : xC p s m args c cc own Ts nL D cl w tys A) {i k0 : Nat} {n : Int} {x v : Int32} (hdg : decode cc pc = .ok (.iinc i n, 3)) (hk : lv[k0]? = some (i, .int x)) (hx : x + Int32.ofInt n = v) (hn : i < nL) (hv : (i, Value.int v) :: lv.filter (fun q => !(q.1 == i) && !(q.1 + 1 == i && q.2.category == 2)) = lv') (k : xV p l e R s m args below meth c D cl w A nL cells slots Q g (pc + 3) lv' stk) : xV p l e R s m args below meth c D cl w A nL cells slots Q g pc lv stk := fun H locs ls hP hS hl => lv_iinc C.1 C.2.1 hdg hl hk hx hn hv (fun ls' hl' => k H locs ls' hP hS hl')
theorem v_iadd (C : xC p s m args c cc own Ts nL D cl w tys A) {x y : Int32} (hdg : decode cc pc = .ok (.iadd, 1)) (k : xV p l e R s m args below meth c D cl w A nL cells slots Q g (pc + 1) lv (.int (x + y) :: stk)) : xV p l e R s m args below meth c D cl w A nL cells slots Q g pc lv (.int y :: .int x :: stk) := fun H locs ls hP hS hl => lv_iadd C.1 C.2.1 hdg (k H locs ls hP hS hl)
theorem v_isub (C : xC p s m args c cc own Ts nL D cl w tys A) {x y : Int32} (hdg : decode cc pc = .ok (.isub, 1)) (k : xV p l e R s m args below meth c D cl w A nL cells slots Q g (pc + 1) lv (.int (x - y) :: stk)) : xV p l e R s m args below meth c D cl w A nL cells slots Q g pc lv (.int y :: .int x :: stk) := fun H locs ls hP hS hl => lv_isub C.1 C.2.1 hdg (k H locs ls hP hS hl)
theorem v_imul (C : xC p s m args c cc own Ts nL D cl w tys A) {x y : Int32} (hdg : decode cc pc = .ok (.imul, 1)) (k : xV p l e R s m args below meth c D cl w A nL cells slots Q g (pc + 1) lv (.int (x * y) :: stk)) : xV p l e R s m args below meth c D cl w A nL cells slots Q g pc lv (.int y :: .int x :: stk) := fun H locs ls hP hS hl => lv_imul C.1 C.2.1 hdg (k H locs ls hP hS hl)
theorem v_iand (C : xC p s m args c cc own Ts nL D cl w tys A) {x y : Int32} (hdg : decode cc pc = .ok (.iand, 1)) (k : xV p l e R s m args below meth c D cl w A nL cells slots Q g (pc + 1) lv (.int (x &&& y) :: stk)) : xV p l e R s m args below meth c D cl w A nL cells slots Q g pc lv (.int y :: .int x :: stk) := fun H locs ls hP hS hl => lv_iand C.1 C.2.1 hdg (k H locs ls hP hS hl)
theorem v_ior (C : xC p s m args c cc own Ts nL D cl w tys A) {x y : Int32} (hdg : decode cc pc = .ok (.ior, 1)) (k : xV p l e R s m args below meth c D cl w A nL cells slots Q g (pc + 1) lv (.int (x ||| y) :: stk)) : xV p l e R s m args below meth c D cl w A nL cells slots Q g pc lv (.int y :: .int x :: stk) := fun H locs ls hP hS hl => lv_ior C.1 C.2.1 hdg (k H locs ls hP hS hl)
theorem v_ixor (C : xC p s m args c cc own Ts nL D cl w tys A) {x y : Int32} (hdg : decode cc pc = .ok (.ixor, 1)) (k : xV p l e R s m args below meth c D cl w A nL cells slots Q g (pc + 1) lv (.int (x ^^^ y) :: stk)) : xV p l e R s m args below meth c D cl w A nL cells slots Q g pc lv (.int y :: .int x :: stk) := fun H locs ls hP hS hl => lv_ixor C.1 C.2.1 hdg (k H locs ls hP hS hl)
theorem v_ishl (C : xC p s m args c cc own Ts nL D cl w tys A) {x y : Int32} (hdg : decode cc pc = .ok (.ishl, 1)) (k : xV p l e R s m args below meth c D cl w A nL cells slots Q g (pc + 1) lv (.int (x <<< (y &&& 31)) :: stk)) : xV p l e R s m args below meth c D cl w A nL cells slots Q g pc lv (.int y :: .int x :: stk) := fun H locs ls hP hS hl => lv_ishl C.1 C.2.1 hdg (k H locs ls hP hS hl)
theorem v_ishr (C : xC p s m args c cc own Ts nL D cl w tys A) {x y : Int32} (hdg : decode cc pc = .ok (.ishr, 1)) (k : xV p l e R s m args below meth c D cl w A nL cells slots Q g (pc + 1) lv (.int (x >>> (y &&& 31)) :: stk)) : xV p l e R s m args below meth c D cl w A nL cells slots Q g pc lv (.int y :: .int x :: stk) := fun H locs ls hP hS hl => lv_ishr C.1 C.2.1 hdg (k H locs ls hP hS hl)
theorem v_i2l (C : xC p s m args c cc own Ts nL D cl w tys A) {x : Int32} {v : Int64} (hdg : decode cc pc = .ok (.i2l, 1)) (hv : x.toInt64 = v) (k : xV p l e R s m args below meth c D cl w A nL cells slots Q g (pc + 1) lv (.long v :: stk)) : xV p l e R s m args below meth c D cl w A nL cells slots Q g pc lv (.int x :: stk) := fun H locs ls hP hS hl => lv_i2l C.1 C.2.1 hdg hv (k H locs ls hP hS hl)
theorem v_dup (C : xC p s m args c cc own Ts nL D cl w tys A) {va : Value} (hdg : decode cc pc = .ok (.dup, 1)) (hva : va.category = 1) (k : xV p l e R s m args below meth c D cl w A nL cells slots Q g (pc + 1) lv (va :: va :: stk)) : xV p l e R s m args below meth c D cl w A nL cells slots Q g pc lv (va :: stk) := fun H locs ls hP hS hl => lv_dup C.1 C.2.1 hdg hva (k H locs ls hP hS hl)
theorem v_pop (C : xC p s m args c cc own Ts nL D cl w tys A) {va : Value} (hdg : decode cc pc = .ok (.pop, 1)) (hva : va.category = 1) (k : xV p l e R s m args below meth c D cl w A nL cells slots Q g (pc + 1) lv stk) : xV p l e R s m args below meth c D cl w A nL cells slots Q g pc lv (va :: stk) := fun H locs ls hP hS hl => lv_pop C.1 C.2.1 hdg hva (k H locs ls hP hS hl)
theorem v_dup_x1 (C : xC p s m args c cc own Ts nL D cl w tys A) {va vb : Value} (hdg : decode cc pc = .ok (.dup_x1, 1)) (hva : va.category = 1) (hvb : vb.category = 1) (k : xV p l e R s m args below meth c D cl w A nL cells slots Q g (pc + 1) lv (va :: vb :: va :: stk)) : xV p l e R s m args below meth c D cl w A nL cells slots Q g pc lv (va :: vb :: stk) := fun H locs ls hP hS hl => lv_dup_x1 C.1 C.2.1 hdg hva hvb (k H locs ls hP hS hl)
theorem v_dup2 (C : xC p s m args c cc own Ts nL D cl w tys A) {va vb : Value} (hdg : decode cc pc = .ok (.dup2, 1)) (hva : va.category = 1) (hvb : vb.category = 1) (k : xV p l e R s m args below meth c D cl w A nL cells slots Q g (pc + 1) lv (va :: vb :: va :: vb :: stk)) : xV p l e R s m args below meth c D cl w A nL cells slots Q g pc lv (va :: vb :: stk) := fun H locs ls hP hS hl => lv_dup2_11 C.1 C.2.1 hdg hva hvb (k H locs ls hP hS hl)
theorem v_goto (C : xC p s m args c cc own Ts nL D cl w tys A) {off : Int} {tgt : Nat} (hdg : decode cc pc = .ok (.goto off, 3)) (ht : (pc : Int) + off = (tgt : Int)) (k : xV p l e R s m args below meth c D cl w A nL cells slots Q g tgt lv stk) : xV p l e R s m args below meth c D cl w A nL cells slots Q g pc lv stk := fun H locs ls hP hS hl => lv_goto C.1 C.2.1 hdg ht (k H locs ls hP hS hl)
theorem v_if_eq (C : xC p s m args c cc own Ts nL D cl w tys A) {x : Int32} {off : Int} {tgt : Nat} (hdg : decode cc pc = .ok (.ifCond .eq off, 3)) (ht : (pc : Int) + off = (tgt : Int)) (kt : (x = 0) → xV p l e R s m args below meth c D cl w A nL cells slots Q g tgt lv stk) (kf : (¬ x = 0) → xV p l e R s m args below meth c D cl w A nL cells slots Q g (pc + 3) lv stk) : xV p l e R s m args below meth c D cl w A nL cells slots Q g pc lv (.int x :: stk) := fun H locs ls hP hS hl => lv_if_eq C.1 C.2.1 hdg ht (fun q => kt q H locs ls hP hS hl) (fun q => kf q H locs ls hP hS hl)
theorem v_icmp_eq (C : xC p s m args c cc own Ts nL D cl w tys A) {x y : Int32} {off : Int} {tgt : Nat} (hdg : decode cc pc = .ok (.if_icmp .eq off, 3)) (ht : (pc : Int) + off = (tgt : Int)) (kt : (x = y) → xV p l e R s m args below meth c D cl w A nL cells slots Q g tgt lv stk) (kf : (¬ x = y) → xV p l e R s m args below meth c D cl w A nL cells slots Q g (pc + 3) lv stk) : xV p l e R s m args below meth c D cl w A nL cells slots Q g pc lv (.int y :: .int x :: stk) := fun H locs ls hP hS hl => lv_icmp_eq C.1 C.2.1 hdg ht (fun q => kt q H locs ls hP hS hl) (fun q => kf q H locs ls hP hS hl)
theorem v_if_ne (C : xC p s m args c cc own Ts nL D cl w tys A) {x : Int32} {off : Int} {tgt : Nat} (hdg : decode cc pc = .ok (.ifCond .ne off, 3)) (ht : (pc : Int) + off = (tgt : Int)) (kt : (¬ x = 0) → xV p l e R s m args below meth c D cl w A nL cells slots Q g tgt lv stk) (kf : (x = 0) → xV p l e R s m args below meth c D cl w A nL cells slots Q g (pc + 3) lv stk) : xV p l e R s m args below meth c D cl w A nL cells slots Q g pc lv (.int x :: stk) := fun H locs ls hP hS hl => lv_if_ne C.1 C.2.1 hdg ht (fun q => kt q H locs ls hP hS hl) (fun q => kf q H locs ls hP hS hl)
theorem v_icmp_ne (C : xC p s m args c cc own Ts nL D cl w tys A) {x y : Int32} {off : Int} {tgt : Nat} (hdg : decode cc pc = .ok (.if_icmp .ne off, 3)) (ht : (pc : Int) + off = (tgt : Int)) (kt : (¬ x = y) → xV p l e R s m args below meth c D cl w A nL cells slots Q g tgt lv stk) (kf : (x = y) → xV p l e R s m args below meth c D cl w A nL cells slots Q g (pc + 3) lv stk) : xV p l e R s m args below meth c D cl w A nL cells slots Q g pc lv (.int y :: .int x :: stk) := fun H locs ls hP hS hl => lv_icmp_ne C.1 C.2.1 hdg ht (fun q => kt q H locs ls hP hS hl) (fun q => kf q H locs ls hP hS hl)
theorem v_if_lt (C : xC p s m args c cc own Ts nL D cl w tys A) {x : Int32} {off : Int} {tgt : Nat} (hdg : decode cc pc = .ok (.ifCond .lt off, 3)) (ht : (pc : Int) + off = (tgt : Int)) (kt : (x < 0) → xV p l e R s m args below meth c D cl w A nL cells slots Q g tgt lv stk) (kf : (¬ x < 0) → xV p l e R s m args below meth c D cl w A nL cells slots Q g (pc + 3) lv stk) : xV p l e R s m args below meth c D cl w A nL cells slots Q g pc lv (.int x :: stk) := fun H locs ls hP hS hl => lv_if_lt C.1 C.2.1 hdg ht (fun q => kt q H locs ls hP hS hl) (fun q => kf q H locs ls hP hS hl)
theorem v_icmp_lt (C : xC p s m args c cc own Ts nL D cl w tys A) {x y : Int32} {off : Int} {tgt : Nat} (hdg : decode cc pc = .ok (.if_icmp .lt off, 3)) (ht : (pc : Int) + off = (tgt : Int)) (kt : (x < y) → xV p l e R s m args below meth c D cl w A nL cells slots Q g tgt lv stk) (kf : (¬ x < y) → xV p l e R s m args below meth c D cl w A nL cells slots Q g (pc + 3) lv stk) : xV p l e R s m args below meth c D cl w A nL cells slots Q g pc lv (.int y :: .int x :: stk) := fun H locs ls hP hS hl => lv_icmp_lt C.1 C.2.1 hdg ht (fun q => kt q H locs ls hP hS hl) (fun q => kf q H locs ls hP hS hl)
theorem v_if_ge (C : xC p s m args c cc own Ts nL D cl w tys A) {x : Int32} {off : Int} {tgt : Nat} (hdg : decode cc pc = .ok (.ifCond .ge off, 3)) (ht : (pc : Int) + off = (tgt : Int)) (kt : (0 ≤ x) → xV p l e R s m args below meth c D cl w A nL cells slots Q g tgt lv stk) (kf : (¬ 0 ≤ x) → xV p l e R s m args below meth c D cl w A nL cells slots Q g (pc + 3) lv stk) : xV p l e R s m args below meth c D cl w A nL cells slots Q g pc lv (.int x :: stk) := fun H locs ls hP hS hl => lv_if_ge C.1 C.2.1 hdg ht (fun q => kt q H locs ls hP hS hl) (fun q => kf q H locs ls hP hS hl)
theorem v_icmp_ge (C : xC p s m args c cc own Ts nL D cl w tys A) {x y : Int32} {off : Int} {tgt : Nat} (hdg : decode cc pc = .ok (.if_icmp .ge off, 3)) (ht : (pc : Int) + off = (tgt : Int)) (kt : (y ≤ x) → xV p l e R s m args below meth c D cl w A nL cells slots Q g tgt lv stk) (kf : (¬ y ≤ x) → xV p l e R s m args below meth c D cl w A nL cells slots Q g (pc + 3) lv stk) : xV p l e R s m args below meth c D cl w A nL cells slots Q g pc lv (.int y :: .int x :: stk) := fun H locs ls hP hS hl => lv_icmp_ge C.1 C.2.1 hdg ht (fun q => kt q H locs ls hP hS hl) (fun q => kf q H locs ls hP hS hl)
theorem v_if_gt (C : xC p s m args c cc own Ts nL D cl w tys A) {x : Int32} {off : Int} {tgt : Nat} (hdg : decode cc pc = .ok (.ifCond .gt off, 3)) (ht : (pc : Int) + off = (tgt : Int)) (kt : (0 < x) → xV p l e R s m args below meth c D cl w A nL cells slots Q g tgt lv stk) (kf : (¬ 0 < x) → xV p l e R s m args below meth c D cl w A nL cells slots Q g (pc + 3) lv stk) : xV p l e R s m args below meth c D cl w A nL cells slots Q g pc lv (.int x :: stk) := fun H locs ls hP hS hl => lv_if_gt C.1 C.2.1 hdg ht (fun q => kt q H locs ls hP hS hl) (fun q => kf q H locs ls hP hS hl)
theorem v_icmp_gt (C : xC p s m args c cc own Ts nL D cl w tys A) {x y : Int32} {off : Int} {tgt : Nat} (hdg : decode cc pc = .ok (.if_icmp .gt off, 3)) (ht : (pc : Int) + off = (tgt : Int)) (kt : (y < x) → xV p l e R s m args below meth c D cl w A nL cells slots Q g tgt lv stk) (kf : (¬ y < x) → xV p l e R s m args below meth c D cl w A nL cells slots Q g (pc + 3) lv stk) : xV p l e R s m args below meth c D cl w A nL cells slots Q g pc lv (.int y :: .int x :: stk) := fun H locs ls hP hS hl => lv_icmp_gt C.1 C.2.1 hdg ht (fun q => kt q H locs ls hP hS hl) (fun q => kf q H locs ls hP hS hl)
theorem v_if_le (C : xC p s m args c cc own Ts nL D cl w tys A) {x : Int32} {off : Int} {tgt : Nat} (hdg : decode cc pc = .ok (.ifCond .le off, 3)) (ht : (pc : Int) + off = (tgt : Int)) (kt : (x ≤ 0) → xV p l e R s m args below meth c D cl w A nL cells slots Q g tgt lv stk) (kf : (¬ x ≤ 0) → xV p l e R s m args below meth c D cl w A nL cells slots Q g (pc + 3) lv stk) : xV p l e R s m args below meth c D cl w A nL cells slots Q g pc lv (.int x :: stk) := fun H locs ls hP hS hl => lv_if_le C.1 C.2.1 hdg ht (fun q => kt q H locs ls hP hS hl) (fun q => kf q H locs ls hP hS hl)
theorem v_icmp_le (C : xC p s m args c cc own Ts nL D cl w tys A) {x y : Int32} {off : Int} {tgt : Nat} (hdg : decode cc pc = .ok (.if_icmp .le off, 3)) (ht : (pc : Int) + off = (tgt : Int)) (kt : (x ≤ y) → xV p l e R s m args below meth c D cl w A nL cells slots Q g tgt lv stk) (kf : (¬ x ≤ y) → xV p l e R s m args below meth c D cl w A nL cells slots Q g (pc + 3) lv stk) : xV p l e R s m args below meth c D cl w A nL cells slots Q g pc lv (.int y :: .int x :: stk) := fun H locs ls hP hS hl => lv_icmp_le C.1 C.2.1 hdg ht (fun q => kt q H locs ls hP hS hl) (fun q => kf q H locs ls hP hS hl)
theorem v_get (C : xC p s m args c cc own Ts nL D cl w tys A) {Cn : String} {Tf : u_T} {N ci index a : Nat} (F : (∀ q ∈ u_ws Cn Tf N, q ∈ Ts) ∧ cl[ci]? = some (Cn, Tf, N)) (q0 : Nat) {fs : List Value} (he : (w g)[q0]? = some (a, .inr (ci, fs))) (k0 : Nat) (hk : k0 < N) (hlink : (Cond.fieldLink own index (Tf k0).1 (Tf k0).2.1 (Tf k0).2.2.1).before args s = true) {v : Value} (hv : fs[k0]? = some v) (hdg : decode cc pc = .ok (.getfield index, 3)) (k : xV p l e R s m args below meth c D cl w A nL cells slots Q g (pc + 3) lv (v :: stk)) : xV p l e R s m args below meth c D cl w A nL cells slots Q g pc lv (.ref a :: stk) := fun H locs ls hP hS hl => va_get C.1 C.2.1 C.2.2.2.2.1 F.1 C.2.2.2.1 C.2.2.2.2.2.1 hP q0 he F.2 k0 hk hlink (fun _ h9 => h9) hv hdg (k H locs ls hP hS hl)
theorem v_getN (C : xC p s m args c cc own Ts nL D cl w tys A) {host : String} {Cn : String} {Tf : u_T} {N ci index a : Nat} (F : (∀ q ∈ u_ws Cn Tf N, q ∈ Ts) ∧ cl[ci]? = some (Cn, Tf, N)) (q0 : Nat) {fs : List Value} (he : (w g)[q0]? = some (a, .inr (ci, fs))) (k0 : Nat) (hk : k0 < N) (hlink : (Cond.fieldLinkNest own index (Tf k0).1 (Tf k0).2.1 (Tf k0).2.2.1 host).before args s = true) {v : Value} (hv : fs[k0]? = some v) (hdg : decode cc pc = .ok (.getfield index, 3)) (k : xV p l e R s m args below meth c D cl w A nL cells slots Q g (pc + 3) lv (v :: stk)) : xV p l e R s m args below meth c D cl w A nL cells slots Q g pc lv (.ref a :: stk) := fun H locs ls hP hS hl => va_getN C.1 C.2.1 C.2.2.2.2.1 F.1 C.2.2.2.1 C.2.2.2.2.2.1 hP q0 he F.2 k0 hk hlink (fun _ h9 => h9) hv hdg (k H locs ls hP hS hl)
theorem v_put (C : xC p s m args c cc own Ts nL D cl w tys A) {Cn : String} {Tf : u_T} {N ci index a : Nat} (F : (∀ q ∈ u_ws Cn Tf N, q ∈ Ts) ∧ cl[ci]? = some (Cn, Tf, N)) (q0 : Nat) {fs : List Value} (he : (w g)[q0]? = some (a, .inr (ci, fs))) (k0 : Nat) (hk : k0 < N) {ty0 : Nat → FieldType} (G : (∀ j, j < N → parseFieldDescriptor (Tf j).2.2.1 = some (ty0 j)) ∧ ∀ a, a < N → ∀ b, b < N → a ≠ b → (Tf a).2.1 ≠ (Tf b).2.1) (hlink : (Cond.fieldLink own index (Tf k0).1 (Tf k0).2.1 (Tf k0).2.2.1).before args s = true) (hfin : (Tf k0).2.2.2 = false) {ty : FieldType} {v : Value} (hd : parseFieldDescriptor (Tf k0).2.2.1 = some ty) (hn : narrow ty v = v) (hfit : fits ty v = true) (hl0 : k0 < fs.length) {g' : xSt} (hw : (w g).set q0 (a, .inr (ci, fs.set k0 v)) = w g') (hdg : decode cc pc = .ok (.putfield index, 3)) (k : xV p l e R s m args below meth c D cl w A nL cells slots Q g' (pc + 3) lv stk) : xV p l e R s m args below meth c D cl w A nL cells slots Q g pc lv (v :: .ref a :: stk) := fun H locs ls hP hS hl => va_put C.1 C.2.1 C.2.2.2.2.1 F.1 ty0 G.1 G.2 C.2.2.2.1 C.2.2.2.2.2.1 hP (C.2.2.2.2.2.2.1 g) hS q0 he F.2 k0 hk hlink (fun _ h9 => h9) hfin hd hn hfit hl0 hdg (fun H1 locs1 hP1 _ hS1 => k H1 locs1 ls (by rw [← hw]; exact hP1) hS1 hl)
theorem v_putN (C : xC p s m args c cc own Ts nL D cl w tys A) {host : String} {Cn : String} {Tf : u_T} {N ci index a : Nat} (F : (∀ q ∈ u_ws Cn Tf N, q ∈ Ts) ∧ cl[ci]? = some (Cn, Tf, N)) (q0 : Nat) {fs : List Value} (he : (w g)[q0]? = some (a, .inr (ci, fs))) (k0 : Nat) (hk : k0 < N) {ty0 : Nat → FieldType} (G : (∀ j, j < N → parseFieldDescriptor (Tf j).2.2.1 = some (ty0 j)) ∧ ∀ a, a < N → ∀ b, b < N → a ≠ b → (Tf a).2.1 ≠ (Tf b).2.1) (hlink : (Cond.fieldLinkNest own index (Tf k0).1 (Tf k0).2.1 (Tf k0).2.2.1 host).before args s = true) (hfin : (Tf k0).2.2.2 = false) {ty : FieldType} {v : Value} (hd : parseFieldDescriptor (Tf k0).2.2.1 = some ty) (hn : narrow ty v = v) (hfit : fits ty v = true) (hl0 : k0 < fs.length) {g' : xSt} (hw : (w g).set q0 (a, .inr (ci, fs.set k0 v)) = w g') (hdg : decode cc pc = .ok (.putfield index, 3)) (k : xV p l e R s m args below meth c D cl w A nL cells slots Q g' (pc + 3) lv stk) : xV p l e R s m args below meth c D cl w A nL cells slots Q g pc lv (v :: .ref a :: stk) := fun H locs ls hP hS hl => va_putN C.1 C.2.1 C.2.2.2.2.1 F.1 ty0 G.1 G.2 C.2.2.2.1 C.2.2.2.2.2.1 hP (C.2.2.2.2.2.2.1 g) hS q0 he F.2 k0 hk hlink (fun _ h9 => h9) hfin hd hn hfit hl0 hdg (fun H1 locs1 hP1 _ hS1 => k H1 locs1 ls (by rw [← hw]; exact hP1) hS1 hl)
theorem v_iald (C : xC p s m args c cc own Ts nL D cl w tys A) (q0 t0 : Nat) {a : Nat} {cA : ClassId} {n : Nat} {f : Nat → Int32} (ha : (w g)[q0]? = some (a, .inl (cA, n, .inl f))) (ht : tys[t0]? = some (cA, .int)) {i : Int32} (hin : ¬ (i < 0 ∨ n ≤ i.toNatClampNeg)) (hdg : decode cc pc = .ok (.iaload, 1)) (k : xV p l e R s m args below meth c D cl w A nL cells slots Q g (pc + 1) lv (.int (f i.toNatClampNeg) :: stk)) : xV p l e R s m args below meth c D cl w A nL cells slots Q g pc lv (.int i :: .ref a :: stk) := fun H locs ls hP hS hl => va_iald C.1 C.2.1 C.2.2.2.2.2.1 hP q0 t0 ha ht hin hdg (k H locs ls hP hS hl)
theorem v_zald (C : xC p s m args c cc own Ts nL D cl w tys A) (q0 t0 : Nat) {a : Nat} {cA : ClassId} {n : Nat} {f : Nat → Int32} (ha : (w g)[q0]? = some (a, .inl (cA, n, .inl f))) (ht : tys[t0]? = some (cA, .boolean)) {i : Int32} (hin : ¬ (i < 0 ∨ n ≤ i.toNatClampNeg)) (hdg : decode cc pc = .ok (.baload, 1)) (k : xV p l e R s m args below meth c D cl w A nL cells slots Q g (pc + 1) lv (.int (f i.toNatClampNeg) :: stk)) : xV p l e R s m args below meth c D cl w A nL cells slots Q g pc lv (.int i :: .ref a :: stk) := fun H locs ls hP hS hl => va_zald C.1 C.2.1 C.2.2.2.2.2.1 hP q0 t0 ha ht hin hdg (k H locs ls hP hS hl)
theorem v_aald (C : xC p s m args c cc own Ts nL D cl w tys A) (q0 t0 : Nat) {a b : Nat} {cA : ClassId} {n : Nat} {Cn : String} {f : Nat → Option Nat} (ha : (w g)[q0]? = some (a, .inl (cA, n, .inr (.inr (.inr (.inr f)))))) (ht : tys[t0]? = some (cA, .object Cn)) {i : Int32} (hin : ¬ (i < 0 ∨ n ≤ i.toNatClampNeg)) (hf : f i.toNatClampNeg = some b) (hdg : decode cc pc = .ok (.aaload, 1)) (k : xV p l e R s m args below meth c D cl w A nL cells slots Q g (pc + 1) lv (.ref b :: stk)) : xV p l e R s m args below meth c D cl w A nL cells slots Q g pc lv (.int i :: .ref a :: stk) := fun H locs ls hP hS hl => va_aldq C.1 C.2.1 C.2.2.2.2.2.1 hP q0 t0 ha ht hin hdg (by rw [hf]; exact k H locs ls hP hS hl)
theorem v_iast (C : xC p s m args c cc own Ts nL D cl w tys A) (q0 t0 : Nat) {a : Nat} {cA : ClassId} {n : Nat} {f : Nat → Int32} (ha : (w g)[q0]? = some (a, .inl (cA, n, .inl f))) (ht : tys[t0]? = some (cA, .int)) {i x : Int32} (hin : ¬ (i < 0 ∨ n ≤ i.toNatClampNeg)) {g' : xSt} (hw : (w g).set q0 (a, .inl (cA, n, .inl (upd f i.toNatClampNeg x))) = w g') (hdg : decode cc pc = .ok (.iastore, 1)) (k : xV p l e R s m args below meth c D cl w A nL cells slots Q g' (pc + 1) lv stk) : xV p l e R s m args below meth c D cl w A nL cells slots Q g pc lv (.int x :: .int i :: .ref a :: stk) := fun H locs ls hP hS hl => va_iast C.1 C.2.1 C.2.2.2.2.2.1 hP (C.2.2.2.2.2.2.1 g) hS q0 t0 ha ht hin hdg (fun H1 locs1 hP1 _ hS1 => k H1 locs1 ls (by rw [← hw]; exact hP1) hS1 hl)
theorem v_zast (C : xC p s m args c cc own Ts nL D cl w tys A) (q0 t0 : Nat) {a : Nat} {cA : ClassId} {n : Nat} {f : Nat → Int32} (ha : (w g)[q0]? = some (a, .inl (cA, n, .inl f))) (ht : tys[t0]? = some (cA, .boolean)) {i x : Int32} (hin : ¬ (i < 0 ∨ n ≤ i.toNatClampNeg)) {g' : xSt} (hw : (w g).set q0 (a, .inl (cA, n, .inl (upd f i.toNatClampNeg (vp_nar .boolean x)))) = w g') (hdg : decode cc pc = .ok (.bastore, 1)) (k : xV p l e R s m args below meth c D cl w A nL cells slots Q g' (pc + 1) lv stk) : xV p l e R s m args below meth c D cl w A nL cells slots Q g pc lv (.int x :: .int i :: .ref a :: stk) := fun H locs ls hP hS hl => va_zast C.1 C.2.1 C.2.2.2.2.2.1 hP (C.2.2.2.2.2.2.1 g) hS q0 t0 ha ht hin hdg (fun H1 locs1 hP1 _ hS1 => k H1 locs1 ls (by rw [← hw]; exact hP1) hS1 hl)
theorem v_lv (h : lv = lv') (k : xV p l e R s m args below meth c D cl w A nL cells slots Q g pc lv' stk) : xV p l e R s m args below meth c D cl w A nL cells slots Q g pc lv stk := h ▸ k
theorem v_g {g' : xSt} (h : g' = g) (k : xV p l e R s m args below meth c D cl w A nL cells slots Q g' pc lv stk) : xV p l e R s m args below meth c D cl w A nL cells slots Q g pc lv stk := h ▸ k
theorem v_sub (ks : List Nat) (h : lv_pick lv ks = lv') (k : xV p l e R s m args below meth c D cl w A nL cells slots Q g pc lv' stk) : xV p l e R s m args below meth c D cl w A nL cells slots Q g pc lv stk := fun H locs ls hP hS hl => k H locs ls hP hS (lv_sub hl ks h)
end XR
/-! calls -/
def xTh (E : String) (t : State) (a : Addr) : Prop := ∃ ce : Cell, t.heap[a]? = some ce ∧ t.vm.findClass E = some ce.cls ∧ ce.vm = .none
def xA (w : xSt → va_W) (sz : Nat) : Nat → Prop := va_A (w (fun _ _ => 0)) sz
def xP (TB : State → Prop) (D : va_G) (cl : List vw_C) (w : xSt → va_W) (tys : List (ClassId × FieldType)) (sz : Nat) (As : List Value) (g : xSt) : Array Value → State → Prop :=
  va_Pc As (fun U => U.heap.size = sz ∧ va_P D cl (w g) U.heap ∧ va_K D cl tys U ∧ va_D (fun _ => True) (w g) ∧ TB U)
def xQ (D : va_G) (cl : List vw_C) (w : xSt → va_W) (A : Nat → Prop) (ov : Option Value ⊕ String) (g' : xSt) : Array Value → State → Outcome → State → Prop := fun _ st oc t =>
  (match ov with | .inl v => oc = .returned v | .inr E => ∃ a : Addr, oc = .threw a ∧ st.heap.size ≤ a ∧ xTh E t a) ∧ va_P D cl (w g') t.heap ∧ va_F A st t
section XCALL
variable {p : Program} {l : Launch} {e : Env} {R : Room} {s : State} {m : MethodId} {args : Array Value} {below : List Frame} {meth : Method} {c : Code} {T : State} {H : Heap} {locs : List Loc} {cells slots : Nat}
variable {y : MethodName} {ws ws' : List Cond} {rm : Room} {Pc : Array Value → State → Prop} {Qc : Array Value → State → Outcome → State → Prop} {mc ms : Nat} {free : Addr → Prop} {cc bytes : ByteArray} {maxL : Nat} {ret : Option FieldType}
/-- what a call does to the caller's walk -/
def xRun (p : Program) (l : Launch) (e : Env) (R : Room) (s : State) (m : MethodId) (args : Array Value) (below : List Frame) (meth : Method) (c : Code) (T : State) (locs : List Loc) (cells slots mc ms : Nat) (g : JFrame) (rest : List Value) (Qa : State → Outcome → State → Prop) (free : Addr → Prop) : Prop :=
  ∃ (o : Outcome) (st₀ t T' : State) (L : List Loc), st₀.heap = T.heap ∧ Stand p l e R s m args below meth c T' (locs ++ L) (cells + mc) (slots + ms) ∧ (∀ q ∈ L, free q.base) ∧ T'.heap = t.heap ∧ T'.vm = t.vm ∧ Qa st₀ o t ∧
    ((∃ v, o = .returned v ∧ ∀ tg, Steps p.tables e below (T'.setTop { g with pc := g.pc + 3, stack := v.toList ++ rest }) tg → Steps p.tables e below (T.setTop g) tg) ∨
     (∃ x, o = .threw x ∧ ∀ tg, Steps p.tables e below ((T'.setTop { g with stack := rest }).pushFrame (.throwing x)) tg → Steps p.tables e below (T.setTop g) tg))
/-- what is asked of a callee's words and room -/
def xCB (R : Room) (s : State) (y : MethodName) (bytes : ByteArray) (maxL : Nat) (ret : Option FieldType) (ws : List Cond) (rm : Room) (mc ms : Nat) : Prop :=
  (rm.cells = mc ∧ rm.slots = ms ∧ rm.frames + 1 ≤ R.frames ∧ 8 + (maxL + 11) + rm.locals ≤ R.locals ∧ (∀ w ∈ ws, ∀ (a' : Array Value) (U : State), s.WarmedH U.vm → w.before a' U = true) ∧ Cond.code y bytes maxL ret ∈ ws) ∧
  (∀ (a' : Array Value) (U : State), s.WarmedH U.vm → (Cond.initialized y.cls).before a' U = true)
theorem xcallS (X : Stand p l e R s m args below meth c T locs cells slots) (hexec : p.tables.exec = Jvm.exec) (hM : xMet l y ws rm Pc Qc mc ms free) (hbl : FrameBlind Pc) (cb : xCB R s y bytes maxL ret ws rm mc ms)
    {own : String} {index : Nat} (hown : s.vm.findClass own = some m.cls) (hlink : (Cond.methodLink own index y).before args s = true) (hstat : (Cond.static y).before args s = true)
    (hy : y.cls ≠ "java/lang/invoke/MethodHandle" ∧ y.cls ≠ "java/lang/invoke/VarHandle")
    {g : JFrame} (hg : g.method = m) (hsize : g.locals.size = c.maxLocals) {argsL rest : List Value} (hlen : ∀ sig, parseMethodDescriptor y.desc = some sig → argsL.length = sig.parameters.length)
    (hstack : g.stack = argsL.reverse ++ rest) (hW : 2 * g.monitorRoom + (rest.map fun v => v.category).sum ≤ 8) (hdg : decode c.code g.pc = .ok (.invokestatic index, 3)) (hc : cells + mc ≤ R.cells) (hs : slots + ms ≤ R.slots)
    (hP : ∀ U : State, U.heap = T.heap → s.WarmedH U.vm → Pc argsL.toArray U) : xRun p l e R s m args below meth c T locs cells slots mc ms g rest (Qc argsL.toArray) free := by
  have hcode : (Cond.code y bytes maxL ret).before args s = true := cb.1.2.2.2.2.1 _ cb.1.2.2.2.2.2 args s (State.WarmedH.refl s)
  have hinit : (Cond.initialized y.cls).before args s = true := cb.2 args s (State.WarmedH.refl s)
  obtain ⟨mk, hnamed⟩ := Cond.code_named hcode
  obtain ⟨methM, cM, hmethM, -, -, -, -, -, -, hsigM⟩ := Cond.code_spec hnamed hcode
  have hstatic : methM.isStatic = true := Cond.static_spec hnamed hmethM hstat
  obtain ⟨kP, hkP, -⟩ := className_of_methodNamed hnamed
  have hinitP : kP.init = .initialized := Cond.initialized_spec (findClass_of_methodNamed hnamed) hkP hinit
  obtain ⟨vm₁, X₁, hstep₁⟩ := X.invokestatic hexec hown hlink hnamed hmethM hstatic hkP hinitP hy (g := g) hg (argsL := argsL) (rest := rest) (hlen _ hsigM) hstack hdg
  obtain ⟨o, t, T', L, X', hL, e1, e2, hq, hst⟩ := xBack hM hbl cb.1 cb.2 X₁ (g := { g with stack := rest }) hg hsize hdg hW (X₁.named hnamed) hc hs (hP (T.setVm vm₁) rfl X₁.warmed)
  refine ⟨o, (T.setVm vm₁).calling { g with stack := rest } mk _, t, T', L, rfl, X', hL, e1, e2, hq, ?_⟩
  rcases hst with ⟨v, hv, h⟩ | ⟨x, hx, h⟩
  · exact Or.inl ⟨v, hv, fun tg ht => hstep₁ _ fun acts => by rw [doInvoke_state]; exact h.trans ht⟩
  · exact Or.inr ⟨x, hx, fun tg ht => hstep₁ _ fun acts => by rw [doInvoke_state]; exact h.trans ht⟩
theorem xcallV (X : Stand p l e R s m args below meth c T locs cells slots) (hexec : p.tables.exec = Jvm.exec) (hM : xMet l y ws rm Pc Qc mc ms free) (hbl : FrameBlind Pc) (cb : xCB R s y bytes maxL ret ws rm mc ms)
    {own C : String} {index : Nat} (hown : s.vm.findClass own = some m.cls) (hlink : (Cond.methodLink own index y).before args s = true) (hinst : (Cond.instanceMethod y).before args s = true) (hsel : (Cond.selects C y y).before args s = true)
    (hy : y.cls ≠ "java/lang/invoke/MethodHandle" ∧ y.cls ≠ "java/lang/invoke/VarHandle")
    {b : Addr} {cellB : Cell} (hcell : T.heap[b]? = some cellB) (hobj : cellB.vm.isStatics = false) (hcls : s.vm.findClass C = some cellB.cls)
    {g : JFrame} (hg : g.method = m) (hsize : g.locals.size = c.maxLocals) {argsL rest : List Value} (hlen : ∀ sig, parseMethodDescriptor y.desc = some sig → argsL.length = sig.parameters.length)
    (hstack : g.stack = argsL.reverse ++ .ref b :: rest) (hW : 2 * g.monitorRoom + (rest.map fun v => v.category).sum ≤ 8) (hdg : decode c.code g.pc = .ok (.invokevirtual index, 3)) (hc : cells + mc ≤ R.cells) (hs : slots + ms ≤ R.slots)
    (hP : ∀ U : State, U.heap = T.heap → s.WarmedH U.vm → Pc (Value.ref b :: argsL).toArray U) : xRun p l e R s m args below meth c T locs cells slots mc ms g rest (Qc (Value.ref b :: argsL).toArray) free := by
  have hcode : (Cond.code y bytes maxL ret).before args s = true := cb.1.2.2.2.2.1 _ cb.1.2.2.2.2.2 args s (State.WarmedH.refl s)
  obtain ⟨mk, methM, hnamed, hmethM, hstM, habM⟩ := Cond.instanceMethod_spec hinst
  obtain ⟨methM', cM, hmethM', -, -, -, -, -, -, hsigM⟩ := Cond.code_spec hnamed hcode
  cases hmethM.symm.trans hmethM'
  obtain ⟨c2, r2, m2, q1, q2, q3, q4, kP, hkP, hkPi⟩ := Cond.selects_spec hsel
  cases hcls.symm.trans q1
  cases (State.methodFound?_of_named hnamed hy).symm.trans q2
  cases hnamed.symm.trans q3
  have hselP : selectMethod e.platform s.vm cellB.cls mk = .method mk := by rw [Launch.admits_selectMethod X.admits]; exact q4
  obtain ⟨vm₁, X₁, hstep₁⟩ := X.invokevirtual hexec hown hlink hnamed hmethM hstM hkP hkPi hy (a := b) (cell := cellB) hcell
    (fun z h => by rw [h] at hobj; cases hobj) hselP hmethM habM hkP hkPi (g := g) hg (argsL := argsL) (rest := rest) (hlen _ hsigM) hstack hdg
  obtain ⟨o, t, T', L, X', hL, e1, e2, hq, hst⟩ := xBack hM hbl cb.1 cb.2 X₁ (g := { g with stack := rest }) hg hsize hdg hW (X₁.named hnamed) hc hs (hP (T.setVm vm₁) rfl X₁.warmed)
  refine ⟨o, (T.setVm vm₁).calling { g with stack := rest } mk _, t, T', L, rfl, X', hL, e1, e2, hq, ?_⟩
  rcases hst with ⟨v, hv, h⟩ | ⟨x, hx, h⟩
  · exact Or.inl ⟨v, hv, fun tg ht => hstep₁ _ fun acts => by rw [doInvoke_state]; exact h.trans ht⟩
  · exact Or.inr ⟨x, hx, fun tg ht => hstep₁ _ fun acts => by rw [doInvoke_state]; exact h.trans ht⟩
theorem xcallVN (X : Stand p l e R s m args below meth c T locs cells slots) (hexec : p.tables.exec = Jvm.exec) (hM : xMet l y ws rm Pc Qc mc ms free) (hbl : FrameBlind Pc) (cb : xCB R s y bytes maxL ret ws rm mc ms)
    {own C host : String} {index : Nat} (hown : s.vm.findClass own = some m.cls) (hlink : (Cond.methodLinkNest own index y host).before args s = true) (hinst : (Cond.instanceMethod y).before args s = true) (hsel : (Cond.selects C y y).before args s = true)
    (hy : y.cls ≠ "java/lang/invoke/MethodHandle" ∧ y.cls ≠ "java/lang/invoke/VarHandle")
    {b : Addr} {cellB : Cell} (hcell : T.heap[b]? = some cellB) (hobj : cellB.vm.isStatics = false) (hcls : s.vm.findClass C = some cellB.cls)
    {g : JFrame} (hg : g.method = m) (hsize : g.locals.size = c.maxLocals) {argsL rest : List Value} (hlen : ∀ sig, parseMethodDescriptor y.desc = some sig → argsL.length = sig.parameters.length)
    (hstack : g.stack = argsL.reverse ++ .ref b :: rest) (hW : 2 * g.monitorRoom + (rest.map fun v => v.category).sum ≤ 8) (hdg : decode c.code g.pc = .ok (.invokevirtual index, 3)) (hc : cells + mc ≤ R.cells) (hs : slots + ms ≤ R.slots)
    (hP : ∀ U : State, U.heap = T.heap → s.WarmedH U.vm → Pc (Value.ref b :: argsL).toArray U) : xRun p l e R s m args below meth c T locs cells slots mc ms g rest (Qc (Value.ref b :: argsL).toArray) free := by
  have hcode : (Cond.code y bytes maxL ret).before args s = true := cb.1.2.2.2.2.1 _ cb.1.2.2.2.2.2 args s (State.WarmedH.refl s)
  obtain ⟨mk, methM, hnamed, hmethM, hstM, habM⟩ := Cond.instanceMethod_spec hinst
  obtain ⟨methM', cM, hmethM', -, -, -, -, -, -, hsigM⟩ := Cond.code_spec hnamed hcode
  cases hmethM.symm.trans hmethM'
  obtain ⟨c2, r2, m2, q1, q2, q3, q4, kP, hkP, hkPi⟩ := Cond.selects_spec hsel
  cases hcls.symm.trans q1
  cases (State.methodFound?_of_named hnamed hy).symm.trans q2
  cases hnamed.symm.trans q3
  have hselP : selectMethod e.platform s.vm cellB.cls mk = .method mk := by rw [Launch.admits_selectMethod X.admits]; exact q4
  obtain ⟨vm₁, X₁, hstep₁⟩ := X.invokevirtualNest hexec hown hlink hnamed hmethM hstM hkP hkPi hy (a := b) (cell := cellB) hcell
    (fun z h => by rw [h] at hobj; cases hobj) hselP hmethM habM hkP hkPi (g := g) hg (argsL := argsL) (rest := rest) (hlen _ hsigM) hstack hdg
  obtain ⟨o, t, T', L, X', hL, e1, e2, hq, hst⟩ := xBack hM hbl cb.1 cb.2 X₁ (g := { g with stack := rest }) hg hsize hdg hW (X₁.named hnamed) hc hs (hP (T.setVm vm₁) rfl X₁.warmed)
  refine ⟨o, (T.setVm vm₁).calling { g with stack := rest } mk _, t, T', L, rfl, X', hL, e1, e2, hq, ?_⟩
  rcases hst with ⟨v, hv, h⟩ | ⟨x, hx, h⟩
  · exact Or.inl ⟨v, hv, fun tg ht => hstep₁ _ fun acts => by rw [doInvoke_state]; exact h.trans ht⟩
  · exact Or.inr ⟨x, hx, fun tg ht => hstep₁ _ fun acts => by rw [doInvoke_state]; exact h.trans ht⟩
end XCALL
/-! calls, returns, throws and the entry, in the calculus -/
section XVC
variable {p : Program} {l : Launch} {e : Env} {R : Room} {s : State} {m : MethodId} {args : Array Value} {below : List Frame} {meth : Method} {c : Code} {D : va_G} {cl : List vw_C} {w : xSt → va_W} {A : Nat → Prop} {nL cells slots : Nat} {Q : State → Prop}
variable {cc : ByteArray} {own : String} {Ts : List Cond} {tys : List (ClassId × FieldType)} {g g' : xSt} {pc mc ms : Nat} {lv lv' : List (Nat × Value)} {stk rest : List Value} {v : Option Value} {E : String} {a : Array Value}
theorem xA_sub (C : xC p s m args c cc own Ts nL D cl w tys A) {sz q : Nat} (hz : s.heap.size ≤ sz) (h : xA w sz q) : A q := by
  rcases h with ⟨k, e, h⟩ | h
  · exact (C.2.2.2.2.2.2.1 _).2 k _ h
  · exact C.2.2.2.2.2.2.2 q (Nat.le_trans hz h)
theorem xS_call (C : xC p s m args c cc own Ts nL D cl w tys A) {H : Heap} {t st₀ : State} {locs L : List Loc} (hS : va_S A s.heap H locs) (h0 : st₀.heap = H) (hF : va_F (xA w H.size) st₀ t) (hL : ∀ q ∈ L, xA w H.size q.base) : va_S A s.heap t.heap (locs ++ L) := by
  obtain ⟨hz, hk⟩ := hF
  rw [h0] at hz hk
  refine ⟨Nat.le_trans hS.1 hz, fun q h1 h2 => ?_, fun q hq => ?_⟩
  · rw [hk q (Nat.lt_of_lt_of_le h1 hS.1) (fun z => h2 (xA_sub C hS.1 z))]
    exact hS.2.1 q h1 h2
  · rcases List.mem_append.mp hq with h | h
    · exact hS.2.2 q h
    · exact xA_sub C hS.1 (hL q h)
theorem v_back (C : xC p s m args c cc own Ts nL D cl w tys A)
    (run : ∀ (T : State) (locs : List Loc) (ls : Array Slot), va_P D cl (w g) T.heap → va_S A s.heap T.heap locs → ls.size = nL → Stand p l e R s m args below meth c T locs cells slots → xRun p l e R s m args below meth c T locs cells slots mc ms (F0 m pc ls stk) rest (xQ D cl w (xA w T.heap.size) (.inl v) g' a) (xA w T.heap.size))
    (k : xV p l e R s m args below meth c D cl w A nL (cells + mc) (slots + ms) Q g' (pc + 3) lv (v.toList ++ rest)) : xV p l e R s m args below meth c D cl w A nL cells slots Q g pc lv stk := by
  intro H locs ls hP hS hl T hT X
  subst hT
  obtain ⟨o, st₀, t, T', L, h0, X', hL, e1, e2, ⟨ho, hP', hF⟩, hst⟩ := run T locs ls hP hS hl.1 X
  have ho : o = .returned v := ho
  rcases hst with ⟨v', hv', h⟩ | ⟨x, hx, h⟩
  · have hvv : v' = v := by have := hv'.symm.trans ho; cases this; rfl
    subst hvv
    obtain ⟨t2, a1, b1⟩ := k T'.heap (locs ++ L) ls (by rw [e1]; exact hP') (by rw [e1]; exact xS_call C hS h0 hF hL) hl T' rfl X'
    exact ⟨t2, h t2 a1, b1⟩
  · have := hx.symm.trans ho
    cases this
/-- a call that throws out of this method -/
theorem v_out (C : xC p s m args c cc own Ts nL D cl w tys A)
    (run : ∀ (T : State) (locs : List Loc) (ls : Array Slot), va_P D cl (w g) T.heap → va_S A s.heap T.heap locs → ls.size = nL → Stand p l e R s m args below meth c T locs cells slots → xRun p l e R s m args below meth c T locs cells slots mc ms (F0 m pc ls stk) rest (xQ D cl w (xA w T.heap.size) (.inr E) g' a) (xA w T.heap.size))
    (hout : ∀ x ∈ c.exceptionTable.toList, covers x pc = false) (hlocks : meth.locks = false) {mc' ms' : Nat} (h1 : cells + mc ≤ mc') (h2 : slots + ms ≤ ms') :
    xV p l e R s m args below meth c D cl w A nL cells slots (xMQ below (xQ D cl w A (.inr E) g') args s mc' ms' A) g pc lv stk := by
  intro H locs ls hP hS hl T hT X
  subst hT
  obtain ⟨o, st₀, t, T', L, h0, X', hL, e1, e2, ⟨ho, hP', hF⟩, hst⟩ := run T locs ls hP hS hl.1 X
  obtain ⟨x, ho, hx, hth⟩ : ∃ x : Addr, o = .threw x ∧ st₀.heap.size ≤ x ∧ xTh E t x := ho
  rcases hst with ⟨v', hv', h⟩ | ⟨x', hx', h⟩
  · have := hv'.symm.trans ho
    cases this
  · have hxx : x' = x := by have := hx'.symm.trans ho; cases this; rfl
    subst hxx
    have X'' := stand_widen X' h1 h2
    obtain ⟨q1, q2, q3, q4, q5⟩ := X''.leaveThrown x' (g := { F0 m pc ls stk with stack := rest }) rfl rfl rfl hout hlocks
    have hS' := xS_call C hS h0 hF hL
    refine ⟨_, h _ q1, .threw x', q2, q3, ⟨⟨x', rfl, by rw [h0] at hx; exact Nat.le_trans hS.1 hx, ?_⟩, ?_, ?_⟩, locs ++ L, ⟨q4, q5⟩, hS'.2.2⟩
    · obtain ⟨ce, c1, c2, c3⟩ := hth
      exact ⟨ce, by show T'.heap[x']? = _; rw [e1]; exact c1, by show T'.vm.findClass E = _; rw [e2]; exact c2, c3⟩
    · show va_P D cl (w g') T'.heap
      rw [e1]; exact hP'
    · rw [← e1] at hS'
      exact hS'.F rfl
theorem v_iret (C : xC p s m args c cc own Ts nL D cl w tys A) {r : Int32} {ty : FieldType} (hr : meth.sig.returnType = some ty) (hn : narrow ty (.int r) = .int r) (hdg : decode cc pc = .ok (.ireturn, 1)) (hlocks : meth.locks = false) {mc' ms' : Nat} (h1 : cells ≤ mc') (h2 : slots ≤ ms') :
    xV p l e R s m args below meth c D cl w A nL cells slots (xMQ below (xQ D cl w A (.inl (some (.int r))) g) args s mc' ms' A) g pc lv [.int r] :=
  fun H locs ls hP hS hl => W.widen h1 h2 (xiret C.1 C.2.1 hr hn (fun t ht hW => ⟨rfl, by rw [ht]; exact hP, hS.F ht⟩) hS.2.2 hdg hlocks)
theorem v_vret (C : xC p s m args c cc own Ts nL D cl w tys A) (hr : meth.sig.returnType = none) (hdg : decode cc pc = .ok (.return_, 1)) (hlocks : meth.locks = false) {mc' ms' : Nat} (h1 : cells ≤ mc') (h2 : slots ≤ ms') :
    xV p l e R s m args below meth c D cl w A nL cells slots (xMQ below (xQ D cl w A (.inl none) g) args s mc' ms' A) g pc lv [] :=
  fun H locs ls hP hS hl => W.widen h1 h2 (xvret C.1 C.2.1 hr (fun t ht hW => ⟨rfl, by rw [ht]; exact hP, hS.F ht⟩) hS.2.2 hdg hlocks)
theorem x_start {As : List Value} (hV : xV p l e R s m args below meth c D cl w A nL cells slots Q g 0 (lv_args 0 As) []) (hP : va_P D cl (w g) s.heap) (hn : (lg_sl As).length ≤ nL) : W p l e R s m args below meth c s.heap [] cells slots Q (entryFrame m As.toArray nL) := by
  rw [lg_entry_eq]
  exact hV s.heap [] _ hP va_S.rf (lv_entry As hn)
end XVC
end
section
/-! the one world: class, reference and out array; registers g (printed by wip/whole/world.py) -/
def wX (ad : Nat → Nat) (ca : Nat → ClassId) (g : xSt) : va_W := [(ad 0, .inr (0, [.ref (ad 1), .ref (ad 2), .ref (ad 3), .ref (ad 4), .ref (ad 5), .ref (ad 6), .ref (ad 7), .int (g 0 0), .int (g 1 0), .int (g 2 0), .int (g 3 0)])), (ad 1, .inl (ca 2, 8, .inr (.inr (.inr (.inr (fun j => some (ad (20 + j)))))))), (ad 2, .inl (ca 3, 8, .inr (.inr (.inr (.inr (fun j => some (ad (28 + j)))))))), (ad 3, .inl (ca 1, 4, .inl (g 4))), (ad 4, .inl (ca 0, 8, .inl (g 5))), (ad 5, .inl (ca 0, 8, .inl (g 6))), (ad 6, .inr (4, [.ref (ad 8), .ref (ad 9), .ref (ad 10), .ref (ad 11), .ref (ad 12), .ref (ad 13), .ref (ad 14), .ref (ad 15), .ref (ad 16), .int (g 16 0), .int (g 17 0), .int (g 18 0), .int (g 19 0)])), (ad 7, .inr (3, [.ref (ad 17), .ref (ad 18), .ref (ad 19), .int (g 23 0)])), (ad 8, .inl (ca 0, 64, .inl (g 7))), (ad 9, .inl (ca 0, 64, .inl (g 8))), (ad 10, .inl (ca 0, 8, .inl (g 9))), (ad 11, .inl (ca 0, 8, .inl (g 10))), (ad 12, .inl (ca 0, 8, .inl (g 11))), (ad 13, .inl (ca 0, 8, .inl (g 12))), (ad 14, .inl (ca 0, 64, .inl (g 13))), (ad 15, .inl (ca 0, 64, .inl (g 14))), (ad 16, .inl (ca 0, 64, .inl (g 15))), (ad 17, .inl (ca 0, 64, .inl (g 20))), (ad 18, .inl (ca 0, 64, .inl (g 21))), (ad 19, .inl (ca 0, 64, .inl (g 22))), (ad 20, .inr (1, [.int (g 24 0), .int (g 25 0), .int (g 26 0), .int (g 27 0), .int (g 28 0), .int (g 29 0)])), (ad 21, .inr (1, [.int (g 24 1), .int (g 25 1), .int (g 26 1), .int (g 27 1), .int (g 28 1), .int (g 29 1)])), (ad 22, .inr (1, [.int (g 24 2), .int (g 25 2), .int (g 26 2), .int (g 27 2), .int (g 28 2), .int (g 29 2)])), (ad 23, .inr (1, [.int (g 24 3), .int (g 25 3), .int (g 26 3), .int (g 27 3), .int (g 28 3), .int (g 29 3)])), (ad 24, .inr (1, [.int (g 24 4), .int (g 25 4), .int (g 26 4), .int (g 27 4), .int (g 28 4), .int (g 29 4)])), (ad 25, .inr (1, [.int (g 24 5), .int (g 25 5), .int (g 26 5), .int (g 27 5), .int (g 28 5), .int (g 29 5)])), (ad 26, .inr (1, [.int (g 24 6), .int (g 25 6), .int (g 26 6), .int (g 27 6), .int (g 28 6), .int (g 29 6)])), (ad 27, .inr (1, [.int (g 24 7), .int (g 25 7), .int (g 26 7), .int (g 27 7), .int (g 28 7), .int (g 29 7)])), (ad 28, .inr (2, [.int (g 30 0), .int (g 31 0), .int (g 32 0), .int (g 33 0), .int (g 34 0), .int (g 35 0)])), (ad 29, .inr (2, [.int (g 30 1), .int (g 31 1), .int (g 32 1), .int (g 33 1), .int (g 34 1), .int (g 35 1)])), (ad 30, .inr (2, [.int (g 30 2), .int (g 31 2), .int (g 32 2), .int (g 33 2), .int (g 34 2), .int (g 35 2)])), (ad 31, .inr (2, [.int (g 30 3), .int (g 31 3), .int (g 32 3), .int (g 33 3), .int (g 34 3), .int (g 35 3)])), (ad 32, .inr (2, [.int (g 30 4), .int (g 31 4), .int (g 32 4), .int (g 33 4), .int (g 34 4), .int (g 35 4)])), (ad 33, .inr (2, [.int (g 30 5), .int (g 31 5), .int (g 32 5), .int (g 33 5), .int (g 34 5), .int (g 35 5)])), (ad 34, .inr (2, [.int (g 30 6), .int (g 31 6), .int (g 32 6), .int (g 33 6), .int (g 34 6), .int (g 35 6)])), (ad 35, .inr (2, [.int (g 30 7), .int (g 31 7), .int (g 32 7), .int (g 33 7), .int (g 34 7), .int (g 35 7)])), (ad 36, .inr (5, [.int (g 40 0), .int (g 41 0), .ref (ad 37), .ref (ad 38), .ref (ad 39), .ref (ad 40), .ref (ad 41), .int (g 42 0), .ref (ad 42), .ref (ad 43), .ref (ad 44), .ref (ad 45), .ref (ad 46), .ref (ad 47), .ref (ad 48), .ref (ad 49), .int (g 43 0), .ref (ad 50), .ref (ad 51), .ref (ad 52), .int (g 44 0), .int (g 45 0), .int (g 46 0), .ref (ad 53), .ref (ad 54), .ref (ad 55), .ref (ad 56), .ref (ad 57)])), (ad 37, .inl (ca 0, 8, .inl (g 47))), (ad 38, .inl (ca 0, 8, .inl (g 48))), (ad 39, .inl (ca 0, 8, .inl (g 49))), (ad 40, .inl (ca 0, 8, .inl (g 50))), (ad 41, .inl (ca 0, 8, .inl (g 51))), (ad 42, .inl (ca 0, 8, .inl (g 52))), (ad 43, .inl (ca 0, 8, .inl (g 53))), (ad 44, .inl (ca 0, 8, .inl (g 54))), (ad 45, .inl (ca 0, 8, .inl (g 55))), (ad 46, .inl (ca 0, 8, .inl (g 56))), (ad 47, .inl (ca 0, 8, .inl (g 57))), (ad 48, .inl (ca 1, 64, .inl (g 58))), (ad 49, .inl (ca 1, 4, .inl (g 59))), (ad 50, .inl (ca 0, 64, .inl (g 60))), (ad 51, .inl (ca 0, 64, .inl (g 61))), (ad 52, .inl (ca 0, 64, .inl (g 62))), (ad 53, .inl (ca 0, 64, .inl (g 63))), (ad 54, .inl (ca 0, 64, .inl (g 64))), (ad 55, .inl (ca 0, 65, .inl (g 65))), (ad 56, .inl (ca 0, 64, .inl (g 66))), (ad 57, .inl (ca 0, 8, .inl (g 67))), (ad 58, .inl (ca 4, 1, .inr (.inl (fun j => (g 68 j).toInt64))))]
def tyX (ca : Nat → ClassId) : List (ClassId × FieldType) := [(ca 0, .int), (ca 1, .boolean), (ca 2, .object "CrossDock$Arrival"), (ca 3, .object "CrossDock$Order"), (ca 4, .long)]
theorem wX_fst (ad : Nat → Nat) (ca : Nat → ClassId) (g g' : xSt) : (wX ad ca g).map (·.1) = (wX ad ca g').map (·.1) := rfl
theorem va_D.of_fst {A : Nat → Prop} {ws ws' : va_W} (h : ws.map (·.1) = ws'.map (·.1)) (hD : va_D A ws) : va_D A ws' := by
  have k : ∀ (i : Nat) (q : Nat × va_E), ws'[i]? = some q → ∃ q', ws[i]? = some q' ∧ q'.1 = q.1 := by
    intro i q hq
    have h1 : (ws'.map (·.1))[i]? = some q.1 := by rw [List.getElem?_map, hq]; rfl
    rw [← h, List.getElem?_map] at h1
    cases hw : ws[i]? with
    | none => rw [hw] at h1; cases h1
    | some q' => rw [hw] at h1; exact ⟨q', rfl, Option.some.inj h1⟩
  refine ⟨fun i j p q hp hq e => ?_, fun i q hq => ?_⟩
  · obtain ⟨p', hp', e1⟩ := k i p hp
    obtain ⟨q', hq', e2⟩ := k j q hq
    exact hD.1 i j p' q' hp' hq' (by rw [e1, e2]; exact e)
  · obtain ⟨q', hq', e2⟩ := k i q hq
    rw [← e2]; exact hD.2 i q' hq'
theorem wA_at (ad : Nat → Nat) (ca : Nat → ClassId) (g : xSt) {i : Nat} (h : i < 8) : (wX ad ca g)[20 + i]? = some (ad (20 + i), .inr (1, [.int (g 24 i), .int (g 25 i), .int (g 26 i), .int (g 27 i), .int (g 28 i), .int (g 29 i)])) := by
  match i, h with
  | 0, _ => rfl
  | 1, _ => rfl
  | 2, _ => rfl
  | 3, _ => rfl
  | 4, _ => rfl
  | 5, _ => rfl
  | 6, _ => rfl
  | 7, _ => rfl
set_option maxRecDepth 100000 in
theorem wA_set0 (ad : Nat → Nat) (ca : Nat → ClassId) (g : xSt) (v : Int32) {i : Nat} (h : i < 8) : (wX ad ca g).set (20 + i) (ad (20 + i), .inr (1, [.int v, .int (g 25 i), .int (g 26 i), .int (g 27 i), .int (g 28 i), .int (g 29 i)])) = wX ad ca (xw g 24 i v) := by
  match i, h with
  | 0, _ => rfl
  | 1, _ => rfl
  | 2, _ => rfl
  | 3, _ => rfl
  | 4, _ => rfl
  | 5, _ => rfl
  | 6, _ => rfl
  | 7, _ => rfl
set_option maxRecDepth 100000 in
theorem wA_set1 (ad : Nat → Nat) (ca : Nat → ClassId) (g : xSt) (v : Int32) {i : Nat} (h : i < 8) : (wX ad ca g).set (20 + i) (ad (20 + i), .inr (1, [.int (g 24 i), .int v, .int (g 26 i), .int (g 27 i), .int (g 28 i), .int (g 29 i)])) = wX ad ca (xw g 25 i v) := by
  match i, h with
  | 0, _ => rfl
  | 1, _ => rfl
  | 2, _ => rfl
  | 3, _ => rfl
  | 4, _ => rfl
  | 5, _ => rfl
  | 6, _ => rfl
  | 7, _ => rfl
set_option maxRecDepth 100000 in
theorem wA_set2 (ad : Nat → Nat) (ca : Nat → ClassId) (g : xSt) (v : Int32) {i : Nat} (h : i < 8) : (wX ad ca g).set (20 + i) (ad (20 + i), .inr (1, [.int (g 24 i), .int (g 25 i), .int v, .int (g 27 i), .int (g 28 i), .int (g 29 i)])) = wX ad ca (xw g 26 i v) := by
  match i, h with
  | 0, _ => rfl
  | 1, _ => rfl
  | 2, _ => rfl
  | 3, _ => rfl
  | 4, _ => rfl
  | 5, _ => rfl
  | 6, _ => rfl
  | 7, _ => rfl
set_option maxRecDepth 100000 in
theorem wA_set3 (ad : Nat → Nat) (ca : Nat → ClassId) (g : xSt) (v : Int32) {i : Nat} (h : i < 8) : (wX ad ca g).set (20 + i) (ad (20 + i), .inr (1, [.int (g 24 i), .int (g 25 i), .int (g 26 i), .int v, .int (g 28 i), .int (g 29 i)])) = wX ad ca (xw g 27 i v) := by
  match i, h with
  | 0, _ => rfl
  | 1, _ => rfl
  | 2, _ => rfl
  | 3, _ => rfl
  | 4, _ => rfl
  | 5, _ => rfl
  | 6, _ => rfl
  | 7, _ => rfl
set_option maxRecDepth 100000 in
theorem wA_set4 (ad : Nat → Nat) (ca : Nat → ClassId) (g : xSt) (v : Int32) {i : Nat} (h : i < 8) : (wX ad ca g).set (20 + i) (ad (20 + i), .inr (1, [.int (g 24 i), .int (g 25 i), .int (g 26 i), .int (g 27 i), .int v, .int (g 29 i)])) = wX ad ca (xw g 28 i v) := by
  match i, h with
  | 0, _ => rfl
  | 1, _ => rfl
  | 2, _ => rfl
  | 3, _ => rfl
  | 4, _ => rfl
  | 5, _ => rfl
  | 6, _ => rfl
  | 7, _ => rfl
set_option maxRecDepth 100000 in
theorem wA_set5 (ad : Nat → Nat) (ca : Nat → ClassId) (g : xSt) (v : Int32) {i : Nat} (h : i < 8) : (wX ad ca g).set (20 + i) (ad (20 + i), .inr (1, [.int (g 24 i), .int (g 25 i), .int (g 26 i), .int (g 27 i), .int (g 28 i), .int v])) = wX ad ca (xw g 29 i v) := by
  match i, h with
  | 0, _ => rfl
  | 1, _ => rfl
  | 2, _ => rfl
  | 3, _ => rfl
  | 4, _ => rfl
  | 5, _ => rfl
  | 6, _ => rfl
  | 7, _ => rfl
theorem wO_at (ad : Nat → Nat) (ca : Nat → ClassId) (g : xSt) {i : Nat} (h : i < 8) : (wX ad ca g)[28 + i]? = some (ad (28 + i), .inr (2, [.int (g 30 i), .int (g 31 i), .int (g 32 i), .int (g 33 i), .int (g 34 i), .int (g 35 i)])) := by
  match i, h with
  | 0, _ => rfl
  | 1, _ => rfl
  | 2, _ => rfl
  | 3, _ => rfl
  | 4, _ => rfl
  | 5, _ => rfl
  | 6, _ => rfl
  | 7, _ => rfl
set_option maxRecDepth 100000 in
theorem wO_set0 (ad : Nat → Nat) (ca : Nat → ClassId) (g : xSt) (v : Int32) {i : Nat} (h : i < 8) : (wX ad ca g).set (28 + i) (ad (28 + i), .inr (2, [.int v, .int (g 31 i), .int (g 32 i), .int (g 33 i), .int (g 34 i), .int (g 35 i)])) = wX ad ca (xw g 30 i v) := by
  match i, h with
  | 0, _ => rfl
  | 1, _ => rfl
  | 2, _ => rfl
  | 3, _ => rfl
  | 4, _ => rfl
  | 5, _ => rfl
  | 6, _ => rfl
  | 7, _ => rfl
set_option maxRecDepth 100000 in
theorem wO_set1 (ad : Nat → Nat) (ca : Nat → ClassId) (g : xSt) (v : Int32) {i : Nat} (h : i < 8) : (wX ad ca g).set (28 + i) (ad (28 + i), .inr (2, [.int (g 30 i), .int v, .int (g 32 i), .int (g 33 i), .int (g 34 i), .int (g 35 i)])) = wX ad ca (xw g 31 i v) := by
  match i, h with
  | 0, _ => rfl
  | 1, _ => rfl
  | 2, _ => rfl
  | 3, _ => rfl
  | 4, _ => rfl
  | 5, _ => rfl
  | 6, _ => rfl
  | 7, _ => rfl
set_option maxRecDepth 100000 in
theorem wO_set2 (ad : Nat → Nat) (ca : Nat → ClassId) (g : xSt) (v : Int32) {i : Nat} (h : i < 8) : (wX ad ca g).set (28 + i) (ad (28 + i), .inr (2, [.int (g 30 i), .int (g 31 i), .int v, .int (g 33 i), .int (g 34 i), .int (g 35 i)])) = wX ad ca (xw g 32 i v) := by
  match i, h with
  | 0, _ => rfl
  | 1, _ => rfl
  | 2, _ => rfl
  | 3, _ => rfl
  | 4, _ => rfl
  | 5, _ => rfl
  | 6, _ => rfl
  | 7, _ => rfl
set_option maxRecDepth 100000 in
theorem wO_set3 (ad : Nat → Nat) (ca : Nat → ClassId) (g : xSt) (v : Int32) {i : Nat} (h : i < 8) : (wX ad ca g).set (28 + i) (ad (28 + i), .inr (2, [.int (g 30 i), .int (g 31 i), .int (g 32 i), .int v, .int (g 34 i), .int (g 35 i)])) = wX ad ca (xw g 33 i v) := by
  match i, h with
  | 0, _ => rfl
  | 1, _ => rfl
  | 2, _ => rfl
  | 3, _ => rfl
  | 4, _ => rfl
  | 5, _ => rfl
  | 6, _ => rfl
  | 7, _ => rfl
set_option maxRecDepth 100000 in
theorem wO_set4 (ad : Nat → Nat) (ca : Nat → ClassId) (g : xSt) (v : Int32) {i : Nat} (h : i < 8) : (wX ad ca g).set (28 + i) (ad (28 + i), .inr (2, [.int (g 30 i), .int (g 31 i), .int (g 32 i), .int (g 33 i), .int v, .int (g 35 i)])) = wX ad ca (xw g 34 i v) := by
  match i, h with
  | 0, _ => rfl
  | 1, _ => rfl
  | 2, _ => rfl
  | 3, _ => rfl
  | 4, _ => rfl
  | 5, _ => rfl
  | 6, _ => rfl
  | 7, _ => rfl
set_option maxRecDepth 100000 in
theorem wO_set5 (ad : Nat → Nat) (ca : Nat → ClassId) (g : xSt) (v : Int32) {i : Nat} (h : i < 8) : (wX ad ca g).set (28 + i) (ad (28 + i), .inr (2, [.int (g 30 i), .int (g 31 i), .int (g 32 i), .int (g 33 i), .int (g 34 i), .int v])) = wX ad ca (xw g 35 i v) := by
  match i, h with
  | 0, _ => rfl
  | 1, _ => rfl
  | 2, _ => rfl
  | 3, _ => rfl
  | 4, _ => rfl
  | 5, _ => rfl
  | 6, _ => rfl
  | 7, _ => rfl
set_option maxRecDepth 100000 in
theorem sw_0 (ad : Nat → Nat) (ca : Nat → ClassId) (g : xSt) (v : Int32) : (wX ad ca g).set 0 (ad 0, .inr (0, [.ref (ad 1), .ref (ad 2), .ref (ad 3), .ref (ad 4), .ref (ad 5), .ref (ad 6), .ref (ad 7), .int v, .int (g 1 0), .int (g 2 0), .int (g 3 0)])) = wX ad ca (xw g 0 0 v) := rfl
set_option maxRecDepth 100000 in
theorem sw_1 (ad : Nat → Nat) (ca : Nat → ClassId) (g : xSt) (v : Int32) : (wX ad ca g).set 0 (ad 0, .inr (0, [.ref (ad 1), .ref (ad 2), .ref (ad 3), .ref (ad 4), .ref (ad 5), .ref (ad 6), .ref (ad 7), .int (g 0 0), .int v, .int (g 2 0), .int (g 3 0)])) = wX ad ca (xw g 1 0 v) := rfl
set_option maxRecDepth 100000 in
theorem sw_2 (ad : Nat → Nat) (ca : Nat → ClassId) (g : xSt) (v : Int32) : (wX ad ca g).set 0 (ad 0, .inr (0, [.ref (ad 1), .ref (ad 2), .ref (ad 3), .ref (ad 4), .ref (ad 5), .ref (ad 6), .ref (ad 7), .int (g 0 0), .int (g 1 0), .int v, .int (g 3 0)])) = wX ad ca (xw g 2 0 v) := rfl
set_option maxRecDepth 100000 in
theorem sw_3 (ad : Nat → Nat) (ca : Nat → ClassId) (g : xSt) (v : Int32) : (wX ad ca g).set 0 (ad 0, .inr (0, [.ref (ad 1), .ref (ad 2), .ref (ad 3), .ref (ad 4), .ref (ad 5), .ref (ad 6), .ref (ad 7), .int (g 0 0), .int (g 1 0), .int (g 2 0), .int v])) = wX ad ca (xw g 3 0 v) := rfl
set_option maxRecDepth 100000 in
theorem sw_16 (ad : Nat → Nat) (ca : Nat → ClassId) (g : xSt) (v : Int32) : (wX ad ca g).set 6 (ad 6, .inr (4, [.ref (ad 8), .ref (ad 9), .ref (ad 10), .ref (ad 11), .ref (ad 12), .ref (ad 13), .ref (ad 14), .ref (ad 15), .ref (ad 16), .int v, .int (g 17 0), .int (g 18 0), .int (g 19 0)])) = wX ad ca (xw g 16 0 v) := rfl
set_option maxRecDepth 100000 in
theorem sw_17 (ad : Nat → Nat) (ca : Nat → ClassId) (g : xSt) (v : Int32) : (wX ad ca g).set 6 (ad 6, .inr (4, [.ref (ad 8), .ref (ad 9), .ref (ad 10), .ref (ad 11), .ref (ad 12), .ref (ad 13), .ref (ad 14), .ref (ad 15), .ref (ad 16), .int (g 16 0), .int v, .int (g 18 0), .int (g 19 0)])) = wX ad ca (xw g 17 0 v) := rfl
set_option maxRecDepth 100000 in
theorem sw_18 (ad : Nat → Nat) (ca : Nat → ClassId) (g : xSt) (v : Int32) : (wX ad ca g).set 6 (ad 6, .inr (4, [.ref (ad 8), .ref (ad 9), .ref (ad 10), .ref (ad 11), .ref (ad 12), .ref (ad 13), .ref (ad 14), .ref (ad 15), .ref (ad 16), .int (g 16 0), .int (g 17 0), .int v, .int (g 19 0)])) = wX ad ca (xw g 18 0 v) := rfl
set_option maxRecDepth 100000 in
theorem sw_19 (ad : Nat → Nat) (ca : Nat → ClassId) (g : xSt) (v : Int32) : (wX ad ca g).set 6 (ad 6, .inr (4, [.ref (ad 8), .ref (ad 9), .ref (ad 10), .ref (ad 11), .ref (ad 12), .ref (ad 13), .ref (ad 14), .ref (ad 15), .ref (ad 16), .int (g 16 0), .int (g 17 0), .int (g 18 0), .int v])) = wX ad ca (xw g 19 0 v) := rfl
set_option maxRecDepth 100000 in
theorem sw_23 (ad : Nat → Nat) (ca : Nat → ClassId) (g : xSt) (v : Int32) : (wX ad ca g).set 7 (ad 7, .inr (3, [.ref (ad 17), .ref (ad 18), .ref (ad 19), .int v])) = wX ad ca (xw g 23 0 v) := rfl
set_option maxRecDepth 100000 in
theorem sw_40 (ad : Nat → Nat) (ca : Nat → ClassId) (g : xSt) (v : Int32) : (wX ad ca g).set 36 (ad 36, .inr (5, [.int v, .int (g 41 0), .ref (ad 37), .ref (ad 38), .ref (ad 39), .ref (ad 40), .ref (ad 41), .int (g 42 0), .ref (ad 42), .ref (ad 43), .ref (ad 44), .ref (ad 45), .ref (ad 46), .ref (ad 47), .ref (ad 48), .ref (ad 49), .int (g 43 0), .ref (ad 50), .ref (ad 51), .ref (ad 52), .int (g 44 0), .int (g 45 0), .int (g 46 0), .ref (ad 53), .ref (ad 54), .ref (ad 55), .ref (ad 56), .ref (ad 57)])) = wX ad ca (xw g 40 0 v) := rfl
set_option maxRecDepth 100000 in
theorem sw_41 (ad : Nat → Nat) (ca : Nat → ClassId) (g : xSt) (v : Int32) : (wX ad ca g).set 36 (ad 36, .inr (5, [.int (g 40 0), .int v, .ref (ad 37), .ref (ad 38), .ref (ad 39), .ref (ad 40), .ref (ad 41), .int (g 42 0), .ref (ad 42), .ref (ad 43), .ref (ad 44), .ref (ad 45), .ref (ad 46), .ref (ad 47), .ref (ad 48), .ref (ad 49), .int (g 43 0), .ref (ad 50), .ref (ad 51), .ref (ad 52), .int (g 44 0), .int (g 45 0), .int (g 46 0), .ref (ad 53), .ref (ad 54), .ref (ad 55), .ref (ad 56), .ref (ad 57)])) = wX ad ca (xw g 41 0 v) := rfl
set_option maxRecDepth 100000 in
theorem sw_42 (ad : Nat → Nat) (ca : Nat → ClassId) (g : xSt) (v : Int32) : (wX ad ca g).set 36 (ad 36, .inr (5, [.int (g 40 0), .int (g 41 0), .ref (ad 37), .ref (ad 38), .ref (ad 39), .ref (ad 40), .ref (ad 41), .int v, .ref (ad 42), .ref (ad 43), .ref (ad 44), .ref (ad 45), .ref (ad 46), .ref (ad 47), .ref (ad 48), .ref (ad 49), .int (g 43 0), .ref (ad 50), .ref (ad 51), .ref (ad 52), .int (g 44 0), .int (g 45 0), .int (g 46 0), .ref (ad 53), .ref (ad 54), .ref (ad 55), .ref (ad 56), .ref (ad 57)])) = wX ad ca (xw g 42 0 v) := rfl
set_option maxRecDepth 100000 in
theorem sw_43 (ad : Nat → Nat) (ca : Nat → ClassId) (g : xSt) (v : Int32) : (wX ad ca g).set 36 (ad 36, .inr (5, [.int (g 40 0), .int (g 41 0), .ref (ad 37), .ref (ad 38), .ref (ad 39), .ref (ad 40), .ref (ad 41), .int (g 42 0), .ref (ad 42), .ref (ad 43), .ref (ad 44), .ref (ad 45), .ref (ad 46), .ref (ad 47), .ref (ad 48), .ref (ad 49), .int v, .ref (ad 50), .ref (ad 51), .ref (ad 52), .int (g 44 0), .int (g 45 0), .int (g 46 0), .ref (ad 53), .ref (ad 54), .ref (ad 55), .ref (ad 56), .ref (ad 57)])) = wX ad ca (xw g 43 0 v) := rfl
set_option maxRecDepth 100000 in
theorem sw_44 (ad : Nat → Nat) (ca : Nat → ClassId) (g : xSt) (v : Int32) : (wX ad ca g).set 36 (ad 36, .inr (5, [.int (g 40 0), .int (g 41 0), .ref (ad 37), .ref (ad 38), .ref (ad 39), .ref (ad 40), .ref (ad 41), .int (g 42 0), .ref (ad 42), .ref (ad 43), .ref (ad 44), .ref (ad 45), .ref (ad 46), .ref (ad 47), .ref (ad 48), .ref (ad 49), .int (g 43 0), .ref (ad 50), .ref (ad 51), .ref (ad 52), .int v, .int (g 45 0), .int (g 46 0), .ref (ad 53), .ref (ad 54), .ref (ad 55), .ref (ad 56), .ref (ad 57)])) = wX ad ca (xw g 44 0 v) := rfl
set_option maxRecDepth 100000 in
theorem sw_45 (ad : Nat → Nat) (ca : Nat → ClassId) (g : xSt) (v : Int32) : (wX ad ca g).set 36 (ad 36, .inr (5, [.int (g 40 0), .int (g 41 0), .ref (ad 37), .ref (ad 38), .ref (ad 39), .ref (ad 40), .ref (ad 41), .int (g 42 0), .ref (ad 42), .ref (ad 43), .ref (ad 44), .ref (ad 45), .ref (ad 46), .ref (ad 47), .ref (ad 48), .ref (ad 49), .int (g 43 0), .ref (ad 50), .ref (ad 51), .ref (ad 52), .int (g 44 0), .int v, .int (g 46 0), .ref (ad 53), .ref (ad 54), .ref (ad 55), .ref (ad 56), .ref (ad 57)])) = wX ad ca (xw g 45 0 v) := rfl
set_option maxRecDepth 100000 in
theorem sw_46 (ad : Nat → Nat) (ca : Nat → ClassId) (g : xSt) (v : Int32) : (wX ad ca g).set 36 (ad 36, .inr (5, [.int (g 40 0), .int (g 41 0), .ref (ad 37), .ref (ad 38), .ref (ad 39), .ref (ad 40), .ref (ad 41), .int (g 42 0), .ref (ad 42), .ref (ad 43), .ref (ad 44), .ref (ad 45), .ref (ad 46), .ref (ad 47), .ref (ad 48), .ref (ad 49), .int (g 43 0), .ref (ad 50), .ref (ad 51), .ref (ad 52), .int (g 44 0), .int (g 45 0), .int v, .ref (ad 53), .ref (ad 54), .ref (ad 55), .ref (ad 56), .ref (ad 57)])) = wX ad ca (xw g 46 0 v) := rfl
set_option maxRecDepth 100000 in
theorem sa_4 (ad : Nat → Nat) (ca : Nat → ClassId) (g : xSt) (i : Nat) (v : Int32) : (wX ad ca g).set 3 (ad 3, .inl (ca 1, 4, .inl (upd (g 4) i v))) = wX ad ca (xw g 4 i v) := rfl
set_option maxRecDepth 100000 in
theorem sf_4 (ad : Nat → Nat) (ca : Nat → ClassId) (g : xSt) (f : Nat → Int32) : (wX ad ca g).set 3 (ad 3, .inl (ca 1, 4, .inl f)) = wX ad ca (va_up g 4 f) := rfl
set_option maxRecDepth 100000 in
theorem sa_5 (ad : Nat → Nat) (ca : Nat → ClassId) (g : xSt) (i : Nat) (v : Int32) : (wX ad ca g).set 4 (ad 4, .inl (ca 0, 8, .inl (upd (g 5) i v))) = wX ad ca (xw g 5 i v) := rfl
set_option maxRecDepth 100000 in
theorem sf_5 (ad : Nat → Nat) (ca : Nat → ClassId) (g : xSt) (f : Nat → Int32) : (wX ad ca g).set 4 (ad 4, .inl (ca 0, 8, .inl f)) = wX ad ca (va_up g 5 f) := rfl
set_option maxRecDepth 100000 in
theorem sa_6 (ad : Nat → Nat) (ca : Nat → ClassId) (g : xSt) (i : Nat) (v : Int32) : (wX ad ca g).set 5 (ad 5, .inl (ca 0, 8, .inl (upd (g 6) i v))) = wX ad ca (xw g 6 i v) := rfl
set_option maxRecDepth 100000 in
theorem sf_6 (ad : Nat → Nat) (ca : Nat → ClassId) (g : xSt) (f : Nat → Int32) : (wX ad ca g).set 5 (ad 5, .inl (ca 0, 8, .inl f)) = wX ad ca (va_up g 6 f) := rfl
set_option maxRecDepth 100000 in
theorem sa_7 (ad : Nat → Nat) (ca : Nat → ClassId) (g : xSt) (i : Nat) (v : Int32) : (wX ad ca g).set 8 (ad 8, .inl (ca 0, 64, .inl (upd (g 7) i v))) = wX ad ca (xw g 7 i v) := rfl
set_option maxRecDepth 100000 in
theorem sf_7 (ad : Nat → Nat) (ca : Nat → ClassId) (g : xSt) (f : Nat → Int32) : (wX ad ca g).set 8 (ad 8, .inl (ca 0, 64, .inl f)) = wX ad ca (va_up g 7 f) := rfl
set_option maxRecDepth 100000 in
theorem sa_8 (ad : Nat → Nat) (ca : Nat → ClassId) (g : xSt) (i : Nat) (v : Int32) : (wX ad ca g).set 9 (ad 9, .inl (ca 0, 64, .inl (upd (g 8) i v))) = wX ad ca (xw g 8 i v) := rfl
set_option maxRecDepth 100000 in
theorem sf_8 (ad : Nat → Nat) (ca : Nat → ClassId) (g : xSt) (f : Nat → Int32) : (wX ad ca g).set 9 (ad 9, .inl (ca 0, 64, .inl f)) = wX ad ca (va_up g 8 f) := rfl
set_option maxRecDepth 100000 in
theorem sa_9 (ad : Nat → Nat) (ca : Nat → ClassId) (g : xSt) (i : Nat) (v : Int32) : (wX ad ca g).set 10 (ad 10, .inl (ca 0, 8, .inl (upd (g 9) i v))) = wX ad ca (xw g 9 i v) := rfl
set_option maxRecDepth 100000 in
theorem sf_9 (ad : Nat → Nat) (ca : Nat → ClassId) (g : xSt) (f : Nat → Int32) : (wX ad ca g).set 10 (ad 10, .inl (ca 0, 8, .inl f)) = wX ad ca (va_up g 9 f) := rfl
set_option maxRecDepth 100000 in
theorem sa_10 (ad : Nat → Nat) (ca : Nat → ClassId) (g : xSt) (i : Nat) (v : Int32) : (wX ad ca g).set 11 (ad 11, .inl (ca 0, 8, .inl (upd (g 10) i v))) = wX ad ca (xw g 10 i v) := rfl
set_option maxRecDepth 100000 in
theorem sf_10 (ad : Nat → Nat) (ca : Nat → ClassId) (g : xSt) (f : Nat → Int32) : (wX ad ca g).set 11 (ad 11, .inl (ca 0, 8, .inl f)) = wX ad ca (va_up g 10 f) := rfl
set_option maxRecDepth 100000 in
theorem sa_11 (ad : Nat → Nat) (ca : Nat → ClassId) (g : xSt) (i : Nat) (v : Int32) : (wX ad ca g).set 12 (ad 12, .inl (ca 0, 8, .inl (upd (g 11) i v))) = wX ad ca (xw g 11 i v) := rfl
set_option maxRecDepth 100000 in
theorem sf_11 (ad : Nat → Nat) (ca : Nat → ClassId) (g : xSt) (f : Nat → Int32) : (wX ad ca g).set 12 (ad 12, .inl (ca 0, 8, .inl f)) = wX ad ca (va_up g 11 f) := rfl
set_option maxRecDepth 100000 in
theorem sa_12 (ad : Nat → Nat) (ca : Nat → ClassId) (g : xSt) (i : Nat) (v : Int32) : (wX ad ca g).set 13 (ad 13, .inl (ca 0, 8, .inl (upd (g 12) i v))) = wX ad ca (xw g 12 i v) := rfl
set_option maxRecDepth 100000 in
theorem sf_12 (ad : Nat → Nat) (ca : Nat → ClassId) (g : xSt) (f : Nat → Int32) : (wX ad ca g).set 13 (ad 13, .inl (ca 0, 8, .inl f)) = wX ad ca (va_up g 12 f) := rfl
set_option maxRecDepth 100000 in
theorem sa_13 (ad : Nat → Nat) (ca : Nat → ClassId) (g : xSt) (i : Nat) (v : Int32) : (wX ad ca g).set 14 (ad 14, .inl (ca 0, 64, .inl (upd (g 13) i v))) = wX ad ca (xw g 13 i v) := rfl
set_option maxRecDepth 100000 in
theorem sf_13 (ad : Nat → Nat) (ca : Nat → ClassId) (g : xSt) (f : Nat → Int32) : (wX ad ca g).set 14 (ad 14, .inl (ca 0, 64, .inl f)) = wX ad ca (va_up g 13 f) := rfl
set_option maxRecDepth 100000 in
theorem sa_14 (ad : Nat → Nat) (ca : Nat → ClassId) (g : xSt) (i : Nat) (v : Int32) : (wX ad ca g).set 15 (ad 15, .inl (ca 0, 64, .inl (upd (g 14) i v))) = wX ad ca (xw g 14 i v) := rfl
set_option maxRecDepth 100000 in
theorem sf_14 (ad : Nat → Nat) (ca : Nat → ClassId) (g : xSt) (f : Nat → Int32) : (wX ad ca g).set 15 (ad 15, .inl (ca 0, 64, .inl f)) = wX ad ca (va_up g 14 f) := rfl
set_option maxRecDepth 100000 in
theorem sa_15 (ad : Nat → Nat) (ca : Nat → ClassId) (g : xSt) (i : Nat) (v : Int32) : (wX ad ca g).set 16 (ad 16, .inl (ca 0, 64, .inl (upd (g 15) i v))) = wX ad ca (xw g 15 i v) := rfl
set_option maxRecDepth 100000 in
theorem sf_15 (ad : Nat → Nat) (ca : Nat → ClassId) (g : xSt) (f : Nat → Int32) : (wX ad ca g).set 16 (ad 16, .inl (ca 0, 64, .inl f)) = wX ad ca (va_up g 15 f) := rfl
set_option maxRecDepth 100000 in
theorem sa_20 (ad : Nat → Nat) (ca : Nat → ClassId) (g : xSt) (i : Nat) (v : Int32) : (wX ad ca g).set 17 (ad 17, .inl (ca 0, 64, .inl (upd (g 20) i v))) = wX ad ca (xw g 20 i v) := rfl
set_option maxRecDepth 100000 in
theorem sf_20 (ad : Nat → Nat) (ca : Nat → ClassId) (g : xSt) (f : Nat → Int32) : (wX ad ca g).set 17 (ad 17, .inl (ca 0, 64, .inl f)) = wX ad ca (va_up g 20 f) := rfl
set_option maxRecDepth 100000 in
theorem sa_21 (ad : Nat → Nat) (ca : Nat → ClassId) (g : xSt) (i : Nat) (v : Int32) : (wX ad ca g).set 18 (ad 18, .inl (ca 0, 64, .inl (upd (g 21) i v))) = wX ad ca (xw g 21 i v) := rfl
set_option maxRecDepth 100000 in
theorem sf_21 (ad : Nat → Nat) (ca : Nat → ClassId) (g : xSt) (f : Nat → Int32) : (wX ad ca g).set 18 (ad 18, .inl (ca 0, 64, .inl f)) = wX ad ca (va_up g 21 f) := rfl
set_option maxRecDepth 100000 in
theorem sa_22 (ad : Nat → Nat) (ca : Nat → ClassId) (g : xSt) (i : Nat) (v : Int32) : (wX ad ca g).set 19 (ad 19, .inl (ca 0, 64, .inl (upd (g 22) i v))) = wX ad ca (xw g 22 i v) := rfl
set_option maxRecDepth 100000 in
theorem sf_22 (ad : Nat → Nat) (ca : Nat → ClassId) (g : xSt) (f : Nat → Int32) : (wX ad ca g).set 19 (ad 19, .inl (ca 0, 64, .inl f)) = wX ad ca (va_up g 22 f) := rfl
set_option maxRecDepth 100000 in
theorem sa_47 (ad : Nat → Nat) (ca : Nat → ClassId) (g : xSt) (i : Nat) (v : Int32) : (wX ad ca g).set 37 (ad 37, .inl (ca 0, 8, .inl (upd (g 47) i v))) = wX ad ca (xw g 47 i v) := rfl
set_option maxRecDepth 100000 in
theorem sf_47 (ad : Nat → Nat) (ca : Nat → ClassId) (g : xSt) (f : Nat → Int32) : (wX ad ca g).set 37 (ad 37, .inl (ca 0, 8, .inl f)) = wX ad ca (va_up g 47 f) := rfl
set_option maxRecDepth 100000 in
theorem sa_48 (ad : Nat → Nat) (ca : Nat → ClassId) (g : xSt) (i : Nat) (v : Int32) : (wX ad ca g).set 38 (ad 38, .inl (ca 0, 8, .inl (upd (g 48) i v))) = wX ad ca (xw g 48 i v) := rfl
set_option maxRecDepth 100000 in
theorem sf_48 (ad : Nat → Nat) (ca : Nat → ClassId) (g : xSt) (f : Nat → Int32) : (wX ad ca g).set 38 (ad 38, .inl (ca 0, 8, .inl f)) = wX ad ca (va_up g 48 f) := rfl
set_option maxRecDepth 100000 in
theorem sa_49 (ad : Nat → Nat) (ca : Nat → ClassId) (g : xSt) (i : Nat) (v : Int32) : (wX ad ca g).set 39 (ad 39, .inl (ca 0, 8, .inl (upd (g 49) i v))) = wX ad ca (xw g 49 i v) := rfl
set_option maxRecDepth 100000 in
theorem sf_49 (ad : Nat → Nat) (ca : Nat → ClassId) (g : xSt) (f : Nat → Int32) : (wX ad ca g).set 39 (ad 39, .inl (ca 0, 8, .inl f)) = wX ad ca (va_up g 49 f) := rfl
set_option maxRecDepth 100000 in
theorem sa_50 (ad : Nat → Nat) (ca : Nat → ClassId) (g : xSt) (i : Nat) (v : Int32) : (wX ad ca g).set 40 (ad 40, .inl (ca 0, 8, .inl (upd (g 50) i v))) = wX ad ca (xw g 50 i v) := rfl
set_option maxRecDepth 100000 in
theorem sf_50 (ad : Nat → Nat) (ca : Nat → ClassId) (g : xSt) (f : Nat → Int32) : (wX ad ca g).set 40 (ad 40, .inl (ca 0, 8, .inl f)) = wX ad ca (va_up g 50 f) := rfl
set_option maxRecDepth 100000 in
theorem sa_51 (ad : Nat → Nat) (ca : Nat → ClassId) (g : xSt) (i : Nat) (v : Int32) : (wX ad ca g).set 41 (ad 41, .inl (ca 0, 8, .inl (upd (g 51) i v))) = wX ad ca (xw g 51 i v) := rfl
set_option maxRecDepth 100000 in
theorem sf_51 (ad : Nat → Nat) (ca : Nat → ClassId) (g : xSt) (f : Nat → Int32) : (wX ad ca g).set 41 (ad 41, .inl (ca 0, 8, .inl f)) = wX ad ca (va_up g 51 f) := rfl
set_option maxRecDepth 100000 in
theorem sa_52 (ad : Nat → Nat) (ca : Nat → ClassId) (g : xSt) (i : Nat) (v : Int32) : (wX ad ca g).set 42 (ad 42, .inl (ca 0, 8, .inl (upd (g 52) i v))) = wX ad ca (xw g 52 i v) := rfl
set_option maxRecDepth 100000 in
theorem sf_52 (ad : Nat → Nat) (ca : Nat → ClassId) (g : xSt) (f : Nat → Int32) : (wX ad ca g).set 42 (ad 42, .inl (ca 0, 8, .inl f)) = wX ad ca (va_up g 52 f) := rfl
set_option maxRecDepth 100000 in
theorem sa_53 (ad : Nat → Nat) (ca : Nat → ClassId) (g : xSt) (i : Nat) (v : Int32) : (wX ad ca g).set 43 (ad 43, .inl (ca 0, 8, .inl (upd (g 53) i v))) = wX ad ca (xw g 53 i v) := rfl
set_option maxRecDepth 100000 in
theorem sf_53 (ad : Nat → Nat) (ca : Nat → ClassId) (g : xSt) (f : Nat → Int32) : (wX ad ca g).set 43 (ad 43, .inl (ca 0, 8, .inl f)) = wX ad ca (va_up g 53 f) := rfl
set_option maxRecDepth 100000 in
theorem sa_54 (ad : Nat → Nat) (ca : Nat → ClassId) (g : xSt) (i : Nat) (v : Int32) : (wX ad ca g).set 44 (ad 44, .inl (ca 0, 8, .inl (upd (g 54) i v))) = wX ad ca (xw g 54 i v) := rfl
set_option maxRecDepth 100000 in
theorem sf_54 (ad : Nat → Nat) (ca : Nat → ClassId) (g : xSt) (f : Nat → Int32) : (wX ad ca g).set 44 (ad 44, .inl (ca 0, 8, .inl f)) = wX ad ca (va_up g 54 f) := rfl
set_option maxRecDepth 100000 in
theorem sa_55 (ad : Nat → Nat) (ca : Nat → ClassId) (g : xSt) (i : Nat) (v : Int32) : (wX ad ca g).set 45 (ad 45, .inl (ca 0, 8, .inl (upd (g 55) i v))) = wX ad ca (xw g 55 i v) := rfl
set_option maxRecDepth 100000 in
theorem sf_55 (ad : Nat → Nat) (ca : Nat → ClassId) (g : xSt) (f : Nat → Int32) : (wX ad ca g).set 45 (ad 45, .inl (ca 0, 8, .inl f)) = wX ad ca (va_up g 55 f) := rfl
set_option maxRecDepth 100000 in
theorem sa_56 (ad : Nat → Nat) (ca : Nat → ClassId) (g : xSt) (i : Nat) (v : Int32) : (wX ad ca g).set 46 (ad 46, .inl (ca 0, 8, .inl (upd (g 56) i v))) = wX ad ca (xw g 56 i v) := rfl
set_option maxRecDepth 100000 in
theorem sf_56 (ad : Nat → Nat) (ca : Nat → ClassId) (g : xSt) (f : Nat → Int32) : (wX ad ca g).set 46 (ad 46, .inl (ca 0, 8, .inl f)) = wX ad ca (va_up g 56 f) := rfl
set_option maxRecDepth 100000 in
theorem sa_57 (ad : Nat → Nat) (ca : Nat → ClassId) (g : xSt) (i : Nat) (v : Int32) : (wX ad ca g).set 47 (ad 47, .inl (ca 0, 8, .inl (upd (g 57) i v))) = wX ad ca (xw g 57 i v) := rfl
set_option maxRecDepth 100000 in
theorem sf_57 (ad : Nat → Nat) (ca : Nat → ClassId) (g : xSt) (f : Nat → Int32) : (wX ad ca g).set 47 (ad 47, .inl (ca 0, 8, .inl f)) = wX ad ca (va_up g 57 f) := rfl
set_option maxRecDepth 100000 in
theorem sa_58 (ad : Nat → Nat) (ca : Nat → ClassId) (g : xSt) (i : Nat) (v : Int32) : (wX ad ca g).set 48 (ad 48, .inl (ca 1, 64, .inl (upd (g 58) i v))) = wX ad ca (xw g 58 i v) := rfl
set_option maxRecDepth 100000 in
theorem sf_58 (ad : Nat → Nat) (ca : Nat → ClassId) (g : xSt) (f : Nat → Int32) : (wX ad ca g).set 48 (ad 48, .inl (ca 1, 64, .inl f)) = wX ad ca (va_up g 58 f) := rfl
set_option maxRecDepth 100000 in
theorem sa_59 (ad : Nat → Nat) (ca : Nat → ClassId) (g : xSt) (i : Nat) (v : Int32) : (wX ad ca g).set 49 (ad 49, .inl (ca 1, 4, .inl (upd (g 59) i v))) = wX ad ca (xw g 59 i v) := rfl
set_option maxRecDepth 100000 in
theorem sf_59 (ad : Nat → Nat) (ca : Nat → ClassId) (g : xSt) (f : Nat → Int32) : (wX ad ca g).set 49 (ad 49, .inl (ca 1, 4, .inl f)) = wX ad ca (va_up g 59 f) := rfl
set_option maxRecDepth 100000 in
theorem sa_60 (ad : Nat → Nat) (ca : Nat → ClassId) (g : xSt) (i : Nat) (v : Int32) : (wX ad ca g).set 50 (ad 50, .inl (ca 0, 64, .inl (upd (g 60) i v))) = wX ad ca (xw g 60 i v) := rfl
set_option maxRecDepth 100000 in
theorem sf_60 (ad : Nat → Nat) (ca : Nat → ClassId) (g : xSt) (f : Nat → Int32) : (wX ad ca g).set 50 (ad 50, .inl (ca 0, 64, .inl f)) = wX ad ca (va_up g 60 f) := rfl
set_option maxRecDepth 100000 in
theorem sa_61 (ad : Nat → Nat) (ca : Nat → ClassId) (g : xSt) (i : Nat) (v : Int32) : (wX ad ca g).set 51 (ad 51, .inl (ca 0, 64, .inl (upd (g 61) i v))) = wX ad ca (xw g 61 i v) := rfl
set_option maxRecDepth 100000 in
theorem sf_61 (ad : Nat → Nat) (ca : Nat → ClassId) (g : xSt) (f : Nat → Int32) : (wX ad ca g).set 51 (ad 51, .inl (ca 0, 64, .inl f)) = wX ad ca (va_up g 61 f) := rfl
set_option maxRecDepth 100000 in
theorem sa_62 (ad : Nat → Nat) (ca : Nat → ClassId) (g : xSt) (i : Nat) (v : Int32) : (wX ad ca g).set 52 (ad 52, .inl (ca 0, 64, .inl (upd (g 62) i v))) = wX ad ca (xw g 62 i v) := rfl
set_option maxRecDepth 100000 in
theorem sf_62 (ad : Nat → Nat) (ca : Nat → ClassId) (g : xSt) (f : Nat → Int32) : (wX ad ca g).set 52 (ad 52, .inl (ca 0, 64, .inl f)) = wX ad ca (va_up g 62 f) := rfl
set_option maxRecDepth 100000 in
theorem sa_63 (ad : Nat → Nat) (ca : Nat → ClassId) (g : xSt) (i : Nat) (v : Int32) : (wX ad ca g).set 53 (ad 53, .inl (ca 0, 64, .inl (upd (g 63) i v))) = wX ad ca (xw g 63 i v) := rfl
set_option maxRecDepth 100000 in
theorem sf_63 (ad : Nat → Nat) (ca : Nat → ClassId) (g : xSt) (f : Nat → Int32) : (wX ad ca g).set 53 (ad 53, .inl (ca 0, 64, .inl f)) = wX ad ca (va_up g 63 f) := rfl
set_option maxRecDepth 100000 in
theorem sa_64 (ad : Nat → Nat) (ca : Nat → ClassId) (g : xSt) (i : Nat) (v : Int32) : (wX ad ca g).set 54 (ad 54, .inl (ca 0, 64, .inl (upd (g 64) i v))) = wX ad ca (xw g 64 i v) := rfl
set_option maxRecDepth 100000 in
theorem sf_64 (ad : Nat → Nat) (ca : Nat → ClassId) (g : xSt) (f : Nat → Int32) : (wX ad ca g).set 54 (ad 54, .inl (ca 0, 64, .inl f)) = wX ad ca (va_up g 64 f) := rfl
set_option maxRecDepth 100000 in
theorem sa_65 (ad : Nat → Nat) (ca : Nat → ClassId) (g : xSt) (i : Nat) (v : Int32) : (wX ad ca g).set 55 (ad 55, .inl (ca 0, 65, .inl (upd (g 65) i v))) = wX ad ca (xw g 65 i v) := rfl
set_option maxRecDepth 100000 in
theorem sf_65 (ad : Nat → Nat) (ca : Nat → ClassId) (g : xSt) (f : Nat → Int32) : (wX ad ca g).set 55 (ad 55, .inl (ca 0, 65, .inl f)) = wX ad ca (va_up g 65 f) := rfl
set_option maxRecDepth 100000 in
theorem sa_66 (ad : Nat → Nat) (ca : Nat → ClassId) (g : xSt) (i : Nat) (v : Int32) : (wX ad ca g).set 56 (ad 56, .inl (ca 0, 64, .inl (upd (g 66) i v))) = wX ad ca (xw g 66 i v) := rfl
set_option maxRecDepth 100000 in
theorem sf_66 (ad : Nat → Nat) (ca : Nat → ClassId) (g : xSt) (f : Nat → Int32) : (wX ad ca g).set 56 (ad 56, .inl (ca 0, 64, .inl f)) = wX ad ca (va_up g 66 f) := rfl
set_option maxRecDepth 100000 in
theorem sa_67 (ad : Nat → Nat) (ca : Nat → ClassId) (g : xSt) (i : Nat) (v : Int32) : (wX ad ca g).set 57 (ad 57, .inl (ca 0, 8, .inl (upd (g 67) i v))) = wX ad ca (xw g 67 i v) := rfl
set_option maxRecDepth 100000 in
theorem sf_67 (ad : Nat → Nat) (ca : Nat → ClassId) (g : xSt) (f : Nat → Int32) : (wX ad ca g).set 57 (ad 57, .inl (ca 0, 8, .inl f)) = wX ad ca (va_up g 67 f) := rfl
end
section
/-! contracts over the one world: what every method is given (tables, texts, Throwable's statics), how it is entered, how it calls -/
theorem xok_warm {s U : State} (hW : s.WarmedH U.vm) {q : Cond} (hk : xok q = true) {a a' : Array Value} (h : q.before a s = true) : q.before a' U = true := by
  have key : ∀ q : Cond, (q.onTables && q.keepsH) = true → q.before a s = true → q.before a' U = true := by
    intro q hk h
    simp only [Bool.and_eq_true] at hk
    have h1 := Cond.onTables_warmH (T := U) (args' := a') hW hk.1 hk.2 h
    rwa [State.setVm_self] at h1
  cases q with
  | castable x y => exact va_Nw.use rfl (va_Nw.warmC hW (va_Nw.of rfl h))
  | declares x => exact va_Nw.use rfl (va_Nw.warmD hW (va_Nw.of rfl h))
  | arrayClass ty => exact word_at hW (Or.inr ⟨ty, rfl⟩) h
  | _ => exact key _ hk h
def xTB (U : State) : Prop := ∀ (a : Array Value) (q : Cond), q ∈ xT → q.before a U = true
theorem xTB.warm {s U : State} (hW : s.WarmedH U.vm) (h : xTB s) : xTB U := fun a q hq => xok_warm hW (List.mem_filter.mp hq).2 (h a q hq)
theorem xTB.same {s U : State} (hv : U.vm = s.vm) (h : xTB s) : xTB U := by
  refine h.warm ?_
  rw [hv]; exact State.WarmedH.refl s
/-- the texts of the messages -/
abbrev xtx : List (Nat × String) := [(195, "a number is outside its range"), (200, "there is no room"), (190, "there is none of this number"), (105, "matches that stand hold too many pallets"), (164, "the arrival is in a pair")]
def xSR (U : State) : Prop := ∀ q ∈ xtx, ∃ a : Nat, vk_R "CrossDock" q.1 q.2 a U
theorem xSR.warm {s U : State} (hW : s.WarmedH U.vm) (h : xSR s) : xSR U := fun q hq => by
  obtain ⟨a, ha⟩ := h q hq
  exact ⟨a, ha.warm hW⟩
/-- Throwable's two statics -/
abbrev xsts : List Cond := [.laysStatic "java/lang/Throwable" "UNASSIGNED_STACK" "[Ljava/lang/StackTraceElement;", .laysStatic "java/lang/Throwable" "SUPPRESSED_SENTINEL" "Ljava/util/List;", .isRef (.static "java/lang/Throwable" "UNASSIGNED_STACK" "[Ljava/lang/StackTraceElement;"), .isRef (.static "java/lang/Throwable" "SUPPRESSED_SENTINEL" "Ljava/util/List;")]
def xST (w : xSt → va_W) (U : State) : Prop := ∃ aS : Nat, aS < U.heap.size ∧ (∀ (k : Nat) (e : va_E), (w (fun _ _ => 0))[k]? ≠ some (aS, e)) ∧ ∀ V : State, U.vm.Alike V.vm → V.heap[aS]? = U.heap[aS]? → ∀ (a : Array Value), ∀ q ∈ xsts, q.before a V = true
theorem xST.moved {w : xSt → va_W} {s U : State} (hvm : s.vm.Alike U.vm) (hz : s.heap.size ≤ U.heap.size) (hk : ∀ q : Nat, q < s.heap.size → ¬ xA w s.heap.size q → U.heap[q]? = s.heap[q]?) (h : xST w s) : xST w U := by
  obtain ⟨aS, h1, h2, h3⟩ := h
  have e : U.heap[aS]? = s.heap[aS]? := hk aS h1 (by
    rintro (⟨k, x, hx⟩ | hx)
    · exact h2 k x hx
    · omega)
  exact ⟨aS, by omega, h2, fun V hv he => h3 V (hvm.trans hv) (he.trans e)⟩
/-- what no exception of one class is -/
abbrev xex : List String := ["java/lang/IllegalArgumentException", "java/lang/UnsupportedOperationException", "java/util/NoSuchElementException", "java/lang/IllegalStateException"]
def xNC (U : State) : Prop := ∀ x ∈ xex, ∀ y ∈ xex, x ≠ y → (Cond.castable x y).before #[] U = false
theorem xNC.warm {s U : State} (hW : s.WarmedH U.vm) (h : xNC s) : xNC U := fun x hx y hy hne => by
  have h1 : (Cond.castable x y).before #[] (s.setVm U.vm) = (Cond.castable x y).before #[] s := Cond.castable_setVm hW.alike x y
  have h2 : (Cond.castable x y).before #[] (s.setVm U.vm) = (Cond.castable x y).before #[] (U.setVm U.vm) := Cond.onTables_vm U.vm _ rfl
  rw [State.setVm_self] at h2
  rw [← h2, h1]; exact h x hx y hy hne
def xE (w : xSt → va_W) (U : State) : Prop := xTB U ∧ xSR U ∧ xNC U ∧ xST w U
theorem xE.moved {w : xSt → va_W} {s U : State} (hW : s.WarmedH U.vm) (hz : s.heap.size ≤ U.heap.size) (hk : ∀ q : Nat, q < s.heap.size → ¬ xA w s.heap.size q → U.heap[q]? = s.heap[q]?) (h : xE w s) : xE w U :=
  ⟨h.1.warm hW, h.2.1.warm hW, h.2.2.1.warm hW, h.2.2.2.moved hW.alike hz hk⟩
theorem xE.calling {w : xSt → va_W} {U : State} {g : JFrame} {mk : MethodId} {a : Array Value} (h : xE w U) : xE w (U.calling g mk a) :=
  h.moved (s := U) (U := U.calling g mk a) (State.WarmedH.refl U) (Nat.le_refl _) (fun _ _ _ => rfl)
theorem xP_blind {D : va_G} {ad : Nat → Nat} {ca : Nat → ClassId} {sz : Nat} {As : List Value} {g : xSt} : FrameBlind (xP (xE (wX ad ca)) D xcl (wX ad ca) (tyX ca) sz As g) := fun a U gf mk q => by
  obtain ⟨q0, q1, qP, qK, qD, qE⟩ := q
  exact ⟨q0, q1, qP, va_K.moved (u := U) (U := U.calling gf mk a) (Vm.Alike.refl U.vm) qK, qD, qE.calling⟩
/-- a method's contract over the one world: from the state g with these arguments to this outcome and the state g' -/
def xM (l : Launch) (y : MethodName) (cw : Cond) (rm : Room) (As : (Nat → Nat) → List Value) (g : xSt) (ov : Option Value ⊕ String) (g' : xSt) (mc ms : Nat) : Prop :=
  ∀ (D : va_G) (ad : Nat → Nat) (ca : Nat → ClassId) (sz : Nat), xMet l y [cw] rm (xP (xE (wX ad ca)) D xcl (wX ad ca) (tyX ca) sz (As ad) g) (xQ D xcl (wX ad ca) (xA (wX ad ca) sz) ov g') mc ms (xA (wX ad ca) sz)
/-- no cell that a method may change is a class's statics -/
def xNS (w : xSt → va_W) (s : State) : Prop := ∀ q : Nat, xA w s.heap.size q → ∀ cell, s.heap[q]? = some cell → cell.vm.isStatics = false
theorem xNS_of {D : va_G} {ad : Nat → Nat} {ca : Nat → ClassId} {s : State} {g0 : xSt} (hP : va_P D xcl (wX ad ca g0) s.heap) : xNS (wX ad ca) s := by
  intro x hx cell hc
  rcases hx with ⟨k, en, hk⟩ | h
  · have h1 : ((wX ad ca g0).map (·.1))[k]? = some x := by rw [wX_fst ad ca g0 (fun _ _ => 0), List.getElem?_map, hk]; rfl
    rw [List.getElem?_map] at h1
    cases hq : (wX ad ca g0)[k]? with
    | none => rw [hq] at h1; cases h1
    | some q =>
      rw [hq] at h1
      have e1 : q.1 = x := Option.some.inj h1
      have h2 := hP k q hq
      unfold va_at at h2
      rw [e1] at h2
      split at h2
      · rename_i a0 _
        rw [hc] at h2
        rw [Option.some.inj h2]
        obtain ⟨cA, n, f | f | f | f | f⟩ := a0 <;> rfl
      · obtain ⟨r, -, cell', c1, -, c3, -⟩ := h2
        rw [hc] at c1
        rw [Option.some.inj c1, c3]; rfl
  · have := (Array.getElem?_eq_some_iff.mp hc).1
    omega
/-- the walk's context in a method of this world -/
def xX (p : Program) (s : State) (m : MethodId) (args : Array Value) (meth : Method) (c : Code) (cc : ByteArray) (own : String) (nL : Nat) (ret : Option FieldType) (D : va_G) (ad : Nat → Nat) (ca : Nat → ClassId) : Prop :=
  xC p s m args c cc own xT nL D xcl (wX ad ca) (tyX ca) (xA (wX ad ca) s.heap.size) ∧ xE (wX ad ca) s ∧ meth.sig.returnType = ret ∧ meth.locks = false ∧ xNS (wX ad ca) s
theorem x_D {A : Nat → Prop} {ad : Nat → Nat} {ca : Nat → ClassId} {g : xSt} (h : va_D A (wX ad ca g)) (sz : Nat) : ∀ g', va_D (xA (wX ad ca) sz) (wX ad ca g') := fun g' => va_D.of_fst (wX_fst ad ca (fun _ _ => 0) g') ((va_D.of_fst (wX_fst ad ca g (fun _ _ => 0)) h).self)
theorem x_contract {l : Launch} {y : MethodName} {bytes : ByteArray} {maxL : Nat} {ret : Option FieldType} {rm : Room} {As : (Nat → Nat) → List Value} {g g' : xSt} {ov : Option Value ⊕ String} {mc ms : Nat} (hy : plainName y.cls = true) (hn : ∀ ad, (lg_sl (As ad)).length ≤ maxL)
    (body : ∀ (p : Program) (e : Env) (s : State) (m : MethodId) (below : List Frame) (meth : Method) (c : Code) (D : va_G) (ad : Nat → Nat) (ca : Nat → ClassId), xX p s m (As ad).toArray meth c bytes y.cls maxL ret D ad ca → c.exceptionTable.toList = [] →
      xV p l e rm s m (As ad).toArray below meth c D xcl (wX ad ca) (xA (wX ad ca) s.heap.size) maxL 0 0 (xMQ below (xQ D xcl (wX ad ca) (xA (wX ad ca) s.heap.size) ov g') (As ad).toArray s mc ms (xA (wX ad ca) s.heap.size)) g 0 (lv_args 0 (As ad)) []) :
    xM l y (.code y bytes maxL ret) rm As g ov g' mc ms := by
  intro D ad ca sz
  refine xMet.ofW (cc := bytes) (maxL := maxL) (ret := ret) (ws' := []) hy rfl ?_
  intro p e s m args below meth c s₁ B hml hv
  obtain ⟨rfl, hsz, hP, hK, hD, hE⟩ := hv
  subst hsz
  have hcode := atoms_spec (ws := [Cond.code y bytes maxL ret]) B.pre _ List.mem_cons_self
  have hempty := B.noHandlers hcode
  have hno : c.exceptionTable.toList = [] := List.eq_nil_of_length_eq_zero (by simpa [Array.isEmpty] using hempty)
  have hown : s.vm.findClass y.cls = some m.cls := findClass_of_methodNamed B.named
  exact x_start (body p e s m below meth c D ad ca ⟨⟨B.exec, B.bytes, hml, hown, fun q hq => hE.1 _ q hq, hK, x_D hD _, fun q h => Or.inr h⟩, hE, B.returns, B.notSynchronized, xNS_of hP⟩ hno) hP (hn ad)
section XW
variable {p : Program} {l : Launch} {e : Env} {R : Room} {s : State} {m : MethodId} {args : Array Value} {below : List Frame} {meth : Method} {c : Code} {D : va_G} {ad : Nat → Nat} {ca : Nat → ClassId} {nL cells slots : Nat} {Q : State → Prop}
variable {cc : ByteArray} {own : String} {g g' : xSt} {pc mc ms : Nat} {lv lv' : List (Nat × Value)} {stk rest : List Value} {v : Option Value} {E : String} {rt : Option FieldType}
variable {y : MethodName} {bytes : ByteArray} {maxL : Nat} {ret : Option FieldType} {rm : Room} {As : (Nat → Nat) → List Value} {ov : Option Value ⊕ String}
theorem xX.t (X : xX p s m args meth c cc own nL rt D ad ca) {i : Nat} {q : Cond} (h : lw_tbl[i]? = some q) (hq : xok q = true) : q.before args s = true := X.1.2.2.2.2.1 q (List.mem_filter.mpr ⟨List.mem_of_getElem? h, hq⟩)
/-- what a callee is given -/
theorem x_pre (X : xX p s m args meth c cc own nL rt D ad ca) {H : Heap} {locs : List Loc} (hP : va_P D xcl (wX ad ca g) H) (hS : va_S (xA (wX ad ca) s.heap.size) s.heap H locs) (L : List Value) : ∀ U : State, U.heap = H → s.WarmedH U.vm → xP (xE (wX ad ca)) D xcl (wX ad ca) (tyX ca) H.size L g L.toArray U := by
  intro U hU hW
  subst hU
  exact ⟨rfl, rfl, hP, va_K.moved hW.alike X.1.2.2.2.2.2.1, (X.1.2.2.2.2.2.2.1 g).weaken (fun _ _ _ _ => trivial), X.2.1.moved hW hS.1 hS.2.1⟩
theorem x_cb (X : xX p s m args meth c cc own nL rt D ad ca) {i j : Nat} (hc : lw_tbl[i]? = some (Cond.code y bytes maxL ret)) (hi : lw_tbl[j]? = some (Cond.initialized y.cls)) (hr : rm.cells = mc ∧ rm.slots = ms ∧ rm.frames + 1 ≤ R.frames ∧ 8 + (maxL + 11) + rm.locals ≤ R.locals) : xCB R s y bytes maxL ret [Cond.code y bytes maxL ret] rm mc ms :=
  ⟨⟨hr.1, hr.2.1, hr.2.2.1, hr.2.2.2, fun w hw a' U hW => by rw [List.mem_singleton.mp hw]; exact xok_warm hW rfl (X.t hc rfl), List.mem_singleton.mpr rfl⟩, fun a' U hW => xok_warm hW rfl (X.t hi rfl)⟩
theorem x_len {n : Nat} (h : (parseMethodDescriptor y.desc).map (fun d => d.parameters.length) = some n) : ∀ sig, parseMethodDescriptor y.desc = some sig → n = sig.parameters.length := fun sig hs => by
  rw [hs] at h
  exact (Option.some.inj h).symm
theorem x_runS (X : xX p s m args meth c cc own nL rt D ad ca) (hM : xM l y (.code y bytes maxL ret) rm As g ov g' mc ms) {i1 i2 i3 i4 index : Nat} (h1 : lw_tbl[i1]? = some (Cond.code y bytes maxL ret)) (h2 : lw_tbl[i2]? = some (Cond.initialized y.cls)) (h3 : lw_tbl[i3]? = some (Cond.methodLink own index y)) (h4 : lw_tbl[i4]? = some (Cond.static y))
    (hr : rm.cells = mc ∧ rm.slots = ms ∧ rm.frames + 1 ≤ R.frames ∧ 8 + (maxL + 11) + rm.locals ≤ R.locals) (hy : (y.cls ≠ "java/lang/invoke/MethodHandle" ∧ y.cls ≠ "java/lang/invoke/VarHandle") ∧ (parseMethodDescriptor y.desc).map (fun d => d.parameters.length) = some (As ad).length)
    (hstk : (As ad).reverse ++ rest = stk) (hW : (rest.map fun v => v.category).sum ≤ 8) (hdg : decode cc pc = .ok (.invokestatic index, 3)) (hc : cells + mc ≤ R.cells) (hs : slots + ms ≤ R.slots) :
    ∀ (T : State) (locs : List Loc) (ls : Array Slot), va_P D xcl (wX ad ca g) T.heap → va_S (xA (wX ad ca) s.heap.size) s.heap T.heap locs → ls.size = nL → Stand p l e R s m args below meth c T locs cells slots → xRun p l e R s m args below meth c T locs cells slots mc ms (F0 m pc ls stk) rest (xQ D xcl (wX ad ca) (xA (wX ad ca) T.heap.size) ov g' (As ad).toArray) (xA (wX ad ca) T.heap.size) := by
  intro T locs ls hP hS hl St
  exact xcallS St X.1.1 (hM D ad ca T.heap.size) xP_blind (x_cb X h1 h2 hr) X.1.2.2.2.1 (X.t h3 rfl) (X.t h4 rfl) hy.1 (g := F0 m pc ls stk) rfl (hl.trans X.1.2.2.1.symm) (argsL := As ad) (rest := rest) (x_len hy.2) hstk.symm (by show 2 * 0 + _ ≤ 8; omega) (by rw [X.1.2.1]; exact hdg) hc hs (x_pre X hP hS (As ad))
end XW
end
section
/-! throw new E("text"), the launch without stack traces -/
theorem th_a0 : ∀ q ∈ Bundle.throwableAtoms, q ∈ xT ∨ q ∈ xsts := by decide +kernel
theorem th_a1 : ∀ q ∈ Bundle.throwableSAtoms, q ∈ xT := by decide +kernel
theorem th_a2 : ∀ q ∈ Bundle.chainSAtoms "java/lang/RuntimeException" ["java/lang/Exception"], q ∈ xT := by decide +kernel
/-- what the tables say of an exception's class -/
def thW (X : String) (i : Nat) (bytes : ByteArray) : List Cond := Bundle.passSAtoms X "java/lang/RuntimeException" i bytes ++ [.instantiable X 6, .castable X X, .selects X Bundle.tFill0 Bundle.tFill0, .selects X Bundle.tFill Bundle.tFill,
   .lays X Bundle.tN "cause" "Ljava/lang/Throwable;", .lays X Bundle.tN "stackTrace" Bundle.steD, .lays X Bundle.tN "suppressedExceptions" Bundle.listD, .lays X Bundle.tN "detailMessage" "Ljava/lang/String;",
   .fieldLink Bundle.tN 198 Bundle.tN "backtrace" "Ljava/lang/Object;", .lays Bundle.tN Bundle.tN "backtrace" "Ljava/lang/Object;", .lays X Bundle.tN "backtrace" "Ljava/lang/Object;"]
theorem xE.static {w : xSt → va_W} {s : State} (h : xE w s) (a : Array Value) : ∀ q ∈ xsts, q.before a s = true := by
  obtain ⟨aS, -, -, h3⟩ := h.2.2.2
  exact h3 s (Vm.Alike.refl _) rfl a
section XTH
variable {p : Program} {l : Launch} {e : Env} {R : Room} {s : State} {m : MethodId} {args : Array Value} {below : List Frame} {meth : Method} {c : Code} {W : State} {locs : List Loc} {cells slots : Nat}
set_option maxHeartbeats 1000000 in
/-- the constructor of a fresh exception, called with a text: it comes back, and only the new cell has changed -/
theorem x_ctor (X : Stand p l e R s m args below meth c W locs cells slots) (hexec : p.tables.exec = Jvm.exec) (htr : e.platform.stackTraces = false) {w : xSt → va_W} (hE : xE w s) {own cls : String} {ic i1 : Nat} {b1 : ByteArray}
    (hown : s.vm.findClass own = some m.cls) (hcls : Bundle.fit cls = true) (hd0 : decode b1 0 = .ok (.aload_n 0, 1)) (hd1 : decode b1 1 = .ok (.aload_n 1, 1)) (hd2 : decode b1 2 = .ok (.invokespecial i1, 3)) (hd5 : decode b1 5 = .ok (.return_, 1))
    (hw : ∀ q ∈ thW cls i1 b1, q ∈ xT) (hml : Cond.methodLink own ic (Bundle.initS cls) ∈ xT)
    (hlocs : ∀ x ∈ locs, ∀ cell, s.heap[x.base]? = some cell → cell.vm.isStatics = false)
    {a : Addr} {cX : ClassId} {kX : Class} (hfoundX : s.vm.findClass cls = some cX) (hkX : s.vm.classes[cX]? = some kX) (hcell : W.heap[a]? = some (freshCell cX kX)) (hnew : s.heap.size ≤ a)
    {msg : Value} (hmsg : msg.isRef = true)
    {g : JFrame} (hg : g.method = m) (hsize : g.locals.size = c.maxLocals) {rest : List Value} (hstack : g.stack = msg :: .ref a :: rest) (hd6 : decode c.code g.pc = .ok (.invokespecial ic, 3))
    (hRframes : 5 < R.frames) (hRlocals : 2 * g.monitorRoom + (rest.map fun v => v.category).sum + 81 ≤ R.locals) :
    ∃ (T' : State) (L : List Loc) (ce : Cell), Stand p l e R s m args below meth c T' (locs ++ L) cells slots ∧ (∀ x ∈ L, x.base = a) ∧ T'.heap = W.heap.setIfInBounds a ce ∧ ce.cls = cX ∧ ce.vm = .none ∧
      ∀ tg, Steps p.tables e below (T'.setTop { g with pc := g.pc + 3, stack := rest }) tg → Steps p.tables e below (W.setTop g) tg := by
  have howns : e.platform.frameOwnsMonitors = true := by rw [X.admits.platform]
  have hfin : e.platform.finalization = false := by rw [X.admits.platform]
  have hpl : e.platform.magicAccessors = ({} : Platform).magicAccessors := by rw [X.admits.platform]
  have hst := hE.static args
  have htb : ∀ q ∈ xT, q.before args s = true := fun q hq => hE.1 args q hq
  have tw : ∀ q ∈ thW cls i1 b1, q.holds args s none s [] = true := fun q hq => htb q (hw q hq)
  obtain ⟨T, Z0, L, -, Y⟩ := ThrowableC.of_atoms (args := args) howns hfin hpl (fun q hq => (th_a0 q hq).elim (htb q) (hst q))
  obtain ⟨Z, M, LZ, LM, hnZ⟩ := Init0T.ofS_atoms (args := args) hpl L Y (fun q hq => htb q (th_a1 q hq))
  obtain ⟨P2, Ps, hlen, L2, hL, hP2m, hlink2, hlink⟩ := Bundle.chainS (args := args) hpl hnZ ["java/lang/Exception"] "java/lang/RuntimeException" (by decide +kernel) (by decide +kernel) (fun q hq => htb q (th_a2 q hq))
  obtain ⟨P1, L1, hP1m, hP1s⟩ := PassC.ofS_atoms (args := args) (s := s) hpl (X := cls) (Y := "java/lang/RuntimeException") (Bundle.fit_spec hcls).1 (by decide) hd0 hd1 hd2 hd5 (fun q hq => htb q (hw q (by simp [thW, hq])))
  have hsup : P1.sup = P2.m := Option.some.inj (hP1s.symm.trans hP2m)
  have hfound : s.vm.findClass cls = some P1.m.cls := findClass_of_methodNamed hP1m
  cases Option.some.inj (hfoundX.symm.trans hfound)
  obtain ⟨c1, kX', hc1, hk, hord, -, -, hn6⟩ := Cond.instantiable_spec (tw (.instantiable cls 6) (by simp [thW]))
  cases Option.some.inj (hc1.symm.trans hfound)
  cases Option.some.inj (hkX.symm.trans hk)
  have hsel0 : selectMethod e.platform s.vm P1.m.cls T.fill0 = .method T.fill0 := by
    obtain ⟨c2, r2, m2, q1, q2, q3, q4, -⟩ := Cond.selects_spec (tw (.selects cls Bundle.tFill0 Bundle.tFill0) (by simp [thW]))
    cases Option.some.inj (q1.symm.trans hfound)
    cases Option.some.inj (q2.symm.trans (State.methodFound?_of_named Y.fill0 (by decide)))
    cases Option.some.inj (q3.symm.trans Y.fill0)
    rw [Launch.admits_selectMethod X.admits]; exact q4
  have hselF : selectMethod e.platform s.vm P1.m.cls T.fill = .method T.fill := by
    obtain ⟨c2, r2, m2, q1, q2, q3, q4, -⟩ := Cond.selects_spec (tw (.selects cls Bundle.tFill Bundle.tFill) (by simp [thW]))
    cases Option.some.inj (q1.symm.trans hfound)
    cases Option.some.inj (q2.symm.trans (State.methodFound?_of_named Y.fill (by decide)))
    cases Option.some.inj (q3.symm.trans Y.fill)
    rw [Launch.admits_selectMethod X.admits]; exact q4
  obtain ⟨cellS0, hcS0, hiss⟩ := Y.statics
  obtain ⟨u0, hu0⟩ := Cond.staticRefV Y.unassigned L.unassignedStatic L.statics hcS0 hiss (hst (.isRef (.static Bundle.tN "UNASSIGNED_STACK" Bundle.steD)) (by simp [xsts, Bundle.tN, Bundle.steD]))
  obtain ⟨sen, hsen⟩ := Cond.staticRefV Y.sentinel L.sentinelStatic L.statics hcS0 hiss (hst (.isRef (.static Bundle.tN "SUPPRESSED_SENTINEL" Bundle.listD)) (by simp [xsts, Bundle.tN, Bundle.listD]))
  obtain ⟨ci198, i198, fB, hk198, hg198, ha198, hsB, -, hnB, htB, hffB⟩ := Cond.ownField (t := .object "java/lang/Object") Y.found L.cls (by decide +kernel) (tw (.fieldLink Bundle.tN 198 Bundle.tN "backtrace" "Ljava/lang/Object;") (by simp [thW])) (tw (.lays Bundle.tN Bundle.tN "backtrace" "Ljava/lang/Object;") (by simp [thW])) e.platform hpl
  obtain ⟨cellS, hcS', heS, -, hkeep⟩ := X.same.2.2.2.2.2 T.aS cellS0 hcS0
  have hcellS : W.heap[T.aS]? = some cellS := hcS'
  have hout' : ∀ i, (⟨T.aS, i⟩ : Loc) ∉ locs := fun i hmem => by
    have := hlocs _ hmem cellS0 hcS0
    rw [hiss] at this; cases this
  have hknownS : cellS.vm ≠ .unknown := by
    rw [heS]; intro hu
    rw [show cellS0.vm = .unknown from hu] at hiss
    cases hiss
  have hneS : T.aS ≠ a := Nat.ne_of_lt (Nat.lt_of_lt_of_le (Array.getElem?_eq_some_iff.mp hcS0).1 hnew)
  obtain ⟨iM, hffM⟩ := Y.msg
  obtain ⟨tyC, dC, hdC, hdnC⟩ := Cond.laysAt hfound hk Y.cause (tw (.lays cls Bundle.tN "cause" "Ljava/lang/Throwable;") (by simp [thW]))
  obtain ⟨tyS, dS, hdS, hdnS⟩ := Cond.laysAt hfound hk Y.stack (tw (.lays cls Bundle.tN "stackTrace" Bundle.steD) (by simp [thW]))
  obtain ⟨tyP, dP, hdP, hdnP⟩ := Cond.laysAt hfound hk Y.supp (tw (.lays cls Bundle.tN "suppressedExceptions" Bundle.listD) (by simp [thW]))
  obtain ⟨tyM, dM, hdM, hdnM⟩ := Cond.laysAt hfound hk hffM (tw (.lays cls Bundle.tN "detailMessage" "Ljava/lang/String;") (by simp [thW]))
  obtain ⟨tyB, dB, hdB, hdnB⟩ := Cond.laysAt hfound hk hffB (tw (.lays cls Bundle.tN "backtrace" "Ljava/lang/Object;") (by simp [thW]))
  have bC := Cond.laysApart hdB hdC hdnB hdnC (by rw [hnB, Y.causeName]; decide)
  have bS := Cond.laysApart hdB hdS hdnB hdnS (by rw [hnB, Y.stackName]; decide)
  have bP := Cond.laysApart hdB hdP hdnB hdnP (by rw [hnB, Y.suppName]; decide)
  have hskip : SkipFacts T e.platform s (fun u => u) u0 ((preparedCellV T.toThrowableT (freshCell P1.m.cls kX) a u0 sen).withEntry W.cur) :=
    ⟨{ ci198 := ci198, i198 := i198, fBack := fB }, ⟨hk198, hg198, ha198, hsB⟩, by
      have := fresh_default (c := P1.m.cls) tyB
      rw [htB] at this
      simpa [preparedCellV, Cell.setSlot, Cell.withEntry, Array.getElem?_setIfInBounds, bC, bS, bP, bC.symm, bS.symm, bP.symm, defaultValue] using this, fun _ _ => rfl⟩
  obtain ⟨tm, methC, cdC, kC, vm₁, hnC, -, -, -, -, -, -, -, hW₁, st1⟩ := Steps.initColdS (tb := p.tables) (e := e) (below := below) (s := s) (U := W) X.here hexec X.warmed hpl hown (t := Bundle.initS cls) rfl rfl (Bundle.fit_spec hcls).2
    (htb (.methodLink own ic (Bundle.initS cls)) hml) (htb _ (hw (.instanceMethod (Bundle.initS cls)) (by simp [thW, Bundle.passSAtoms]))) (bytes := b1) (maxL := 2) (htb _ (hw (.code (Bundle.initS cls) b1 2 none) (by simp [thW, Bundle.passSAtoms])))
    (f := g) hg (a := a) (msg := msg) (rest := rest) hstack hd6
  cases Option.some.inj (hnC.symm.trans hP1m)
  have X₁ := X.noted hW₁
  obtain ⟨vm₂, X₂, st2⟩ := X₁.ctorMessageOffV hexec (g := { g with stack := rest }) hg hsize T L Z LZ M LM (P1 :: P2 :: Ps)
    (fun P hP => by
      rcases List.mem_cons.mp hP with rfl | hP
      · exact L1
      · rcases List.mem_cons.mp hP with rfl | hP
        · exact L2
        · exact hL P hP) ⟨hsup, hlink2, hlink⟩ (u0 := u0) (sen := sen) (self := a) hmsg (cell := freshCell P1.m.cls kX) (cellS := cellS)
    hcell (fun _ => by simp) (by simp) rfl rfl hsel0 hselF hcellS hneS hknownS (by rw [hkeep _ (hout' _)]; exact hu0) (by rw [hkeep _ (hout' _)]; exact hsen)
    (Takes.of_laid hk hord tyC (by rw [Y.causeType]; rfl)) (Takes.of_laid hk hord tyS (by rw [Y.stackType]; exact fits_refV_array _ u0)) (Takes.of_laid hk hord tyP (by rw [Y.suppType]; exact fits_refV_object _ sen))
    (Takes.of_laid hk hord tyM (by rw [Y.msgType]; exact fits_refV_object _ ⟨msg, hmsg⟩)) Y.objLocals hskip htr [] hd6
    (by simp only [List.length_cons, hlen]; omega) (by simp only [List.length_cons, hlen]; exact hRlocals)
  refine ⟨_, _, plainBareV T.toThrowableT (freshCell P1.m.cls kX) a u0 sen msg, X₂, ?_, rfl, ?_, ?_, fun tg h => st1 _ (fun acts => ?_)⟩
  · intro x hx
    simp only [List.mem_cons, List.not_mem_nil, or_false] at hx
    rcases hx with rfl | rfl | rfl | rfl | rfl <;> rfl
  · simp [plainBareV, preparedCellV, Cell.setSlot]
  · simp [plainBareV, preparedCellV, Cell.setSlot]
  · rw [doInvoke_state]
    exact st2 _ h
end XTH
section XTV
variable {p : Program} {l : Launch} {e : Env} {R : Room} {s : State} {m : MethodId} {args : Array Value} {below : List Frame} {meth : Method} {c : Code} {D : va_G} {ad : Nat → Nat} {ca : Nat → ClassId} {nL cells slots : Nat}
variable {cc : ByteArray} {own : String} {g : xSt} {pc mc ms : Nat} {lv : List (Nat × Value)} {rt : Option FieldType}
theorem x_notrace {p : Program} {T : State} {locs : List Loc} (X : Stand p l e R s m args below meth c T locs cells slots) (h : l.stackTraces = false) : e.platform.stackTraces = false := by
  rw [X.admits.platform]; exact h
theorem v_throw (X : xX p s m args meth c cc own nL rt D ad ca) (hfl : l.stackTraces = false) (hno : c.exceptionTable.toList = []) {cls text : String} {icl itx ic i1 j1 j2 j3 j4 : Nat} {b1 : ByteArray} (hown : own = "CrossDock")
    (w1 : lw_tbl[j1]? = some (Cond.classLink own icl cls)) (w2 : lw_tbl[j2]? = some (Cond.instantiable cls 6)) (w3 : lw_tbl[j3]? = some (Cond.initialized cls)) (w4 : lw_tbl[j4]? = some (Cond.methodLink own ic (Bundle.initS cls))) (htx : (itx, text) ∈ xtx)
    (hcls : Bundle.fit cls = true) (hb : decode b1 0 = .ok (.aload_n 0, 1) ∧ decode b1 1 = .ok (.aload_n 1, 1) ∧ decode b1 2 = .ok (.invokespecial i1, 3) ∧ decode b1 5 = .ok (.return_, 1)) (hw : ∀ q ∈ thW cls i1 b1, q ∈ xT)
    (d0 : decode cc pc = .ok (.new icl, 3)) (d1 : decode cc (pc + 3) = .ok (.dup, 1)) (d2 : decode cc (pc + 4) = .ok (.ldc itx, 2)) (d3 : decode cc (pc + 6) = .ok (.invokespecial ic, 3)) (d4 : decode cc (pc + 9) = .ok (.athrow, 1))
    (hR : cells + 1 ≤ R.cells ∧ slots + 6 ≤ R.slots ∧ 5 < R.frames ∧ 82 ≤ R.locals) (h1 : cells + 1 ≤ mc) (h2 : slots + 6 ≤ ms) :
    xV p l e R s m args below meth c D xcl (wX ad ca) (xA (wX ad ca) s.heap.size) nL cells slots (xMQ below (xQ D xcl (wX ad ca) (xA (wX ad ca) s.heap.size) (.inr cls) g) args s mc ms (xA (wX ad ca) s.heap.size)) g pc lv [] := by
  intro H locs ls hP hS hl
  refine W.newc X.1.1 X.1.2.1 X.1.2.2.2.1 (X.t w1 rfl) (X.t w2 rfl) (X.t w3 rfl) rfl d0 hR.1 hR.2.1 (fun cC kC f1 f2 f3 f4 => ?_)
  refine W.eq (g2 := F0 m (pc + 3) ls [.ref H.size]) rfl ?_
  refine lv_dup X.1.1 X.1.2.1 d1 rfl ?_
  obtain ⟨ta, hta⟩ := X.2.1.2.1 _ htx
  rw [← hown] at hta
  refine va_ldcS X.1.1 X.1.2.1 X.1.2.2.2.1 hta d2 ?_
  intro T hT St
  have hcell : T.heap[H.size]? = some (freshCell cC kC) := by rw [hT]; exact Array.getElem?_push_size
  obtain ⟨T', L, ce, St', hL, hh, hc1, hc2, st⟩ := x_ctor St X.1.1 (x_notrace St hfl) X.2.1 X.1.2.2.2.1 hcls hb.1 hb.2.1 hb.2.2.1 hb.2.2.2 hw (List.mem_filter.mpr ⟨List.mem_of_getElem? w4, rfl⟩) (fun x hx => X.2.2.2.2 x.base (hS.2.2 x hx)) f1 f2 hcell hS.1 (msg := .ref ta) rfl
    (g := F0 m (pc + 6) ls [.ref ta, .ref H.size, .ref H.size]) rfl (hl.1.trans X.1.2.2.1.symm) (rest := [.ref H.size]) rfl (by rw [X.1.2.1]; exact d3) hR.2.2.1 (by show 2 * 0 + 1 + 81 ≤ R.locals; exact hR.2.2.2)
  have St'' := stand_widen St' h1 h2
  obtain ⟨q1, q2, q3, q4, q5⟩ := St''.athrowLeaves X.1.1 (g := F0 m (pc + 9) ls [.ref H.size]) rfl rfl rfl (by rw [hno]; intro x hx; cases hx) (a := H.size) (rest := []) rfl (by rw [X.1.2.1]; exact d4) X.2.2.2.1
  have hother : ∀ q : Nat, q < H.size → T'.heap[q]? = H[q]? := fun q hq => by
    rw [hh, hT, Array.getElem?_setIfInBounds, if_neg (Nat.ne_of_gt hq), Array.getElem?_push, if_neg (Nat.ne_of_lt hq)]
  have hsz : T'.heap.size = H.size + 1 := by rw [hh, hT]; simp
  refine ⟨_, st _ q1, .threw H.size, q2, q3, ⟨⟨H.size, rfl, hS.1, ce, ?_, ?_, hc2⟩, ?_, ?_⟩, locs ++ L, ⟨q4, q5⟩, ?_⟩
  · show T'.heap[H.size]? = some ce
    rw [hh, hT, Array.getElem?_setIfInBounds]; simp
  · show T'.vm.findClass cls = some ce.cls
    rw [hc1, ← f1, St'.warmed.alike.findClass]
  · show va_P D xcl (wX ad ca g) T'.heap
    exact hP.kept (fun k q hq => hother q.1 ((hP k q hq).lt))
  · refine ⟨?_, fun q a1 a2 => ?_⟩
    · show s.heap.size ≤ T'.heap.size
      have := hS.1
      omega
    · show T'.heap[q]? = s.heap[q]?
      rw [hother q (Nat.lt_of_lt_of_le a1 hS.1)]
      exact hS.2.1 q a1 a2
  · intro q hq
    rcases List.mem_append.mp hq with h | h
    · exact hS.2.2 q h
    · rw [hL q h]; exact Or.inr hS.1
end XTV
end
section
/-! calls of instance methods, Math, arraycopy, switches, over the one world -/
section XWV
variable {p : Program} {l : Launch} {e : Env} {R : Room} {s : State} {m : MethodId} {args : Array Value} {below : List Frame} {meth : Method} {c : Code} {D : va_G} {ad : Nat → Nat} {ca : Nat → ClassId} {nL cells slots : Nat} {Q : State → Prop}
variable {cc : ByteArray} {own : String} {g g' : xSt} {pc mc ms : Nat} {lv lv' : List (Nat × Value)} {stk rest L : List Value} {v : Option Value} {E : String} {rt : Option FieldType} {b : Nat}
variable {y : MethodName} {bytes : ByteArray} {maxL : Nat} {ret : Option FieldType} {rm : Room} {As : (Nat → Nat) → List Value} {ov : Option Value ⊕ String}
theorem x_runV (X : xX p s m args meth c cc own nL rt D ad ca) (hM : xM l y (.code y bytes maxL ret) rm As g ov g' mc ms) (hAs : As ad = .ref b :: L) {i1 i2 i3 i4 i5 index : Nat} (h1 : lw_tbl[i1]? = some (Cond.code y bytes maxL ret)) (h2 : lw_tbl[i2]? = some (Cond.initialized y.cls)) (h3 : lw_tbl[i3]? = some (Cond.methodLink own index y)) (h4 : lw_tbl[i4]? = some (Cond.instanceMethod y)) (h5 : lw_tbl[i5]? = some (Cond.selects y.cls y y))
    (q0 ci : Nat) {fs : List Value} {vq : vw_C} (he : (wX ad ca g)[q0]? = some (b, .inr (ci, fs))) (hcl : xcl[ci]? = some vq) (hcn : vq.1 = y.cls)
    (hr : rm.cells = mc ∧ rm.slots = ms ∧ rm.frames + 1 ≤ R.frames ∧ 8 + (maxL + 11) + rm.locals ≤ R.locals) (hy : (y.cls ≠ "java/lang/invoke/MethodHandle" ∧ y.cls ≠ "java/lang/invoke/VarHandle") ∧ (parseMethodDescriptor y.desc).map (fun d => d.parameters.length) = some L.length)
    (hstk : L.reverse ++ .ref b :: rest = stk) (hW : (rest.map fun v => v.category).sum ≤ 8) (hdg : decode cc pc = .ok (.invokevirtual index, 3)) (hc : cells + mc ≤ R.cells) (hs : slots + ms ≤ R.slots) :
    ∀ (T : State) (locs : List Loc) (ls : Array Slot), va_P D xcl (wX ad ca g) T.heap → va_S (xA (wX ad ca) s.heap.size) s.heap T.heap locs → ls.size = nL → Stand p l e R s m args below meth c T locs cells slots → xRun p l e R s m args below meth c T locs cells slots mc ms (F0 m pc ls stk) rest (xQ D xcl (wX ad ca) (xA (wX ad ca) T.heap.size) ov g' (As ad).toArray) (xA (wX ad ca) T.heap.size) := by
  intro T locs ls hP hS hl St
  obtain ⟨cellB, k1, k2, k3⟩ := va_recv X.1.2.2.2.2.2.1 hP hcl he
  rw [hcn] at k3
  have hpre := x_pre X hP hS (As ad)
  have hM' := hM D ad ca T.heap.size
  rw [hAs] at hpre hM' ⊢
  exact xcallV St X.1.1 hM' xP_blind (x_cb X h1 h2 hr) X.1.2.2.2.1 (X.t h3 rfl) (X.t h4 rfl) (X.t h5 rfl) hy.1 k1 k2 k3 (g := F0 m pc ls stk) rfl (hl.trans X.1.2.2.1.symm) (argsL := L) (rest := rest) (x_len hy.2) hstk.symm (by show 2 * 0 + _ ≤ 8; omega) (by rw [X.1.2.1]; exact hdg) hc hs hpre
theorem x_runN (X : xX p s m args meth c cc own nL rt D ad ca) (hM : xM l y (.code y bytes maxL ret) rm As g ov g' mc ms) (hAs : As ad = .ref b :: L) {i1 i2 i3 i4 i5 index : Nat} {host : String} (h1 : lw_tbl[i1]? = some (Cond.code y bytes maxL ret)) (h2 : lw_tbl[i2]? = some (Cond.initialized y.cls)) (h3 : lw_tbl[i3]? = some (Cond.methodLinkNest own index y host)) (h4 : lw_tbl[i4]? = some (Cond.instanceMethod y)) (h5 : lw_tbl[i5]? = some (Cond.selects y.cls y y))
    (q0 ci : Nat) {fs : List Value} {vq : vw_C} (he : (wX ad ca g)[q0]? = some (b, .inr (ci, fs))) (hcl : xcl[ci]? = some vq) (hcn : vq.1 = y.cls)
    (hr : rm.cells = mc ∧ rm.slots = ms ∧ rm.frames + 1 ≤ R.frames ∧ 8 + (maxL + 11) + rm.locals ≤ R.locals) (hy : (y.cls ≠ "java/lang/invoke/MethodHandle" ∧ y.cls ≠ "java/lang/invoke/VarHandle") ∧ (parseMethodDescriptor y.desc).map (fun d => d.parameters.length) = some L.length)
    (hstk : L.reverse ++ .ref b :: rest = stk) (hW : (rest.map fun v => v.category).sum ≤ 8) (hdg : decode cc pc = .ok (.invokevirtual index, 3)) (hc : cells + mc ≤ R.cells) (hs : slots + ms ≤ R.slots) :
    ∀ (T : State) (locs : List Loc) (ls : Array Slot), va_P D xcl (wX ad ca g) T.heap → va_S (xA (wX ad ca) s.heap.size) s.heap T.heap locs → ls.size = nL → Stand p l e R s m args below meth c T locs cells slots → xRun p l e R s m args below meth c T locs cells slots mc ms (F0 m pc ls stk) rest (xQ D xcl (wX ad ca) (xA (wX ad ca) T.heap.size) ov g' (As ad).toArray) (xA (wX ad ca) T.heap.size) := by
  intro T locs ls hP hS hl St
  obtain ⟨cellB, k1, k2, k3⟩ := va_recv X.1.2.2.2.2.2.1 hP hcl he
  rw [hcn] at k3
  have hpre := x_pre X hP hS (As ad)
  have hM' := hM D ad ca T.heap.size
  rw [hAs] at hpre hM' ⊢
  exact xcallVN St X.1.1 hM' xP_blind (x_cb X h1 h2 hr) X.1.2.2.2.1 (X.t h3 rfl) (X.t h4 rfl) (X.t h5 rfl) hy.1 k1 k2 k3 (g := F0 m pc ls stk) rfl (hl.trans X.1.2.2.1.symm) (argsL := L) (rest := rest) (x_len hy.2) hstk.symm (by show 2 * 0 + _ ≤ 8; omega) (by rw [X.1.2.1]; exact hdg) hc hs hpre
theorem v_min (X : xX p s m args meth c cc own nL rt D ad ca) {i1 i2 i3 i4 index : Nat} (h1 : lw_tbl[i1]? = some (Cond.methodLink own index Lib.Math.min.name)) (h2 : lw_tbl[i2]? = some (Cond.static Lib.Math.min.name)) (h3 : lw_tbl[i3]? = some (Cond.initialized "java/lang/Math")) (h4 : lw_tbl[i4]? = some (Cond.code Lib.Math.min.name Lib.Math.min.code 2 (some .int)))
    (hr : 1 ≤ R.frames ∧ (stk.map fun v => v.category).sum + 13 ≤ R.locals ∧ cells ≤ R.cells ∧ slots ≤ R.slots) {x y : Int32} (hdg : decode cc pc = .ok (.invokestatic index, 3))
    (k : xV p l e R s m args below meth c D xcl (wX ad ca) (xA (wX ad ca) s.heap.size) nL cells slots Q g (pc + 3) lv (.int (if y < x then y else x) :: stk)) : xV p l e R s m args below meth c D xcl (wX ad ca) (xA (wX ad ca) s.heap.size) nL cells slots Q g pc lv (.int y :: .int x :: stk) :=
  fun H locs ls hP hS hl => va_mmin X.1.1 X.1.2.1 (X.1.2.2.1.trans hl.1.symm) X.1.2.2.2.1 (X.t h1 rfl) (X.t h2 rfl) (X.t h3 rfl) (X.t h4 rfl) hr.1 hr.2.1 hr.2.2.1 hr.2.2.2 hdg (k H locs ls hP hS hl)
theorem v_max (X : xX p s m args meth c cc own nL rt D ad ca) {i1 i2 i3 i4 index : Nat} (h1 : lw_tbl[i1]? = some (Cond.methodLink own index Lib.Math.max.name)) (h2 : lw_tbl[i2]? = some (Cond.static Lib.Math.max.name)) (h3 : lw_tbl[i3]? = some (Cond.initialized "java/lang/Math")) (h4 : lw_tbl[i4]? = some (Cond.code Lib.Math.max.name Lib.Math.max.code 2 (some .int)))
    (hr : 1 ≤ R.frames ∧ (stk.map fun v => v.category).sum + 13 ≤ R.locals ∧ cells ≤ R.cells ∧ slots ≤ R.slots) {x y : Int32} (hdg : decode cc pc = .ok (.invokestatic index, 3))
    (k : xV p l e R s m args below meth c D xcl (wX ad ca) (xA (wX ad ca) s.heap.size) nL cells slots Q g (pc + 3) lv (.int (if x < y then y else x) :: stk)) : xV p l e R s m args below meth c D xcl (wX ad ca) (xA (wX ad ca) s.heap.size) nL cells slots Q g pc lv (.int y :: .int x :: stk) :=
  fun H locs ls hP hS hl => va_mmax X.1.1 X.1.2.1 (X.1.2.2.1.trans hl.1.symm) X.1.2.2.2.1 (X.t h1 rfl) (X.t h2 rfl) (X.t h3 rfl) (X.t h4 rfl) hr.1 hr.2.1 hr.2.2.1 hr.2.2.2 hdg (k H locs ls hP hS hl)
theorem v_copy (X : xX p s m args meth c cc own nL rt D ad ca) {i1 i2 i3 i4 index : Nat} (h1 : lw_tbl[i1]? = some (Cond.methodLink own index arraycopyName)) (h2 : lw_tbl[i2]? = some (Cond.native arraycopyName)) (h3 : lw_tbl[i3]? = some (Cond.static arraycopyName)) (h4 : lw_tbl[i4]? = some (Cond.initialized "java/lang/System"))
    (q0 q1 : Nat) {a0 a1 n0 n1 : Nat} {f0 f1 : Nat → Int32} (ha0 : (wX ad ca g)[q0]? = some (a0, .inl (ca 0, n0, .inl f0))) (ha1 : (wX ad ca g)[q1]? = some (a1, .inl (ca 0, n1, .inl f1))) {n : Int32} (hn : ¬ (n < 0 ∨ n0 < n.toNatClampNeg ∨ n1 < n.toNatClampNeg))
    (hw : (wX ad ca g).set q1 (a1, .inl (ca 0, n1, .inl (va_cpy f0 f1 0 0 n.toNatClampNeg))) = wX ad ca g')
    (hr : 1 ≤ R.frames ∧ (stk.map fun v => v.category).sum + (nativeFrameWords "java/lang/System" "arraycopy" 5 + 11) ≤ R.locals) (hdg : decode cc pc = .ok (.invokestatic index, 3))
    (k : xV p l e R s m args below meth c D xcl (wX ad ca) (xA (wX ad ca) s.heap.size) nL cells slots Q g' (pc + 3) lv stk) : xV p l e R s m args below meth c D xcl (wX ad ca) (xA (wX ad ca) s.heap.size) nL cells slots Q g pc lv (.int n :: .int 0 :: .ref a1 :: .int 0 :: .ref a0 :: stk) := by
  intro H locs ls hP hS hl
  have hz : (0 : Int32).toNatClampNeg = 0 := rfl
  refine va_copyi X.1.1 X.1.2.1 (X.1.2.2.1.trans hl.1.symm) X.1.2.2.2.1 (X.t h1 rfl) (X.t h2 rfl) (X.t h3 rfl) (X.t h4 rfl) X.1.2.2.2.2.2.1 hP (X.1.2.2.2.2.2.2.1 g) hS q0 q1 0 0 ha0 ha1 rfl rfl (ty := .int) rfl (sp := 0) (dp := 0) (n := n) (by decide) (by decide) (fun h => hn (Or.inl h)) (by rw [hz]; omega) (by rw [hz]; omega) (fun _ _ => rfl) hr.1 hr.2 hdg (fun H1 locs1 hP1 _ hS1 => ?_)
  rw [hz] at hP1
  exact k H1 locs1 ls (by rw [← hw]; exact hP1) hS1 hl
theorem v_tout (X : xX p s m args meth c cc own nL rt D ad ca) {dflt lo hi : Int} {offs : Array Int} {len : Nat} {x : Int32} {tgt : Nat} (hdg : decode cc pc = .ok (.tableswitch dflt lo hi offs, len)) (h : x.toInt < lo ∨ hi < x.toInt) (ht : (pc : Int) + dflt = (tgt : Int))
    (k : xV p l e R s m args below meth c D xcl (wX ad ca) (xA (wX ad ca) s.heap.size) nL cells slots Q g tgt lv stk) : xV p l e R s m args below meth c D xcl (wX ad ca) (xA (wX ad ca) s.heap.size) nL cells slots Q g pc lv (.int x :: stk) :=
  fun H locs ls hP hS hl => lv_tableOut X.1.1 X.1.2.1 hdg h ht (k H locs ls hP hS hl)
theorem v_tin (X : xX p s m args meth c cc own nL rt D ad ca) {dflt lo hi : Int} {offs : Array Int} {len : Nat} {x : Int32} {off : Int} {tgt : Nat} (hdg : decode cc pc = .ok (.tableswitch dflt lo hi offs, len)) (h1 : ¬ x.toInt < lo) (h2 : ¬ hi < x.toInt) (ho : offs[(x.toInt - lo).toNat]? = some off) (ht : (pc : Int) + off = (tgt : Int))
    (k : xV p l e R s m args below meth c D xcl (wX ad ca) (xA (wX ad ca) s.heap.size) nL cells slots Q g tgt lv stk) : xV p l e R s m args below meth c D xcl (wX ad ca) (xA (wX ad ca) s.heap.size) nL cells slots Q g pc lv (.int x :: stk) :=
  fun H locs ls hP hS hl => lv_tableIn X.1.1 X.1.2.1 hdg h1 h2 ho ht (k H locs ls hP hS hl)
end XWV
theorem ob_some {α β : Type} {o : Option α} {f : α → Option β} {r : β} (h : o.bind f = some r) : ∃ x, o = some x ∧ f x = some r := by
  cases o with
  | none => cases h
  | some x => exact ⟨x, rfl, h⟩
theorem oi_none {α : Type} {c : Prop} {i : Decidable c} {o : Option α} {r : α} (h : @ite _ c i none o = some r) : ¬ c ∧ o = some r := by
  by_cases hc : c
  · rw [if_pos hc] at h; cases h
  · rw [if_neg hc] at h; exact ⟨hc, h⟩
theorem oz_nar {x : Int32} (h : ¬ ¬ (x = 0 ∨ x = 1)) : narrow .boolean (.int x) = .int x ∧ fits .boolean (.int x) = true := by
  rcases Classical.not_not.mp h with rfl | rfl <;> exact ⟨rfl, rfl⟩
section XB
variable {p : Program} {l : Launch} {e : Env} {R : Room} {s : State} {m : MethodId} {args : Array Value} {below : List Frame} {meth : Method} {c : Code} {D : va_G} {cl : List vw_C} {w : xSt → va_W} {A : Nat → Prop} {nL cells slots : Nat} {Q : State → Prop}
variable {cc : ByteArray} {own : String} {Ts : List Cond} {tys : List (ClassId × FieldType)} {g g' : xSt} {pc mc ms : Nat} {lv lv' : List (Nat × Value)} {stk rest : List Value} {a : Array Value}
theorem v_backI (C : xC p s m args c cc own Ts nL D cl w tys A) {r : Int32}
    (run : ∀ (T : State) (locs : List Loc) (ls : Array Slot), va_P D cl (w g) T.heap → va_S A s.heap T.heap locs → ls.size = nL → Stand p l e R s m args below meth c T locs cells slots → xRun p l e R s m args below meth c T locs cells slots mc ms (F0 m pc ls stk) rest (xQ D cl w (xA w T.heap.size) (.inl (some (.int r))) g' a) (xA w T.heap.size))
    (k : xV p l e R s m args below meth c D cl w A nL (cells + mc) (slots + ms) Q g' (pc + 3) lv (.int r :: rest)) : xV p l e R s m args below meth c D cl w A nL cells slots Q g pc lv stk := v_back C run k
theorem v_backV (C : xC p s m args c cc own Ts nL D cl w tys A)
    (run : ∀ (T : State) (locs : List Loc) (ls : Array Slot), va_P D cl (w g) T.heap → va_S A s.heap T.heap locs → ls.size = nL → Stand p l e R s m args below meth c T locs cells slots → xRun p l e R s m args below meth c T locs cells slots mc ms (F0 m pc ls stk) rest (xQ D cl w (xA w T.heap.size) (.inl none) g' a) (xA w T.heap.size))
    (k : xV p l e R s m args below meth c D cl w A nL (cells + mc) (slots + ms) Q g' (pc + 3) lv rest) : xV p l e R s m args below meth c D cl w A nL cells slots Q g pc lv stk := v_back C run k
end XB
/-! outcomes by number: 0 returned, k + 1 threw -/
def xexn : Nat → String
  | 0 => "java/lang/IllegalArgumentException"
  | 1 => "java/lang/UnsupportedOperationException"
  | 2 => "java/util/NoSuchElementException"
  | _ => "java/lang/IllegalStateException"
def xov : Nat → Option Value → Option Value ⊕ String
  | 0, r => .inl r
  | k + 1, _ => .inr (xexn k)
def obT (o : Option (Nat × Int32 × xSt)) (f : Int32 → xSt → Option (Nat × Int32 × xSt)) : Option (Nat × Int32 × xSt) := match o with
  | none => none
  | some (0, r, g) => f r g
  | some (k + 1, _, g) => some (k + 1, 0, g)
theorem obT_some {o : Option (Nat × Int32 × xSt)} {f : Int32 → xSt → Option (Nat × Int32 × xSt)} {q : Nat × Int32 × xSt} (h : obT o f = some q) : (∃ r g, o = some (0, r, g) ∧ f r g = some q) ∨ ∃ k r g, o = some (k + 1, r, g) ∧ some (k + 1, 0, g) = some q := by
  match o, h with
  | some (0, r, g), h => exact Or.inl ⟨r, g, rfl, h⟩
  | some (k + 1, r, g), h => exact Or.inr ⟨k, r, g, rfl, h⟩
end
section
/-! binds of the mirrors; the exceptions' words; Math's code -/
def ob2 {β : Type} (o : Option (Int32 × xSt)) (f : Int32 → xSt → Option β) : Option β := match o with
  | none => none
  | some q => f q.1 q.2
theorem ob2_some {β : Type} {o : Option (Int32 × xSt)} {f : Int32 → xSt → Option β} {r : β} (h : ob2 o f = some r) : ∃ a g, o = some (a, g) ∧ f a g = some r := by
  match o, h with
  | some (a, g), h => exact ⟨a, g, rfl, h⟩
def ob3 {β : Type} (o : Option (Int32 × Int32 × xSt)) (f : Int32 → Int32 → xSt → Option β) : Option β := match o with
  | none => none
  | some q => f q.1 q.2.1 q.2.2
theorem ob3_some {β : Type} {o : Option (Int32 × Int32 × xSt)} {f : Int32 → Int32 → xSt → Option β} {r : β} (h : ob3 o f = some r) : ∃ a b g, o = some (a, b, g) ∧ f a b g = some r := by
  match o, h with
  | some (a, b, g), h => exact ⟨a, b, g, rfl, h⟩
def ob4 {β : Type} (o : Option (Int32 × Int32 × Int32 × xSt)) (f : Int32 → Int32 → Int32 → xSt → Option β) : Option β := match o with
  | none => none
  | some q => f q.1 q.2.1 q.2.2.1 q.2.2.2
theorem ob4_some {β : Type} {o : Option (Int32 × Int32 × Int32 × xSt)} {f : Int32 → Int32 → Int32 → xSt → Option β} {r : β} (h : ob4 o f = some r) : ∃ a b c g, o = some (a, b, c, g) ∧ f a b c g = some r := by
  match o, h with
  | some (a, b, c, g), h => exact ⟨a, b, c, g, rfl, h⟩
theorem thb_IllegalArgumentException : decode prog_9_method_2_code 0 = .ok (.aload_n 0, 1) ∧ decode prog_9_method_2_code 1 = .ok (.aload_n 1, 1) ∧ decode prog_9_method_2_code 2 = .ok (.invokespecial 7, 3) ∧ decode prog_9_method_2_code 5 = .ok (.return_, 1) := ⟨by decide +kernel, by decide +kernel, by decide +kernel, by decide +kernel⟩
theorem thb_IllegalStateException : decode prog_10_method_2_code 0 = .ok (.aload_n 0, 1) ∧ decode prog_10_method_2_code 1 = .ok (.aload_n 1, 1) ∧ decode prog_10_method_2_code 2 = .ok (.invokespecial 7, 3) ∧ decode prog_10_method_2_code 5 = .ok (.return_, 1) := ⟨by decide +kernel, by decide +kernel, by decide +kernel, by decide +kernel⟩
theorem thb_UnsupportedOperationException : decode prog_16_method_2_code 0 = .ok (.aload_n 0, 1) ∧ decode prog_16_method_2_code 1 = .ok (.aload_n 1, 1) ∧ decode prog_16_method_2_code 2 = .ok (.invokespecial 7, 3) ∧ decode prog_16_method_2_code 5 = .ok (.return_, 1) := ⟨by decide +kernel, by decide +kernel, by decide +kernel, by decide +kernel⟩
theorem thb_NoSuchElementException : decode prog_17_method_4_code 0 = .ok (.aload_n 0, 1) ∧ decode prog_17_method_4_code 1 = .ok (.aload_n 1, 1) ∧ decode prog_17_method_4_code 2 = .ok (.invokespecial 13, 3) ∧ decode prog_17_method_4_code 5 = .ok (.return_, 1) := ⟨by decide +kernel, by decide +kernel, by decide +kernel, by decide +kernel⟩
theorem thw_IllegalArgumentException : ∀ q ∈ thW "java/lang/IllegalArgumentException" 7 prog_9_method_2_code, q ∈ xT := by decide +kernel
theorem thw_IllegalStateException : ∀ q ∈ thW "java/lang/IllegalStateException" 7 prog_10_method_2_code, q ∈ xT := by decide +kernel
theorem thw_UnsupportedOperationException : ∀ q ∈ thW "java/lang/UnsupportedOperationException" 7 prog_16_method_2_code, q ∈ xT := by decide +kernel
theorem thw_NoSuchElementException : ∀ q ∈ thW "java/util/NoSuchElementException" 13 prog_17_method_4_code, q ∈ xT := by decide +kernel
set_option maxRecDepth 100000 in
theorem twM_min : lw_tbl[530]? = some (Cond.code Lib.Math.min.name Lib.Math.min.code 2 (some .int)) := by decide +kernel
set_option maxRecDepth 100000 in
theorem twM_max : lw_tbl[621]? = some (Cond.code Lib.Math.max.name Lib.Math.max.code 2 (some .int)) := by decide +kernel
end
section
/-! methods with handlers: a throw of a callee is caught; contracts and calls of such methods -/
section XCT
variable {E0 : CtlPost} {e : Env} {d : Bool} {acts : List Action} {f : JFrame} {a : Addr} {Q : Handler → Pre}
/-- one row of the table whose class may have to be linked first -/
theorem xgo1 {S : State} {x : ExceptionTableEntry} {t : List ExceptionTableEntry} {c : ClassId} {cell : Cell} (hx : covers x f.pc = true) (h0 : x.catchType ≠ 0) (hl : S.vm.ClassLinks e.platform f.method.cls x.catchType c)
    (hcell : S.heap[a]? = some cell) (hobj : ∀ k, cell.vm ≠ .statics k) (hk : ∃ k, S.vm.classes[cell.cls]? = some k) (hc : ∃ k, S.vm.classes[c]? = some k) :
    wp (findHandler.go f a (x :: t)) Q E0 e d acts S ↔ if S.vm.assignable cell.cls c = true then Q (.found x.handlerPc) d acts (S.setVm (S.vm.noted f.method.cls x.catchType (.cls c))) else wp (findHandler.go f a t) Q E0 e d acts (S.setVm (S.vm.noted f.method.cls x.catchType (.cls c))) := by
  obtain ⟨r1, r2⟩ := (resolveClass_links e.toSetting hl).op (op := VmOp.resolveClass f.method.cls x.catchType) rfl
  have al : S.vm.Alike (S.vm.noted f.method.cls x.catchType (.cls c)) := (Vm.Alike.refl S.vm).noted _ _ _
  obtain ⟨k1, hk1⟩ := hk
  obtain ⟨k2, hk2⟩ := hc
  obtain ⟨k3, hk3, -⟩ := al.2.2 _ _ hk1
  obtain ⟨k4, hk4, -⟩ := al.2.2 _ _ hk2
  have hx' : (decide (x.startPc ≤ f.pc) && decide (f.pc < x.endPc)) = true := hx
  have has := al.assignable cell.cls c
  cases hfit : S.vm.assignable cell.cls c <;> rw [hfit] at has <;>
    simp [findHandler.go, hx', h0, r1, r2, hcell, hobj, hk3, hk4, has, VmOp.dirties, VmOp.acts]
end XCT
def xpick (E : String) : List (ExceptionTableEntry × String) → Option Nat
  | [] => none
  | q :: r => if q.2 = E then some q.1.handlerPc else xpick E r
/-- the search through rows that all cover the pc, each of a class that the tables link, up to the row that names the thrown object's class -/
theorem xgo {e : Env} {s : State} {args : Array Value} {f : JFrame} {a : Addr} {cell : Cell} {own E : String} (hpl : e.platform.magicAccessors = ({} : Platform).magicAccessors) (hown : s.vm.findClass own = some f.method.cls) (hE : s.vm.findClass E = some cell.cls) (hobj : ∀ k, cell.vm ≠ .statics k) (hself : (Cond.castable E E).before #[] s = true) :
    ∀ (rows : List (ExceptionTableEntry × String)) (hd : Nat), (∀ q ∈ rows, covers q.1 f.pc = true ∧ q.1.catchType ≠ 0 ∧ (Cond.classLink own q.1.catchType q.2).before args s = true ∧ (q.2 ≠ E → (Cond.castable E q.2).before #[] s = false)) → xpick E rows = some hd →
      ∀ S : State, s.WarmedH S.vm → S.heap[a]? = some cell → ∃ vm', s.WarmedH vm' ∧ ∀ (Q : Handler → Pre) (E0 : CtlPost) (d : Bool) (acts : List Action), wp (findHandler.go f a (rows.map (·.1))) Q E0 e d acts S ↔ Q (.found hd) d acts (S.setVm vm') := by
  obtain ⟨k0, hk0⟩ := Vm.classAt_of_findClass hE
  intro rows
  induction rows with
  | nil => intro hd _ hp; cases hp
  | cons q r ih =>
    intro hd hall hp S hW hcell
    obtain ⟨q1, q2, q3, q4⟩ := hall q List.mem_cons_self
    obtain ⟨c', hc', hcl⟩ := Cond.classLink_spec hown q3 e.platform hpl
    obtain ⟨dk, _, _, kt, hd1, _, _, _, _, hkt, _, hopen⟩ := hcl.here
    obtain ⟨k0', hk0', -⟩ := hW.alike.2.2 _ _ hk0
    obtain ⟨kt', hkt', -⟩ := hW.alike.2.2 _ _ hkt
    have hW2 := hW.noted hd1 hopen (State.rightAt_cls hcl)
    have step := fun (Q : Handler → Pre) (E0 : CtlPost) (d : Bool) (acts : List Action) => xgo1 (Q := Q) (E0 := E0) (d := d) (acts := acts) (t := r.map (·.1)) q1 q2 (hW.classLinks hcl) hcell hobj ⟨k0', hk0'⟩ ⟨kt', hkt'⟩
    have has : S.vm.assignable cell.cls c' = s.vm.assignable cell.cls c' := hW.alike.assignable _ _
    by_cases hq : q.2 = E
    · have hcast : s.vm.assignable cell.cls c' = true := by
        rw [hq] at hc'
        have hcc : c' = cell.cls := Option.some.inj (hc'.symm.trans hE)
        have h1 := hself
        simp only [Cond.before, Cond.holds, Cond.value, hE] at h1
        rw [hcc]
        simpa using h1
      have hhd : q.1.handlerPc = hd := by
        have h1 : (if q.2 = E then some q.1.handlerPc else xpick E r) = some hd := hp
        rw [if_pos hq] at h1
        exact Option.some.inj h1
      refine ⟨_, hW2, fun Q E0 d acts => ?_⟩
      rw [List.map_cons, step, if_pos (by rw [has]; exact hcast), hhd]
    · have hcast : s.vm.assignable cell.cls c' = false := by
        have h1 := q4 hq
        simp only [Cond.before, Cond.holds, Cond.value, hE, hc'] at h1
        simpa using h1
      have hp' : xpick E r = some hd := by
        have h1 : (if q.2 = E then some q.1.handlerPc else xpick E r) = some hd := hp
        rw [if_neg hq] at h1
        exact h1
      obtain ⟨vm', hW', hv⟩ := ih hd (fun z hz => hall z (List.mem_cons_of_mem _ hz)) hp' (S.setVm (S.vm.noted f.method.cls q.1.catchType (.cls c'))) hW2 hcell
      refine ⟨vm', hW', fun Q E0 d acts => ?_⟩
      rw [List.map_cons, step, if_neg (by rw [has, hcast]; decide)]
      exact hv Q E0 d acts
section XCS
variable {p : Program} {l : Launch} {e : Env} {R : Room} {s : State} {m : MethodId} {args : Array Value} {below : List Frame} {meth : Method} {c : Code} {T : State} {locs : List Loc} {cells slots : Nat}
/-- into the handler -/
theorem xcaught (X : Stand p l e R s m args below meth c T locs cells slots) {g : JFrame} (hg : g.method = m) {a : Addr} {vm' : Vm} {hd : Nat} (hW' : s.WarmedH vm')
    (hfind : ∀ (Q : Handler → Pre) (E0 : CtlPost) (d : Bool) (acts : List Action), wp (findHandler g a) Q E0 e d acts ((T.setTop g).pushFrame (.throwing a)) ↔ Q (.found hd) d acts (((T.setTop g).pushFrame (.throwing a)).setVm vm')) :
    Stand p l e R s m args below meth c (T.setVm vm') locs cells slots ∧ ∀ tg, Steps p.tables e below ((T.setVm vm').setTop { g with pc := hd, stack := [.ref a] }) tg → Steps p.tables e below ((T.setTop g).pushFrame (.throwing a)) tg := by
  refine ⟨X.noted hW', fun tg hrest => ?_⟩
  have h : At T g.method c below := by rw [hg]; exact X.here
  obtain ⟨hgo, hw⟩ := h.throwing a
  refine Steps.head hgo hw ?_
  have hstep : (stepThrowing e ((T.setTop g).pushFrame (.throwing a)) a (.java g :: T.frames.tail)).1 = (((T.setTop g).pushFrame (.throwing a)).setVm vm').setFrames (.java { g with pc := hd, stack := [.ref a] } :: T.frames.tail) := by
    simp only [stepThrowing, searchFrame, vmDo]
    generalize hr : Sem.go _ e false [] ((T.setTop g).pushFrame (.throwing a)) = res
    obtain ⟨as, rfl, -⟩ := Sem.eq_ok_of hr (a := Handler.found hd) (s' := ((T.setTop g).pushFrame (.throwing a)).setVm vm') (acts' := []) (by simp [hfind _ _ _ _])
    rfl
  rw [stepThread_throwing (frames_entered h.top _), hstep]
  obtain ⟨g₀, hg0⟩ := X.frames_eq
  have hr' : (T.setVm vm').frames = .java g₀ :: below := hg0
  have e1 : (((T.setTop g).pushFrame (.throwing a)).setVm vm').setFrames (.java { g with pc := hd, stack := [.ref a] } :: T.frames.tail) = (T.setVm vm').setTop { g with pc := hd, stack := [.ref a] } := by
    rw [State.setTop_of_frames _ hr', X.tail, State.pushFrame, State.setTop_of_frames _ hg0]
    have h1 : ∀ (u : State) (F G : List Frame), ((u.setFrames F).setVm vm').setFrames G = (u.setVm vm').setFrames G := fun u F G => by
      show ((u.setVm vm').setFrames F).setFrames G = _
      rw [State.setFrames_setFrames]
    rw [h1, h1]
  rw [e1]
  exact hrest
end XCS
/-! contracts of methods with handlers -/
section XHM
variable {p : Program} {l : Launch} {e : Env} {R : Room} {s : State} {m : MethodId} {args : Array Value} {below : List Frame} {meth : Method} {c : Code} {T : State} {H : Heap} {locs : List Loc} {cells slots : Nat}
variable {y : MethodName} {rm : Room} {Pc : Array Value → State → Prop} {Qc : Array Value → State → Outcome → State → Prop} {mc ms : Nat} {free : Addr → Prop} {cc bytes : ByteArray} {maxL : Nat} {ret : Option FieldType} {hs : List (Nat × Nat × Nat × Nat)}
theorem xMet.ofWH (hy : plainName y.cls = true)
    (body : ∀ p e s m args below meth c s₁, BodyLoose p l y (headSpec [Cond.codeWith y cc maxL ret hs] rm) cc maxL ret e s m args below meth c s₁ → c.maxLocals = maxL → c.exceptionTable.toList = tableOf hs → Pc args s →
      W p l e rm s m args below meth c s.heap [] 0 0 (xMQ below Qc args s mc ms free) (entryFrame m args maxL)) : xMet l y [Cond.codeWith y cc maxL ret hs] rm Pc Qc mc ms free := by
  refine MetFree.of_bodyS (code := cc) (maxLocals := maxL) (ret := ret) hy ?_ ?_
  · intro args s m h hn
    obtain ⟨m', meth, c, h0, h1, h2, h3, h4, -, h5, h6, -⟩ := Cond.codeWith_spec (atoms_spec (ws := [Cond.codeWith y cc maxL ret hs]) h _ List.mem_cons_self)
    cases hn.symm.trans h0
    exact ⟨meth, c, h1, h2, h3, h4, h5, h6⟩
  · intro p e s m args below meth c s₁ B hml hP _
    have hh0 : s₁.heap = s.heap := by rw [B.state]; rfl
    have St := Stand.of_body B
    have htab : c.exceptionTable.toList = tableOf hs := by
      obtain ⟨m', meth', c', h0, h1, h2, -, -, h5, -⟩ := Cond.codeWith_spec (atoms_spec (ws := [Cond.codeWith y cc maxL ret hs]) B.pre _ List.mem_cons_self)
      cases B.named.symm.trans h0
      cases B.method.symm.trans h1
      cases St.code.symm.trans h2
      rw [← h5, table_eq]
    obtain ⟨t, a1, o, b1, b2, b3⟩ := body p e s m args below meth c s₁ B hml htab hP s₁ hh0 St
    exact ⟨t, o, a1, b1, b2, ⟨b3.1, b3.2⟩⟩
/-- a static call of such a method: it comes back (none of them throws) -/
theorem xcallSH (X : Stand p l e R s m args below meth c T locs cells slots) (hexec : p.tables.exec = Jvm.exec) (hM : xMet l y [Cond.codeWith y bytes maxL ret hs] rm Pc Qc mc ms free) (hbl : FrameBlind Pc)
    (cb : rm.cells = mc ∧ rm.slots = ms ∧ rm.frames + 1 ≤ R.frames ∧ 8 + (maxL + 11) + rm.locals ≤ R.locals) (hcw : ∀ (a' : Array Value) (U : State), s.WarmedH U.vm → (Cond.codeWith y bytes maxL ret hs).before a' U = true) (hini : ∀ (a' : Array Value) (U : State), s.WarmedH U.vm → (Cond.initialized y.cls).before a' U = true)
    {own : String} {index : Nat} (hown : s.vm.findClass own = some m.cls) (hlink : (Cond.methodLink own index y).before args s = true) (hstat : (Cond.static y).before args s = true)
    (hy : y.cls ≠ "java/lang/invoke/MethodHandle" ∧ y.cls ≠ "java/lang/invoke/VarHandle")
    {g : JFrame} (hg : g.method = m) (hsize : g.locals.size = c.maxLocals) {argsL rest : List Value} (hlen : ∀ sig, parseMethodDescriptor y.desc = some sig → argsL.length = sig.parameters.length)
    (hstack : g.stack = argsL.reverse ++ rest) (hW : 2 * g.monitorRoom + (rest.map fun v => v.category).sum ≤ 8) (hdg : decode c.code g.pc = .ok (.invokestatic index, 3)) (hc : cells + mc ≤ R.cells) (hss : slots + ms ≤ R.slots)
    (hP : ∀ U : State, U.heap = T.heap → s.WarmedH U.vm → Pc argsL.toArray U) : xRun p l e R s m args below meth c T locs cells slots mc ms g rest (Qc argsL.toArray) free := by
  obtain ⟨mk, methM, cM, hnamed, hmethM, hcM, -, hlM, -, -, -, hsigM⟩ := Cond.codeWith_spec (hcw args s (State.WarmedH.refl s))
  have hstatic : methM.isStatic = true := Cond.static_spec hnamed hmethM hstat
  obtain ⟨kP, hkP, -⟩ := className_of_methodNamed hnamed
  have hinitP : kP.init = .initialized := Cond.initialized_spec (findClass_of_methodNamed hnamed) hkP (hini args s (State.WarmedH.refl s))
  obtain ⟨vm₁, X₁, hstep₁⟩ := X.invokestatic hexec hown hlink hnamed hmethM hstatic hkP hinitP hy (g := g) hg (argsL := argsL) (rest := rest) (hlen _ hsigM) hstack hdg
  have hn₁ := X₁.named hnamed
  have hP₁ := hP (T.setVm vm₁) rfl X₁.warmed
  obtain ⟨mk', methY, cY, hnY, hmY, hcY, -, hlY, -⟩ := Cond.codeWith_spec (hcw argsL.toArray (T.setVm vm₁) X₁.warmed)
  cases hn₁.symm.trans hnY
  obtain ⟨kY, hkY, -⟩ := className_of_methodNamed hn₁
  have hinitY : kY.init = .initialized := Cond.initialized_spec (findClass_of_methodNamed hn₁) hkY (hini argsL.toArray (T.setVm vm₁) X₁.warmed)
  have h : At (T.setVm vm₁) g.method c below := by rw [hg]; exact X₁.here
  have happ : (headSpec [Cond.codeWith y bytes maxL ret hs] rm).appliesLoose y e.platform ((T.setVm vm₁).calling { g with stack := rest } mk argsL.toArray) = true :=
    Spec.appliesLoose_calling (g := { g with stack := rest }) h hdg hn₁ hkY hinitY
      (X₁.room_calling (g := { g with stack := rest }) (R' := (headSpec [Cond.codeWith y bytes maxL ret hs] rm).room) hsize hmY hcY cb.2.2.1 (by rw [hlY]; show _ + rm.locals ≤ _; have := cb.2.2.2; show 2 * g.monitorRoom + (rest.map fun v => v.category).sum + (maxL + 11) + rm.locals ≤ R.locals; omega) (by show _ + rm.cells ≤ _; rw [cb.1]; exact hc) (by show _ + rm.slots ≤ _; rw [cb.2.1]; exact hss)) (atoms_intro fun w hw => by rw [List.mem_singleton.mp hw]; exact hcw _ _ X₁.warmed)
  obtain ⟨mid, hmid⟩ := h.above
  have hfr2 : ((T.setVm vm₁).setTop { g with stack := rest }).frames = (.java { g with stack := rest } :: mid) ++ below := by rw [State.frames_setTop' _ h.top, hmid]; rfl
  obtain ⟨o, t, hsteps, -, hend, hq, L, ⟨hWt, hsame⟩, hL⟩ := Steps.callFree hM p X₁.admits X₁.cas X₁.clock (acts := []) hfr2 happ (hbl _ _ _ _ hP₁) trivial
  rw [State.frames_setTop' _ h.top, X₁.tail] at hend
  refine ⟨o, (T.setVm vm₁).calling { g with stack := rest } mk argsL.toArray, t, ?_⟩
  cases o with
  | returned v =>
    obtain ⟨T', X', hW', hs', ht⟩ := X₁.outOf (g := { g with stack := rest }) hg hdg (mk := mk) (a := argsL.toArray) hend hWt hsame
    refine ⟨T', L, rfl, X', hL, by rw [ht]; rfl, by rw [ht]; rfl, hq, Or.inl ⟨v, rfl, fun tg htg => hstep₁ _ fun acts => ?_⟩⟩
    rw [doInvoke_state]
    rw [ht] at hsteps
    exact hsteps.trans htg
  | threw x =>
    obtain ⟨T', X', hW', hs', ht⟩ := X₁.outOfThrown (g := { g with stack := rest }) hg (mk := mk) (a := argsL.toArray) hend hWt hsame
    refine ⟨T', L, rfl, X', hL, by rw [ht]; rfl, by rw [ht]; rfl, hq, Or.inr ⟨x, rfl, fun tg htg => hstep₁ _ fun acts => ?_⟩⟩
    rw [doInvoke_state]
    rw [ht] at hsteps
    exact hsteps.trans htg
end XHM
theorem x_contractH {l : Launch} {y : MethodName} {bytes : ByteArray} {maxL : Nat} {ret : Option FieldType} {hs : List (Nat × Nat × Nat × Nat)} {rm : Room} {As : (Nat → Nat) → List Value} {g g' : xSt} {ov : Option Value ⊕ String} {mc ms : Nat} (hy : plainName y.cls = true) (hn : ∀ ad, (lg_sl (As ad)).length ≤ maxL)
    (body : ∀ (p : Program) (e : Env) (s : State) (m : MethodId) (below : List Frame) (meth : Method) (c : Code) (D : va_G) (ad : Nat → Nat) (ca : Nat → ClassId), xX p s m (As ad).toArray meth c bytes y.cls maxL ret D ad ca → c.exceptionTable.toList = tableOf hs →
      xV p l e rm s m (As ad).toArray below meth c D xcl (wX ad ca) (xA (wX ad ca) s.heap.size) maxL 0 0 (xMQ below (xQ D xcl (wX ad ca) (xA (wX ad ca) s.heap.size) ov g') (As ad).toArray s mc ms (xA (wX ad ca) s.heap.size)) g 0 (lv_args 0 (As ad)) []) :
    xM l y (.codeWith y bytes maxL ret hs) rm As g ov g' mc ms := by
  intro D ad ca sz
  refine xMet.ofWH (cc := bytes) (maxL := maxL) (ret := ret) (hs := hs) hy ?_
  intro p e s m args below meth c s₁ B hml htab hv
  obtain ⟨rfl, hsz, hP, hK, hD, hE⟩ := hv
  subst hsz
  have hown : s.vm.findClass y.cls = some m.cls := findClass_of_methodNamed B.named
  exact x_start (body p e s m below meth c D ad ca ⟨⟨B.exec, B.bytes, hml, hown, fun q hq => hE.1 _ q hq, hK, x_D hD _, fun q h => Or.inr h⟩, hE, B.returns, B.notSynchronized, xNS_of hP⟩ htab) hP (hn ad)
section XVH
variable {p : Program} {l : Launch} {e : Env} {R : Room} {s : State} {m : MethodId} {args : Array Value} {below : List Frame} {meth : Method} {c : Code} {D : va_G} {ad : Nat → Nat} {ca : Nat → ClassId} {nL cells slots : Nat} {Q : State → Prop}
variable {cc : ByteArray} {own : String} {g g' : xSt} {pc mc ms : Nat} {lv lv' : List (Nat × Value)} {stk rest : List Value} {E : String} {rt : Option FieldType} {a : Array Value}
/-- a call that throws, caught here -/
theorem v_catch (X : xX p s m args meth c cc own nL rt D ad ca)
    (run : ∀ (T : State) (locs : List Loc) (ls : Array Slot), va_P D xcl (wX ad ca g) T.heap → va_S (xA (wX ad ca) s.heap.size) s.heap T.heap locs → ls.size = nL → Stand p l e R s m args below meth c T locs cells slots → xRun p l e R s m args below meth c T locs cells slots mc ms (F0 m pc ls stk) rest (xQ D xcl (wX ad ca) (xA (wX ad ca) T.heap.size) (.inr E) g' a) (xA (wX ad ca) T.heap.size))
    (rows : List (ExceptionTableEntry × String)) (htab : c.exceptionTable.toList = rows.map (·.1)) {hd : Nat} (hp : xpick E rows = some hd) (hEx : E ∈ xex) (hself : Cond.castable E E ∈ xT)
    (hrows : ∀ q ∈ rows, covers q.1 pc = true ∧ q.1.catchType ≠ 0 ∧ Cond.classLink own q.1.catchType q.2 ∈ xT ∧ q.2 ∈ xex)
    (k : ∀ b : Nat, xV p l e R s m args below meth c D xcl (wX ad ca) (xA (wX ad ca) s.heap.size) nL (cells + mc) (slots + ms) Q g' hd lv [.ref b]) : xV p l e R s m args below meth c D xcl (wX ad ca) (xA (wX ad ca) s.heap.size) nL cells slots Q g pc lv stk := by
  intro H locs ls hP hS hl T hT St
  subst hT
  obtain ⟨o, st₀, t, T', L, h0, X', hL, e1, e2, ⟨ho, hP', hF⟩, hst⟩ := run T locs ls hP hS hl.1 St
  obtain ⟨x, ho, hx, ce, c1, c2, c3⟩ : ∃ x : Addr, o = .threw x ∧ st₀.heap.size ≤ x ∧ xTh E t x := ho
  rcases hst with ⟨v', hv', h⟩ | ⟨x', hx', h⟩
  · have := hv'.symm.trans ho
    cases this
  · have hxx : x' = x := by have := hx'.symm.trans ho; cases this; rfl
    subst hxx
    have hpl : e.platform.magicAccessors = ({} : Platform).magicAccessors := by rw [St.admits.platform]
    have hE : s.vm.findClass E = some ce.cls := by rw [← c2, ← e2, X'.warmed.alike.findClass]
    obtain ⟨vm', hW', hgo⟩ := xgo (e := e) (s := s) (args := args) (f := { F0 m pc ls stk with stack := rest }) (a := x') (cell := ce) (own := own) (E := E) hpl X.1.2.2.2.1 hE (fun k hk => by rw [c3] at hk; cases hk) (X.2.1.1 _ _ hself) rows hd
      (fun q hq => ⟨(hrows q hq).1, (hrows q hq).2.1, X.2.1.1 _ _ (hrows q hq).2.2.1, fun hne => X.2.1.2.2.1 E hEx q.2 (hrows q hq).2.2.2 (fun z => hne z.symm)⟩) hp ((T'.setTop { F0 m pc ls stk with stack := rest }).pushFrame (.throwing x')) (by rw [Stand.throwing_vm]; exact X'.warmed) (by rw [Stand.throwing_heap, e1]; exact c1)
    obtain ⟨X'', hcat⟩ := xcaught X' (g := { F0 m pc ls stk with stack := rest }) rfl (a := x') hW' (hd := hd) (fun Q E0 d acts => by
      rw [W.findHandler_eq (meth := meth) (code := c) (by rw [Stand.throwing_vm]; exact X'.method') X'.code, htab]
      exact hgo Q E0 d acts)
    have hS' := xS_call X.1 hS h0 hF hL
    obtain ⟨t2, a1, b1⟩ := k x' T'.heap (locs ++ L) ls (by rw [e1]; exact hP') (by rw [e1]; exact hS') hl (T'.setVm vm') rfl X''
    exact ⟨t2, h t2 (hcat t2 a1), b1⟩
end XVH
end
section
/-! the law's own rows: longs, the out array, the script, calls of methods with handlers -/
def obC {β : Type} (o : Option (Nat × Int32 × xSt)) (f : Int32 → xSt → Option β) (h : Nat → xSt → Option β) : Option β := match o with
  | none => none
  | some (0, r, g) => f r g
  | some (k + 1, _, g) => h k g
theorem obC_some {β : Type} {o : Option (Nat × Int32 × xSt)} {f : Int32 → xSt → Option β} {h : Nat → xSt → Option β} {q : β} (e : obC o f h = some q) : (∃ r g, o = some (0, r, g) ∧ f r g = some q) ∨ ∃ k r g, o = some (k + 1, r, g) ∧ h k g = some q := by
  match o, e with
  | some (0, r, g), e => exact Or.inl ⟨r, g, rfl, e⟩
  | some (k + 1, r, g), e => exact Or.inr ⟨k, r, g, rfl, e⟩
theorem so_68 (ad : Nat → Nat) (ca : Nat → ClassId) (g : xSt) (x : Int32) : (wX ad ca g).set 58 (ad 58, .inl (ca 4, 1, .inr (.inl (vp_updL (fun j => (g 68 j).toInt64) (0 : Int32).toNatClampNeg x.toInt64)))) = wX ad ca (xw g 68 0 x) := by
  have h : vp_updL (fun j => (g 68 j).toInt64) (0 : Int32).toNatClampNeg x.toInt64 = fun j => (xw g 68 0 x 68 j).toInt64 := by
    funext j
    have hz : (0 : Int32).toNatClampNeg = 0 := rfl
    by_cases hj : j = 0
    · subst hj; simp [vp_updL, hz, xw, va_up, upd]
    · simp [vp_updL, hz, xw, va_up, upd, hj]
  rw [h]; rfl
section XLW
variable {p : Program} {l : Launch} {e : Env} {R : Room} {s : State} {m : MethodId} {args : Array Value} {below : List Frame} {meth : Method} {c : Code} {D : va_G} {ad : Nat → Nat} {ca : Nat → ClassId} {nL cells slots : Nat} {Q : State → Prop}
variable {cc : ByteArray} {own : String} {g g' : xSt} {pc mc ms : Nat} {lv lv' : List (Nat × Value)} {stk rest : List Value} {E : String} {rt : Option FieldType} {a : Array Value}
variable {y : MethodName} {bytes : ByteArray} {maxL : Nat} {ret : Option FieldType} {rm : Room} {As : (Nat → Nat) → List Value} {ov : Option Value ⊕ String} {hs : List (Nat × Nat × Nat × Nat)}
theorem v_lconst (X : xX p s m args meth c cc own nL rt D ad ca) {n : Fin 2} {v : Int64} (hdg : decode cc pc = .ok (.lconst n, 1)) (hv : Int64.ofNat (n : Nat) = v)
    (k : xV p l e R s m args below meth c D xcl (wX ad ca) (xA (wX ad ca) s.heap.size) nL cells slots Q g (pc + 1) lv (.long v :: stk)) : xV p l e R s m args below meth c D xcl (wX ad ca) (xA (wX ad ca) s.heap.size) nL cells slots Q g pc lv stk :=
  fun H locs ls hP hS hl => lv_lconst X.1.1 X.1.2.1 hdg hv (k H locs ls hP hS hl)
theorem v_last (X : xX p s m args meth c cc own nL rt D ad ca) {x : Int32} (hg : xw g 68 0 x = g') (hdg : decode cc pc = .ok (.lastore, 1))
    (k : xV p l e R s m args below meth c D xcl (wX ad ca) (xA (wX ad ca) s.heap.size) nL cells slots Q g' (pc + 1) lv stk) : xV p l e R s m args below meth c D xcl (wX ad ca) (xA (wX ad ca) s.heap.size) nL cells slots Q g pc lv (.long x.toInt64 :: .int 0 :: .ref (ad 58) :: stk) :=
  fun H locs ls hP hS hl => va_last X.1.1 X.1.2.1 X.1.2.2.2.2.2.1 hP (X.1.2.2.2.2.2.2.1 g) hS 58 4 rfl rfl (vp_in_nI (n := 0) (N := 1) (by decide) (by decide)) hdg (fun H1 locs1 hP1 _ hS1 => k H1 locs1 ls (by rw [← hg, ← so_68]; exact hP1) hS1 hl)
theorem v_lald (X : xX p s m args meth c cc own nL rt D ad ca) (hdg : decode cc pc = .ok (.laload, 1))
    (k : xV p l e R s m args below meth c D xcl (wX ad ca) (xA (wX ad ca) s.heap.size) nL cells slots Q g (pc + 1) lv (.long (g 68 0).toInt64 :: stk)) : xV p l e R s m args below meth c D xcl (wX ad ca) (xA (wX ad ca) s.heap.size) nL cells slots Q g pc lv (.int 0 :: .ref (ad 58) :: stk) :=
  fun H locs ls hP hS hl => va_lald X.1.1 X.1.2.1 X.1.2.2.2.2.2.1 hP 58 4 rfl rfl (vp_in_nI (n := 0) (N := 1) (by decide) (by decide)) hdg (k H locs ls hP hS hl)
theorem v_lcmp (X : xX p s m args meth c cc own nL rt D ad ca) {x y : Int64} (hdg : decode cc pc = .ok (.lcmp, 1))
    (k : xV p l e R s m args below meth c D xcl (wX ad ca) (xA (wX ad ca) s.heap.size) nL cells slots Q g (pc + 1) lv (.int (lg_cmp x y) :: stk)) : xV p l e R s m args below meth c D xcl (wX ad ca) (xA (wX ad ca) s.heap.size) nL cells slots Q g pc lv (.long y :: .long x :: stk) :=
  fun H locs ls hP hS hl => W.lcmp X.1.1 X.1.2.1 hdg (k H locs ls hP hS hl)
theorem v_sld (X : xX p s m args meth c cc own nL rt D ad ca) {b L : Nat} {xs : Nat → Int32} (hb : va_X b L xs s s.heap ∧ b < s.heap.size ∧ ¬ xA (wX ad ca) s.heap.size b) {i : Int32} (hin : ¬ (i < 0 ∨ L ≤ i.toNatClampNeg)) (hdg : decode cc pc = .ok (.iaload, 1))
    (k : xV p l e R s m args below meth c D xcl (wX ad ca) (xA (wX ad ca) s.heap.size) nL cells slots Q g (pc + 1) lv (.int (xs i.toNatClampNeg) :: stk)) : xV p l e R s m args below meth c D xcl (wX ad ca) (xA (wX ad ca) s.heap.size) nL cells slots Q g pc lv (.int i :: .ref b :: stk) :=
  fun H locs ls hP hS hl => va_sld X.1.1 X.1.2.1 hb.1 hb.2.1 hb.2.2 hS hin hdg (k H locs ls hP hS hl)
theorem v_slen (X : xX p s m args meth c cc own nL rt D ad ca) {b L : Nat} {xs : Nat → Int32} (hb : va_X b L xs s s.heap ∧ b < s.heap.size ∧ ¬ xA (wX ad ca) s.heap.size b) (hdg : decode cc pc = .ok (.arraylength, 1))
    (k : xV p l e R s m args below meth c D xcl (wX ad ca) (xA (wX ad ca) s.heap.size) nL cells slots Q g (pc + 1) lv (.int (Int32.ofNat L) :: stk)) : xV p l e R s m args below meth c D xcl (wX ad ca) (xA (wX ad ca) s.heap.size) nL cells slots Q g pc lv (.ref b :: stk) :=
  fun H locs ls hP hS hl => va_slen X.1.1 X.1.2.1 hb.1 hb.2.1 hb.2.2 hS hdg (k H locs ls hP hS hl)
theorem x_runH (X : xX p s m args meth c cc own nL rt D ad ca) (hM : xM l y (.codeWith y bytes maxL ret hs) rm As g ov g' mc ms) {i1 i2 i3 i4 index : Nat} (h1 : lw_tbl[i1]? = some (Cond.codeWith y bytes maxL ret hs)) (h2 : lw_tbl[i2]? = some (Cond.initialized y.cls)) (h3 : lw_tbl[i3]? = some (Cond.methodLink own index y)) (h4 : lw_tbl[i4]? = some (Cond.static y))
    (hr : rm.cells = mc ∧ rm.slots = ms ∧ rm.frames + 1 ≤ R.frames ∧ 8 + (maxL + 11) + rm.locals ≤ R.locals) (hy : (y.cls ≠ "java/lang/invoke/MethodHandle" ∧ y.cls ≠ "java/lang/invoke/VarHandle") ∧ (parseMethodDescriptor y.desc).map (fun d => d.parameters.length) = some (As ad).length)
    (hstk : (As ad).reverse ++ rest = stk) (hW : (rest.map fun v => v.category).sum ≤ 8) (hdg : decode cc pc = .ok (.invokestatic index, 3)) (hc : cells + mc ≤ R.cells) (hss : slots + ms ≤ R.slots) :
    ∀ (T : State) (locs : List Loc) (ls : Array Slot), va_P D xcl (wX ad ca g) T.heap → va_S (xA (wX ad ca) s.heap.size) s.heap T.heap locs → ls.size = nL → Stand p l e R s m args below meth c T locs cells slots → xRun p l e R s m args below meth c T locs cells slots mc ms (F0 m pc ls stk) rest (xQ D xcl (wX ad ca) (xA (wX ad ca) T.heap.size) ov g' (As ad).toArray) (xA (wX ad ca) T.heap.size) := by
  intro T locs ls hP hS hl St
  exact xcallSH St X.1.1 (hM D ad ca T.heap.size) xP_blind hr (fun a' U hW => xok_warm hW rfl (X.t h1 rfl)) (fun a' U hW => xok_warm hW rfl (X.t h2 rfl)) X.1.2.2.2.1 (X.t h3 rfl) (X.t h4 rfl) hy.1 (g := F0 m pc ls stk) rfl (hl.trans X.1.2.2.1.symm) (argsL := As ad) (rest := rest) (x_len hy.2) hstk.symm (by show 2 * 0 + _ ≤ 8; omega) (by rw [X.1.2.1]; exact hdg) hc hss (x_pre X hP hS (As ad))
end XLW
end
section
/-! constructors: the calculus with a world that grows (the world is a constant of the register file) -/
abbrev z0 : xSt := fun _ _ => 0
def xAOs (U : State) : Prop := va_AO "CrossDock$Arrival" U ∧ va_AO "CrossDock$Order" U
def yM (l : Launch) (y : MethodName) (bytes : ByteArray) (maxL : Nat) (rm : Room) (b : Nat) (D : va_G) (ca : Nat → ClassId) (wpre : va_W) (Post : va_W → Prop) (mc ms : Nat) : Prop :=
  ∀ sz : Nat, Met l y [Cond.code y bytes maxL none] rm (va_Pc [.ref b] (fun U => U.heap.size = sz ∧ va_P D xcl wpre U.heap ∧ va_K D xcl (tyX ca) U ∧ va_D (fun _ => True) wpre ∧ xTB U ∧ xAOs U)) (va_Qv Post (fun u t => va_P D xcl u t.heap ∧ va_D (va_A wpre sz) u) (va_A wpre sz)) mc ms (va_A wpre sz)
theorem y_contract {l : Launch} {y : MethodName} {bytes : ByteArray} {maxL : Nat} {rm : Room} {b : Nat} {D : va_G} {ca : Nat → ClassId} {wpre : va_W} {Post : va_W → Prop} {mc ms : Nat} (hy : plainName y.cls = true) (hn : 1 ≤ maxL)
    (body : ∀ (p : Program) (e : Env) (s : State) (m : MethodId) (below : List Frame) (meth : Method) (c : Code), xC p s m #[Value.ref b] c bytes y.cls xT maxL D xcl (fun _ => wpre) (tyX ca) (va_A wpre s.heap.size) → xTB s → xAOs s → meth.name = y.name → meth.sig.returnType = none → meth.locks = false →
      xV p l e rm s m #[Value.ref b] below meth c D xcl (fun _ => wpre) (va_A wpre s.heap.size) maxL 0 0 (MQ below (va_Qv Post (fun u t => va_P D xcl u t.heap ∧ va_D (va_A wpre s.heap.size) u) (va_A wpre s.heap.size)) #[Value.ref b] s mc ms (va_A wpre s.heap.size)) z0 0 [(0, .ref b)] []) :
    yM l y bytes maxL rm b D ca wpre Post mc ms := by
  intro sz
  refine Met.ofW (cc := bytes) (maxL := maxL) (ret := none) (ws' := []) hy rfl ?_
  intro p e s m args below meth c s₁ B hml hv
  obtain ⟨rfl, hsz, hP, hK, hD, hT, hO⟩ := hv
  subst hsz
  have hown : s.vm.findClass y.cls = some m.cls := findClass_of_methodNamed B.named
  exact x_start (As := [.ref b]) (body p e s m below meth c ⟨B.exec, B.bytes, hml, hown, fun q hq => hT _ q hq, hK, fun _ => hD.self, fun q h => Or.inr h⟩ hT hO (name_of_methodNamed B.named B.method).1 B.returns B.notSynchronized) hP hn
section YR
variable {p : Program} {l : Launch} {e : Env} {R : Room} {s : State} {m : MethodId} {args : Array Value} {below : List Frame} {meth : Method} {c : Code} {D : va_G} {ca : Nat → ClassId} {A : Nat → Prop} {nL cells slots : Nat} {Q : State → Prop}
variable {cc : ByteArray} {own : String} {ws ws' : va_W} {pc mc ms : Nat} {lv : List (Nat × Value)} {stk rest : List Value} {cl : List vw_C} {w : xSt → va_W} {tys : List (ClassId × FieldType)}
theorem xC.t (C : xC p s m args c cc own xT nL D cl w tys A) {i : Nat} {q : Cond} (h : lw_tbl[i]? = some q) (hq : xok q = true) : q.before args s = true := C.2.2.2.2.1 q (List.mem_filter.mpr ⟨List.mem_of_getElem? h, hq⟩)
theorem xC.wd (C : xC p s m args c cc own xT nL D xcl (fun _ => ws) (tyX ca) A) (hD : va_D A ws') : xC p s m args c cc own xT nL D xcl (fun _ => ws') (tyX ca) A := ⟨C.1, C.2.1, C.2.2.1, C.2.2.2.1, C.2.2.2.2.1, C.2.2.2.2.2.1, fun _ => hD, C.2.2.2.2.2.2.2⟩
theorem y_new (C : xC p s m args c cc own xT nL D xcl (fun _ => ws) (tyX ca) A) {cn : String} {T : u_T} {N ci index i1 i2 i3 : Nat} (F : (∀ q ∈ u_ws cn T N, q ∈ xT) ∧ xcl[ci]? = some (cn, T, N)) {ty : Nat → FieldType} (hty : ∀ k, k < N → parseFieldDescriptor (T k).2.2.1 = some (ty k)) (w1 : lw_tbl[i1]? = some (Cond.classLink own index cn)) (w2 : lw_tbl[i2]? = some (Cond.instantiable cn N)) (w3 : lw_tbl[i3]? = some (Cond.initialized cn))
    {fs : List Value} (hfs : ∀ j, j < N → defaultValue (ty j) = vp_V fs j) (h1 : cells + 1 ≤ R.cells) (h2 : slots + N ≤ R.slots) (hdg : decode cc pc = .ok (.new index, 3))
    (k : ∀ q : Nat, xC p s m args c cc own xT nL D xcl (fun _ => ws ++ [(q, .inr (ci, fs))]) (tyX ca) A → xV p l e R s m args below meth c D xcl (fun _ => ws ++ [(q, .inr (ci, fs))]) A nL (cells + 1) (slots + N) Q z0 (pc + 3) lv (.ref q :: stk)) :
    xV p l e R s m args below meth c D xcl (fun _ => ws) A nL cells slots Q z0 pc lv stk :=
  fun H locs ls hP hS hl => va_new C.1 C.2.1 C.2.2.2.2.1 F.1 ty hty C.2.2.2.1 (C.t w1 rfl) (C.t w2 rfl) (C.t w3 rfl) C.2.2.2.2.2.1 hP (C.2.2.2.2.2.2.1 z0) hS C.2.2.2.2.2.2.2 F.2 hfs h1 h2 hdg (fun q H1 hP1 hD1 hS1 => k q (C.wd hD1) H1 locs ls hP1 hS1 hl)
theorem y_newa (C : xC p s m args c cc own xT nL D xcl (fun _ => ws) (tyX ca) A) {atype : ArrayType} {i1 t0 : Nat} {ty : FieldType} (hty : newarray.typeOf atype = ty) (hpr : ∀ n : String, ty ≠ .object n) (w1 : lw_tbl[i1]? = some (Cond.arrayClass ty)) (ht : (tyX ca)[t0]? = some (ca t0, ty)) {n : Int32} {N' : Nat} {a0 : vp_A} (ha : ∀ cA : ClassId, vp_cell cA a0 = arrV cA N' (fun _ => defaultValue ty)) (hn : ¬ n < 0) (hN : n.toNatClampNeg = N') (hb : N' * componentBytes ty ≤ 536870912) (h1 : cells + 1 ≤ R.cells) (h2 : slots + N' ≤ R.slots) (hdg : decode cc pc = .ok (.newarray atype, 2))
    (k : ∀ q : Nat, xC p s m args c cc own xT nL D xcl (fun _ => ws ++ [(q, .inl (ca t0, a0))]) (tyX ca) A → xV p l e R s m args below meth c D xcl (fun _ => ws ++ [(q, .inl (ca t0, a0))]) A nL (cells + 1) (slots + N') Q z0 (pc + 2) lv (.ref q :: stk)) :
    xV p l e R s m args below meth c D xcl (fun _ => ws) A nL cells slots Q z0 pc lv (.int n :: stk) := by
  subst hty
  intro H locs ls hP hS hl
  refine va_newa C.1 C.2.1 (C.t w1 rfl) rfl C.2.2.2.2.2.1 hP (C.2.2.2.2.2.2.1 z0) hS C.2.2.2.2.2.2.2 ha hn hN hb h1 h2 hdg (fun q cA H1 hK1 hP1 hD1 hS1 => ?_)
  have hr : ∀ (x : ClassId), va_RA s x (newarray.typeOf atype) → s.vm.findClass ("[" ++ (newarray.typeOf atype).toString) = some x := by
    intro x hx
    unfold va_RA at hx
    split at hx
    · rename_i C' hC'; exact absurd hC' (hpr _)
    · exact hx
  have e1 := hr _ (C.2.2.2.2.2.1.2 t0 _ ht).2
  have e2 := hr _ (hK1.2 (tyX ca).length (cA, newarray.typeOf atype) (by simp)).2
  have hc : cA = ca t0 := Option.some.inj (e2.symm.trans e1)
  subst hc
  exact k q (C.wd hD1) H1 locs ls hP1 hS1 hl
theorem y_newq (C : xC p s m args c cc own xT nL D xcl (fun _ => ws) (tyX ca) A) {cn : String} {index i1 t0 : Nat} (hO : va_AO cn s) (w1 : lw_tbl[i1]? = some (Cond.classLink own index cn)) (ht : (tyX ca)[t0]? = some (ca t0, .object cn)) {n : Int32} {N' : Nat} (hn : ¬ n < 0) (hN : n.toNatClampNeg = N') (hb : N' * 4 ≤ 536870912) (h1 : cells + 1 ≤ R.cells) (h2 : slots + N' ≤ R.slots) (hdg : decode cc pc = .ok (.anewarray index, 3))
    (k : ∀ q : Nat, xC p s m args c cc own xT nL D xcl (fun _ => ws ++ [(q, .inl (ca t0, N', .inr (.inr (.inr (.inr (fun _ => none))))))]) (tyX ca) A → xV p l e R s m args below meth c D xcl (fun _ => ws ++ [(q, .inl (ca t0, N', .inr (.inr (.inr (.inr (fun _ => none))))))]) A nL (cells + 1) (slots + N') Q z0 (pc + 3) lv (.ref q :: stk)) :
    xV p l e R s m args below meth c D xcl (fun _ => ws) A nL cells slots Q z0 pc lv (.int n :: stk) := by
  intro H locs ls hP hS hl
  refine va_newq C.1 C.2.1 C.2.2.2.1 (C.t w1 rfl) hO C.2.2.2.2.2.1 hP (C.2.2.2.2.2.2.1 z0) hS C.2.2.2.2.2.2.2 hn hN hb h1 h2 hdg (fun q cA H1 hK1 hP1 hD1 hS1 => ?_)
  obtain ⟨_, _, -, -, -, e1⟩ := (C.2.2.2.2.2.1.2 t0 _ ht).2
  obtain ⟨_, _, -, -, -, e2⟩ := (hK1.2 (tyX ca).length (cA, .object cn) (by simp)).2
  have hc : cA = ca t0 := Option.some.inj (e2.symm.trans e1)
  subst hc
  exact k q (C.wd hD1) H1 locs ls hP1 hS1 hl
theorem y_put (C : xC p s m args c cc own xT nL D xcl (fun _ => ws) (tyX ca) A) {cn : String} {T : u_T} {N ci index i1 a : Nat} (F : (∀ q ∈ u_ws cn T N, q ∈ xT) ∧ xcl[ci]? = some (cn, T, N)) {ty0 : Nat → FieldType} (G : (∀ j, j < N → parseFieldDescriptor (T j).2.2.1 = some (ty0 j)) ∧ ∀ a, a < N → ∀ b, b < N → a ≠ b → (T a).2.1 ≠ (T b).2.1) (q0 : Nat) {fs : List Value} (he : ws[q0]? = some (a, .inr (ci, fs))) (k0 : Nat) (hk : k0 < N) (w1 : lw_tbl[i1]? = some (Cond.fieldLink own index (T k0).1 (T k0).2.1 (T k0).2.2.1)) (hfin : (T k0).2.2.2 = false)
    {ty : FieldType} {v : Value} (hd : parseFieldDescriptor (T k0).2.2.1 = some ty) (hn : narrow ty v = v) (hfit : fits ty v = true) (hl0 : k0 < fs.length) (hw : ws.set q0 (a, .inr (ci, fs.set k0 v)) = ws') (hdg : decode cc pc = .ok (.putfield index, 3))
    (k : xC p s m args c cc own xT nL D xcl (fun _ => ws') (tyX ca) A → xV p l e R s m args below meth c D xcl (fun _ => ws') A nL cells slots Q z0 (pc + 3) lv stk) : xV p l e R s m args below meth c D xcl (fun _ => ws) A nL cells slots Q z0 pc lv (v :: .ref a :: stk) := by
  subst hw
  exact fun H locs ls hP hS hl => va_put C.1 C.2.1 C.2.2.2.2.1 F.1 ty0 G.1 G.2 C.2.2.2.1 C.2.2.2.2.2.1 hP (C.2.2.2.2.2.2.1 z0) hS q0 he F.2 k0 hk (C.t w1 rfl) (fun _ h9 => h9) hfin hd hn hfit hl0 hdg (fun H1 locs1 hP1 hD1 hS1 => k (C.wd hD1) H1 locs1 ls hP1 hS1 hl)
theorem y_putF (C : xC p s m args c cc own xT nL D xcl (fun _ => ws) (tyX ca) A) (hin : meth.name = "<init>") {cn : String} {T : u_T} {N ci index i1 a : Nat} (F : (∀ q ∈ u_ws cn T N, q ∈ xT) ∧ xcl[ci]? = some (cn, T, N)) {ty0 : Nat → FieldType} (G : (∀ j, j < N → parseFieldDescriptor (T j).2.2.1 = some (ty0 j)) ∧ ∀ a, a < N → ∀ b, b < N → a ≠ b → (T a).2.1 ≠ (T b).2.1) (q0 : Nat) {fs : List Value} (he : ws[q0]? = some (a, .inr (ci, fs))) (k0 : Nat) (hk : k0 < N) (w1 : lw_tbl[i1]? = some (Cond.fieldLink own index (T k0).1 (T k0).2.1 (T k0).2.2.1)) (hfin : (T k0).2.2.2 = true) (hdecl : (T k0).1 = own)
    {ty : FieldType} {v : Value} (hd : parseFieldDescriptor (T k0).2.2.1 = some ty) (hn : narrow ty v = v) (hfit : fits ty v = true) (hl0 : k0 < fs.length) (hw : ws.set q0 (a, .inr (ci, fs.set k0 v)) = ws') (hdg : decode cc pc = .ok (.putfield index, 3))
    (k : xC p s m args c cc own xT nL D xcl (fun _ => ws') (tyX ca) A → xV p l e R s m args below meth c D xcl (fun _ => ws') A nL cells slots Q z0 (pc + 3) lv stk) : xV p l e R s m args below meth c D xcl (fun _ => ws) A nL cells slots Q z0 pc lv (v :: .ref a :: stk) := by
  subst hw
  exact fun H locs ls hP hS hl => va_putF C.1 C.2.1 C.2.2.2.2.1 F.1 ty0 G.1 G.2 C.2.2.2.1 C.2.2.2.2.2.1 hP (C.2.2.2.2.2.2.1 z0) hS q0 he F.2 k0 hk (C.t w1 rfl) (fun _ h9 => h9) hfin hin hdecl hd hn hfit hl0 hdg (fun H1 locs1 hP1 hD1 hS1 => k (C.wd hD1) H1 locs1 ls hP1 hS1 hl)
theorem y_astq (C : xC p s m args c cc own xT nL D xcl (fun _ => ws) (tyX ca) A) (q0 t0 qk ci : Nat) {r : vw_C} {n v a : Nat} {vs : List Value} {f : Nat → Option Nat} (ha : ws[q0]? = some (a, .inl (ca t0, n, .inr (.inr (.inr (.inr f)))))) (ht : (tyX ca)[t0]? = some (ca t0, .object r.1)) (hv : ws[qk]? = some (v, .inr (ci, vs))) (hc : xcl[ci]? = some r) {i : Int32} (hin : ¬ (i < 0 ∨ n ≤ i.toNatClampNeg)) {f' : Nat → Option Nat} (hf : va_up f i.toNatClampNeg (some v) = f') (hw : ws.set q0 (a, .inl (ca t0, n, .inr (.inr (.inr (.inr f'))))) = ws') (hdg : decode cc pc = .ok (.aastore, 1))
    (k : xC p s m args c cc own xT nL D xcl (fun _ => ws') (tyX ca) A → xV p l e R s m args below meth c D xcl (fun _ => ws') A nL cells slots Q z0 (pc + 1) lv stk) : xV p l e R s m args below meth c D xcl (fun _ => ws) A nL cells slots Q z0 pc lv (.ref v :: .int i :: .ref a :: stk) := by
  subst hf
  subst hw
  exact fun H locs ls hP hS hl => va_astq C.1 C.2.1 C.2.2.2.2.2.1 hP (C.2.2.2.2.2.2.1 z0) hS q0 t0 qk ci ha ht hv hc hin hdg (fun H1 locs1 hP1 hD1 hS1 => k (C.wd hD1) H1 locs1 ls hP1 hS1 hl)
theorem y_obj (C : xC p s m args c cc own xT nL D xcl w tys A) {g : xSt} {idx i1 i2 i3 a : Nat} (w1 : lw_tbl[i1]? = some (Cond.methodLink own idx Lib.objectInit)) (w2 : lw_tbl[i2]? = some (Cond.instanceMethod Lib.objectInit)) (w3 : lw_tbl[i3]? = some (Cond.code Lib.objectInit ⟨#[0xb1]⟩ 1 none)) (hdg : decode cc pc = .ok (.invokespecial idx, 3)) (h1 : 1 ≤ R.frames) (h2 : (stk.map fun v => v.category).sum + 12 ≤ R.locals)
    (k : xV p l e R s m args below meth c D xcl w A nL cells slots Q g (pc + 3) lv stk) : xV p l e R s m args below meth c D xcl w A nL cells slots Q g pc lv (.ref a :: stk) :=
  fun H locs ls hP hS hl => W.objInit C.1 C.2.1 C.2.2.2.1 (C.t w1 rfl) (C.t w2 rfl) (C.t w3 rfl) (g := F0 m pc ls (.ref a :: stk)) rfl (hl.1.trans C.2.2.1.symm) rfl hdg h1 (by show 2 * 0 + _ + 12 ≤ _; omega) (k H locs ls hP hS hl)
theorem y_vret (C : xC p s m args c cc own xT nL D xcl (fun _ => ws) (tyX ca) A) {Post : va_W → Prop} {wpre : va_W} (hA : A = va_A wpre s.heap.size) (hr : meth.sig.returnType = none) (hlk : meth.locks = false) (hp : Post ws) (hdg : decode cc pc = .ok (.return_, 1)) (h1 : cells ≤ mc) (h2 : slots ≤ ms) :
    xV p l e R s m args below meth c D xcl (fun _ => ws) A nL cells slots (MQ below (va_Qv Post (fun u t => va_P D xcl u t.heap ∧ va_D (va_A wpre s.heap.size) u) (va_A wpre s.heap.size)) args s mc ms (va_A wpre s.heap.size)) z0 pc lv [] := by
  subst hA
  exact fun H locs ls hP hS hl => W.widen h1 h2 (W.vret C.1 C.2.1 hr (fun t ht hW => ⟨⟨ws, rfl, hp, by rw [ht]; exact hP, C.2.2.2.2.2.2.1 z0⟩, hS.F ht⟩) hS.2.2 hdg hlk)
/-- what a constructor's call asks -/
theorem y_ask {wc : va_W} {b sz : Nat} : FrameBlind (va_Pc [Value.ref b] (fun U => U.heap.size = sz ∧ va_P D xcl wc U.heap ∧ va_K D xcl (tyX ca) U ∧ va_D (fun _ => True) wc ∧ xTB U ∧ xAOs U)) := fun a U g mk q => by
  obtain ⟨q0, q1, q2, q3, q4, q5, q6⟩ := q
  exact ⟨q0, q1, q2, va_K.moved (u := U) (U := U.calling g mk a) (Vm.Alike.refl U.vm) q3, q4, xTB.same (s := U) rfl q5, ⟨va_AO.moved (u := U) (U := U.calling g mk a) (Vm.Alike.refl U.vm) q6.1, va_AO.moved (u := U) (U := U.calling g mk a) (Vm.Alike.refl U.vm) q6.2⟩⟩
theorem y_go (C : xC p s m args c cc own xT nL D xcl (fun _ => ws) (tyX ca) A) {wc wr : va_W} {Post : va_W → Prop} {b : Nat} (isC isR : List Nat) (hC : isC.map (fun i => ws[i]?) = wc.map some) (hR : isR.map (fun i => ws[i]?) = wr.map some) (hn : va_nd isR = true) (hnC : va_nd isC = true) (hdis : ∀ i ∈ isR, i ∉ isC)
    (run : ∀ (H : Heap) (locs : List Loc) (ls : Array Slot), va_P D xcl wc H → va_D (fun _ => True) wc → ls.size = nL → va_Run p l e R s m args below meth c H locs cells slots mc ms (F0 m pc ls stk) rest (va_Qv Post (fun u t => va_P D xcl u t.heap ∧ va_D (va_A wc H.size) u) (va_A wc H.size) #[Value.ref b]) (va_A wc H.size))
    (k : ∀ u : va_W, Post u → xC p s m args c cc own xT nL D xcl (fun _ => wr ++ u) (tyX ca) A → xV p l e R s m args below meth c D xcl (fun _ => wr ++ u) A nL (cells + mc) (slots + ms) Q z0 (pc + 3) lv rest) : xV p l e R s m args below meth c D xcl (fun _ => ws) A nL cells slots Q z0 pc lv stk := by
  intro H locs ls hP hS hl
  have hD := C.2.2.2.2.2.2.1 z0
  have hPc : va_P D xcl wc H := by
    intro j q hq
    obtain ⟨i, -, hi⟩ := va_in_of isC hC hq
    exact hP i q hi
  have hDc : va_D A wc := hD.sub isC hnC hC
  have hFc := va_free (wc := wc) hD hS C.2.2.2.2.2.2.2 isC hC
  refine va_callv (run H locs ls hPc (hDc.weaken (fun _ _ _ _ => trivial)) hl.1) hS (fun q _ h => hFc q h) hFc (fun u t H1 locs1 ht hvm hw hB hz1 hk1 hS1 => ?_)
  obtain ⟨hP1, hD1⟩ := hB
  rw [ht] at hP1
  obtain ⟨hP2, hD2⟩ := va_join (wr := wr) (w1 := u) hP hD isC isR hC hR hn hdis hk1 hFc hP1 hD1
  exact k u hw (C.wd hD2) H1 locs1 ls hP2 hS1 hl
theorem y_runN (C : xC p s m args c cc own xT nL D xcl w (tyX ca) A) (hT : xTB s) (hO : xAOs s) {y : MethodName} {bytes : ByteArray} {maxL : Nat} {rm : Room} {b : Nat} {wc : va_W} {Post : va_W → Prop} (hM : yM l y bytes maxL rm b D ca wc Post mc ms) {i1 i2 i3 i4 index : Nat} {host : String} (h1 : lw_tbl[i1]? = some (Cond.code y bytes maxL none)) (h2 : lw_tbl[i2]? = some (Cond.initialized y.cls)) (h3 : lw_tbl[i3]? = some (Cond.methodLinkNest own index y host)) (h4 : lw_tbl[i4]? = some (Cond.instanceMethod y))
    (hr : rm.cells = mc ∧ rm.slots = ms ∧ rm.frames + 1 ≤ R.frames ∧ 8 + (maxL + 11) + rm.locals ≤ R.locals) (hy : (y.cls ≠ "java/lang/invoke/MethodHandle" ∧ y.cls ≠ "java/lang/invoke/VarHandle") ∧ (parseMethodDescriptor y.desc).map (fun d => d.parameters.length) = some 0 ∧ y.name = "<init>") (hW : (rest.map fun v => v.category).sum ≤ 8) (hdg : decode cc pc = .ok (.invokespecial index, 3)) (hc : cells + mc ≤ R.cells) (hs : slots + ms ≤ R.slots) :
    ∀ (H : Heap) (locs : List Loc) (ls : Array Slot), va_P D xcl wc H → va_D (fun _ => True) wc → ls.size = nL → va_Run p l e R s m args below meth c H locs cells slots mc ms (F0 m pc ls (.ref b :: rest)) rest (va_Qv Post (fun u t => va_P D xcl u t.heap ∧ va_D (va_A wc H.size) u) (va_A wc H.size) #[Value.ref b]) (va_A wc H.size) := by
  intro H locs ls hP hD hl
  exact va_runIN (As := []) (b := b) (rest := rest) (n := 0) ⟨C.1, C.2.1, C.2.2.1, C.2.2.2.1, C.2.2.2.2.1⟩ (hM H.size) ⟨⟨⟨hr.1, hr.2.1, hr.2.2.1, hr.2.2.2, fun w hw a' U hW => by rw [List.mem_singleton.mp hw]; exact xok_warm hW rfl (C.t h1 rfl), List.mem_singleton.mpr rfl⟩, C.t h1 rfl, C.t h2 rfl, hy.1, fun sig hs => x_len hy.2.1 sig hs, C.t h3 rfl⟩, hy.2.2, C.t h4 rfl⟩
    ⟨y_ask, fun U hU hW => ⟨rfl, by rw [hU], by rw [hU]; exact hP, va_K.moved hW.alike C.2.2.2.2.2.1, hD, hT.warm hW, va_AO.moved hW.alike hO.1, va_AO.moved hW.alike hO.2⟩⟩ rfl rfl hl rfl (by show 2 * 0 + _ ≤ 8; omega) hdg ⟨hc, hs⟩
theorem y_runI (C : xC p s m args c cc own xT nL D xcl w (tyX ca) A) (hT : xTB s) (hO : xAOs s) {y : MethodName} {bytes : ByteArray} {maxL : Nat} {rm : Room} {b : Nat} {wc : va_W} {Post : va_W → Prop} (hM : yM l y bytes maxL rm b D ca wc Post mc ms) {i1 i2 i3 i4 index : Nat} (h1 : lw_tbl[i1]? = some (Cond.code y bytes maxL none)) (h2 : lw_tbl[i2]? = some (Cond.initialized y.cls)) (h3 : lw_tbl[i3]? = some (Cond.methodLink own index y)) (h4 : lw_tbl[i4]? = some (Cond.instanceMethod y))
    (hr : rm.cells = mc ∧ rm.slots = ms ∧ rm.frames + 1 ≤ R.frames ∧ 8 + (maxL + 11) + rm.locals ≤ R.locals) (hy : (y.cls ≠ "java/lang/invoke/MethodHandle" ∧ y.cls ≠ "java/lang/invoke/VarHandle") ∧ (parseMethodDescriptor y.desc).map (fun d => d.parameters.length) = some 0 ∧ y.name = "<init>") (hW : (rest.map fun v => v.category).sum ≤ 8) (hdg : decode cc pc = .ok (.invokespecial index, 3)) (hc : cells + mc ≤ R.cells) (hs : slots + ms ≤ R.slots) :
    ∀ (H : Heap) (locs : List Loc) (ls : Array Slot), va_P D xcl wc H → va_D (fun _ => True) wc → ls.size = nL → va_Run p l e R s m args below meth c H locs cells slots mc ms (F0 m pc ls (.ref b :: rest)) rest (va_Qv Post (fun u t => va_P D xcl u t.heap ∧ va_D (va_A wc H.size) u) (va_A wc H.size) #[Value.ref b]) (va_A wc H.size) := by
  intro H locs ls hP hD hl
  exact va_runI (As := []) (b := b) (rest := rest) (n := 0) ⟨C.1, C.2.1, C.2.2.1, C.2.2.2.1, C.2.2.2.2.1⟩ (hM H.size) ⟨⟨hr.1, hr.2.1, hr.2.2.1, hr.2.2.2, fun w hw a' U hW => by rw [List.mem_singleton.mp hw]; exact xok_warm hW rfl (C.t h1 rfl), List.mem_singleton.mpr rfl, C.t h1 rfl, C.t h2 rfl, hy.1, fun sig hs => x_len hy.2.1 sig hs, C.t h3 rfl⟩, hy.2.2, C.t h4 rfl⟩
    ⟨y_ask, fun U hU hW => ⟨rfl, by rw [hU], by rw [hU]; exact hP, va_K.moved hW.alike C.2.2.2.2.2.1, hD, hT.warm hW, va_AO.moved hW.alike hO.1, va_AO.moved hW.alike hO.2⟩⟩ rfl rfl hl rfl (by show 2 * 0 + _ ≤ 8; omega) hdg ⟨hc, hs⟩
end YR
end
section
/-! the constructors, walked (printed by wip/whole/ctor.py) -/
set_option maxRecDepth 100000 in
theorem twO : lw_tbl[74]? = some (Cond.code Lib.objectInit ⟨#[0xb1]⟩ 1 none) := by decide +kernel
theorem yup0 (v : Nat) : va_up (fun _ => (none : Option Nat)) (0 : Int32).toNatClampNeg (some v) = fun j => ([v] : List Nat)[j]? := by
  funext j
  have hz : (0 : Int32).toNatClampNeg = 0 := rfl
  cases j <;> simp [va_up, hz]
theorem yup_n (L : List Nat) (v : Nat) : va_up (fun j => L[j]?) L.length (some v) = fun j => (L ++ [v])[j]? := by
  funext j
  by_cases h : j = L.length
  · subst h; simp [va_up]
  · rw [va_up_ne _ _ h]
    rcases Nat.lt_or_gt_of_ne h with h1 | h1
    · rw [List.getElem?_append_left h1]
    · rw [List.getElem?_eq_none (by omega), List.getElem?_eq_none (by rw [List.length_append]; simp; omega)]
theorem yup (L : List Nat) (v : Nat) {i : Int32} (hi : i.toNatClampNeg = L.length := by rfl) : va_up (fun j => L[j]?) i.toNatClampNeg (some v) = fun j => (L ++ [v])[j]? := by
  rw [hi]; exact yup_n L v
set_option maxRecDepth 100000 in
set_option maxHeartbeats 8000000 in
theorem c_A_init (l : Launch) (D : va_G) (ca : Nat → ClassId) (h0 : Nat) : yM l y_A_init b_A_init 1 ({ frames := 1, cells := 0, slots := 0, locals := 12 } : Room) h0 D ca [(h0, .inr (1, [.int 0, .int 0, .int 0, .int 0, .int 0, .int 0]))] (fun u => u = [(h0, .inr (1, [.int 0, .int 0, .int 0, .int 0, .int 0, .int 0]))]) 0 0 := by
  refine y_contract (by decide) (by decide) ?_
  intro p e s m below meth c C hT hO hin hr hlk
  refine v_aload_n C d_A_init_0 rfl 0 rfl ?_
  refine y_obj C tw_81 tw_73 twO d_A_init_1 (by decide) (Nat.le_of_ble_eq_true rfl) ?_
  exact y_vret C rfl hr hlk rfl d_A_init_4 (by decide) (by decide)
set_option maxRecDepth 100000 in
set_option maxHeartbeats 8000000 in
theorem c_O_init (l : Launch) (D : va_G) (ca : Nat → ClassId) (h0 : Nat) : yM l y_O_init b_O_init 1 ({ frames := 1, cells := 0, slots := 0, locals := 12 } : Room) h0 D ca [(h0, .inr (2, [.int 0, .int 0, .int 0, .int 0, .int 0, .int 0]))] (fun u => u = [(h0, .inr (2, [.int 0, .int 0, .int 0, .int 0, .int 0, .int 0]))]) 0 0 := by
  refine y_contract (by decide) (by decide) ?_
  intro p e s m below meth c C hT hO hin hr hlk
  refine v_aload_n C d_O_init_0 rfl 0 rfl ?_
  refine y_obj C tw_112 tw_73 twO d_O_init_1 (by decide) (Nat.le_of_ble_eq_true rfl) ?_
  exact y_vret C rfl hr hlk rfl d_O_init_4 (by decide) (by decide)
set_option maxRecDepth 100000 in
set_option maxHeartbeats 8000000 in
theorem c_P_init (l : Launch) (D : va_G) (ca : Nat → ClassId) (h0 : Nat) : yM l y_P_init b_P_init 1 ({ frames := 1, cells := 3, slots := 192, locals := 12 } : Room) h0 D ca [(h0, .inr (3, [.null, .null, .null, .int 0]))] (fun u => ∃ q1 q2 q3 : Nat, u = [(h0, .inr (3, [.ref q1, .ref q2, .ref q3, .int 0])), (q1, .inl (ca 0, 64, .inl (fun _ => 0))), (q2, .inl (ca 0, 64, .inl (fun _ => 0))), (q3, .inl (ca 0, 64, .inl (fun _ => 0)))]) 3 192 := by
  refine y_contract (by decide) (by decide) ?_
  intro p e s m below meth c C hT hO hin hr hlk
  refine v_aload_n C d_P_init_0 rfl 0 rfl ?_
  refine y_obj C tw_194 tw_73 twO d_P_init_1 (by decide) (Nat.le_of_ble_eq_true rfl) ?_
  refine v_aload_n C d_P_init_4 rfl 0 rfl ?_
  refine v_bipush C (v := (64 : Int32)) d_P_init_5 (by decide) ?_
  refine y_newa C (t0 := 0) (ty := .int) rfl (fun _ h => by cases h) tw_188 rfl (N' := 64) (a0 := (64, .inl (fun _ => 0))) (fun _ => rfl) (by decide) (by decide) (by decide) (by decide) (by decide) d_P_init_7 (fun q1 C => ?_)
  refine y_putF C hin (ci := 3) ⟨in_P, rfl⟩ ⟨ty_P_ok, nm_P⟩ 0 rfl 0 (by decide) tw_195 rfl rfl (ty := .array .int) (by decide +kernel) rfl rfl (Nat.le_of_ble_eq_true rfl) (ws' := [(h0, .inr (3, [.ref q1, .null, .null, .int 0])), (q1, .inl (ca 0, 64, .inl (fun _ => 0)))]) rfl d_P_init_9 (fun C => ?_)
  refine v_aload_n C d_P_init_12 rfl 0 rfl ?_
  refine v_bipush C (v := (64 : Int32)) d_P_init_13 (by decide) ?_
  refine y_newa C (t0 := 0) (ty := .int) rfl (fun _ h => by cases h) tw_188 rfl (N' := 64) (a0 := (64, .inl (fun _ => 0))) (fun _ => rfl) (by decide) (by decide) (by decide) (by decide) (by decide) d_P_init_15 (fun q2 C => ?_)
  refine y_putF C hin (ci := 3) ⟨in_P, rfl⟩ ⟨ty_P_ok, nm_P⟩ 0 rfl 1 (by decide) tw_197 rfl rfl (ty := .array .int) (by decide +kernel) rfl rfl (Nat.le_of_ble_eq_true rfl) (ws' := [(h0, .inr (3, [.ref q1, .ref q2, .null, .int 0])), (q1, .inl (ca 0, 64, .inl (fun _ => 0))), (q2, .inl (ca 0, 64, .inl (fun _ => 0)))]) rfl d_P_init_17 (fun C => ?_)
  refine v_aload_n C d_P_init_20 rfl 0 rfl ?_
  refine v_bipush C (v := (64 : Int32)) d_P_init_21 (by decide) ?_
  refine y_newa C (t0 := 0) (ty := .int) rfl (fun _ h => by cases h) tw_188 rfl (N' := 64) (a0 := (64, .inl (fun _ => 0))) (fun _ => rfl) (by decide) (by decide) (by decide) (by decide) (by decide) d_P_init_23 (fun q3 C => ?_)
  refine y_putF C hin (ci := 3) ⟨in_P, rfl⟩ ⟨ty_P_ok, nm_P⟩ 0 rfl 2 (by decide) tw_199 rfl rfl (ty := .array .int) (by decide +kernel) rfl rfl (Nat.le_of_ble_eq_true rfl) (ws' := [(h0, .inr (3, [.ref q1, .ref q2, .ref q3, .int 0])), (q1, .inl (ca 0, 64, .inl (fun _ => 0))), (q2, .inl (ca 0, 64, .inl (fun _ => 0))), (q3, .inl (ca 0, 64, .inl (fun _ => 0)))]) rfl d_P_init_25 (fun C => ?_)
  exact y_vret C rfl hr hlk ⟨q1, q2, q3, rfl⟩ d_P_init_28 (by decide) (by decide)
set_option maxRecDepth 100000 in
set_option maxHeartbeats 8000000 in
theorem c_S_init (l : Launch) (D : va_G) (ca : Nat → ClassId) (h0 : Nat) : yM l y_S_init b_S_init 1 ({ frames := 1, cells := 9, slots := 352, locals := 12 } : Room) h0 D ca [(h0, .inr (4, [.null, .null, .null, .null, .null, .null, .null, .null, .null, .int 0, .int 0, .int 0, .int 0]))] (fun u => ∃ q1 q2 q3 q4 q5 q6 q7 q8 q9 : Nat, u = [(h0, .inr (4, [.ref q1, .ref q2, .ref q3, .ref q4, .ref q5, .ref q6, .ref q7, .ref q8, .ref q9, .int 0, .int 0, .int 0, .int 0])), (q1, .inl (ca 0, 64, .inl (fun _ => 0))), (q2, .inl (ca 0, 64, .inl (fun _ => 0))), (q3, .inl (ca 0, 8, .inl (fun _ => 0))), (q4, .inl (ca 0, 8, .inl (fun _ => 0))), (q5, .inl (ca 0, 8, .inl (fun _ => 0))), (q6, .inl (ca 0, 8, .inl (fun _ => 0))), (q7, .inl (ca 0, 64, .inl (fun _ => 0))), (q8, .inl (ca 0, 64, .inl (fun _ => 0))), (q9, .inl (ca 0, 64, .inl (fun _ => 0)))]) 9 352 := by
  refine y_contract (by decide) (by decide) ?_
  intro p e s m below meth c C hT hO hin hr hlk
  refine v_aload_n C d_S_init_0 rfl 0 rfl ?_
  refine y_obj C tw_138 tw_73 twO d_S_init_1 (by decide) (Nat.le_of_ble_eq_true rfl) ?_
  refine v_aload_n C d_S_init_4 rfl 0 rfl ?_
  refine v_bipush C (v := (64 : Int32)) d_S_init_5 (by decide) ?_
  refine y_newa C (t0 := 0) (ty := .int) rfl (fun _ h => by cases h) tw_188 rfl (N' := 64) (a0 := (64, .inl (fun _ => 0))) (fun _ => rfl) (by decide) (by decide) (by decide) (by decide) (by decide) d_S_init_7 (fun q1 C => ?_)
  refine y_putF C hin (ci := 4) ⟨in_S, rfl⟩ ⟨ty_S_ok, nm_S⟩ 0 rfl 0 (by decide) tw_139 rfl rfl (ty := .array .int) (by decide +kernel) rfl rfl (Nat.le_of_ble_eq_true rfl) (ws' := [(h0, .inr (4, [.ref q1, .null, .null, .null, .null, .null, .null, .null, .null, .int 0, .int 0, .int 0, .int 0])), (q1, .inl (ca 0, 64, .inl (fun _ => 0)))]) rfl d_S_init_9 (fun C => ?_)
  refine v_aload_n C d_S_init_12 rfl 0 rfl ?_
  refine v_bipush C (v := (64 : Int32)) d_S_init_13 (by decide) ?_
  refine y_newa C (t0 := 0) (ty := .int) rfl (fun _ h => by cases h) tw_188 rfl (N' := 64) (a0 := (64, .inl (fun _ => 0))) (fun _ => rfl) (by decide) (by decide) (by decide) (by decide) (by decide) d_S_init_15 (fun q2 C => ?_)
  refine y_putF C hin (ci := 4) ⟨in_S, rfl⟩ ⟨ty_S_ok, nm_S⟩ 0 rfl 1 (by decide) tw_141 rfl rfl (ty := .array .int) (by decide +kernel) rfl rfl (Nat.le_of_ble_eq_true rfl) (ws' := [(h0, .inr (4, [.ref q1, .ref q2, .null, .null, .null, .null, .null, .null, .null, .int 0, .int 0, .int 0, .int 0])), (q1, .inl (ca 0, 64, .inl (fun _ => 0))), (q2, .inl (ca 0, 64, .inl (fun _ => 0)))]) rfl d_S_init_17 (fun C => ?_)
  refine v_aload_n C d_S_init_20 rfl 0 rfl ?_
  refine v_bipush C (v := (8 : Int32)) d_S_init_21 (by decide) ?_
  refine y_newa C (t0 := 0) (ty := .int) rfl (fun _ h => by cases h) tw_188 rfl (N' := 8) (a0 := (8, .inl (fun _ => 0))) (fun _ => rfl) (by decide) (by decide) (by decide) (by decide) (by decide) d_S_init_23 (fun q3 C => ?_)
  refine y_putF C hin (ci := 4) ⟨in_S, rfl⟩ ⟨ty_S_ok, nm_S⟩ 0 rfl 2 (by decide) tw_143 rfl rfl (ty := .array .int) (by decide +kernel) rfl rfl (Nat.le_of_ble_eq_true rfl) (ws' := [(h0, .inr (4, [.ref q1, .ref q2, .ref q3, .null, .null, .null, .null, .null, .null, .int 0, .int 0, .int 0, .int 0])), (q1, .inl (ca 0, 64, .inl (fun _ => 0))), (q2, .inl (ca 0, 64, .inl (fun _ => 0))), (q3, .inl (ca 0, 8, .inl (fun _ => 0)))]) rfl d_S_init_25 (fun C => ?_)
  refine v_aload_n C d_S_init_28 rfl 0 rfl ?_
  refine v_bipush C (v := (8 : Int32)) d_S_init_29 (by decide) ?_
  refine y_newa C (t0 := 0) (ty := .int) rfl (fun _ h => by cases h) tw_188 rfl (N' := 8) (a0 := (8, .inl (fun _ => 0))) (fun _ => rfl) (by decide) (by decide) (by decide) (by decide) (by decide) d_S_init_31 (fun q4 C => ?_)
  refine y_putF C hin (ci := 4) ⟨in_S, rfl⟩ ⟨ty_S_ok, nm_S⟩ 0 rfl 3 (by decide) tw_145 rfl rfl (ty := .array .int) (by decide +kernel) rfl rfl (Nat.le_of_ble_eq_true rfl) (ws' := [(h0, .inr (4, [.ref q1, .ref q2, .ref q3, .ref q4, .null, .null, .null, .null, .null, .int 0, .int 0, .int 0, .int 0])), (q1, .inl (ca 0, 64, .inl (fun _ => 0))), (q2, .inl (ca 0, 64, .inl (fun _ => 0))), (q3, .inl (ca 0, 8, .inl (fun _ => 0))), (q4, .inl (ca 0, 8, .inl (fun _ => 0)))]) rfl d_S_init_33 (fun C => ?_)
  refine v_aload_n C d_S_init_36 rfl 0 rfl ?_
  refine v_bipush C (v := (8 : Int32)) d_S_init_37 (by decide) ?_
  refine y_newa C (t0 := 0) (ty := .int) rfl (fun _ h => by cases h) tw_188 rfl (N' := 8) (a0 := (8, .inl (fun _ => 0))) (fun _ => rfl) (by decide) (by decide) (by decide) (by decide) (by decide) d_S_init_39 (fun q5 C => ?_)
  refine y_putF C hin (ci := 4) ⟨in_S, rfl⟩ ⟨ty_S_ok, nm_S⟩ 0 rfl 4 (by decide) tw_147 rfl rfl (ty := .array .int) (by decide +kernel) rfl rfl (Nat.le_of_ble_eq_true rfl) (ws' := [(h0, .inr (4, [.ref q1, .ref q2, .ref q3, .ref q4, .ref q5, .null, .null, .null, .null, .int 0, .int 0, .int 0, .int 0])), (q1, .inl (ca 0, 64, .inl (fun _ => 0))), (q2, .inl (ca 0, 64, .inl (fun _ => 0))), (q3, .inl (ca 0, 8, .inl (fun _ => 0))), (q4, .inl (ca 0, 8, .inl (fun _ => 0))), (q5, .inl (ca 0, 8, .inl (fun _ => 0)))]) rfl d_S_init_41 (fun C => ?_)
  refine v_aload_n C d_S_init_44 rfl 0 rfl ?_
  refine v_bipush C (v := (8 : Int32)) d_S_init_45 (by decide) ?_
  refine y_newa C (t0 := 0) (ty := .int) rfl (fun _ h => by cases h) tw_188 rfl (N' := 8) (a0 := (8, .inl (fun _ => 0))) (fun _ => rfl) (by decide) (by decide) (by decide) (by decide) (by decide) d_S_init_47 (fun q6 C => ?_)
  refine y_putF C hin (ci := 4) ⟨in_S, rfl⟩ ⟨ty_S_ok, nm_S⟩ 0 rfl 5 (by decide) tw_148 rfl rfl (ty := .array .int) (by decide +kernel) rfl rfl (Nat.le_of_ble_eq_true rfl) (ws' := [(h0, .inr (4, [.ref q1, .ref q2, .ref q3, .ref q4, .ref q5, .ref q6, .null, .null, .null, .int 0, .int 0, .int 0, .int 0])), (q1, .inl (ca 0, 64, .inl (fun _ => 0))), (q2, .inl (ca 0, 64, .inl (fun _ => 0))), (q3, .inl (ca 0, 8, .inl (fun _ => 0))), (q4, .inl (ca 0, 8, .inl (fun _ => 0))), (q5, .inl (ca 0, 8, .inl (fun _ => 0))), (q6, .inl (ca 0, 8, .inl (fun _ => 0)))]) rfl d_S_init_49 (fun C => ?_)
  refine v_aload_n C d_S_init_52 rfl 0 rfl ?_
  refine v_bipush C (v := (64 : Int32)) d_S_init_53 (by decide) ?_
  refine y_newa C (t0 := 0) (ty := .int) rfl (fun _ h => by cases h) tw_188 rfl (N' := 64) (a0 := (64, .inl (fun _ => 0))) (fun _ => rfl) (by decide) (by decide) (by decide) (by decide) (by decide) d_S_init_55 (fun q7 C => ?_)
  refine y_putF C hin (ci := 4) ⟨in_S, rfl⟩ ⟨ty_S_ok, nm_S⟩ 0 rfl 6 (by decide) tw_149 rfl rfl (ty := .array .int) (by decide +kernel) rfl rfl (Nat.le_of_ble_eq_true rfl) (ws' := [(h0, .inr (4, [.ref q1, .ref q2, .ref q3, .ref q4, .ref q5, .ref q6, .ref q7, .null, .null, .int 0, .int 0, .int 0, .int 0])), (q1, .inl (ca 0, 64, .inl (fun _ => 0))), (q2, .inl (ca 0, 64, .inl (fun _ => 0))), (q3, .inl (ca 0, 8, .inl (fun _ => 0))), (q4, .inl (ca 0, 8, .inl (fun _ => 0))), (q5, .inl (ca 0, 8, .inl (fun _ => 0))), (q6, .inl (ca 0, 8, .inl (fun _ => 0))), (q7, .inl (ca 0, 64, .inl (fun _ => 0)))]) rfl d_S_init_57 (fun C => ?_)
  refine v_aload_n C d_S_init_60 rfl 0 rfl ?_
  refine v_bipush C (v := (64 : Int32)) d_S_init_61 (by decide) ?_
  refine y_newa C (t0 := 0) (ty := .int) rfl (fun _ h => by cases h) tw_188 rfl (N' := 64) (a0 := (64, .inl (fun _ => 0))) (fun _ => rfl) (by decide) (by decide) (by decide) (by decide) (by decide) d_S_init_63 (fun q8 C => ?_)
  refine y_putF C hin (ci := 4) ⟨in_S, rfl⟩ ⟨ty_S_ok, nm_S⟩ 0 rfl 7 (by decide) tw_150 rfl rfl (ty := .array .int) (by decide +kernel) rfl rfl (Nat.le_of_ble_eq_true rfl) (ws' := [(h0, .inr (4, [.ref q1, .ref q2, .ref q3, .ref q4, .ref q5, .ref q6, .ref q7, .ref q8, .null, .int 0, .int 0, .int 0, .int 0])), (q1, .inl (ca 0, 64, .inl (fun _ => 0))), (q2, .inl (ca 0, 64, .inl (fun _ => 0))), (q3, .inl (ca 0, 8, .inl (fun _ => 0))), (q4, .inl (ca 0, 8, .inl (fun _ => 0))), (q5, .inl (ca 0, 8, .inl (fun _ => 0))), (q6, .inl (ca 0, 8, .inl (fun _ => 0))), (q7, .inl (ca 0, 64, .inl (fun _ => 0))), (q8, .inl (ca 0, 64, .inl (fun _ => 0)))]) rfl d_S_init_65 (fun C => ?_)
  refine v_aload_n C d_S_init_68 rfl 0 rfl ?_
  refine v_bipush C (v := (64 : Int32)) d_S_init_69 (by decide) ?_
  refine y_newa C (t0 := 0) (ty := .int) rfl (fun _ h => by cases h) tw_188 rfl (N' := 64) (a0 := (64, .inl (fun _ => 0))) (fun _ => rfl) (by decide) (by decide) (by decide) (by decide) (by decide) d_S_init_71 (fun q9 C => ?_)
  refine y_putF C hin (ci := 4) ⟨in_S, rfl⟩ ⟨ty_S_ok, nm_S⟩ 0 rfl 8 (by decide) tw_151 rfl rfl (ty := .array .int) (by decide +kernel) rfl rfl (Nat.le_of_ble_eq_true rfl) (ws' := [(h0, .inr (4, [.ref q1, .ref q2, .ref q3, .ref q4, .ref q5, .ref q6, .ref q7, .ref q8, .ref q9, .int 0, .int 0, .int 0, .int 0])), (q1, .inl (ca 0, 64, .inl (fun _ => 0))), (q2, .inl (ca 0, 64, .inl (fun _ => 0))), (q3, .inl (ca 0, 8, .inl (fun _ => 0))), (q4, .inl (ca 0, 8, .inl (fun _ => 0))), (q5, .inl (ca 0, 8, .inl (fun _ => 0))), (q6, .inl (ca 0, 8, .inl (fun _ => 0))), (q7, .inl (ca 0, 64, .inl (fun _ => 0))), (q8, .inl (ca 0, 64, .inl (fun _ => 0))), (q9, .inl (ca 0, 64, .inl (fun _ => 0)))]) rfl d_S_init_73 (fun C => ?_)
  exact y_vret C rfl hr hlk ⟨q1, q2, q3, q4, q5, q6, q7, q8, q9, rfl⟩ d_S_init_76 (by decide) (by decide)
end
section
set_option maxRecDepth 100000 in
set_option maxHeartbeats 8000000 in
theorem c_D_init (l : Launch) (D : va_G) (ca : Nat → ClassId) (h0 : Nat) : yM l y_D_init b_D_init 2 ({ frames := 2, cells := 35, slots := 693, locals := 32 } : Room) h0 D ca [(h0, .inr (0, [.null, .null, .null, .null, .null, .null, .null, .int 0, .int 0, .int 0, .int 0]))] (fun u => ∃ q1 q2 q3 q4 q5 q6 q7 q8 q9 q10 q11 q12 q13 q14 q15 q16 q17 q18 q19 q20 q21 q22 q23 q24 q25 q26 q27 q28 q29 q30 q31 q32 q33 q34 q35 : Nat, u = [(h0, .inr (0, [.ref q1, .ref q10, .ref q19, .ref q20, .ref q21, .ref q22, .ref q32, .int (0 : Int32), .int (0 : Int32), .int (0 : Int32), .int (0 : Int32)])), (q1, .inl (ca 2, 8, .inr (.inr (.inr (.inr (fun j => ([q2, q3, q4, q5, q6, q7, q8, q9] : List Nat)[j]?)))))), (q2, .inr (1, [.int 0, .int 0, .int 0, .int 0, .int 0, .int 0])), (q3, .inr (1, [.int 0, .int 0, .int 0, .int 0, .int 0, .int 0])), (q4, .inr (1, [.int 0, .int 0, .int 0, .int 0, .int 0, .int 0])), (q5, .inr (1, [.int 0, .int 0, .int 0, .int 0, .int 0, .int 0])), (q6, .inr (1, [.int 0, .int 0, .int 0, .int 0, .int 0, .int 0])), (q7, .inr (1, [.int 0, .int 0, .int 0, .int 0, .int 0, .int 0])), (q8, .inr (1, [.int 0, .int 0, .int 0, .int 0, .int 0, .int 0])), (q9, .inr (1, [.int 0, .int 0, .int 0, .int 0, .int 0, .int 0])), (q10, .inl (ca 3, 8, .inr (.inr (.inr (.inr (fun j => ([q11, q12, q13, q14, q15, q16, q17, q18] : List Nat)[j]?)))))), (q11, .inr (2, [.int 0, .int 0, .int 0, .int 0, .int 0, .int 0])), (q12, .inr (2, [.int 0, .int 0, .int 0, .int 0, .int 0, .int 0])), (q13, .inr (2, [.int 0, .int 0, .int 0, .int 0, .int 0, .int 0])), (q14, .inr (2, [.int 0, .int 0, .int 0, .int 0, .int 0, .int 0])), (q15, .inr (2, [.int 0, .int 0, .int 0, .int 0, .int 0, .int 0])), (q16, .inr (2, [.int 0, .int 0, .int 0, .int 0, .int 0, .int 0])), (q17, .inr (2, [.int 0, .int 0, .int 0, .int 0, .int 0, .int 0])), (q18, .inr (2, [.int 0, .int 0, .int 0, .int 0, .int 0, .int 0])), (q19, .inl (ca 1, 4, .inl (fun _ => 0))), (q20, .inl (ca 0, 8, .inl (fun _ => 0))), (q21, .inl (ca 0, 8, .inl (fun _ => 0))), (q22, .inr (4, [.ref q23, .ref q24, .ref q25, .ref q26, .ref q27, .ref q28, .ref q29, .ref q30, .ref q31, .int 0, .int 0, .int 0, .int 0])), (q23, .inl (ca 0, 64, .inl (fun _ => 0))), (q24, .inl (ca 0, 64, .inl (fun _ => 0))), (q25, .inl (ca 0, 8, .inl (fun _ => 0))), (q26, .inl (ca 0, 8, .inl (fun _ => 0))), (q27, .inl (ca 0, 8, .inl (fun _ => 0))), (q28, .inl (ca 0, 8, .inl (fun _ => 0))), (q29, .inl (ca 0, 64, .inl (fun _ => 0))), (q30, .inl (ca 0, 64, .inl (fun _ => 0))), (q31, .inl (ca 0, 64, .inl (fun _ => 0))), (q32, .inr (3, [.ref q33, .ref q34, .ref q35, .int 0])), (q33, .inl (ca 0, 64, .inl (fun _ => 0))), (q34, .inl (ca 0, 64, .inl (fun _ => 0))), (q35, .inl (ca 0, 64, .inl (fun _ => 0)))]) 35 693 := by
  refine y_contract (by decide) (by decide) ?_
  intro p e s m below meth c C hT hO hin hr hlk
  refine v_aload_n C d_D_init_0 rfl 0 rfl ?_
  refine y_obj C tw_72 tw_73 twO d_D_init_1 (by decide) (Nat.le_of_ble_eq_true rfl) ?_
  refine v_aload_n C d_D_init_4 rfl 0 rfl ?_
  refine v_bipush C (v := (8 : Int32)) d_D_init_5 (by decide) ?_
  refine y_newq C (t0 := 2) hO.1 tw_75 rfl (N' := 8) (by decide) (by decide) (by decide) (by decide) (by decide) d_D_init_7 (fun q1 C => ?_)
  refine y_putF C hin (ci := 0) ⟨in_D, rfl⟩ ⟨ty_D_ok, nm_D⟩ 0 rfl 0 (by decide) tw_212 rfl rfl (ty := .array (.object "CrossDock$Arrival")) (by decide +kernel) rfl rfl (Nat.le_of_ble_eq_true rfl) (ws' := [(h0, .inr (0, [.ref q1, .null, .null, .null, .null, .null, .null, .int 0, .int 0, .int 0, .int 0])), (q1, .inl (ca 2, 8, .inr (.inr (.inr (.inr (fun _ => none))))))]) rfl d_D_init_10 (fun C => ?_)
  refine v_iconst C (v := (0 : Int32)) d_D_init_13 (by decide) ?_
  refine v_istore_n C (lv' := [(1, .int (0 : Int32)), (0, .ref h0)]) d_D_init_14 rfl (by decide) rfl ?_
  refine v_iload_n C d_D_init_15 rfl 0 rfl ?_
  refine v_bipush C (v := (8 : Int32)) d_D_init_16 (by decide) ?_
  refine v_icmp_ge C (tgt := 40) d_D_init_18 (by decide) (fun c => absurd c (by decide)) (fun _ => ?_)
  refine v_aload_n C d_D_init_21 rfl 1 rfl ?_
  refine v_get C (ci := 0) ⟨in_D, rfl⟩ 0 rfl 0 (by decide) (C.t tw_212 rfl) rfl d_D_init_22 ?_
  refine v_iload_n C d_D_init_25 rfl 0 rfl ?_
  refine y_new C (ci := 1) ⟨in_A, rfl⟩ ty_A_ok tw_75 tw_77 tw_53 (fs := [.int 0, .int 0, .int 0, .int 0, .int 0, .int 0]) (by intro j hj; match j, hj with | 0, _ => rfl | 1, _ => rfl | 2, _ => rfl | 3, _ => rfl | 4, _ => rfl | 5, _ => rfl) (by decide) (by decide) d_D_init_26 (fun q2 C => ?_)
  refine v_dup C d_D_init_29 rfl ?_
  refine y_go C (wc := [(q2, .inr (1, [.int 0, .int 0, .int 0, .int 0, .int 0, .int 0]))]) (wr := [(h0, .inr (0, [.ref q1, .null, .null, .null, .null, .null, .null, .int 0, .int 0, .int 0, .int 0])), (q1, .inl (ca 2, 8, .inr (.inr (.inr (.inr (fun _ => none))))))]) [2] [0, 1] rfl rfl (by decide) (by decide) (by decide) (y_runN C hT hO (c_A_init l D ca q2) tw_80 tw_53 tw_78 tw_79 ⟨rfl, rfl, by decide, by decide⟩ ⟨by decide, by decide, rfl⟩ (rest := [.ref q2, .int (0 : Int32), .ref q1]) (Nat.le_of_ble_eq_true rfl) d_D_init_30 (by decide) (by decide)) (fun u hu C => ?_)
  subst hu
  refine y_astq C 1 2 2 1 rfl rfl rfl rfl (by decide) (f' := fun j => ([q2] : List Nat)[j]?) (yup0 q2) (ws' := [(h0, .inr (0, [.ref q1, .null, .null, .null, .null, .null, .null, .int 0, .int 0, .int 0, .int 0])), (q1, .inl (ca 2, 8, .inr (.inr (.inr (.inr (fun j => ([q2] : List Nat)[j]?)))))), (q2, .inr (1, [.int 0, .int 0, .int 0, .int 0, .int 0, .int 0]))]) rfl d_D_init_33 (fun C => ?_)
  refine v_iinc C (k0 := 0) (v := (1 : Int32)) (lv' := [(1, .int (1 : Int32)), (0, .ref h0)]) d_D_init_34 rfl (by decide) (by decide) rfl ?_
  refine v_goto C (tgt := 15) d_D_init_37 (by decide) ?_
  refine v_iload_n C d_D_init_15 rfl 0 rfl ?_
  refine v_bipush C (v := (8 : Int32)) d_D_init_16 (by decide) ?_
  refine v_icmp_ge C (tgt := 40) d_D_init_18 (by decide) (fun c => absurd c (by decide)) (fun _ => ?_)
  refine v_aload_n C d_D_init_21 rfl 1 rfl ?_
  refine v_get C (ci := 0) ⟨in_D, rfl⟩ 0 rfl 0 (by decide) (C.t tw_212 rfl) rfl d_D_init_22 ?_
  refine v_iload_n C d_D_init_25 rfl 0 rfl ?_
  refine y_new C (ci := 1) ⟨in_A, rfl⟩ ty_A_ok tw_75 tw_77 tw_53 (fs := [.int 0, .int 0, .int 0, .int 0, .int 0, .int 0]) (by intro j hj; match j, hj with | 0, _ => rfl | 1, _ => rfl | 2, _ => rfl | 3, _ => rfl | 4, _ => rfl | 5, _ => rfl) (by decide) (by decide) d_D_init_26 (fun q3 C => ?_)
  refine v_dup C d_D_init_29 rfl ?_
  refine y_go C (wc := [(q3, .inr (1, [.int 0, .int 0, .int 0, .int 0, .int 0, .int 0]))]) (wr := [(h0, .inr (0, [.ref q1, .null, .null, .null, .null, .null, .null, .int 0, .int 0, .int 0, .int 0])), (q1, .inl (ca 2, 8, .inr (.inr (.inr (.inr (fun j => ([q2] : List Nat)[j]?)))))), (q2, .inr (1, [.int 0, .int 0, .int 0, .int 0, .int 0, .int 0]))]) [3] [0, 1, 2] rfl rfl (by decide) (by decide) (by decide) (y_runN C hT hO (c_A_init l D ca q3) tw_80 tw_53 tw_78 tw_79 ⟨rfl, rfl, by decide, by decide⟩ ⟨by decide, by decide, rfl⟩ (rest := [.ref q3, .int (1 : Int32), .ref q1]) (Nat.le_of_ble_eq_true rfl) d_D_init_30 (by decide) (by decide)) (fun u hu C => ?_)
  subst hu
  refine y_astq C 1 2 3 1 rfl rfl rfl rfl (by decide) (f' := fun j => ([q2, q3] : List Nat)[j]?) (yup [q2] q3) (ws' := [(h0, .inr (0, [.ref q1, .null, .null, .null, .null, .null, .null, .int 0, .int 0, .int 0, .int 0])), (q1, .inl (ca 2, 8, .inr (.inr (.inr (.inr (fun j => ([q2, q3] : List Nat)[j]?)))))), (q2, .inr (1, [.int 0, .int 0, .int 0, .int 0, .int 0, .int 0])), (q3, .inr (1, [.int 0, .int 0, .int 0, .int 0, .int 0, .int 0]))]) rfl d_D_init_33 (fun C => ?_)
  refine v_iinc C (k0 := 0) (v := (2 : Int32)) (lv' := [(1, .int (2 : Int32)), (0, .ref h0)]) d_D_init_34 rfl (by decide) (by decide) rfl ?_
  refine v_goto C (tgt := 15) d_D_init_37 (by decide) ?_
  refine v_iload_n C d_D_init_15 rfl 0 rfl ?_
  refine v_bipush C (v := (8 : Int32)) d_D_init_16 (by decide) ?_
  refine v_icmp_ge C (tgt := 40) d_D_init_18 (by decide) (fun c => absurd c (by decide)) (fun _ => ?_)
  refine v_aload_n C d_D_init_21 rfl 1 rfl ?_
  refine v_get C (ci := 0) ⟨in_D, rfl⟩ 0 rfl 0 (by decide) (C.t tw_212 rfl) rfl d_D_init_22 ?_
  refine v_iload_n C d_D_init_25 rfl 0 rfl ?_
  refine y_new C (ci := 1) ⟨in_A, rfl⟩ ty_A_ok tw_75 tw_77 tw_53 (fs := [.int 0, .int 0, .int 0, .int 0, .int 0, .int 0]) (by intro j hj; match j, hj with | 0, _ => rfl | 1, _ => rfl | 2, _ => rfl | 3, _ => rfl | 4, _ => rfl | 5, _ => rfl) (by decide) (by decide) d_D_init_26 (fun q4 C => ?_)
  refine v_dup C d_D_init_29 rfl ?_
  refine y_go C (wc := [(q4, .inr (1, [.int 0, .int 0, .int 0, .int 0, .int 0, .int 0]))]) (wr := [(h0, .inr (0, [.ref q1, .null, .null, .null, .null, .null, .null, .int 0, .int 0, .int 0, .int 0])), (q1, .inl (ca 2, 8, .inr (.inr (.inr (.inr (fun j => ([q2, q3] : List Nat)[j]?)))))), (q2, .inr (1, [.int 0, .int 0, .int 0, .int 0, .int 0, .int 0])), (q3, .inr (1, [.int 0, .int 0, .int 0, .int 0, .int 0, .int 0]))]) [4] [0, 1, 2, 3] rfl rfl (by decide) (by decide) (by decide) (y_runN C hT hO (c_A_init l D ca q4) tw_80 tw_53 tw_78 tw_79 ⟨rfl, rfl, by decide, by decide⟩ ⟨by decide, by decide, rfl⟩ (rest := [.ref q4, .int (2 : Int32), .ref q1]) (Nat.le_of_ble_eq_true rfl) d_D_init_30 (by decide) (by decide)) (fun u hu C => ?_)
  subst hu
  refine y_astq C 1 2 4 1 rfl rfl rfl rfl (by decide) (f' := fun j => ([q2, q3, q4] : List Nat)[j]?) (yup [q2, q3] q4) (ws' := [(h0, .inr (0, [.ref q1, .null, .null, .null, .null, .null, .null, .int 0, .int 0, .int 0, .int 0])), (q1, .inl (ca 2, 8, .inr (.inr (.inr (.inr (fun j => ([q2, q3, q4] : List Nat)[j]?)))))), (q2, .inr (1, [.int 0, .int 0, .int 0, .int 0, .int 0, .int 0])), (q3, .inr (1, [.int 0, .int 0, .int 0, .int 0, .int 0, .int 0])), (q4, .inr (1, [.int 0, .int 0, .int 0, .int 0, .int 0, .int 0]))]) rfl d_D_init_33 (fun C => ?_)
  refine v_iinc C (k0 := 0) (v := (3 : Int32)) (lv' := [(1, .int (3 : Int32)), (0, .ref h0)]) d_D_init_34 rfl (by decide) (by decide) rfl ?_
  refine v_goto C (tgt := 15) d_D_init_37 (by decide) ?_
  refine v_iload_n C d_D_init_15 rfl 0 rfl ?_
  refine v_bipush C (v := (8 : Int32)) d_D_init_16 (by decide) ?_
  refine v_icmp_ge C (tgt := 40) d_D_init_18 (by decide) (fun c => absurd c (by decide)) (fun _ => ?_)
  refine v_aload_n C d_D_init_21 rfl 1 rfl ?_
  refine v_get C (ci := 0) ⟨in_D, rfl⟩ 0 rfl 0 (by decide) (C.t tw_212 rfl) rfl d_D_init_22 ?_
  refine v_iload_n C d_D_init_25 rfl 0 rfl ?_
  refine y_new C (ci := 1) ⟨in_A, rfl⟩ ty_A_ok tw_75 tw_77 tw_53 (fs := [.int 0, .int 0, .int 0, .int 0, .int 0, .int 0]) (by intro j hj; match j, hj with | 0, _ => rfl | 1, _ => rfl | 2, _ => rfl | 3, _ => rfl | 4, _ => rfl | 5, _ => rfl) (by decide) (by decide) d_D_init_26 (fun q5 C => ?_)
  refine v_dup C d_D_init_29 rfl ?_
  refine y_go C (wc := [(q5, .inr (1, [.int 0, .int 0, .int 0, .int 0, .int 0, .int 0]))]) (wr := [(h0, .inr (0, [.ref q1, .null, .null, .null, .null, .null, .null, .int 0, .int 0, .int 0, .int 0])), (q1, .inl (ca 2, 8, .inr (.inr (.inr (.inr (fun j => ([q2, q3, q4] : List Nat)[j]?)))))), (q2, .inr (1, [.int 0, .int 0, .int 0, .int 0, .int 0, .int 0])), (q3, .inr (1, [.int 0, .int 0, .int 0, .int 0, .int 0, .int 0])), (q4, .inr (1, [.int 0, .int 0, .int 0, .int 0, .int 0, .int 0]))]) [5] [0, 1, 2, 3, 4] rfl rfl (by decide) (by decide) (by decide) (y_runN C hT hO (c_A_init l D ca q5) tw_80 tw_53 tw_78 tw_79 ⟨rfl, rfl, by decide, by decide⟩ ⟨by decide, by decide, rfl⟩ (rest := [.ref q5, .int (3 : Int32), .ref q1]) (Nat.le_of_ble_eq_true rfl) d_D_init_30 (by decide) (by decide)) (fun u hu C => ?_)
  subst hu
  refine y_astq C 1 2 5 1 rfl rfl rfl rfl (by decide) (f' := fun j => ([q2, q3, q4, q5] : List Nat)[j]?) (yup [q2, q3, q4] q5) (ws' := [(h0, .inr (0, [.ref q1, .null, .null, .null, .null, .null, .null, .int 0, .int 0, .int 0, .int 0])), (q1, .inl (ca 2, 8, .inr (.inr (.inr (.inr (fun j => ([q2, q3, q4, q5] : List Nat)[j]?)))))), (q2, .inr (1, [.int 0, .int 0, .int 0, .int 0, .int 0, .int 0])), (q3, .inr (1, [.int 0, .int 0, .int 0, .int 0, .int 0, .int 0])), (q4, .inr (1, [.int 0, .int 0, .int 0, .int 0, .int 0, .int 0])), (q5, .inr (1, [.int 0, .int 0, .int 0, .int 0, .int 0, .int 0]))]) rfl d_D_init_33 (fun C => ?_)
  refine v_iinc C (k0 := 0) (v := (4 : Int32)) (lv' := [(1, .int (4 : Int32)), (0, .ref h0)]) d_D_init_34 rfl (by decide) (by decide) rfl ?_
  refine v_goto C (tgt := 15) d_D_init_37 (by decide) ?_
  refine v_iload_n C d_D_init_15 rfl 0 rfl ?_
  refine v_bipush C (v := (8 : Int32)) d_D_init_16 (by decide) ?_
  refine v_icmp_ge C (tgt := 40) d_D_init_18 (by decide) (fun c => absurd c (by decide)) (fun _ => ?_)
  refine v_aload_n C d_D_init_21 rfl 1 rfl ?_
  refine v_get C (ci := 0) ⟨in_D, rfl⟩ 0 rfl 0 (by decide) (C.t tw_212 rfl) rfl d_D_init_22 ?_
  refine v_iload_n C d_D_init_25 rfl 0 rfl ?_
  refine y_new C (ci := 1) ⟨in_A, rfl⟩ ty_A_ok tw_75 tw_77 tw_53 (fs := [.int 0, .int 0, .int 0, .int 0, .int 0, .int 0]) (by intro j hj; match j, hj with | 0, _ => rfl | 1, _ => rfl | 2, _ => rfl | 3, _ => rfl | 4, _ => rfl | 5, _ => rfl) (by decide) (by decide) d_D_init_26 (fun q6 C => ?_)
  refine v_dup C d_D_init_29 rfl ?_
  refine y_go C (wc := [(q6, .inr (1, [.int 0, .int 0, .int 0, .int 0, .int 0, .int 0]))]) (wr := [(h0, .inr (0, [.ref q1, .null, .null, .null, .null, .null, .null, .int 0, .int 0, .int 0, .int 0])), (q1, .inl (ca 2, 8, .inr (.inr (.inr (.inr (fun j => ([q2, q3, q4, q5] : List Nat)[j]?)))))), (q2, .inr (1, [.int 0, .int 0, .int 0, .int 0, .int 0, .int 0])), (q3, .inr (1, [.int 0, .int 0, .int 0, .int 0, .int 0, .int 0])), (q4, .inr (1, [.int 0, .int 0, .int 0, .int 0, .int 0, .int 0])), (q5, .inr (1, [.int 0, .int 0, .int 0, .int 0, .int 0, .int 0]))]) [6] [0, 1, 2, 3, 4, 5] rfl rfl (by decide) (by decide) (by decide) (y_runN C hT hO (c_A_init l D ca q6) tw_80 tw_53 tw_78 tw_79 ⟨rfl, rfl, by decide, by decide⟩ ⟨by decide, by decide, rfl⟩ (rest := [.ref q6, .int (4 : Int32), .ref q1]) (Nat.le_of_ble_eq_true rfl) d_D_init_30 (by decide) (by decide)) (fun u hu C => ?_)
  subst hu
  refine y_astq C 1 2 6 1 rfl rfl rfl rfl (by decide) (f' := fun j => ([q2, q3, q4, q5, q6] : List Nat)[j]?) (yup [q2, q3, q4, q5] q6) (ws' := [(h0, .inr (0, [.ref q1, .null, .null, .null, .null, .null, .null, .int 0, .int 0, .int 0, .int 0])), (q1, .inl (ca 2, 8, .inr (.inr (.inr (.inr (fun j => ([q2, q3, q4, q5, q6] : List Nat)[j]?)))))), (q2, .inr (1, [.int 0, .int 0, .int 0, .int 0, .int 0, .int 0])), (q3, .inr (1, [.int 0, .int 0, .int 0, .int 0, .int 0, .int 0])), (q4, .inr (1, [.int 0, .int 0, .int 0, .int 0, .int 0, .int 0])), (q5, .inr (1, [.int 0, .int 0, .int 0, .int 0, .int 0, .int 0])), (q6, .inr (1, [.int 0, .int 0, .int 0, .int 0, .int 0, .int 0]))]) rfl d_D_init_33 (fun C => ?_)
  refine v_iinc C (k0 := 0) (v := (5 : Int32)) (lv' := [(1, .int (5 : Int32)), (0, .ref h0)]) d_D_init_34 rfl (by decide) (by decide) rfl ?_
  refine v_goto C (tgt := 15) d_D_init_37 (by decide) ?_
  refine v_iload_n C d_D_init_15 rfl 0 rfl ?_
  refine v_bipush C (v := (8 : Int32)) d_D_init_16 (by decide) ?_
  refine v_icmp_ge C (tgt := 40) d_D_init_18 (by decide) (fun c => absurd c (by decide)) (fun _ => ?_)
  refine v_aload_n C d_D_init_21 rfl 1 rfl ?_
  refine v_get C (ci := 0) ⟨in_D, rfl⟩ 0 rfl 0 (by decide) (C.t tw_212 rfl) rfl d_D_init_22 ?_
  refine v_iload_n C d_D_init_25 rfl 0 rfl ?_
  refine y_new C (ci := 1) ⟨in_A, rfl⟩ ty_A_ok tw_75 tw_77 tw_53 (fs := [.int 0, .int 0, .int 0, .int 0, .int 0, .int 0]) (by intro j hj; match j, hj with | 0, _ => rfl | 1, _ => rfl | 2, _ => rfl | 3, _ => rfl | 4, _ => rfl | 5, _ => rfl) (by decide) (by decide) d_D_init_26 (fun q7 C => ?_)
  refine v_dup C d_D_init_29 rfl ?_
  refine y_go C (wc := [(q7, .inr (1, [.int 0, .int 0, .int 0, .int 0, .int 0, .int 0]))]) (wr := [(h0, .inr (0, [.ref q1, .null, .null, .null, .null, .null, .null, .int 0, .int 0, .int 0, .int 0])), (q1, .inl (ca 2, 8, .inr (.inr (.inr (.inr (fun j => ([q2, q3, q4, q5, q6] : List Nat)[j]?)))))), (q2, .inr (1, [.int 0, .int 0, .int 0, .int 0, .int 0, .int 0])), (q3, .inr (1, [.int 0, .int 0, .int 0, .int 0, .int 0, .int 0])), (q4, .inr (1, [.int 0, .int 0, .int 0, .int 0, .int 0, .int 0])), (q5, .inr (1, [.int 0, .int 0, .int 0, .int 0, .int 0, .int 0])), (q6, .inr (1, [.int 0, .int 0, .int 0, .int 0, .int 0, .int 0]))]) [7] [0, 1, 2, 3, 4, 5, 6] rfl rfl (by decide) (by decide) (by decide) (y_runN C hT hO (c_A_init l D ca q7) tw_80 tw_53 tw_78 tw_79 ⟨rfl, rfl, by decide, by decide⟩ ⟨by decide, by decide, rfl⟩ (rest := [.ref q7, .int (5 : Int32), .ref q1]) (Nat.le_of_ble_eq_true rfl) d_D_init_30 (by decide) (by decide)) (fun u hu C => ?_)
  subst hu
  refine y_astq C 1 2 7 1 rfl rfl rfl rfl (by decide) (f' := fun j => ([q2, q3, q4, q5, q6, q7] : List Nat)[j]?) (yup [q2, q3, q4, q5, q6] q7) (ws' := [(h0, .inr (0, [.ref q1, .null, .null, .null, .null, .null, .null, .int 0, .int 0, .int 0, .int 0])), (q1, .inl (ca 2, 8, .inr (.inr (.inr (.inr (fun j => ([q2, q3, q4, q5, q6, q7] : List Nat)[j]?)))))), (q2, .inr (1, [.int 0, .int 0, .int 0, .int 0, .int 0, .int 0])), (q3, .inr (1, [.int 0, .int 0, .int 0, .int 0, .int 0, .int 0])), (q4, .inr (1, [.int 0, .int 0, .int 0, .int 0, .int 0, .int 0])), (q5, .inr (1, [.int 0, .int 0, .int 0, .int 0, .int 0, .int 0])), (q6, .inr (1, [.int 0, .int 0, .int 0, .int 0, .int 0, .int 0])), (q7, .inr (1, [.int 0, .int 0, .int 0, .int 0, .int 0, .int 0]))]) rfl d_D_init_33 (fun C => ?_)
  refine v_iinc C (k0 := 0) (v := (6 : Int32)) (lv' := [(1, .int (6 : Int32)), (0, .ref h0)]) d_D_init_34 rfl (by decide) (by decide) rfl ?_
  refine v_goto C (tgt := 15) d_D_init_37 (by decide) ?_
  refine v_iload_n C d_D_init_15 rfl 0 rfl ?_
  refine v_bipush C (v := (8 : Int32)) d_D_init_16 (by decide) ?_
  refine v_icmp_ge C (tgt := 40) d_D_init_18 (by decide) (fun c => absurd c (by decide)) (fun _ => ?_)
  refine v_aload_n C d_D_init_21 rfl 1 rfl ?_
  refine v_get C (ci := 0) ⟨in_D, rfl⟩ 0 rfl 0 (by decide) (C.t tw_212 rfl) rfl d_D_init_22 ?_
  refine v_iload_n C d_D_init_25 rfl 0 rfl ?_
  refine y_new C (ci := 1) ⟨in_A, rfl⟩ ty_A_ok tw_75 tw_77 tw_53 (fs := [.int 0, .int 0, .int 0, .int 0, .int 0, .int 0]) (by intro j hj; match j, hj with | 0, _ => rfl | 1, _ => rfl | 2, _ => rfl | 3, _ => rfl | 4, _ => rfl | 5, _ => rfl) (by decide) (by decide) d_D_init_26 (fun q8 C => ?_)
  refine v_dup C d_D_init_29 rfl ?_
  refine y_go C (wc := [(q8, .inr (1, [.int 0, .int 0, .int 0, .int 0, .int 0, .int 0]))]) (wr := [(h0, .inr (0, [.ref q1, .null, .null, .null, .null, .null, .null, .int 0, .int 0, .int 0, .int 0])), (q1, .inl (ca 2, 8, .inr (.inr (.inr (.inr (fun j => ([q2, q3, q4, q5, q6, q7] : List Nat)[j]?)))))), (q2, .inr (1, [.int 0, .int 0, .int 0, .int 0, .int 0, .int 0])), (q3, .inr (1, [.int 0, .int 0, .int 0, .int 0, .int 0, .int 0])), (q4, .inr (1, [.int 0, .int 0, .int 0, .int 0, .int 0, .int 0])), (q5, .inr (1, [.int 0, .int 0, .int 0, .int 0, .int 0, .int 0])), (q6, .inr (1, [.int 0, .int 0, .int 0, .int 0, .int 0, .int 0])), (q7, .inr (1, [.int 0, .int 0, .int 0, .int 0, .int 0, .int 0]))]) [8] [0, 1, 2, 3, 4, 5, 6, 7] rfl rfl (by decide) (by decide) (by decide) (y_runN C hT hO (c_A_init l D ca q8) tw_80 tw_53 tw_78 tw_79 ⟨rfl, rfl, by decide, by decide⟩ ⟨by decide, by decide, rfl⟩ (rest := [.ref q8, .int (6 : Int32), .ref q1]) (Nat.le_of_ble_eq_true rfl) d_D_init_30 (by decide) (by decide)) (fun u hu C => ?_)
  subst hu
  refine y_astq C 1 2 8 1 rfl rfl rfl rfl (by decide) (f' := fun j => ([q2, q3, q4, q5, q6, q7, q8] : List Nat)[j]?) (yup [q2, q3, q4, q5, q6, q7] q8) (ws' := [(h0, .inr (0, [.ref q1, .null, .null, .null, .null, .null, .null, .int 0, .int 0, .int 0, .int 0])), (q1, .inl (ca 2, 8, .inr (.inr (.inr (.inr (fun j => ([q2, q3, q4, q5, q6, q7, q8] : List Nat)[j]?)))))), (q2, .inr (1, [.int 0, .int 0, .int 0, .int 0, .int 0, .int 0])), (q3, .inr (1, [.int 0, .int 0, .int 0, .int 0, .int 0, .int 0])), (q4, .inr (1, [.int 0, .int 0, .int 0, .int 0, .int 0, .int 0])), (q5, .inr (1, [.int 0, .int 0, .int 0, .int 0, .int 0, .int 0])), (q6, .inr (1, [.int 0, .int 0, .int 0, .int 0, .int 0, .int 0])), (q7, .inr (1, [.int 0, .int 0, .int 0, .int 0, .int 0, .int 0])), (q8, .inr (1, [.int 0, .int 0, .int 0, .int 0, .int 0, .int 0]))]) rfl d_D_init_33 (fun C => ?_)
  refine v_iinc C (k0 := 0) (v := (7 : Int32)) (lv' := [(1, .int (7 : Int32)), (0, .ref h0)]) d_D_init_34 rfl (by decide) (by decide) rfl ?_
  refine v_goto C (tgt := 15) d_D_init_37 (by decide) ?_
  refine v_iload_n C d_D_init_15 rfl 0 rfl ?_
  refine v_bipush C (v := (8 : Int32)) d_D_init_16 (by decide) ?_
  refine v_icmp_ge C (tgt := 40) d_D_init_18 (by decide) (fun c => absurd c (by decide)) (fun _ => ?_)
  refine v_aload_n C d_D_init_21 rfl 1 rfl ?_
  refine v_get C (ci := 0) ⟨in_D, rfl⟩ 0 rfl 0 (by decide) (C.t tw_212 rfl) rfl d_D_init_22 ?_
  refine v_iload_n C d_D_init_25 rfl 0 rfl ?_
  refine y_new C (ci := 1) ⟨in_A, rfl⟩ ty_A_ok tw_75 tw_77 tw_53 (fs := [.int 0, .int 0, .int 0, .int 0, .int 0, .int 0]) (by intro j hj; match j, hj with | 0, _ => rfl | 1, _ => rfl | 2, _ => rfl | 3, _ => rfl | 4, _ => rfl | 5, _ => rfl) (by decide) (by decide) d_D_init_26 (fun q9 C => ?_)
  refine v_dup C d_D_init_29 rfl ?_
  refine y_go C (wc := [(q9, .inr (1, [.int 0, .int 0, .int 0, .int 0, .int 0, .int 0]))]) (wr := [(h0, .inr (0, [.ref q1, .null, .null, .null, .null, .null, .null, .int 0, .int 0, .int 0, .int 0])), (q1, .inl (ca 2, 8, .inr (.inr (.inr (.inr (fun j => ([q2, q3, q4, q5, q6, q7, q8] : List Nat)[j]?)))))), (q2, .inr (1, [.int 0, .int 0, .int 0, .int 0, .int 0, .int 0])), (q3, .inr (1, [.int 0, .int 0, .int 0, .int 0, .int 0, .int 0])), (q4, .inr (1, [.int 0, .int 0, .int 0, .int 0, .int 0, .int 0])), (q5, .inr (1, [.int 0, .int 0, .int 0, .int 0, .int 0, .int 0])), (q6, .inr (1, [.int 0, .int 0, .int 0, .int 0, .int 0, .int 0])), (q7, .inr (1, [.int 0, .int 0, .int 0, .int 0, .int 0, .int 0])), (q8, .inr (1, [.int 0, .int 0, .int 0, .int 0, .int 0, .int 0]))]) [9] [0, 1, 2, 3, 4, 5, 6, 7, 8] rfl rfl (by decide) (by decide) (by decide) (y_runN C hT hO (c_A_init l D ca q9) tw_80 tw_53 tw_78 tw_79 ⟨rfl, rfl, by decide, by decide⟩ ⟨by decide, by decide, rfl⟩ (rest := [.ref q9, .int (7 : Int32), .ref q1]) (Nat.le_of_ble_eq_true rfl) d_D_init_30 (by decide) (by decide)) (fun u hu C => ?_)
  subst hu
  refine y_astq C 1 2 9 1 rfl rfl rfl rfl (by decide) (f' := fun j => ([q2, q3, q4, q5, q6, q7, q8, q9] : List Nat)[j]?) (yup [q2, q3, q4, q5, q6, q7, q8] q9) (ws' := [(h0, .inr (0, [.ref q1, .null, .null, .null, .null, .null, .null, .int 0, .int 0, .int 0, .int 0])), (q1, .inl (ca 2, 8, .inr (.inr (.inr (.inr (fun j => ([q2, q3, q4, q5, q6, q7, q8, q9] : List Nat)[j]?)))))), (q2, .inr (1, [.int 0, .int 0, .int 0, .int 0, .int 0, .int 0])), (q3, .inr (1, [.int 0, .int 0, .int 0, .int 0, .int 0, .int 0])), (q4, .inr (1, [.int 0, .int 0, .int 0, .int 0, .int 0, .int 0])), (q5, .inr (1, [.int 0, .int 0, .int 0, .int 0, .int 0, .int 0])), (q6, .inr (1, [.int 0, .int 0, .int 0, .int 0, .int 0, .int 0])), (q7, .inr (1, [.int 0, .int 0, .int 0, .int 0, .int 0, .int 0])), (q8, .inr (1, [.int 0, .int 0, .int 0, .int 0, .int 0, .int 0])), (q9, .inr (1, [.int 0, .int 0, .int 0, .int 0, .int 0, .int 0]))]) rfl d_D_init_33 (fun C => ?_)
  refine v_iinc C (k0 := 0) (v := (8 : Int32)) (lv' := [(1, .int (8 : Int32)), (0, .ref h0)]) d_D_init_34 rfl (by decide) (by decide) rfl ?_
  refine v_goto C (tgt := 15) d_D_init_37 (by decide) ?_
  refine v_iload_n C d_D_init_15 rfl 0 rfl ?_
  refine v_bipush C (v := (8 : Int32)) d_D_init_16 (by decide) ?_
  refine v_icmp_ge C (tgt := 40) d_D_init_18 (by decide) (fun _ => ?_) (fun c => absurd (by decide) c)
  refine v_aload_n C d_D_init_40 rfl 1 rfl ?_
  refine v_bipush C (v := (8 : Int32)) d_D_init_41 (by decide) ?_
  refine y_newq C (t0 := 3) hO.2 tw_106 rfl (N' := 8) (by decide) (by decide) (by decide) (by decide) (by decide) d_D_init_43 (fun q10 C => ?_)
  refine y_putF C hin (ci := 0) ⟨in_D, rfl⟩ ⟨ty_D_ok, nm_D⟩ 0 rfl 1 (by decide) tw_213 rfl rfl (ty := .array (.object "CrossDock$Order")) (by decide +kernel) rfl rfl (Nat.le_of_ble_eq_true rfl) (ws' := [(h0, .inr (0, [.ref q1, .ref q10, .null, .null, .null, .null, .null, .int 0, .int 0, .int 0, .int 0])), (q1, .inl (ca 2, 8, .inr (.inr (.inr (.inr (fun j => ([q2, q3, q4, q5, q6, q7, q8, q9] : List Nat)[j]?)))))), (q2, .inr (1, [.int 0, .int 0, .int 0, .int 0, .int 0, .int 0])), (q3, .inr (1, [.int 0, .int 0, .int 0, .int 0, .int 0, .int 0])), (q4, .inr (1, [.int 0, .int 0, .int 0, .int 0, .int 0, .int 0])), (q5, .inr (1, [.int 0, .int 0, .int 0, .int 0, .int 0, .int 0])), (q6, .inr (1, [.int 0, .int 0, .int 0, .int 0, .int 0, .int 0])), (q7, .inr (1, [.int 0, .int 0, .int 0, .int 0, .int 0, .int 0])), (q8, .inr (1, [.int 0, .int 0, .int 0, .int 0, .int 0, .int 0])), (q9, .inr (1, [.int 0, .int 0, .int 0, .int 0, .int 0, .int 0])), (q10, .inl (ca 3, 8, .inr (.inr (.inr (.inr (fun _ => none))))))]) rfl d_D_init_46 (fun C => ?_)
  refine v_iconst C (v := (0 : Int32)) d_D_init_49 (by decide) ?_
  refine v_istore_n C (lv' := [(1, .int (0 : Int32)), (0, .ref h0)]) d_D_init_50 rfl (by decide) rfl ?_
  refine v_iload_n C d_D_init_51 rfl 0 rfl ?_
  refine v_bipush C (v := (8 : Int32)) d_D_init_52 (by decide) ?_
  refine v_icmp_ge C (tgt := 76) d_D_init_54 (by decide) (fun c => absurd c (by decide)) (fun _ => ?_)
  refine v_aload_n C d_D_init_57 rfl 1 rfl ?_
  refine v_get C (ci := 0) ⟨in_D, rfl⟩ 0 rfl 1 (by decide) (C.t tw_213 rfl) rfl d_D_init_58 ?_
  refine v_iload_n C d_D_init_61 rfl 0 rfl ?_
  refine y_new C (ci := 2) ⟨in_O, rfl⟩ ty_O_ok tw_106 tw_108 tw_54 (fs := [.int 0, .int 0, .int 0, .int 0, .int 0, .int 0]) (by intro j hj; match j, hj with | 0, _ => rfl | 1, _ => rfl | 2, _ => rfl | 3, _ => rfl | 4, _ => rfl | 5, _ => rfl) (by decide) (by decide) d_D_init_62 (fun q11 C => ?_)
  refine v_dup C d_D_init_65 rfl ?_
  refine y_go C (wc := [(q11, .inr (2, [.int 0, .int 0, .int 0, .int 0, .int 0, .int 0]))]) (wr := [(h0, .inr (0, [.ref q1, .ref q10, .null, .null, .null, .null, .null, .int 0, .int 0, .int 0, .int 0])), (q1, .inl (ca 2, 8, .inr (.inr (.inr (.inr (fun j => ([q2, q3, q4, q5, q6, q7, q8, q9] : List Nat)[j]?)))))), (q2, .inr (1, [.int 0, .int 0, .int 0, .int 0, .int 0, .int 0])), (q3, .inr (1, [.int 0, .int 0, .int 0, .int 0, .int 0, .int 0])), (q4, .inr (1, [.int 0, .int 0, .int 0, .int 0, .int 0, .int 0])), (q5, .inr (1, [.int 0, .int 0, .int 0, .int 0, .int 0, .int 0])), (q6, .inr (1, [.int 0, .int 0, .int 0, .int 0, .int 0, .int 0])), (q7, .inr (1, [.int 0, .int 0, .int 0, .int 0, .int 0, .int 0])), (q8, .inr (1, [.int 0, .int 0, .int 0, .int 0, .int 0, .int 0])), (q9, .inr (1, [.int 0, .int 0, .int 0, .int 0, .int 0, .int 0])), (q10, .inl (ca 3, 8, .inr (.inr (.inr (.inr (fun _ => none))))))]) [11] [0, 1, 2, 3, 4, 5, 6, 7, 8, 9, 10] rfl rfl (by decide) (by decide) (by decide) (y_runN C hT hO (c_O_init l D ca q11) tw_111 tw_54 tw_109 tw_110 ⟨rfl, rfl, by decide, by decide⟩ ⟨by decide, by decide, rfl⟩ (rest := [.ref q11, .int (0 : Int32), .ref q10]) (Nat.le_of_ble_eq_true rfl) d_D_init_66 (by decide) (by decide)) (fun u hu C => ?_)
  subst hu
  refine y_astq C 10 3 11 2 rfl rfl rfl rfl (by decide) (f' := fun j => ([q11] : List Nat)[j]?) (yup0 q11) (ws' := [(h0, .inr (0, [.ref q1, .ref q10, .null, .null, .null, .null, .null, .int 0, .int 0, .int 0, .int 0])), (q1, .inl (ca 2, 8, .inr (.inr (.inr (.inr (fun j => ([q2, q3, q4, q5, q6, q7, q8, q9] : List Nat)[j]?)))))), (q2, .inr (1, [.int 0, .int 0, .int 0, .int 0, .int 0, .int 0])), (q3, .inr (1, [.int 0, .int 0, .int 0, .int 0, .int 0, .int 0])), (q4, .inr (1, [.int 0, .int 0, .int 0, .int 0, .int 0, .int 0])), (q5, .inr (1, [.int 0, .int 0, .int 0, .int 0, .int 0, .int 0])), (q6, .inr (1, [.int 0, .int 0, .int 0, .int 0, .int 0, .int 0])), (q7, .inr (1, [.int 0, .int 0, .int 0, .int 0, .int 0, .int 0])), (q8, .inr (1, [.int 0, .int 0, .int 0, .int 0, .int 0, .int 0])), (q9, .inr (1, [.int 0, .int 0, .int 0, .int 0, .int 0, .int 0])), (q10, .inl (ca 3, 8, .inr (.inr (.inr (.inr (fun j => ([q11] : List Nat)[j]?)))))), (q11, .inr (2, [.int 0, .int 0, .int 0, .int 0, .int 0, .int 0]))]) rfl d_D_init_69 (fun C => ?_)
  refine v_iinc C (k0 := 0) (v := (1 : Int32)) (lv' := [(1, .int (1 : Int32)), (0, .ref h0)]) d_D_init_70 rfl (by decide) (by decide) rfl ?_
  refine v_goto C (tgt := 51) d_D_init_73 (by decide) ?_
  refine v_iload_n C d_D_init_51 rfl 0 rfl ?_
  refine v_bipush C (v := (8 : Int32)) d_D_init_52 (by decide) ?_
  refine v_icmp_ge C (tgt := 76) d_D_init_54 (by decide) (fun c => absurd c (by decide)) (fun _ => ?_)
  refine v_aload_n C d_D_init_57 rfl 1 rfl ?_
  refine v_get C (ci := 0) ⟨in_D, rfl⟩ 0 rfl 1 (by decide) (C.t tw_213 rfl) rfl d_D_init_58 ?_
  refine v_iload_n C d_D_init_61 rfl 0 rfl ?_
  refine y_new C (ci := 2) ⟨in_O, rfl⟩ ty_O_ok tw_106 tw_108 tw_54 (fs := [.int 0, .int 0, .int 0, .int 0, .int 0, .int 0]) (by intro j hj; match j, hj with | 0, _ => rfl | 1, _ => rfl | 2, _ => rfl | 3, _ => rfl | 4, _ => rfl | 5, _ => rfl) (by decide) (by decide) d_D_init_62 (fun q12 C => ?_)
  refine v_dup C d_D_init_65 rfl ?_
  refine y_go C (wc := [(q12, .inr (2, [.int 0, .int 0, .int 0, .int 0, .int 0, .int 0]))]) (wr := [(h0, .inr (0, [.ref q1, .ref q10, .null, .null, .null, .null, .null, .int 0, .int 0, .int 0, .int 0])), (q1, .inl (ca 2, 8, .inr (.inr (.inr (.inr (fun j => ([q2, q3, q4, q5, q6, q7, q8, q9] : List Nat)[j]?)))))), (q2, .inr (1, [.int 0, .int 0, .int 0, .int 0, .int 0, .int 0])), (q3, .inr (1, [.int 0, .int 0, .int 0, .int 0, .int 0, .int 0])), (q4, .inr (1, [.int 0, .int 0, .int 0, .int 0, .int 0, .int 0])), (q5, .inr (1, [.int 0, .int 0, .int 0, .int 0, .int 0, .int 0])), (q6, .inr (1, [.int 0, .int 0, .int 0, .int 0, .int 0, .int 0])), (q7, .inr (1, [.int 0, .int 0, .int 0, .int 0, .int 0, .int 0])), (q8, .inr (1, [.int 0, .int 0, .int 0, .int 0, .int 0, .int 0])), (q9, .inr (1, [.int 0, .int 0, .int 0, .int 0, .int 0, .int 0])), (q10, .inl (ca 3, 8, .inr (.inr (.inr (.inr (fun j => ([q11] : List Nat)[j]?)))))), (q11, .inr (2, [.int 0, .int 0, .int 0, .int 0, .int 0, .int 0]))]) [12] [0, 1, 2, 3, 4, 5, 6, 7, 8, 9, 10, 11] rfl rfl (by decide) (by decide) (by decide) (y_runN C hT hO (c_O_init l D ca q12) tw_111 tw_54 tw_109 tw_110 ⟨rfl, rfl, by decide, by decide⟩ ⟨by decide, by decide, rfl⟩ (rest := [.ref q12, .int (1 : Int32), .ref q10]) (Nat.le_of_ble_eq_true rfl) d_D_init_66 (by decide) (by decide)) (fun u hu C => ?_)
  subst hu
  refine y_astq C 10 3 12 2 rfl rfl rfl rfl (by decide) (f' := fun j => ([q11, q12] : List Nat)[j]?) (yup [q11] q12) (ws' := [(h0, .inr (0, [.ref q1, .ref q10, .null, .null, .null, .null, .null, .int 0, .int 0, .int 0, .int 0])), (q1, .inl (ca 2, 8, .inr (.inr (.inr (.inr (fun j => ([q2, q3, q4, q5, q6, q7, q8, q9] : List Nat)[j]?)))))), (q2, .inr (1, [.int 0, .int 0, .int 0, .int 0, .int 0, .int 0])), (q3, .inr (1, [.int 0, .int 0, .int 0, .int 0, .int 0, .int 0])), (q4, .inr (1, [.int 0, .int 0, .int 0, .int 0, .int 0, .int 0])), (q5, .inr (1, [.int 0, .int 0, .int 0, .int 0, .int 0, .int 0])), (q6, .inr (1, [.int 0, .int 0, .int 0, .int 0, .int 0, .int 0])), (q7, .inr (1, [.int 0, .int 0, .int 0, .int 0, .int 0, .int 0])), (q8, .inr (1, [.int 0, .int 0, .int 0, .int 0, .int 0, .int 0])), (q9, .inr (1, [.int 0, .int 0, .int 0, .int 0, .int 0, .int 0])), (q10, .inl (ca 3, 8, .inr (.inr (.inr (.inr (fun j => ([q11, q12] : List Nat)[j]?)))))), (q11, .inr (2, [.int 0, .int 0, .int 0, .int 0, .int 0, .int 0])), (q12, .inr (2, [.int 0, .int 0, .int 0, .int 0, .int 0, .int 0]))]) rfl d_D_init_69 (fun C => ?_)
  refine v_iinc C (k0 := 0) (v := (2 : Int32)) (lv' := [(1, .int (2 : Int32)), (0, .ref h0)]) d_D_init_70 rfl (by decide) (by decide) rfl ?_
  refine v_goto C (tgt := 51) d_D_init_73 (by decide) ?_
  refine v_iload_n C d_D_init_51 rfl 0 rfl ?_
  refine v_bipush C (v := (8 : Int32)) d_D_init_52 (by decide) ?_
  refine v_icmp_ge C (tgt := 76) d_D_init_54 (by decide) (fun c => absurd c (by decide)) (fun _ => ?_)
  refine v_aload_n C d_D_init_57 rfl 1 rfl ?_
  refine v_get C (ci := 0) ⟨in_D, rfl⟩ 0 rfl 1 (by decide) (C.t tw_213 rfl) rfl d_D_init_58 ?_
  refine v_iload_n C d_D_init_61 rfl 0 rfl ?_
  refine y_new C (ci := 2) ⟨in_O, rfl⟩ ty_O_ok tw_106 tw_108 tw_54 (fs := [.int 0, .int 0, .int 0, .int 0, .int 0, .int 0]) (by intro j hj; match j, hj with | 0, _ => rfl | 1, _ => rfl | 2, _ => rfl | 3, _ => rfl | 4, _ => rfl | 5, _ => rfl) (by decide) (by decide) d_D_init_62 (fun q13 C => ?_)
  refine v_dup C d_D_init_65 rfl ?_
  refine y_go C (wc := [(q13, .inr (2, [.int 0, .int 0, .int 0, .int 0, .int 0, .int 0]))]) (wr := [(h0, .inr (0, [.ref q1, .ref q10, .null, .null, .null, .null, .null, .int 0, .int 0, .int 0, .int 0])), (q1, .inl (ca 2, 8, .inr (.inr (.inr (.inr (fun j => ([q2, q3, q4, q5, q6, q7, q8, q9] : List Nat)[j]?)))))), (q2, .inr (1, [.int 0, .int 0, .int 0, .int 0, .int 0, .int 0])), (q3, .inr (1, [.int 0, .int 0, .int 0, .int 0, .int 0, .int 0])), (q4, .inr (1, [.int 0, .int 0, .int 0, .int 0, .int 0, .int 0])), (q5, .inr (1, [.int 0, .int 0, .int 0, .int 0, .int 0, .int 0])), (q6, .inr (1, [.int 0, .int 0, .int 0, .int 0, .int 0, .int 0])), (q7, .inr (1, [.int 0, .int 0, .int 0, .int 0, .int 0, .int 0])), (q8, .inr (1, [.int 0, .int 0, .int 0, .int 0, .int 0, .int 0])), (q9, .inr (1, [.int 0, .int 0, .int 0, .int 0, .int 0, .int 0])), (q10, .inl (ca 3, 8, .inr (.inr (.inr (.inr (fun j => ([q11, q12] : List Nat)[j]?)))))), (q11, .inr (2, [.int 0, .int 0, .int 0, .int 0, .int 0, .int 0])), (q12, .inr (2, [.int 0, .int 0, .int 0, .int 0, .int 0, .int 0]))]) [13] [0, 1, 2, 3, 4, 5, 6, 7, 8, 9, 10, 11, 12] rfl rfl (by decide) (by decide) (by decide) (y_runN C hT hO (c_O_init l D ca q13) tw_111 tw_54 tw_109 tw_110 ⟨rfl, rfl, by decide, by decide⟩ ⟨by decide, by decide, rfl⟩ (rest := [.ref q13, .int (2 : Int32), .ref q10]) (Nat.le_of_ble_eq_true rfl) d_D_init_66 (by decide) (by decide)) (fun u hu C => ?_)
  subst hu
  refine y_astq C 10 3 13 2 rfl rfl rfl rfl (by decide) (f' := fun j => ([q11, q12, q13] : List Nat)[j]?) (yup [q11, q12] q13) (ws' := [(h0, .inr (0, [.ref q1, .ref q10, .null, .null, .null, .null, .null, .int 0, .int 0, .int 0, .int 0])), (q1, .inl (ca 2, 8, .inr (.inr (.inr (.inr (fun j => ([q2, q3, q4, q5, q6, q7, q8, q9] : List Nat)[j]?)))))), (q2, .inr (1, [.int 0, .int 0, .int 0, .int 0, .int 0, .int 0])), (q3, .inr (1, [.int 0, .int 0, .int 0, .int 0, .int 0, .int 0])), (q4, .inr (1, [.int 0, .int 0, .int 0, .int 0, .int 0, .int 0])), (q5, .inr (1, [.int 0, .int 0, .int 0, .int 0, .int 0, .int 0])), (q6, .inr (1, [.int 0, .int 0, .int 0, .int 0, .int 0, .int 0])), (q7, .inr (1, [.int 0, .int 0, .int 0, .int 0, .int 0, .int 0])), (q8, .inr (1, [.int 0, .int 0, .int 0, .int 0, .int 0, .int 0])), (q9, .inr (1, [.int 0, .int 0, .int 0, .int 0, .int 0, .int 0])), (q10, .inl (ca 3, 8, .inr (.inr (.inr (.inr (fun j => ([q11, q12, q13] : List Nat)[j]?)))))), (q11, .inr (2, [.int 0, .int 0, .int 0, .int 0, .int 0, .int 0])), (q12, .inr (2, [.int 0, .int 0, .int 0, .int 0, .int 0, .int 0])), (q13, .inr (2, [.int 0, .int 0, .int 0, .int 0, .int 0, .int 0]))]) rfl d_D_init_69 (fun C => ?_)
  refine v_iinc C (k0 := 0) (v := (3 : Int32)) (lv' := [(1, .int (3 : Int32)), (0, .ref h0)]) d_D_init_70 rfl (by decide) (by decide) rfl ?_
  refine v_goto C (tgt := 51) d_D_init_73 (by decide) ?_
  refine v_iload_n C d_D_init_51 rfl 0 rfl ?_
  refine v_bipush C (v := (8 : Int32)) d_D_init_52 (by decide) ?_
  refine v_icmp_ge C (tgt := 76) d_D_init_54 (by decide) (fun c => absurd c (by decide)) (fun _ => ?_)
  refine v_aload_n C d_D_init_57 rfl 1 rfl ?_
  refine v_get C (ci := 0) ⟨in_D, rfl⟩ 0 rfl 1 (by decide) (C.t tw_213 rfl) rfl d_D_init_58 ?_
  refine v_iload_n C d_D_init_61 rfl 0 rfl ?_
  refine y_new C (ci := 2) ⟨in_O, rfl⟩ ty_O_ok tw_106 tw_108 tw_54 (fs := [.int 0, .int 0, .int 0, .int 0, .int 0, .int 0]) (by intro j hj; match j, hj with | 0, _ => rfl | 1, _ => rfl | 2, _ => rfl | 3, _ => rfl | 4, _ => rfl | 5, _ => rfl) (by decide) (by decide) d_D_init_62 (fun q14 C => ?_)
  refine v_dup C d_D_init_65 rfl ?_
  refine y_go C (wc := [(q14, .inr (2, [.int 0, .int 0, .int 0, .int 0, .int 0, .int 0]))]) (wr := [(h0, .inr (0, [.ref q1, .ref q10, .null, .null, .null, .null, .null, .int 0, .int 0, .int 0, .int 0])), (q1, .inl (ca 2, 8, .inr (.inr (.inr (.inr (fun j => ([q2, q3, q4, q5, q6, q7, q8, q9] : List Nat)[j]?)))))), (q2, .inr (1, [.int 0, .int 0, .int 0, .int 0, .int 0, .int 0])), (q3, .inr (1, [.int 0, .int 0, .int 0, .int 0, .int 0, .int 0])), (q4, .inr (1, [.int 0, .int 0, .int 0, .int 0, .int 0, .int 0])), (q5, .inr (1, [.int 0, .int 0, .int 0, .int 0, .int 0, .int 0])), (q6, .inr (1, [.int 0, .int 0, .int 0, .int 0, .int 0, .int 0])), (q7, .inr (1, [.int 0, .int 0, .int 0, .int 0, .int 0, .int 0])), (q8, .inr (1, [.int 0, .int 0, .int 0, .int 0, .int 0, .int 0])), (q9, .inr (1, [.int 0, .int 0, .int 0, .int 0, .int 0, .int 0])), (q10, .inl (ca 3, 8, .inr (.inr (.inr (.inr (fun j => ([q11, q12, q13] : List Nat)[j]?)))))), (q11, .inr (2, [.int 0, .int 0, .int 0, .int 0, .int 0, .int 0])), (q12, .inr (2, [.int 0, .int 0, .int 0, .int 0, .int 0, .int 0])), (q13, .inr (2, [.int 0, .int 0, .int 0, .int 0, .int 0, .int 0]))]) [14] [0, 1, 2, 3, 4, 5, 6, 7, 8, 9, 10, 11, 12, 13] rfl rfl (by decide) (by decide) (by decide) (y_runN C hT hO (c_O_init l D ca q14) tw_111 tw_54 tw_109 tw_110 ⟨rfl, rfl, by decide, by decide⟩ ⟨by decide, by decide, rfl⟩ (rest := [.ref q14, .int (3 : Int32), .ref q10]) (Nat.le_of_ble_eq_true rfl) d_D_init_66 (by decide) (by decide)) (fun u hu C => ?_)
  subst hu
  refine y_astq C 10 3 14 2 rfl rfl rfl rfl (by decide) (f' := fun j => ([q11, q12, q13, q14] : List Nat)[j]?) (yup [q11, q12, q13] q14) (ws' := [(h0, .inr (0, [.ref q1, .ref q10, .null, .null, .null, .null, .null, .int 0, .int 0, .int 0, .int 0])), (q1, .inl (ca 2, 8, .inr (.inr (.inr (.inr (fun j => ([q2, q3, q4, q5, q6, q7, q8, q9] : List Nat)[j]?)))))), (q2, .inr (1, [.int 0, .int 0, .int 0, .int 0, .int 0, .int 0])), (q3, .inr (1, [.int 0, .int 0, .int 0, .int 0, .int 0, .int 0])), (q4, .inr (1, [.int 0, .int 0, .int 0, .int 0, .int 0, .int 0])), (q5, .inr (1, [.int 0, .int 0, .int 0, .int 0, .int 0, .int 0])), (q6, .inr (1, [.int 0, .int 0, .int 0, .int 0, .int 0, .int 0])), (q7, .inr (1, [.int 0, .int 0, .int 0, .int 0, .int 0, .int 0])), (q8, .inr (1, [.int 0, .int 0, .int 0, .int 0, .int 0, .int 0])), (q9, .inr (1, [.int 0, .int 0, .int 0, .int 0, .int 0, .int 0])), (q10, .inl (ca 3, 8, .inr (.inr (.inr (.inr (fun j => ([q11, q12, q13, q14] : List Nat)[j]?)))))), (q11, .inr (2, [.int 0, .int 0, .int 0, .int 0, .int 0, .int 0])), (q12, .inr (2, [.int 0, .int 0, .int 0, .int 0, .int 0, .int 0])), (q13, .inr (2, [.int 0, .int 0, .int 0, .int 0, .int 0, .int 0])), (q14, .inr (2, [.int 0, .int 0, .int 0, .int 0, .int 0, .int 0]))]) rfl d_D_init_69 (fun C => ?_)
  refine v_iinc C (k0 := 0) (v := (4 : Int32)) (lv' := [(1, .int (4 : Int32)), (0, .ref h0)]) d_D_init_70 rfl (by decide) (by decide) rfl ?_
  refine v_goto C (tgt := 51) d_D_init_73 (by decide) ?_
  refine v_iload_n C d_D_init_51 rfl 0 rfl ?_
  refine v_bipush C (v := (8 : Int32)) d_D_init_52 (by decide) ?_
  refine v_icmp_ge C (tgt := 76) d_D_init_54 (by decide) (fun c => absurd c (by decide)) (fun _ => ?_)
  refine v_aload_n C d_D_init_57 rfl 1 rfl ?_
  refine v_get C (ci := 0) ⟨in_D, rfl⟩ 0 rfl 1 (by decide) (C.t tw_213 rfl) rfl d_D_init_58 ?_
  refine v_iload_n C d_D_init_61 rfl 0 rfl ?_
  refine y_new C (ci := 2) ⟨in_O, rfl⟩ ty_O_ok tw_106 tw_108 tw_54 (fs := [.int 0, .int 0, .int 0, .int 0, .int 0, .int 0]) (by intro j hj; match j, hj with | 0, _ => rfl | 1, _ => rfl | 2, _ => rfl | 3, _ => rfl | 4, _ => rfl | 5, _ => rfl) (by decide) (by decide) d_D_init_62 (fun q15 C => ?_)
  refine v_dup C d_D_init_65 rfl ?_
  refine y_go C (wc := [(q15, .inr (2, [.int 0, .int 0, .int 0, .int 0, .int 0, .int 0]))]) (wr := [(h0, .inr (0, [.ref q1, .ref q10, .null, .null, .null, .null, .null, .int 0, .int 0, .int 0, .int 0])), (q1, .inl (ca 2, 8, .inr (.inr (.inr (.inr (fun j => ([q2, q3, q4, q5, q6, q7, q8, q9] : List Nat)[j]?)))))), (q2, .inr (1, [.int 0, .int 0, .int 0, .int 0, .int 0, .int 0])), (q3, .inr (1, [.int 0, .int 0, .int 0, .int 0, .int 0, .int 0])), (q4, .inr (1, [.int 0, .int 0, .int 0, .int 0, .int 0, .int 0])), (q5, .inr (1, [.int 0, .int 0, .int 0, .int 0, .int 0, .int 0])), (q6, .inr (1, [.int 0, .int 0, .int 0, .int 0, .int 0, .int 0])), (q7, .inr (1, [.int 0, .int 0, .int 0, .int 0, .int 0, .int 0])), (q8, .inr (1, [.int 0, .int 0, .int 0, .int 0, .int 0, .int 0])), (q9, .inr (1, [.int 0, .int 0, .int 0, .int 0, .int 0, .int 0])), (q10, .inl (ca 3, 8, .inr (.inr (.inr (.inr (fun j => ([q11, q12, q13, q14] : List Nat)[j]?)))))), (q11, .inr (2, [.int 0, .int 0, .int 0, .int 0, .int 0, .int 0])), (q12, .inr (2, [.int 0, .int 0, .int 0, .int 0, .int 0, .int 0])), (q13, .inr (2, [.int 0, .int 0, .int 0, .int 0, .int 0, .int 0])), (q14, .inr (2, [.int 0, .int 0, .int 0, .int 0, .int 0, .int 0]))]) [15] [0, 1, 2, 3, 4, 5, 6, 7, 8, 9, 10, 11, 12, 13, 14] rfl rfl (by decide) (by decide) (by decide) (y_runN C hT hO (c_O_init l D ca q15) tw_111 tw_54 tw_109 tw_110 ⟨rfl, rfl, by decide, by decide⟩ ⟨by decide, by decide, rfl⟩ (rest := [.ref q15, .int (4 : Int32), .ref q10]) (Nat.le_of_ble_eq_true rfl) d_D_init_66 (by decide) (by decide)) (fun u hu C => ?_)
  subst hu
  refine y_astq C 10 3 15 2 rfl rfl rfl rfl (by decide) (f' := fun j => ([q11, q12, q13, q14, q15] : List Nat)[j]?) (yup [q11, q12, q13, q14] q15) (ws' := [(h0, .inr (0, [.ref q1, .ref q10, .null, .null, .null, .null, .null, .int 0, .int 0, .int 0, .int 0])), (q1, .inl (ca 2, 8, .inr (.inr (.inr (.inr (fun j => ([q2, q3, q4, q5, q6, q7, q8, q9] : List Nat)[j]?)))))), (q2, .inr (1, [.int 0, .int 0, .int 0, .int 0, .int 0, .int 0])), (q3, .inr (1, [.int 0, .int 0, .int 0, .int 0, .int 0, .int 0])), (q4, .inr (1, [.int 0, .int 0, .int 0, .int 0, .int 0, .int 0])), (q5, .inr (1, [.int 0, .int 0, .int 0, .int 0, .int 0, .int 0])), (q6, .inr (1, [.int 0, .int 0, .int 0, .int 0, .int 0, .int 0])), (q7, .inr (1, [.int 0, .int 0, .int 0, .int 0, .int 0, .int 0])), (q8, .inr (1, [.int 0, .int 0, .int 0, .int 0, .int 0, .int 0])), (q9, .inr (1, [.int 0, .int 0, .int 0, .int 0, .int 0, .int 0])), (q10, .inl (ca 3, 8, .inr (.inr (.inr (.inr (fun j => ([q11, q12, q13, q14, q15] : List Nat)[j]?)))))), (q11, .inr (2, [.int 0, .int 0, .int 0, .int 0, .int 0, .int 0])), (q12, .inr (2, [.int 0, .int 0, .int 0, .int 0, .int 0, .int 0])), (q13, .inr (2, [.int 0, .int 0, .int 0, .int 0, .int 0, .int 0])), (q14, .inr (2, [.int 0, .int 0, .int 0, .int 0, .int 0, .int 0])), (q15, .inr (2, [.int 0, .int 0, .int 0, .int 0, .int 0, .int 0]))]) rfl d_D_init_69 (fun C => ?_)
  refine v_iinc C (k0 := 0) (v := (5 : Int32)) (lv' := [(1, .int (5 : Int32)), (0, .ref h0)]) d_D_init_70 rfl (by decide) (by decide) rfl ?_
  refine v_goto C (tgt := 51) d_D_init_73 (by decide) ?_
  refine v_iload_n C d_D_init_51 rfl 0 rfl ?_
  refine v_bipush C (v := (8 : Int32)) d_D_init_52 (by decide) ?_
  refine v_icmp_ge C (tgt := 76) d_D_init_54 (by decide) (fun c => absurd c (by decide)) (fun _ => ?_)
  refine v_aload_n C d_D_init_57 rfl 1 rfl ?_
  refine v_get C (ci := 0) ⟨in_D, rfl⟩ 0 rfl 1 (by decide) (C.t tw_213 rfl) rfl d_D_init_58 ?_
  refine v_iload_n C d_D_init_61 rfl 0 rfl ?_
  refine y_new C (ci := 2) ⟨in_O, rfl⟩ ty_O_ok tw_106 tw_108 tw_54 (fs := [.int 0, .int 0, .int 0, .int 0, .int 0, .int 0]) (by intro j hj; match j, hj with | 0, _ => rfl | 1, _ => rfl | 2, _ => rfl | 3, _ => rfl | 4, _ => rfl | 5, _ => rfl) (by decide) (by decide) d_D_init_62 (fun q16 C => ?_)
  refine v_dup C d_D_init_65 rfl ?_
  refine y_go C (wc := [(q16, .inr (2, [.int 0, .int 0, .int 0, .int 0, .int 0, .int 0]))]) (wr := [(h0, .inr (0, [.ref q1, .ref q10, .null, .null, .null, .null, .null, .int 0, .int 0, .int 0, .int 0])), (q1, .inl (ca 2, 8, .inr (.inr (.inr (.inr (fun j => ([q2, q3, q4, q5, q6, q7, q8, q9] : List Nat)[j]?)))))), (q2, .inr (1, [.int 0, .int 0, .int 0, .int 0, .int 0, .int 0])), (q3, .inr (1, [.int 0, .int 0, .int 0, .int 0, .int 0, .int 0])), (q4, .inr (1, [.int 0, .int 0, .int 0, .int 0, .int 0, .int 0])), (q5, .inr (1, [.int 0, .int 0, .int 0, .int 0, .int 0, .int 0])), (q6, .inr (1, [.int 0, .int 0, .int 0, .int 0, .int 0, .int 0])), (q7, .inr (1, [.int 0, .int 0, .int 0, .int 0, .int 0, .int 0])), (q8, .inr (1, [.int 0, .int 0, .int 0, .int 0, .int 0, .int 0])), (q9, .inr (1, [.int 0, .int 0, .int 0, .int 0, .int 0, .int 0])), (q10, .inl (ca 3, 8, .inr (.inr (.inr (.inr (fun j => ([q11, q12, q13, q14, q15] : List Nat)[j]?)))))), (q11, .inr (2, [.int 0, .int 0, .int 0, .int 0, .int 0, .int 0])), (q12, .inr (2, [.int 0, .int 0, .int 0, .int 0, .int 0, .int 0])), (q13, .inr (2, [.int 0, .int 0, .int 0, .int 0, .int 0, .int 0])), (q14, .inr (2, [.int 0, .int 0, .int 0, .int 0, .int 0, .int 0])), (q15, .inr (2, [.int 0, .int 0, .int 0, .int 0, .int 0, .int 0]))]) [16] [0, 1, 2, 3, 4, 5, 6, 7, 8, 9, 10, 11, 12, 13, 14, 15] rfl rfl (by decide) (by decide) (by decide) (y_runN C hT hO (c_O_init l D ca q16) tw_111 tw_54 tw_109 tw_110 ⟨rfl, rfl, by decide, by decide⟩ ⟨by decide, by decide, rfl⟩ (rest := [.ref q16, .int (5 : Int32), .ref q10]) (Nat.le_of_ble_eq_true rfl) d_D_init_66 (by decide) (by decide)) (fun u hu C => ?_)
  subst hu
  refine y_astq C 10 3 16 2 rfl rfl rfl rfl (by decide) (f' := fun j => ([q11, q12, q13, q14, q15, q16] : List Nat)[j]?) (yup [q11, q12, q13, q14, q15] q16) (ws' := [(h0, .inr (0, [.ref q1, .ref q10, .null, .null, .null, .null, .null, .int 0, .int 0, .int 0, .int 0])), (q1, .inl (ca 2, 8, .inr (.inr (.inr (.inr (fun j => ([q2, q3, q4, q5, q6, q7, q8, q9] : List Nat)[j]?)))))), (q2, .inr (1, [.int 0, .int 0, .int 0, .int 0, .int 0, .int 0])), (q3, .inr (1, [.int 0, .int 0, .int 0, .int 0, .int 0, .int 0])), (q4, .inr (1, [.int 0, .int 0, .int 0, .int 0, .int 0, .int 0])), (q5, .inr (1, [.int 0, .int 0, .int 0, .int 0, .int 0, .int 0])), (q6, .inr (1, [.int 0, .int 0, .int 0, .int 0, .int 0, .int 0])), (q7, .inr (1, [.int 0, .int 0, .int 0, .int 0, .int 0, .int 0])), (q8, .inr (1, [.int 0, .int 0, .int 0, .int 0, .int 0, .int 0])), (q9, .inr (1, [.int 0, .int 0, .int 0, .int 0, .int 0, .int 0])), (q10, .inl (ca 3, 8, .inr (.inr (.inr (.inr (fun j => ([q11, q12, q13, q14, q15, q16] : List Nat)[j]?)))))), (q11, .inr (2, [.int 0, .int 0, .int 0, .int 0, .int 0, .int 0])), (q12, .inr (2, [.int 0, .int 0, .int 0, .int 0, .int 0, .int 0])), (q13, .inr (2, [.int 0, .int 0, .int 0, .int 0, .int 0, .int 0])), (q14, .inr (2, [.int 0, .int 0, .int 0, .int 0, .int 0, .int 0])), (q15, .inr (2, [.int 0, .int 0, .int 0, .int 0, .int 0, .int 0])), (q16, .inr (2, [.int 0, .int 0, .int 0, .int 0, .int 0, .int 0]))]) rfl d_D_init_69 (fun C => ?_)
  refine v_iinc C (k0 := 0) (v := (6 : Int32)) (lv' := [(1, .int (6 : Int32)), (0, .ref h0)]) d_D_init_70 rfl (by decide) (by decide) rfl ?_
  refine v_goto C (tgt := 51) d_D_init_73 (by decide) ?_
  refine v_iload_n C d_D_init_51 rfl 0 rfl ?_
  refine v_bipush C (v := (8 : Int32)) d_D_init_52 (by decide) ?_
  refine v_icmp_ge C (tgt := 76) d_D_init_54 (by decide) (fun c => absurd c (by decide)) (fun _ => ?_)
  refine v_aload_n C d_D_init_57 rfl 1 rfl ?_
  refine v_get C (ci := 0) ⟨in_D, rfl⟩ 0 rfl 1 (by decide) (C.t tw_213 rfl) rfl d_D_init_58 ?_
  refine v_iload_n C d_D_init_61 rfl 0 rfl ?_
  refine y_new C (ci := 2) ⟨in_O, rfl⟩ ty_O_ok tw_106 tw_108 tw_54 (fs := [.int 0, .int 0, .int 0, .int 0, .int 0, .int 0]) (by intro j hj; match j, hj with | 0, _ => rfl | 1, _ => rfl | 2, _ => rfl | 3, _ => rfl | 4, _ => rfl | 5, _ => rfl) (by decide) (by decide) d_D_init_62 (fun q17 C => ?_)
  refine v_dup C d_D_init_65 rfl ?_
  refine y_go C (wc := [(q17, .inr (2, [.int 0, .int 0, .int 0, .int 0, .int 0, .int 0]))]) (wr := [(h0, .inr (0, [.ref q1, .ref q10, .null, .null, .null, .null, .null, .int 0, .int 0, .int 0, .int 0])), (q1, .inl (ca 2, 8, .inr (.inr (.inr (.inr (fun j => ([q2, q3, q4, q5, q6, q7, q8, q9] : List Nat)[j]?)))))), (q2, .inr (1, [.int 0, .int 0, .int 0, .int 0, .int 0, .int 0])), (q3, .inr (1, [.int 0, .int 0, .int 0, .int 0, .int 0, .int 0])), (q4, .inr (1, [.int 0, .int 0, .int 0, .int 0, .int 0, .int 0])), (q5, .inr (1, [.int 0, .int 0, .int 0, .int 0, .int 0, .int 0])), (q6, .inr (1, [.int 0, .int 0, .int 0, .int 0, .int 0, .int 0])), (q7, .inr (1, [.int 0, .int 0, .int 0, .int 0, .int 0, .int 0])), (q8, .inr (1, [.int 0, .int 0, .int 0, .int 0, .int 0, .int 0])), (q9, .inr (1, [.int 0, .int 0, .int 0, .int 0, .int 0, .int 0])), (q10, .inl (ca 3, 8, .inr (.inr (.inr (.inr (fun j => ([q11, q12, q13, q14, q15, q16] : List Nat)[j]?)))))), (q11, .inr (2, [.int 0, .int 0, .int 0, .int 0, .int 0, .int 0])), (q12, .inr (2, [.int 0, .int 0, .int 0, .int 0, .int 0, .int 0])), (q13, .inr (2, [.int 0, .int 0, .int 0, .int 0, .int 0, .int 0])), (q14, .inr (2, [.int 0, .int 0, .int 0, .int 0, .int 0, .int 0])), (q15, .inr (2, [.int 0, .int 0, .int 0, .int 0, .int 0, .int 0])), (q16, .inr (2, [.int 0, .int 0, .int 0, .int 0, .int 0, .int 0]))]) [17] [0, 1, 2, 3, 4, 5, 6, 7, 8, 9, 10, 11, 12, 13, 14, 15, 16] rfl rfl (by decide) (by decide) (by decide) (y_runN C hT hO (c_O_init l D ca q17) tw_111 tw_54 tw_109 tw_110 ⟨rfl, rfl, by decide, by decide⟩ ⟨by decide, by decide, rfl⟩ (rest := [.ref q17, .int (6 : Int32), .ref q10]) (Nat.le_of_ble_eq_true rfl) d_D_init_66 (by decide) (by decide)) (fun u hu C => ?_)
  subst hu
  refine y_astq C 10 3 17 2 rfl rfl rfl rfl (by decide) (f' := fun j => ([q11, q12, q13, q14, q15, q16, q17] : List Nat)[j]?) (yup [q11, q12, q13, q14, q15, q16] q17) (ws' := [(h0, .inr (0, [.ref q1, .ref q10, .null, .null, .null, .null, .null, .int 0, .int 0, .int 0, .int 0])), (q1, .inl (ca 2, 8, .inr (.inr (.inr (.inr (fun j => ([q2, q3, q4, q5, q6, q7, q8, q9] : List Nat)[j]?)))))), (q2, .inr (1, [.int 0, .int 0, .int 0, .int 0, .int 0, .int 0])), (q3, .inr (1, [.int 0, .int 0, .int 0, .int 0, .int 0, .int 0])), (q4, .inr (1, [.int 0, .int 0, .int 0, .int 0, .int 0, .int 0])), (q5, .inr (1, [.int 0, .int 0, .int 0, .int 0, .int 0, .int 0])), (q6, .inr (1, [.int 0, .int 0, .int 0, .int 0, .int 0, .int 0])), (q7, .inr (1, [.int 0, .int 0, .int 0, .int 0, .int 0, .int 0])), (q8, .inr (1, [.int 0, .int 0, .int 0, .int 0, .int 0, .int 0])), (q9, .inr (1, [.int 0, .int 0, .int 0, .int 0, .int 0, .int 0])), (q10, .inl (ca 3, 8, .inr (.inr (.inr (.inr (fun j => ([q11, q12, q13, q14, q15, q16, q17] : List Nat)[j]?)))))), (q11, .inr (2, [.int 0, .int 0, .int 0, .int 0, .int 0, .int 0])), (q12, .inr (2, [.int 0, .int 0, .int 0, .int 0, .int 0, .int 0])), (q13, .inr (2, [.int 0, .int 0, .int 0, .int 0, .int 0, .int 0])), (q14, .inr (2, [.int 0, .int 0, .int 0, .int 0, .int 0, .int 0])), (q15, .inr (2, [.int 0, .int 0, .int 0, .int 0, .int 0, .int 0])), (q16, .inr (2, [.int 0, .int 0, .int 0, .int 0, .int 0, .int 0])), (q17, .inr (2, [.int 0, .int 0, .int 0, .int 0, .int 0, .int 0]))]) rfl d_D_init_69 (fun C => ?_)
  refine v_iinc C (k0 := 0) (v := (7 : Int32)) (lv' := [(1, .int (7 : Int32)), (0, .ref h0)]) d_D_init_70 rfl (by decide) (by decide) rfl ?_
  refine v_goto C (tgt := 51) d_D_init_73 (by decide) ?_
  refine v_iload_n C d_D_init_51 rfl 0 rfl ?_
  refine v_bipush C (v := (8 : Int32)) d_D_init_52 (by decide) ?_
  refine v_icmp_ge C (tgt := 76) d_D_init_54 (by decide) (fun c => absurd c (by decide)) (fun _ => ?_)
  refine v_aload_n C d_D_init_57 rfl 1 rfl ?_
  refine v_get C (ci := 0) ⟨in_D, rfl⟩ 0 rfl 1 (by decide) (C.t tw_213 rfl) rfl d_D_init_58 ?_
  refine v_iload_n C d_D_init_61 rfl 0 rfl ?_
  refine y_new C (ci := 2) ⟨in_O, rfl⟩ ty_O_ok tw_106 tw_108 tw_54 (fs := [.int 0, .int 0, .int 0, .int 0, .int 0, .int 0]) (by intro j hj; match j, hj with | 0, _ => rfl | 1, _ => rfl | 2, _ => rfl | 3, _ => rfl | 4, _ => rfl | 5, _ => rfl) (by decide) (by decide) d_D_init_62 (fun q18 C => ?_)
  refine v_dup C d_D_init_65 rfl ?_
  refine y_go C (wc := [(q18, .inr (2, [.int 0, .int 0, .int 0, .int 0, .int 0, .int 0]))]) (wr := [(h0, .inr (0, [.ref q1, .ref q10, .null, .null, .null, .null, .null, .int 0, .int 0, .int 0, .int 0])), (q1, .inl (ca 2, 8, .inr (.inr (.inr (.inr (fun j => ([q2, q3, q4, q5, q6, q7, q8, q9] : List Nat)[j]?)))))), (q2, .inr (1, [.int 0, .int 0, .int 0, .int 0, .int 0, .int 0])), (q3, .inr (1, [.int 0, .int 0, .int 0, .int 0, .int 0, .int 0])), (q4, .inr (1, [.int 0, .int 0, .int 0, .int 0, .int 0, .int 0])), (q5, .inr (1, [.int 0, .int 0, .int 0, .int 0, .int 0, .int 0])), (q6, .inr (1, [.int 0, .int 0, .int 0, .int 0, .int 0, .int 0])), (q7, .inr (1, [.int 0, .int 0, .int 0, .int 0, .int 0, .int 0])), (q8, .inr (1, [.int 0, .int 0, .int 0, .int 0, .int 0, .int 0])), (q9, .inr (1, [.int 0, .int 0, .int 0, .int 0, .int 0, .int 0])), (q10, .inl (ca 3, 8, .inr (.inr (.inr (.inr (fun j => ([q11, q12, q13, q14, q15, q16, q17] : List Nat)[j]?)))))), (q11, .inr (2, [.int 0, .int 0, .int 0, .int 0, .int 0, .int 0])), (q12, .inr (2, [.int 0, .int 0, .int 0, .int 0, .int 0, .int 0])), (q13, .inr (2, [.int 0, .int 0, .int 0, .int 0, .int 0, .int 0])), (q14, .inr (2, [.int 0, .int 0, .int 0, .int 0, .int 0, .int 0])), (q15, .inr (2, [.int 0, .int 0, .int 0, .int 0, .int 0, .int 0])), (q16, .inr (2, [.int 0, .int 0, .int 0, .int 0, .int 0, .int 0])), (q17, .inr (2, [.int 0, .int 0, .int 0, .int 0, .int 0, .int 0]))]) [18] [0, 1, 2, 3, 4, 5, 6, 7, 8, 9, 10, 11, 12, 13, 14, 15, 16, 17] rfl rfl (by decide) (by decide) (by decide) (y_runN C hT hO (c_O_init l D ca q18) tw_111 tw_54 tw_109 tw_110 ⟨rfl, rfl, by decide, by decide⟩ ⟨by decide, by decide, rfl⟩ (rest := [.ref q18, .int (7 : Int32), .ref q10]) (Nat.le_of_ble_eq_true rfl) d_D_init_66 (by decide) (by decide)) (fun u hu C => ?_)
  subst hu
  refine y_astq C 10 3 18 2 rfl rfl rfl rfl (by decide) (f' := fun j => ([q11, q12, q13, q14, q15, q16, q17, q18] : List Nat)[j]?) (yup [q11, q12, q13, q14, q15, q16, q17] q18) (ws' := [(h0, .inr (0, [.ref q1, .ref q10, .null, .null, .null, .null, .null, .int 0, .int 0, .int 0, .int 0])), (q1, .inl (ca 2, 8, .inr (.inr (.inr (.inr (fun j => ([q2, q3, q4, q5, q6, q7, q8, q9] : List Nat)[j]?)))))), (q2, .inr (1, [.int 0, .int 0, .int 0, .int 0, .int 0, .int 0])), (q3, .inr (1, [.int 0, .int 0, .int 0, .int 0, .int 0, .int 0])), (q4, .inr (1, [.int 0, .int 0, .int 0, .int 0, .int 0, .int 0])), (q5, .inr (1, [.int 0, .int 0, .int 0, .int 0, .int 0, .int 0])), (q6, .inr (1, [.int 0, .int 0, .int 0, .int 0, .int 0, .int 0])), (q7, .inr (1, [.int 0, .int 0, .int 0, .int 0, .int 0, .int 0])), (q8, .inr (1, [.int 0, .int 0, .int 0, .int 0, .int 0, .int 0])), (q9, .inr (1, [.int 0, .int 0, .int 0, .int 0, .int 0, .int 0])), (q10, .inl (ca 3, 8, .inr (.inr (.inr (.inr (fun j => ([q11, q12, q13, q14, q15, q16, q17, q18] : List Nat)[j]?)))))), (q11, .inr (2, [.int 0, .int 0, .int 0, .int 0, .int 0, .int 0])), (q12, .inr (2, [.int 0, .int 0, .int 0, .int 0, .int 0, .int 0])), (q13, .inr (2, [.int 0, .int 0, .int 0, .int 0, .int 0, .int 0])), (q14, .inr (2, [.int 0, .int 0, .int 0, .int 0, .int 0, .int 0])), (q15, .inr (2, [.int 0, .int 0, .int 0, .int 0, .int 0, .int 0])), (q16, .inr (2, [.int 0, .int 0, .int 0, .int 0, .int 0, .int 0])), (q17, .inr (2, [.int 0, .int 0, .int 0, .int 0, .int 0, .int 0])), (q18, .inr (2, [.int 0, .int 0, .int 0, .int 0, .int 0, .int 0]))]) rfl d_D_init_69 (fun C => ?_)
  refine v_iinc C (k0 := 0) (v := (8 : Int32)) (lv' := [(1, .int (8 : Int32)), (0, .ref h0)]) d_D_init_70 rfl (by decide) (by decide) rfl ?_
  refine v_goto C (tgt := 51) d_D_init_73 (by decide) ?_
  refine v_iload_n C d_D_init_51 rfl 0 rfl ?_
  refine v_bipush C (v := (8 : Int32)) d_D_init_52 (by decide) ?_
  refine v_icmp_ge C (tgt := 76) d_D_init_54 (by decide) (fun _ => ?_) (fun c => absurd (by decide) c)
  refine v_aload_n C d_D_init_76 rfl 1 rfl ?_
  refine v_iconst C (v := (4 : Int32)) d_D_init_77 (by decide) ?_
  refine y_newa C (t0 := 1) (ty := .boolean) rfl (fun _ h => by cases h) tw_187 rfl (N' := 4) (a0 := (4, .inl (fun _ => 0))) (fun _ => rfl) (by decide) (by decide) (by decide) (by decide) (by decide) d_D_init_78 (fun q19 C => ?_)
  refine y_putF C hin (ci := 0) ⟨in_D, rfl⟩ ⟨ty_D_ok, nm_D⟩ 0 rfl 2 (by decide) tw_214 rfl rfl (ty := .array .boolean) (by decide +kernel) rfl rfl (Nat.le_of_ble_eq_true rfl) (ws' := [(h0, .inr (0, [.ref q1, .ref q10, .ref q19, .null, .null, .null, .null, .int 0, .int 0, .int 0, .int 0])), (q1, .inl (ca 2, 8, .inr (.inr (.inr (.inr (fun j => ([q2, q3, q4, q5, q6, q7, q8, q9] : List Nat)[j]?)))))), (q2, .inr (1, [.int 0, .int 0, .int 0, .int 0, .int 0, .int 0])), (q3, .inr (1, [.int 0, .int 0, .int 0, .int 0, .int 0, .int 0])), (q4, .inr (1, [.int 0, .int 0, .int 0, .int 0, .int 0, .int 0])), (q5, .inr (1, [.int 0, .int 0, .int 0, .int 0, .int 0, .int 0])), (q6, .inr (1, [.int 0, .int 0, .int 0, .int 0, .int 0, .int 0])), (q7, .inr (1, [.int 0, .int 0, .int 0, .int 0, .int 0, .int 0])), (q8, .inr (1, [.int 0, .int 0, .int 0, .int 0, .int 0, .int 0])), (q9, .inr (1, [.int 0, .int 0, .int 0, .int 0, .int 0, .int 0])), (q10, .inl (ca 3, 8, .inr (.inr (.inr (.inr (fun j => ([q11, q12, q13, q14, q15, q16, q17, q18] : List Nat)[j]?)))))), (q11, .inr (2, [.int 0, .int 0, .int 0, .int 0, .int 0, .int 0])), (q12, .inr (2, [.int 0, .int 0, .int 0, .int 0, .int 0, .int 0])), (q13, .inr (2, [.int 0, .int 0, .int 0, .int 0, .int 0, .int 0])), (q14, .inr (2, [.int 0, .int 0, .int 0, .int 0, .int 0, .int 0])), (q15, .inr (2, [.int 0, .int 0, .int 0, .int 0, .int 0, .int 0])), (q16, .inr (2, [.int 0, .int 0, .int 0, .int 0, .int 0, .int 0])), (q17, .inr (2, [.int 0, .int 0, .int 0, .int 0, .int 0, .int 0])), (q18, .inr (2, [.int 0, .int 0, .int 0, .int 0, .int 0, .int 0])), (q19, .inl (ca 1, 4, .inl (fun _ => 0)))]) rfl d_D_init_80 (fun C => ?_)
  refine v_aload_n C d_D_init_83 rfl 1 rfl ?_
  refine v_bipush C (v := (8 : Int32)) d_D_init_84 (by decide) ?_
  refine y_newa C (t0 := 0) (ty := .int) rfl (fun _ h => by cases h) tw_188 rfl (N' := 8) (a0 := (8, .inl (fun _ => 0))) (fun _ => rfl) (by decide) (by decide) (by decide) (by decide) (by decide) d_D_init_86 (fun q20 C => ?_)
  refine y_putF C hin (ci := 0) ⟨in_D, rfl⟩ ⟨ty_D_ok, nm_D⟩ 0 rfl 3 (by decide) tw_215 rfl rfl (ty := .array .int) (by decide +kernel) rfl rfl (Nat.le_of_ble_eq_true rfl) (ws' := [(h0, .inr (0, [.ref q1, .ref q10, .ref q19, .ref q20, .null, .null, .null, .int 0, .int 0, .int 0, .int 0])), (q1, .inl (ca 2, 8, .inr (.inr (.inr (.inr (fun j => ([q2, q3, q4, q5, q6, q7, q8, q9] : List Nat)[j]?)))))), (q2, .inr (1, [.int 0, .int 0, .int 0, .int 0, .int 0, .int 0])), (q3, .inr (1, [.int 0, .int 0, .int 0, .int 0, .int 0, .int 0])), (q4, .inr (1, [.int 0, .int 0, .int 0, .int 0, .int 0, .int 0])), (q5, .inr (1, [.int 0, .int 0, .int 0, .int 0, .int 0, .int 0])), (q6, .inr (1, [.int 0, .int 0, .int 0, .int 0, .int 0, .int 0])), (q7, .inr (1, [.int 0, .int 0, .int 0, .int 0, .int 0, .int 0])), (q8, .inr (1, [.int 0, .int 0, .int 0, .int 0, .int 0, .int 0])), (q9, .inr (1, [.int 0, .int 0, .int 0, .int 0, .int 0, .int 0])), (q10, .inl (ca 3, 8, .inr (.inr (.inr (.inr (fun j => ([q11, q12, q13, q14, q15, q16, q17, q18] : List Nat)[j]?)))))), (q11, .inr (2, [.int 0, .int 0, .int 0, .int 0, .int 0, .int 0])), (q12, .inr (2, [.int 0, .int 0, .int 0, .int 0, .int 0, .int 0])), (q13, .inr (2, [.int 0, .int 0, .int 0, .int 0, .int 0, .int 0])), (q14, .inr (2, [.int 0, .int 0, .int 0, .int 0, .int 0, .int 0])), (q15, .inr (2, [.int 0, .int 0, .int 0, .int 0, .int 0, .int 0])), (q16, .inr (2, [.int 0, .int 0, .int 0, .int 0, .int 0, .int 0])), (q17, .inr (2, [.int 0, .int 0, .int 0, .int 0, .int 0, .int 0])), (q18, .inr (2, [.int 0, .int 0, .int 0, .int 0, .int 0, .int 0])), (q19, .inl (ca 1, 4, .inl (fun _ => 0))), (q20, .inl (ca 0, 8, .inl (fun _ => 0)))]) rfl d_D_init_88 (fun C => ?_)
  refine v_aload_n C d_D_init_91 rfl 1 rfl ?_
  refine v_bipush C (v := (8 : Int32)) d_D_init_92 (by decide) ?_
  refine y_newa C (t0 := 0) (ty := .int) rfl (fun _ h => by cases h) tw_188 rfl (N' := 8) (a0 := (8, .inl (fun _ => 0))) (fun _ => rfl) (by decide) (by decide) (by decide) (by decide) (by decide) d_D_init_94 (fun q21 C => ?_)
  refine y_putF C hin (ci := 0) ⟨in_D, rfl⟩ ⟨ty_D_ok, nm_D⟩ 0 rfl 4 (by decide) tw_216 rfl rfl (ty := .array .int) (by decide +kernel) rfl rfl (Nat.le_of_ble_eq_true rfl) (ws' := [(h0, .inr (0, [.ref q1, .ref q10, .ref q19, .ref q20, .ref q21, .null, .null, .int 0, .int 0, .int 0, .int 0])), (q1, .inl (ca 2, 8, .inr (.inr (.inr (.inr (fun j => ([q2, q3, q4, q5, q6, q7, q8, q9] : List Nat)[j]?)))))), (q2, .inr (1, [.int 0, .int 0, .int 0, .int 0, .int 0, .int 0])), (q3, .inr (1, [.int 0, .int 0, .int 0, .int 0, .int 0, .int 0])), (q4, .inr (1, [.int 0, .int 0, .int 0, .int 0, .int 0, .int 0])), (q5, .inr (1, [.int 0, .int 0, .int 0, .int 0, .int 0, .int 0])), (q6, .inr (1, [.int 0, .int 0, .int 0, .int 0, .int 0, .int 0])), (q7, .inr (1, [.int 0, .int 0, .int 0, .int 0, .int 0, .int 0])), (q8, .inr (1, [.int 0, .int 0, .int 0, .int 0, .int 0, .int 0])), (q9, .inr (1, [.int 0, .int 0, .int 0, .int 0, .int 0, .int 0])), (q10, .inl (ca 3, 8, .inr (.inr (.inr (.inr (fun j => ([q11, q12, q13, q14, q15, q16, q17, q18] : List Nat)[j]?)))))), (q11, .inr (2, [.int 0, .int 0, .int 0, .int 0, .int 0, .int 0])), (q12, .inr (2, [.int 0, .int 0, .int 0, .int 0, .int 0, .int 0])), (q13, .inr (2, [.int 0, .int 0, .int 0, .int 0, .int 0, .int 0])), (q14, .inr (2, [.int 0, .int 0, .int 0, .int 0, .int 0, .int 0])), (q15, .inr (2, [.int 0, .int 0, .int 0, .int 0, .int 0, .int 0])), (q16, .inr (2, [.int 0, .int 0, .int 0, .int 0, .int 0, .int 0])), (q17, .inr (2, [.int 0, .int 0, .int 0, .int 0, .int 0, .int 0])), (q18, .inr (2, [.int 0, .int 0, .int 0, .int 0, .int 0, .int 0])), (q19, .inl (ca 1, 4, .inl (fun _ => 0))), (q20, .inl (ca 0, 8, .inl (fun _ => 0))), (q21, .inl (ca 0, 8, .inl (fun _ => 0)))]) rfl d_D_init_96 (fun C => ?_)
  refine v_aload_n C d_D_init_99 rfl 1 rfl ?_
  refine y_new C (ci := 4) ⟨in_S, rfl⟩ ty_S_ok tw_133 tw_134 tw_55 (fs := [.null, .null, .null, .null, .null, .null, .null, .null, .null, .int 0, .int 0, .int 0, .int 0]) (by intro j hj; match j, hj with | 0, _ => rfl | 1, _ => rfl | 2, _ => rfl | 3, _ => rfl | 4, _ => rfl | 5, _ => rfl | 6, _ => rfl | 7, _ => rfl | 8, _ => rfl | 9, _ => rfl | 10, _ => rfl | 11, _ => rfl | 12, _ => rfl) (by decide) (by decide) d_D_init_100 (fun q22 C => ?_)
  refine v_dup C d_D_init_103 rfl ?_
  refine y_go C (wc := [(q22, .inr (4, [.null, .null, .null, .null, .null, .null, .null, .null, .null, .int 0, .int 0, .int 0, .int 0]))]) (wr := [(h0, .inr (0, [.ref q1, .ref q10, .ref q19, .ref q20, .ref q21, .null, .null, .int 0, .int 0, .int 0, .int 0])), (q1, .inl (ca 2, 8, .inr (.inr (.inr (.inr (fun j => ([q2, q3, q4, q5, q6, q7, q8, q9] : List Nat)[j]?)))))), (q2, .inr (1, [.int 0, .int 0, .int 0, .int 0, .int 0, .int 0])), (q3, .inr (1, [.int 0, .int 0, .int 0, .int 0, .int 0, .int 0])), (q4, .inr (1, [.int 0, .int 0, .int 0, .int 0, .int 0, .int 0])), (q5, .inr (1, [.int 0, .int 0, .int 0, .int 0, .int 0, .int 0])), (q6, .inr (1, [.int 0, .int 0, .int 0, .int 0, .int 0, .int 0])), (q7, .inr (1, [.int 0, .int 0, .int 0, .int 0, .int 0, .int 0])), (q8, .inr (1, [.int 0, .int 0, .int 0, .int 0, .int 0, .int 0])), (q9, .inr (1, [.int 0, .int 0, .int 0, .int 0, .int 0, .int 0])), (q10, .inl (ca 3, 8, .inr (.inr (.inr (.inr (fun j => ([q11, q12, q13, q14, q15, q16, q17, q18] : List Nat)[j]?)))))), (q11, .inr (2, [.int 0, .int 0, .int 0, .int 0, .int 0, .int 0])), (q12, .inr (2, [.int 0, .int 0, .int 0, .int 0, .int 0, .int 0])), (q13, .inr (2, [.int 0, .int 0, .int 0, .int 0, .int 0, .int 0])), (q14, .inr (2, [.int 0, .int 0, .int 0, .int 0, .int 0, .int 0])), (q15, .inr (2, [.int 0, .int 0, .int 0, .int 0, .int 0, .int 0])), (q16, .inr (2, [.int 0, .int 0, .int 0, .int 0, .int 0, .int 0])), (q17, .inr (2, [.int 0, .int 0, .int 0, .int 0, .int 0, .int 0])), (q18, .inr (2, [.int 0, .int 0, .int 0, .int 0, .int 0, .int 0])), (q19, .inl (ca 1, 4, .inl (fun _ => 0))), (q20, .inl (ca 0, 8, .inl (fun _ => 0))), (q21, .inl (ca 0, 8, .inl (fun _ => 0)))]) [22] [0, 1, 2, 3, 4, 5, 6, 7, 8, 9, 10, 11, 12, 13, 14, 15, 16, 17, 18, 19, 20, 21] rfl rfl (by decide) (by decide) (by decide) (y_runN C hT hO (c_S_init l D ca q22) tw_137 tw_55 tw_135 tw_136 ⟨rfl, rfl, by decide, by decide⟩ ⟨by decide, by decide, rfl⟩ (rest := [.ref q22, .ref h0]) (Nat.le_of_ble_eq_true rfl) d_D_init_104 (by decide) (by decide)) (fun u hu C => ?_)
  obtain ⟨q23, q24, q25, q26, q27, q28, q29, q30, q31, rfl⟩ := hu
  refine y_putF C hin (ci := 0) ⟨in_D, rfl⟩ ⟨ty_D_ok, nm_D⟩ 0 rfl 5 (by decide) tw_217 rfl rfl (ty := .object "CrossDock$Search") (by decide +kernel) rfl rfl (Nat.le_of_ble_eq_true rfl) (ws' := [(h0, .inr (0, [.ref q1, .ref q10, .ref q19, .ref q20, .ref q21, .ref q22, .null, .int 0, .int 0, .int 0, .int 0])), (q1, .inl (ca 2, 8, .inr (.inr (.inr (.inr (fun j => ([q2, q3, q4, q5, q6, q7, q8, q9] : List Nat)[j]?)))))), (q2, .inr (1, [.int 0, .int 0, .int 0, .int 0, .int 0, .int 0])), (q3, .inr (1, [.int 0, .int 0, .int 0, .int 0, .int 0, .int 0])), (q4, .inr (1, [.int 0, .int 0, .int 0, .int 0, .int 0, .int 0])), (q5, .inr (1, [.int 0, .int 0, .int 0, .int 0, .int 0, .int 0])), (q6, .inr (1, [.int 0, .int 0, .int 0, .int 0, .int 0, .int 0])), (q7, .inr (1, [.int 0, .int 0, .int 0, .int 0, .int 0, .int 0])), (q8, .inr (1, [.int 0, .int 0, .int 0, .int 0, .int 0, .int 0])), (q9, .inr (1, [.int 0, .int 0, .int 0, .int 0, .int 0, .int 0])), (q10, .inl (ca 3, 8, .inr (.inr (.inr (.inr (fun j => ([q11, q12, q13, q14, q15, q16, q17, q18] : List Nat)[j]?)))))), (q11, .inr (2, [.int 0, .int 0, .int 0, .int 0, .int 0, .int 0])), (q12, .inr (2, [.int 0, .int 0, .int 0, .int 0, .int 0, .int 0])), (q13, .inr (2, [.int 0, .int 0, .int 0, .int 0, .int 0, .int 0])), (q14, .inr (2, [.int 0, .int 0, .int 0, .int 0, .int 0, .int 0])), (q15, .inr (2, [.int 0, .int 0, .int 0, .int 0, .int 0, .int 0])), (q16, .inr (2, [.int 0, .int 0, .int 0, .int 0, .int 0, .int 0])), (q17, .inr (2, [.int 0, .int 0, .int 0, .int 0, .int 0, .int 0])), (q18, .inr (2, [.int 0, .int 0, .int 0, .int 0, .int 0, .int 0])), (q19, .inl (ca 1, 4, .inl (fun _ => 0))), (q20, .inl (ca 0, 8, .inl (fun _ => 0))), (q21, .inl (ca 0, 8, .inl (fun _ => 0))), (q22, .inr (4, [.ref q23, .ref q24, .ref q25, .ref q26, .ref q27, .ref q28, .ref q29, .ref q30, .ref q31, .int 0, .int 0, .int 0, .int 0])), (q23, .inl (ca 0, 64, .inl (fun _ => 0))), (q24, .inl (ca 0, 64, .inl (fun _ => 0))), (q25, .inl (ca 0, 8, .inl (fun _ => 0))), (q26, .inl (ca 0, 8, .inl (fun _ => 0))), (q27, .inl (ca 0, 8, .inl (fun _ => 0))), (q28, .inl (ca 0, 8, .inl (fun _ => 0))), (q29, .inl (ca 0, 64, .inl (fun _ => 0))), (q30, .inl (ca 0, 64, .inl (fun _ => 0))), (q31, .inl (ca 0, 64, .inl (fun _ => 0)))]) rfl d_D_init_107 (fun C => ?_)
  refine v_aload_n C d_D_init_110 rfl 1 rfl ?_
  refine y_new C (ci := 3) ⟨in_P, rfl⟩ ty_P_ok tw_189 tw_190 tw_56 (fs := [.null, .null, .null, .int 0]) (by intro j hj; match j, hj with | 0, _ => rfl | 1, _ => rfl | 2, _ => rfl | 3, _ => rfl) (by decide) (by decide) d_D_init_111 (fun q32 C => ?_)
  refine v_dup C d_D_init_114 rfl ?_
  refine y_go C (wc := [(q32, .inr (3, [.null, .null, .null, .int 0]))]) (wr := [(h0, .inr (0, [.ref q1, .ref q10, .ref q19, .ref q20, .ref q21, .ref q22, .null, .int 0, .int 0, .int 0, .int 0])), (q1, .inl (ca 2, 8, .inr (.inr (.inr (.inr (fun j => ([q2, q3, q4, q5, q6, q7, q8, q9] : List Nat)[j]?)))))), (q2, .inr (1, [.int 0, .int 0, .int 0, .int 0, .int 0, .int 0])), (q3, .inr (1, [.int 0, .int 0, .int 0, .int 0, .int 0, .int 0])), (q4, .inr (1, [.int 0, .int 0, .int 0, .int 0, .int 0, .int 0])), (q5, .inr (1, [.int 0, .int 0, .int 0, .int 0, .int 0, .int 0])), (q6, .inr (1, [.int 0, .int 0, .int 0, .int 0, .int 0, .int 0])), (q7, .inr (1, [.int 0, .int 0, .int 0, .int 0, .int 0, .int 0])), (q8, .inr (1, [.int 0, .int 0, .int 0, .int 0, .int 0, .int 0])), (q9, .inr (1, [.int 0, .int 0, .int 0, .int 0, .int 0, .int 0])), (q10, .inl (ca 3, 8, .inr (.inr (.inr (.inr (fun j => ([q11, q12, q13, q14, q15, q16, q17, q18] : List Nat)[j]?)))))), (q11, .inr (2, [.int 0, .int 0, .int 0, .int 0, .int 0, .int 0])), (q12, .inr (2, [.int 0, .int 0, .int 0, .int 0, .int 0, .int 0])), (q13, .inr (2, [.int 0, .int 0, .int 0, .int 0, .int 0, .int 0])), (q14, .inr (2, [.int 0, .int 0, .int 0, .int 0, .int 0, .int 0])), (q15, .inr (2, [.int 0, .int 0, .int 0, .int 0, .int 0, .int 0])), (q16, .inr (2, [.int 0, .int 0, .int 0, .int 0, .int 0, .int 0])), (q17, .inr (2, [.int 0, .int 0, .int 0, .int 0, .int 0, .int 0])), (q18, .inr (2, [.int 0, .int 0, .int 0, .int 0, .int 0, .int 0])), (q19, .inl (ca 1, 4, .inl (fun _ => 0))), (q20, .inl (ca 0, 8, .inl (fun _ => 0))), (q21, .inl (ca 0, 8, .inl (fun _ => 0))), (q22, .inr (4, [.ref q23, .ref q24, .ref q25, .ref q26, .ref q27, .ref q28, .ref q29, .ref q30, .ref q31, .int 0, .int 0, .int 0, .int 0])), (q23, .inl (ca 0, 64, .inl (fun _ => 0))), (q24, .inl (ca 0, 64, .inl (fun _ => 0))), (q25, .inl (ca 0, 8, .inl (fun _ => 0))), (q26, .inl (ca 0, 8, .inl (fun _ => 0))), (q27, .inl (ca 0, 8, .inl (fun _ => 0))), (q28, .inl (ca 0, 8, .inl (fun _ => 0))), (q29, .inl (ca 0, 64, .inl (fun _ => 0))), (q30, .inl (ca 0, 64, .inl (fun _ => 0))), (q31, .inl (ca 0, 64, .inl (fun _ => 0)))]) [32] [0, 1, 2, 3, 4, 5, 6, 7, 8, 9, 10, 11, 12, 13, 14, 15, 16, 17, 18, 19, 20, 21, 22, 23, 24, 25, 26, 27, 28, 29, 30, 31] rfl rfl (by decide) (by decide) (by decide) (y_runN C hT hO (c_P_init l D ca q32) tw_193 tw_56 tw_191 tw_192 ⟨rfl, rfl, by decide, by decide⟩ ⟨by decide, by decide, rfl⟩ (rest := [.ref q32, .ref h0]) (Nat.le_of_ble_eq_true rfl) d_D_init_115 (by decide) (by decide)) (fun u hu C => ?_)
  obtain ⟨q33, q34, q35, rfl⟩ := hu
  refine y_putF C hin (ci := 0) ⟨in_D, rfl⟩ ⟨ty_D_ok, nm_D⟩ 0 rfl 6 (by decide) tw_218 rfl rfl (ty := .object "CrossDock$Pairs") (by decide +kernel) rfl rfl (Nat.le_of_ble_eq_true rfl) (ws' := [(h0, .inr (0, [.ref q1, .ref q10, .ref q19, .ref q20, .ref q21, .ref q22, .ref q32, .int 0, .int 0, .int 0, .int 0])), (q1, .inl (ca 2, 8, .inr (.inr (.inr (.inr (fun j => ([q2, q3, q4, q5, q6, q7, q8, q9] : List Nat)[j]?)))))), (q2, .inr (1, [.int 0, .int 0, .int 0, .int 0, .int 0, .int 0])), (q3, .inr (1, [.int 0, .int 0, .int 0, .int 0, .int 0, .int 0])), (q4, .inr (1, [.int 0, .int 0, .int 0, .int 0, .int 0, .int 0])), (q5, .inr (1, [.int 0, .int 0, .int 0, .int 0, .int 0, .int 0])), (q6, .inr (1, [.int 0, .int 0, .int 0, .int 0, .int 0, .int 0])), (q7, .inr (1, [.int 0, .int 0, .int 0, .int 0, .int 0, .int 0])), (q8, .inr (1, [.int 0, .int 0, .int 0, .int 0, .int 0, .int 0])), (q9, .inr (1, [.int 0, .int 0, .int 0, .int 0, .int 0, .int 0])), (q10, .inl (ca 3, 8, .inr (.inr (.inr (.inr (fun j => ([q11, q12, q13, q14, q15, q16, q17, q18] : List Nat)[j]?)))))), (q11, .inr (2, [.int 0, .int 0, .int 0, .int 0, .int 0, .int 0])), (q12, .inr (2, [.int 0, .int 0, .int 0, .int 0, .int 0, .int 0])), (q13, .inr (2, [.int 0, .int 0, .int 0, .int 0, .int 0, .int 0])), (q14, .inr (2, [.int 0, .int 0, .int 0, .int 0, .int 0, .int 0])), (q15, .inr (2, [.int 0, .int 0, .int 0, .int 0, .int 0, .int 0])), (q16, .inr (2, [.int 0, .int 0, .int 0, .int 0, .int 0, .int 0])), (q17, .inr (2, [.int 0, .int 0, .int 0, .int 0, .int 0, .int 0])), (q18, .inr (2, [.int 0, .int 0, .int 0, .int 0, .int 0, .int 0])), (q19, .inl (ca 1, 4, .inl (fun _ => 0))), (q20, .inl (ca 0, 8, .inl (fun _ => 0))), (q21, .inl (ca 0, 8, .inl (fun _ => 0))), (q22, .inr (4, [.ref q23, .ref q24, .ref q25, .ref q26, .ref q27, .ref q28, .ref q29, .ref q30, .ref q31, .int 0, .int 0, .int 0, .int 0])), (q23, .inl (ca 0, 64, .inl (fun _ => 0))), (q24, .inl (ca 0, 64, .inl (fun _ => 0))), (q25, .inl (ca 0, 8, .inl (fun _ => 0))), (q26, .inl (ca 0, 8, .inl (fun _ => 0))), (q27, .inl (ca 0, 8, .inl (fun _ => 0))), (q28, .inl (ca 0, 8, .inl (fun _ => 0))), (q29, .inl (ca 0, 64, .inl (fun _ => 0))), (q30, .inl (ca 0, 64, .inl (fun _ => 0))), (q31, .inl (ca 0, 64, .inl (fun _ => 0))), (q32, .inr (3, [.ref q33, .ref q34, .ref q35, .int 0])), (q33, .inl (ca 0, 64, .inl (fun _ => 0))), (q34, .inl (ca 0, 64, .inl (fun _ => 0))), (q35, .inl (ca 0, 64, .inl (fun _ => 0)))]) rfl d_D_init_118 (fun C => ?_)
  refine v_aload_n C d_D_init_121 rfl 1 rfl ?_
  refine v_iconst C (v := (0 : Int32)) d_D_init_122 (by decide) ?_
  refine y_put C (ci := 0) ⟨in_D, rfl⟩ ⟨ty_D_ok, nm_D⟩ 0 rfl 7 (by decide) tw_219 rfl (ty := .int) (by decide +kernel) rfl rfl (Nat.le_of_ble_eq_true rfl) (ws' := [(h0, .inr (0, [.ref q1, .ref q10, .ref q19, .ref q20, .ref q21, .ref q22, .ref q32, .int (0 : Int32), .int 0, .int 0, .int 0])), (q1, .inl (ca 2, 8, .inr (.inr (.inr (.inr (fun j => ([q2, q3, q4, q5, q6, q7, q8, q9] : List Nat)[j]?)))))), (q2, .inr (1, [.int 0, .int 0, .int 0, .int 0, .int 0, .int 0])), (q3, .inr (1, [.int 0, .int 0, .int 0, .int 0, .int 0, .int 0])), (q4, .inr (1, [.int 0, .int 0, .int 0, .int 0, .int 0, .int 0])), (q5, .inr (1, [.int 0, .int 0, .int 0, .int 0, .int 0, .int 0])), (q6, .inr (1, [.int 0, .int 0, .int 0, .int 0, .int 0, .int 0])), (q7, .inr (1, [.int 0, .int 0, .int 0, .int 0, .int 0, .int 0])), (q8, .inr (1, [.int 0, .int 0, .int 0, .int 0, .int 0, .int 0])), (q9, .inr (1, [.int 0, .int 0, .int 0, .int 0, .int 0, .int 0])), (q10, .inl (ca 3, 8, .inr (.inr (.inr (.inr (fun j => ([q11, q12, q13, q14, q15, q16, q17, q18] : List Nat)[j]?)))))), (q11, .inr (2, [.int 0, .int 0, .int 0, .int 0, .int 0, .int 0])), (q12, .inr (2, [.int 0, .int 0, .int 0, .int 0, .int 0, .int 0])), (q13, .inr (2, [.int 0, .int 0, .int 0, .int 0, .int 0, .int 0])), (q14, .inr (2, [.int 0, .int 0, .int 0, .int 0, .int 0, .int 0])), (q15, .inr (2, [.int 0, .int 0, .int 0, .int 0, .int 0, .int 0])), (q16, .inr (2, [.int 0, .int 0, .int 0, .int 0, .int 0, .int 0])), (q17, .inr (2, [.int 0, .int 0, .int 0, .int 0, .int 0, .int 0])), (q18, .inr (2, [.int 0, .int 0, .int 0, .int 0, .int 0, .int 0])), (q19, .inl (ca 1, 4, .inl (fun _ => 0))), (q20, .inl (ca 0, 8, .inl (fun _ => 0))), (q21, .inl (ca 0, 8, .inl (fun _ => 0))), (q22, .inr (4, [.ref q23, .ref q24, .ref q25, .ref q26, .ref q27, .ref q28, .ref q29, .ref q30, .ref q31, .int 0, .int 0, .int 0, .int 0])), (q23, .inl (ca 0, 64, .inl (fun _ => 0))), (q24, .inl (ca 0, 64, .inl (fun _ => 0))), (q25, .inl (ca 0, 8, .inl (fun _ => 0))), (q26, .inl (ca 0, 8, .inl (fun _ => 0))), (q27, .inl (ca 0, 8, .inl (fun _ => 0))), (q28, .inl (ca 0, 8, .inl (fun _ => 0))), (q29, .inl (ca 0, 64, .inl (fun _ => 0))), (q30, .inl (ca 0, 64, .inl (fun _ => 0))), (q31, .inl (ca 0, 64, .inl (fun _ => 0))), (q32, .inr (3, [.ref q33, .ref q34, .ref q35, .int 0])), (q33, .inl (ca 0, 64, .inl (fun _ => 0))), (q34, .inl (ca 0, 64, .inl (fun _ => 0))), (q35, .inl (ca 0, 64, .inl (fun _ => 0)))]) rfl d_D_init_123 (fun C => ?_)
  refine v_aload_n C d_D_init_126 rfl 1 rfl ?_
  refine v_iconst C (v := (0 : Int32)) d_D_init_127 (by decide) ?_
  refine y_put C (ci := 0) ⟨in_D, rfl⟩ ⟨ty_D_ok, nm_D⟩ 0 rfl 8 (by decide) tw_220 rfl (ty := .int) (by decide +kernel) rfl rfl (Nat.le_of_ble_eq_true rfl) (ws' := [(h0, .inr (0, [.ref q1, .ref q10, .ref q19, .ref q20, .ref q21, .ref q22, .ref q32, .int (0 : Int32), .int (0 : Int32), .int 0, .int 0])), (q1, .inl (ca 2, 8, .inr (.inr (.inr (.inr (fun j => ([q2, q3, q4, q5, q6, q7, q8, q9] : List Nat)[j]?)))))), (q2, .inr (1, [.int 0, .int 0, .int 0, .int 0, .int 0, .int 0])), (q3, .inr (1, [.int 0, .int 0, .int 0, .int 0, .int 0, .int 0])), (q4, .inr (1, [.int 0, .int 0, .int 0, .int 0, .int 0, .int 0])), (q5, .inr (1, [.int 0, .int 0, .int 0, .int 0, .int 0, .int 0])), (q6, .inr (1, [.int 0, .int 0, .int 0, .int 0, .int 0, .int 0])), (q7, .inr (1, [.int 0, .int 0, .int 0, .int 0, .int 0, .int 0])), (q8, .inr (1, [.int 0, .int 0, .int 0, .int 0, .int 0, .int 0])), (q9, .inr (1, [.int 0, .int 0, .int 0, .int 0, .int 0, .int 0])), (q10, .inl (ca 3, 8, .inr (.inr (.inr (.inr (fun j => ([q11, q12, q13, q14, q15, q16, q17, q18] : List Nat)[j]?)))))), (q11, .inr (2, [.int 0, .int 0, .int 0, .int 0, .int 0, .int 0])), (q12, .inr (2, [.int 0, .int 0, .int 0, .int 0, .int 0, .int 0])), (q13, .inr (2, [.int 0, .int 0, .int 0, .int 0, .int 0, .int 0])), (q14, .inr (2, [.int 0, .int 0, .int 0, .int 0, .int 0, .int 0])), (q15, .inr (2, [.int 0, .int 0, .int 0, .int 0, .int 0, .int 0])), (q16, .inr (2, [.int 0, .int 0, .int 0, .int 0, .int 0, .int 0])), (q17, .inr (2, [.int 0, .int 0, .int 0, .int 0, .int 0, .int 0])), (q18, .inr (2, [.int 0, .int 0, .int 0, .int 0, .int 0, .int 0])), (q19, .inl (ca 1, 4, .inl (fun _ => 0))), (q20, .inl (ca 0, 8, .inl (fun _ => 0))), (q21, .inl (ca 0, 8, .inl (fun _ => 0))), (q22, .inr (4, [.ref q23, .ref q24, .ref q25, .ref q26, .ref q27, .ref q28, .ref q29, .ref q30, .ref q31, .int 0, .int 0, .int 0, .int 0])), (q23, .inl (ca 0, 64, .inl (fun _ => 0))), (q24, .inl (ca 0, 64, .inl (fun _ => 0))), (q25, .inl (ca 0, 8, .inl (fun _ => 0))), (q26, .inl (ca 0, 8, .inl (fun _ => 0))), (q27, .inl (ca 0, 8, .inl (fun _ => 0))), (q28, .inl (ca 0, 8, .inl (fun _ => 0))), (q29, .inl (ca 0, 64, .inl (fun _ => 0))), (q30, .inl (ca 0, 64, .inl (fun _ => 0))), (q31, .inl (ca 0, 64, .inl (fun _ => 0))), (q32, .inr (3, [.ref q33, .ref q34, .ref q35, .int 0])), (q33, .inl (ca 0, 64, .inl (fun _ => 0))), (q34, .inl (ca 0, 64, .inl (fun _ => 0))), (q35, .inl (ca 0, 64, .inl (fun _ => 0)))]) rfl d_D_init_128 (fun C => ?_)
  refine v_aload_n C d_D_init_131 rfl 1 rfl ?_
  refine v_iconst C (v := (0 : Int32)) d_D_init_132 (by decide) ?_
  refine y_put C (ci := 0) ⟨in_D, rfl⟩ ⟨ty_D_ok, nm_D⟩ 0 rfl 9 (by decide) tw_221 rfl (ty := .boolean) (by decide +kernel) rfl rfl (Nat.le_of_ble_eq_true rfl) (ws' := [(h0, .inr (0, [.ref q1, .ref q10, .ref q19, .ref q20, .ref q21, .ref q22, .ref q32, .int (0 : Int32), .int (0 : Int32), .int (0 : Int32), .int 0])), (q1, .inl (ca 2, 8, .inr (.inr (.inr (.inr (fun j => ([q2, q3, q4, q5, q6, q7, q8, q9] : List Nat)[j]?)))))), (q2, .inr (1, [.int 0, .int 0, .int 0, .int 0, .int 0, .int 0])), (q3, .inr (1, [.int 0, .int 0, .int 0, .int 0, .int 0, .int 0])), (q4, .inr (1, [.int 0, .int 0, .int 0, .int 0, .int 0, .int 0])), (q5, .inr (1, [.int 0, .int 0, .int 0, .int 0, .int 0, .int 0])), (q6, .inr (1, [.int 0, .int 0, .int 0, .int 0, .int 0, .int 0])), (q7, .inr (1, [.int 0, .int 0, .int 0, .int 0, .int 0, .int 0])), (q8, .inr (1, [.int 0, .int 0, .int 0, .int 0, .int 0, .int 0])), (q9, .inr (1, [.int 0, .int 0, .int 0, .int 0, .int 0, .int 0])), (q10, .inl (ca 3, 8, .inr (.inr (.inr (.inr (fun j => ([q11, q12, q13, q14, q15, q16, q17, q18] : List Nat)[j]?)))))), (q11, .inr (2, [.int 0, .int 0, .int 0, .int 0, .int 0, .int 0])), (q12, .inr (2, [.int 0, .int 0, .int 0, .int 0, .int 0, .int 0])), (q13, .inr (2, [.int 0, .int 0, .int 0, .int 0, .int 0, .int 0])), (q14, .inr (2, [.int 0, .int 0, .int 0, .int 0, .int 0, .int 0])), (q15, .inr (2, [.int 0, .int 0, .int 0, .int 0, .int 0, .int 0])), (q16, .inr (2, [.int 0, .int 0, .int 0, .int 0, .int 0, .int 0])), (q17, .inr (2, [.int 0, .int 0, .int 0, .int 0, .int 0, .int 0])), (q18, .inr (2, [.int 0, .int 0, .int 0, .int 0, .int 0, .int 0])), (q19, .inl (ca 1, 4, .inl (fun _ => 0))), (q20, .inl (ca 0, 8, .inl (fun _ => 0))), (q21, .inl (ca 0, 8, .inl (fun _ => 0))), (q22, .inr (4, [.ref q23, .ref q24, .ref q25, .ref q26, .ref q27, .ref q28, .ref q29, .ref q30, .ref q31, .int 0, .int 0, .int 0, .int 0])), (q23, .inl (ca 0, 64, .inl (fun _ => 0))), (q24, .inl (ca 0, 64, .inl (fun _ => 0))), (q25, .inl (ca 0, 8, .inl (fun _ => 0))), (q26, .inl (ca 0, 8, .inl (fun _ => 0))), (q27, .inl (ca 0, 8, .inl (fun _ => 0))), (q28, .inl (ca 0, 8, .inl (fun _ => 0))), (q29, .inl (ca 0, 64, .inl (fun _ => 0))), (q30, .inl (ca 0, 64, .inl (fun _ => 0))), (q31, .inl (ca 0, 64, .inl (fun _ => 0))), (q32, .inr (3, [.ref q33, .ref q34, .ref q35, .int 0])), (q33, .inl (ca 0, 64, .inl (fun _ => 0))), (q34, .inl (ca 0, 64, .inl (fun _ => 0))), (q35, .inl (ca 0, 64, .inl (fun _ => 0)))]) rfl d_D_init_133 (fun C => ?_)
  refine v_aload_n C d_D_init_136 rfl 1 rfl ?_
  refine v_iconst C (v := (0 : Int32)) d_D_init_137 (by decide) ?_
  refine y_put C (ci := 0) ⟨in_D, rfl⟩ ⟨ty_D_ok, nm_D⟩ 0 rfl 10 (by decide) tw_222 rfl (ty := .int) (by decide +kernel) rfl rfl (Nat.le_of_ble_eq_true rfl) (ws' := [(h0, .inr (0, [.ref q1, .ref q10, .ref q19, .ref q20, .ref q21, .ref q22, .ref q32, .int (0 : Int32), .int (0 : Int32), .int (0 : Int32), .int (0 : Int32)])), (q1, .inl (ca 2, 8, .inr (.inr (.inr (.inr (fun j => ([q2, q3, q4, q5, q6, q7, q8, q9] : List Nat)[j]?)))))), (q2, .inr (1, [.int 0, .int 0, .int 0, .int 0, .int 0, .int 0])), (q3, .inr (1, [.int 0, .int 0, .int 0, .int 0, .int 0, .int 0])), (q4, .inr (1, [.int 0, .int 0, .int 0, .int 0, .int 0, .int 0])), (q5, .inr (1, [.int 0, .int 0, .int 0, .int 0, .int 0, .int 0])), (q6, .inr (1, [.int 0, .int 0, .int 0, .int 0, .int 0, .int 0])), (q7, .inr (1, [.int 0, .int 0, .int 0, .int 0, .int 0, .int 0])), (q8, .inr (1, [.int 0, .int 0, .int 0, .int 0, .int 0, .int 0])), (q9, .inr (1, [.int 0, .int 0, .int 0, .int 0, .int 0, .int 0])), (q10, .inl (ca 3, 8, .inr (.inr (.inr (.inr (fun j => ([q11, q12, q13, q14, q15, q16, q17, q18] : List Nat)[j]?)))))), (q11, .inr (2, [.int 0, .int 0, .int 0, .int 0, .int 0, .int 0])), (q12, .inr (2, [.int 0, .int 0, .int 0, .int 0, .int 0, .int 0])), (q13, .inr (2, [.int 0, .int 0, .int 0, .int 0, .int 0, .int 0])), (q14, .inr (2, [.int 0, .int 0, .int 0, .int 0, .int 0, .int 0])), (q15, .inr (2, [.int 0, .int 0, .int 0, .int 0, .int 0, .int 0])), (q16, .inr (2, [.int 0, .int 0, .int 0, .int 0, .int 0, .int 0])), (q17, .inr (2, [.int 0, .int 0, .int 0, .int 0, .int 0, .int 0])), (q18, .inr (2, [.int 0, .int 0, .int 0, .int 0, .int 0, .int 0])), (q19, .inl (ca 1, 4, .inl (fun _ => 0))), (q20, .inl (ca 0, 8, .inl (fun _ => 0))), (q21, .inl (ca 0, 8, .inl (fun _ => 0))), (q22, .inr (4, [.ref q23, .ref q24, .ref q25, .ref q26, .ref q27, .ref q28, .ref q29, .ref q30, .ref q31, .int 0, .int 0, .int 0, .int 0])), (q23, .inl (ca 0, 64, .inl (fun _ => 0))), (q24, .inl (ca 0, 64, .inl (fun _ => 0))), (q25, .inl (ca 0, 8, .inl (fun _ => 0))), (q26, .inl (ca 0, 8, .inl (fun _ => 0))), (q27, .inl (ca 0, 8, .inl (fun _ => 0))), (q28, .inl (ca 0, 8, .inl (fun _ => 0))), (q29, .inl (ca 0, 64, .inl (fun _ => 0))), (q30, .inl (ca 0, 64, .inl (fun _ => 0))), (q31, .inl (ca 0, 64, .inl (fun _ => 0))), (q32, .inr (3, [.ref q33, .ref q34, .ref q35, .int 0])), (q33, .inl (ca 0, 64, .inl (fun _ => 0))), (q34, .inl (ca 0, 64, .inl (fun _ => 0))), (q35, .inl (ca 0, 64, .inl (fun _ => 0)))]) rfl d_D_init_138 (fun C => ?_)
  exact y_vret C rfl hr hlk ⟨q1, q2, q3, q4, q5, q6, q7, q8, q9, q10, q11, q12, q13, q14, q15, q16, q17, q18, q19, q20, q21, q22, q23, q24, q25, q26, q27, q28, q29, q30, q31, q32, q33, q34, q35, rfl⟩ d_D_init_141 (by decide) (by decide)
end
section
set_option maxRecDepth 100000 in
set_option maxHeartbeats 8000000 in
theorem c_M_init (l : Launch) (D : va_G) (ca : Nat → ClassId) (h0 : Nat) : yM l y_M_init b_M_init 1 ({ frames := 1, cells := 21, slots := 613, locals := 12 } : Room) h0 D ca [(h0, .inr (5, [.int 0, .int 0, .null, .null, .null, .null, .null, .int 0, .null, .null, .null, .null, .null, .null, .null, .null, .int 0, .null, .null, .null, .int 0, .int 0, .int 0, .null, .null, .null, .null, .null]))] (fun u => ∃ q1 q2 q3 q4 q5 q6 q7 q8 q9 q10 q11 q12 q13 q14 q15 q16 q17 q18 q19 q20 q21 : Nat, u = [(h0, .inr (5, [.int 0, .int 0, .ref q1, .ref q2, .ref q3, .ref q4, .ref q5, .int 0, .ref q6, .ref q7, .ref q8, .ref q9, .ref q10, .ref q11, .ref q12, .ref q13, .int 0, .ref q14, .ref q15, .ref q16, .int 0, .int 0, .int 0, .ref q17, .ref q18, .ref q19, .ref q20, .ref q21])), (q1, .inl (ca 0, 8, .inl (fun _ => 0))), (q2, .inl (ca 0, 8, .inl (fun _ => 0))), (q3, .inl (ca 0, 8, .inl (fun _ => 0))), (q4, .inl (ca 0, 8, .inl (fun _ => 0))), (q5, .inl (ca 0, 8, .inl (fun _ => 0))), (q6, .inl (ca 0, 8, .inl (fun _ => 0))), (q7, .inl (ca 0, 8, .inl (fun _ => 0))), (q8, .inl (ca 0, 8, .inl (fun _ => 0))), (q9, .inl (ca 0, 8, .inl (fun _ => 0))), (q10, .inl (ca 0, 8, .inl (fun _ => 0))), (q11, .inl (ca 0, 8, .inl (fun _ => 0))), (q12, .inl (ca 1, 64, .inl (fun _ => 0))), (q13, .inl (ca 1, 4, .inl (fun _ => 0))), (q14, .inl (ca 0, 64, .inl (fun _ => 0))), (q15, .inl (ca 0, 64, .inl (fun _ => 0))), (q16, .inl (ca 0, 64, .inl (fun _ => 0))), (q17, .inl (ca 0, 64, .inl (fun _ => 0))), (q18, .inl (ca 0, 64, .inl (fun _ => 0))), (q19, .inl (ca 0, 65, .inl (fun _ => 0))), (q20, .inl (ca 0, 64, .inl (fun _ => 0))), (q21, .inl (ca 0, 8, .inl (fun _ => 0)))]) 21 613 := by
  refine y_contract (by decide) (by decide) ?_
  intro p e s m below meth c C hT hO hin hr hlk
  refine v_aload_n C d_M_init_0 rfl 0 rfl ?_
  refine y_obj C tw_627 tw_73 twO d_M_init_1 (by decide) (Nat.le_of_ble_eq_true rfl) ?_
  refine v_aload_n C d_M_init_4 rfl 0 rfl ?_
  refine v_bipush C (v := (8 : Int32)) d_M_init_5 (by decide) ?_
  refine y_newa C (t0 := 0) (ty := .int) rfl (fun _ h => by cases h) tw_188 rfl (N' := 8) (a0 := (8, .inl (fun _ => 0))) (fun _ => rfl) (by decide) (by decide) (by decide) (by decide) (by decide) d_M_init_7 (fun q1 C => ?_)
  refine y_putF C hin (ci := 5) ⟨in_M, rfl⟩ ⟨ty_M_ok, nm_M⟩ 0 rfl 2 (by decide) tw_630 rfl rfl (ty := .array .int) (by decide +kernel) rfl rfl (Nat.le_of_ble_eq_true rfl) (ws' := [(h0, .inr (5, [.int 0, .int 0, .ref q1, .null, .null, .null, .null, .int 0, .null, .null, .null, .null, .null, .null, .null, .null, .int 0, .null, .null, .null, .int 0, .int 0, .int 0, .null, .null, .null, .null, .null])), (q1, .inl (ca 0, 8, .inl (fun _ => 0)))]) rfl d_M_init_9 (fun C => ?_)
  refine v_aload_n C d_M_init_12 rfl 0 rfl ?_
  refine v_bipush C (v := (8 : Int32)) d_M_init_13 (by decide) ?_
  refine y_newa C (t0 := 0) (ty := .int) rfl (fun _ h => by cases h) tw_188 rfl (N' := 8) (a0 := (8, .inl (fun _ => 0))) (fun _ => rfl) (by decide) (by decide) (by decide) (by decide) (by decide) d_M_init_15 (fun q2 C => ?_)
  refine y_putF C hin (ci := 5) ⟨in_M, rfl⟩ ⟨ty_M_ok, nm_M⟩ 0 rfl 3 (by decide) tw_631 rfl rfl (ty := .array .int) (by decide +kernel) rfl rfl (Nat.le_of_ble_eq_true rfl) (ws' := [(h0, .inr (5, [.int 0, .int 0, .ref q1, .ref q2, .null, .null, .null, .int 0, .null, .null, .null, .null, .null, .null, .null, .null, .int 0, .null, .null, .null, .int 0, .int 0, .int 0, .null, .null, .null, .null, .null])), (q1, .inl (ca 0, 8, .inl (fun _ => 0))), (q2, .inl (ca 0, 8, .inl (fun _ => 0)))]) rfl d_M_init_17 (fun C => ?_)
  refine v_aload_n C d_M_init_20 rfl 0 rfl ?_
  refine v_bipush C (v := (8 : Int32)) d_M_init_21 (by decide) ?_
  refine y_newa C (t0 := 0) (ty := .int) rfl (fun _ h => by cases h) tw_188 rfl (N' := 8) (a0 := (8, .inl (fun _ => 0))) (fun _ => rfl) (by decide) (by decide) (by decide) (by decide) (by decide) d_M_init_23 (fun q3 C => ?_)
  refine y_putF C hin (ci := 5) ⟨in_M, rfl⟩ ⟨ty_M_ok, nm_M⟩ 0 rfl 4 (by decide) tw_632 rfl rfl (ty := .array .int) (by decide +kernel) rfl rfl (Nat.le_of_ble_eq_true rfl) (ws' := [(h0, .inr (5, [.int 0, .int 0, .ref q1, .ref q2, .ref q3, .null, .null, .int 0, .null, .null, .null, .null, .null, .null, .null, .null, .int 0, .null, .null, .null, .int 0, .int 0, .int 0, .null, .null, .null, .null, .null])), (q1, .inl (ca 0, 8, .inl (fun _ => 0))), (q2, .inl (ca 0, 8, .inl (fun _ => 0))), (q3, .inl (ca 0, 8, .inl (fun _ => 0)))]) rfl d_M_init_25 (fun C => ?_)
  refine v_aload_n C d_M_init_28 rfl 0 rfl ?_
  refine v_bipush C (v := (8 : Int32)) d_M_init_29 (by decide) ?_
  refine y_newa C (t0 := 0) (ty := .int) rfl (fun _ h => by cases h) tw_188 rfl (N' := 8) (a0 := (8, .inl (fun _ => 0))) (fun _ => rfl) (by decide) (by decide) (by decide) (by decide) (by decide) d_M_init_31 (fun q4 C => ?_)
  refine y_putF C hin (ci := 5) ⟨in_M, rfl⟩ ⟨ty_M_ok, nm_M⟩ 0 rfl 5 (by decide) tw_633 rfl rfl (ty := .array .int) (by decide +kernel) rfl rfl (Nat.le_of_ble_eq_true rfl) (ws' := [(h0, .inr (5, [.int 0, .int 0, .ref q1, .ref q2, .ref q3, .ref q4, .null, .int 0, .null, .null, .null, .null, .null, .null, .null, .null, .int 0, .null, .null, .null, .int 0, .int 0, .int 0, .null, .null, .null, .null, .null])), (q1, .inl (ca 0, 8, .inl (fun _ => 0))), (q2, .inl (ca 0, 8, .inl (fun _ => 0))), (q3, .inl (ca 0, 8, .inl (fun _ => 0))), (q4, .inl (ca 0, 8, .inl (fun _ => 0)))]) rfl d_M_init_33 (fun C => ?_)
  refine v_aload_n C d_M_init_36 rfl 0 rfl ?_
  refine v_bipush C (v := (8 : Int32)) d_M_init_37 (by decide) ?_
  refine y_newa C (t0 := 0) (ty := .int) rfl (fun _ h => by cases h) tw_188 rfl (N' := 8) (a0 := (8, .inl (fun _ => 0))) (fun _ => rfl) (by decide) (by decide) (by decide) (by decide) (by decide) d_M_init_39 (fun q5 C => ?_)
  refine y_putF C hin (ci := 5) ⟨in_M, rfl⟩ ⟨ty_M_ok, nm_M⟩ 0 rfl 6 (by decide) tw_634 rfl rfl (ty := .array .int) (by decide +kernel) rfl rfl (Nat.le_of_ble_eq_true rfl) (ws' := [(h0, .inr (5, [.int 0, .int 0, .ref q1, .ref q2, .ref q3, .ref q4, .ref q5, .int 0, .null, .null, .null, .null, .null, .null, .null, .null, .int 0, .null, .null, .null, .int 0, .int 0, .int 0, .null, .null, .null, .null, .null])), (q1, .inl (ca 0, 8, .inl (fun _ => 0))), (q2, .inl (ca 0, 8, .inl (fun _ => 0))), (q3, .inl (ca 0, 8, .inl (fun _ => 0))), (q4, .inl (ca 0, 8, .inl (fun _ => 0))), (q5, .inl (ca 0, 8, .inl (fun _ => 0)))]) rfl d_M_init_41 (fun C => ?_)
  refine v_aload_n C d_M_init_44 rfl 0 rfl ?_
  refine v_bipush C (v := (8 : Int32)) d_M_init_45 (by decide) ?_
  refine y_newa C (t0 := 0) (ty := .int) rfl (fun _ h => by cases h) tw_188 rfl (N' := 8) (a0 := (8, .inl (fun _ => 0))) (fun _ => rfl) (by decide) (by decide) (by decide) (by decide) (by decide) d_M_init_47 (fun q6 C => ?_)
  refine y_putF C hin (ci := 5) ⟨in_M, rfl⟩ ⟨ty_M_ok, nm_M⟩ 0 rfl 8 (by decide) tw_636 rfl rfl (ty := .array .int) (by decide +kernel) rfl rfl (Nat.le_of_ble_eq_true rfl) (ws' := [(h0, .inr (5, [.int 0, .int 0, .ref q1, .ref q2, .ref q3, .ref q4, .ref q5, .int 0, .ref q6, .null, .null, .null, .null, .null, .null, .null, .int 0, .null, .null, .null, .int 0, .int 0, .int 0, .null, .null, .null, .null, .null])), (q1, .inl (ca 0, 8, .inl (fun _ => 0))), (q2, .inl (ca 0, 8, .inl (fun _ => 0))), (q3, .inl (ca 0, 8, .inl (fun _ => 0))), (q4, .inl (ca 0, 8, .inl (fun _ => 0))), (q5, .inl (ca 0, 8, .inl (fun _ => 0))), (q6, .inl (ca 0, 8, .inl (fun _ => 0)))]) rfl d_M_init_49 (fun C => ?_)
  refine v_aload_n C d_M_init_52 rfl 0 rfl ?_
  refine v_bipush C (v := (8 : Int32)) d_M_init_53 (by decide) ?_
  refine y_newa C (t0 := 0) (ty := .int) rfl (fun _ h => by cases h) tw_188 rfl (N' := 8) (a0 := (8, .inl (fun _ => 0))) (fun _ => rfl) (by decide) (by decide) (by decide) (by decide) (by decide) d_M_init_55 (fun q7 C => ?_)
  refine y_putF C hin (ci := 5) ⟨in_M, rfl⟩ ⟨ty_M_ok, nm_M⟩ 0 rfl 9 (by decide) tw_637 rfl rfl (ty := .array .int) (by decide +kernel) rfl rfl (Nat.le_of_ble_eq_true rfl) (ws' := [(h0, .inr (5, [.int 0, .int 0, .ref q1, .ref q2, .ref q3, .ref q4, .ref q5, .int 0, .ref q6, .ref q7, .null, .null, .null, .null, .null, .null, .int 0, .null, .null, .null, .int 0, .int 0, .int 0, .null, .null, .null, .null, .null])), (q1, .inl (ca 0, 8, .inl (fun _ => 0))), (q2, .inl (ca 0, 8, .inl (fun _ => 0))), (q3, .inl (ca 0, 8, .inl (fun _ => 0))), (q4, .inl (ca 0, 8, .inl (fun _ => 0))), (q5, .inl (ca 0, 8, .inl (fun _ => 0))), (q6, .inl (ca 0, 8, .inl (fun _ => 0))), (q7, .inl (ca 0, 8, .inl (fun _ => 0)))]) rfl d_M_init_57 (fun C => ?_)
  refine v_aload_n C d_M_init_60 rfl 0 rfl ?_
  refine v_bipush C (v := (8 : Int32)) d_M_init_61 (by decide) ?_
  refine y_newa C (t0 := 0) (ty := .int) rfl (fun _ h => by cases h) tw_188 rfl (N' := 8) (a0 := (8, .inl (fun _ => 0))) (fun _ => rfl) (by decide) (by decide) (by decide) (by decide) (by decide) d_M_init_63 (fun q8 C => ?_)
  refine y_putF C hin (ci := 5) ⟨in_M, rfl⟩ ⟨ty_M_ok, nm_M⟩ 0 rfl 10 (by decide) tw_638 rfl rfl (ty := .array .int) (by decide +kernel) rfl rfl (Nat.le_of_ble_eq_true rfl) (ws' := [(h0, .inr (5, [.int 0, .int 0, .ref q1, .ref q2, .ref q3, .ref q4, .ref q5, .int 0, .ref q6, .ref q7, .ref q8, .null, .null, .null, .null, .null, .int 0, .null, .null, .null, .int 0, .int 0, .int 0, .null, .null, .null, .null, .null])), (q1, .inl (ca 0, 8, .inl (fun _ => 0))), (q2, .inl (ca 0, 8, .inl (fun _ => 0))), (q3, .inl (ca 0, 8, .inl (fun _ => 0))), (q4, .inl (ca 0, 8, .inl (fun _ => 0))), (q5, .inl (ca 0, 8, .inl (fun _ => 0))), (q6, .inl (ca 0, 8, .inl (fun _ => 0))), (q7, .inl (ca 0, 8, .inl (fun _ => 0))), (q8, .inl (ca 0, 8, .inl (fun _ => 0)))]) rfl d_M_init_65 (fun C => ?_)
  refine v_aload_n C d_M_init_68 rfl 0 rfl ?_
  refine v_bipush C (v := (8 : Int32)) d_M_init_69 (by decide) ?_
  refine y_newa C (t0 := 0) (ty := .int) rfl (fun _ h => by cases h) tw_188 rfl (N' := 8) (a0 := (8, .inl (fun _ => 0))) (fun _ => rfl) (by decide) (by decide) (by decide) (by decide) (by decide) d_M_init_71 (fun q9 C => ?_)
  refine y_putF C hin (ci := 5) ⟨in_M, rfl⟩ ⟨ty_M_ok, nm_M⟩ 0 rfl 11 (by decide) tw_639 rfl rfl (ty := .array .int) (by decide +kernel) rfl rfl (Nat.le_of_ble_eq_true rfl) (ws' := [(h0, .inr (5, [.int 0, .int 0, .ref q1, .ref q2, .ref q3, .ref q4, .ref q5, .int 0, .ref q6, .ref q7, .ref q8, .ref q9, .null, .null, .null, .null, .int 0, .null, .null, .null, .int 0, .int 0, .int 0, .null, .null, .null, .null, .null])), (q1, .inl (ca 0, 8, .inl (fun _ => 0))), (q2, .inl (ca 0, 8, .inl (fun _ => 0))), (q3, .inl (ca 0, 8, .inl (fun _ => 0))), (q4, .inl (ca 0, 8, .inl (fun _ => 0))), (q5, .inl (ca 0, 8, .inl (fun _ => 0))), (q6, .inl (ca 0, 8, .inl (fun _ => 0))), (q7, .inl (ca 0, 8, .inl (fun _ => 0))), (q8, .inl (ca 0, 8, .inl (fun _ => 0))), (q9, .inl (ca 0, 8, .inl (fun _ => 0)))]) rfl d_M_init_73 (fun C => ?_)
  refine v_aload_n C d_M_init_76 rfl 0 rfl ?_
  refine v_bipush C (v := (8 : Int32)) d_M_init_77 (by decide) ?_
  refine y_newa C (t0 := 0) (ty := .int) rfl (fun _ h => by cases h) tw_188 rfl (N' := 8) (a0 := (8, .inl (fun _ => 0))) (fun _ => rfl) (by decide) (by decide) (by decide) (by decide) (by decide) d_M_init_79 (fun q10 C => ?_)
  refine y_putF C hin (ci := 5) ⟨in_M, rfl⟩ ⟨ty_M_ok, nm_M⟩ 0 rfl 12 (by decide) tw_640 rfl rfl (ty := .array .int) (by decide +kernel) rfl rfl (Nat.le_of_ble_eq_true rfl) (ws' := [(h0, .inr (5, [.int 0, .int 0, .ref q1, .ref q2, .ref q3, .ref q4, .ref q5, .int 0, .ref q6, .ref q7, .ref q8, .ref q9, .ref q10, .null, .null, .null, .int 0, .null, .null, .null, .int 0, .int 0, .int 0, .null, .null, .null, .null, .null])), (q1, .inl (ca 0, 8, .inl (fun _ => 0))), (q2, .inl (ca 0, 8, .inl (fun _ => 0))), (q3, .inl (ca 0, 8, .inl (fun _ => 0))), (q4, .inl (ca 0, 8, .inl (fun _ => 0))), (q5, .inl (ca 0, 8, .inl (fun _ => 0))), (q6, .inl (ca 0, 8, .inl (fun _ => 0))), (q7, .inl (ca 0, 8, .inl (fun _ => 0))), (q8, .inl (ca 0, 8, .inl (fun _ => 0))), (q9, .inl (ca 0, 8, .inl (fun _ => 0))), (q10, .inl (ca 0, 8, .inl (fun _ => 0)))]) rfl d_M_init_81 (fun C => ?_)
  refine v_aload_n C d_M_init_84 rfl 0 rfl ?_
  refine v_bipush C (v := (8 : Int32)) d_M_init_85 (by decide) ?_
  refine y_newa C (t0 := 0) (ty := .int) rfl (fun _ h => by cases h) tw_188 rfl (N' := 8) (a0 := (8, .inl (fun _ => 0))) (fun _ => rfl) (by decide) (by decide) (by decide) (by decide) (by decide) d_M_init_87 (fun q11 C => ?_)
  refine y_putF C hin (ci := 5) ⟨in_M, rfl⟩ ⟨ty_M_ok, nm_M⟩ 0 rfl 13 (by decide) tw_641 rfl rfl (ty := .array .int) (by decide +kernel) rfl rfl (Nat.le_of_ble_eq_true rfl) (ws' := [(h0, .inr (5, [.int 0, .int 0, .ref q1, .ref q2, .ref q3, .ref q4, .ref q5, .int 0, .ref q6, .ref q7, .ref q8, .ref q9, .ref q10, .ref q11, .null, .null, .int 0, .null, .null, .null, .int 0, .int 0, .int 0, .null, .null, .null, .null, .null])), (q1, .inl (ca 0, 8, .inl (fun _ => 0))), (q2, .inl (ca 0, 8, .inl (fun _ => 0))), (q3, .inl (ca 0, 8, .inl (fun _ => 0))), (q4, .inl (ca 0, 8, .inl (fun _ => 0))), (q5, .inl (ca 0, 8, .inl (fun _ => 0))), (q6, .inl (ca 0, 8, .inl (fun _ => 0))), (q7, .inl (ca 0, 8, .inl (fun _ => 0))), (q8, .inl (ca 0, 8, .inl (fun _ => 0))), (q9, .inl (ca 0, 8, .inl (fun _ => 0))), (q10, .inl (ca 0, 8, .inl (fun _ => 0))), (q11, .inl (ca 0, 8, .inl (fun _ => 0)))]) rfl d_M_init_89 (fun C => ?_)
  refine v_aload_n C d_M_init_92 rfl 0 rfl ?_
  refine v_bipush C (v := (64 : Int32)) d_M_init_93 (by decide) ?_
  refine y_newa C (t0 := 1) (ty := .boolean) rfl (fun _ h => by cases h) tw_187 rfl (N' := 64) (a0 := (64, .inl (fun _ => 0))) (fun _ => rfl) (by decide) (by decide) (by decide) (by decide) (by decide) d_M_init_95 (fun q12 C => ?_)
  refine y_putF C hin (ci := 5) ⟨in_M, rfl⟩ ⟨ty_M_ok, nm_M⟩ 0 rfl 14 (by decide) tw_642 rfl rfl (ty := .array .boolean) (by decide +kernel) rfl rfl (Nat.le_of_ble_eq_true rfl) (ws' := [(h0, .inr (5, [.int 0, .int 0, .ref q1, .ref q2, .ref q3, .ref q4, .ref q5, .int 0, .ref q6, .ref q7, .ref q8, .ref q9, .ref q10, .ref q11, .ref q12, .null, .int 0, .null, .null, .null, .int 0, .int 0, .int 0, .null, .null, .null, .null, .null])), (q1, .inl (ca 0, 8, .inl (fun _ => 0))), (q2, .inl (ca 0, 8, .inl (fun _ => 0))), (q3, .inl (ca 0, 8, .inl (fun _ => 0))), (q4, .inl (ca 0, 8, .inl (fun _ => 0))), (q5, .inl (ca 0, 8, .inl (fun _ => 0))), (q6, .inl (ca 0, 8, .inl (fun _ => 0))), (q7, .inl (ca 0, 8, .inl (fun _ => 0))), (q8, .inl (ca 0, 8, .inl (fun _ => 0))), (q9, .inl (ca 0, 8, .inl (fun _ => 0))), (q10, .inl (ca 0, 8, .inl (fun _ => 0))), (q11, .inl (ca 0, 8, .inl (fun _ => 0))), (q12, .inl (ca 1, 64, .inl (fun _ => 0)))]) rfl d_M_init_97 (fun C => ?_)
  refine v_aload_n C d_M_init_100 rfl 0 rfl ?_
  refine v_iconst C (v := (4 : Int32)) d_M_init_101 (by decide) ?_
  refine y_newa C (t0 := 1) (ty := .boolean) rfl (fun _ h => by cases h) tw_187 rfl (N' := 4) (a0 := (4, .inl (fun _ => 0))) (fun _ => rfl) (by decide) (by decide) (by decide) (by decide) (by decide) d_M_init_102 (fun q13 C => ?_)
  refine y_putF C hin (ci := 5) ⟨in_M, rfl⟩ ⟨ty_M_ok, nm_M⟩ 0 rfl 15 (by decide) tw_643 rfl rfl (ty := .array .boolean) (by decide +kernel) rfl rfl (Nat.le_of_ble_eq_true rfl) (ws' := [(h0, .inr (5, [.int 0, .int 0, .ref q1, .ref q2, .ref q3, .ref q4, .ref q5, .int 0, .ref q6, .ref q7, .ref q8, .ref q9, .ref q10, .ref q11, .ref q12, .ref q13, .int 0, .null, .null, .null, .int 0, .int 0, .int 0, .null, .null, .null, .null, .null])), (q1, .inl (ca 0, 8, .inl (fun _ => 0))), (q2, .inl (ca 0, 8, .inl (fun _ => 0))), (q3, .inl (ca 0, 8, .inl (fun _ => 0))), (q4, .inl (ca 0, 8, .inl (fun _ => 0))), (q5, .inl (ca 0, 8, .inl (fun _ => 0))), (q6, .inl (ca 0, 8, .inl (fun _ => 0))), (q7, .inl (ca 0, 8, .inl (fun _ => 0))), (q8, .inl (ca 0, 8, .inl (fun _ => 0))), (q9, .inl (ca 0, 8, .inl (fun _ => 0))), (q10, .inl (ca 0, 8, .inl (fun _ => 0))), (q11, .inl (ca 0, 8, .inl (fun _ => 0))), (q12, .inl (ca 1, 64, .inl (fun _ => 0))), (q13, .inl (ca 1, 4, .inl (fun _ => 0)))]) rfl d_M_init_104 (fun C => ?_)
  refine v_aload_n C d_M_init_107 rfl 0 rfl ?_
  refine v_bipush C (v := (64 : Int32)) d_M_init_108 (by decide) ?_
  refine y_newa C (t0 := 0) (ty := .int) rfl (fun _ h => by cases h) tw_188 rfl (N' := 64) (a0 := (64, .inl (fun _ => 0))) (fun _ => rfl) (by decide) (by decide) (by decide) (by decide) (by decide) d_M_init_110 (fun q14 C => ?_)
  refine y_putF C hin (ci := 5) ⟨in_M, rfl⟩ ⟨ty_M_ok, nm_M⟩ 0 rfl 17 (by decide) tw_645 rfl rfl (ty := .array .int) (by decide +kernel) rfl rfl (Nat.le_of_ble_eq_true rfl) (ws' := [(h0, .inr (5, [.int 0, .int 0, .ref q1, .ref q2, .ref q3, .ref q4, .ref q5, .int 0, .ref q6, .ref q7, .ref q8, .ref q9, .ref q10, .ref q11, .ref q12, .ref q13, .int 0, .ref q14, .null, .null, .int 0, .int 0, .int 0, .null, .null, .null, .null, .null])), (q1, .inl (ca 0, 8, .inl (fun _ => 0))), (q2, .inl (ca 0, 8, .inl (fun _ => 0))), (q3, .inl (ca 0, 8, .inl (fun _ => 0))), (q4, .inl (ca 0, 8, .inl (fun _ => 0))), (q5, .inl (ca 0, 8, .inl (fun _ => 0))), (q6, .inl (ca 0, 8, .inl (fun _ => 0))), (q7, .inl (ca 0, 8, .inl (fun _ => 0))), (q8, .inl (ca 0, 8, .inl (fun _ => 0))), (q9, .inl (ca 0, 8, .inl (fun _ => 0))), (q10, .inl (ca 0, 8, .inl (fun _ => 0))), (q11, .inl (ca 0, 8, .inl (fun _ => 0))), (q12, .inl (ca 1, 64, .inl (fun _ => 0))), (q13, .inl (ca 1, 4, .inl (fun _ => 0))), (q14, .inl (ca 0, 64, .inl (fun _ => 0)))]) rfl d_M_init_112 (fun C => ?_)
  refine v_aload_n C d_M_init_115 rfl 0 rfl ?_
  refine v_bipush C (v := (64 : Int32)) d_M_init_116 (by decide) ?_
  refine y_newa C (t0 := 0) (ty := .int) rfl (fun _ h => by cases h) tw_188 rfl (N' := 64) (a0 := (64, .inl (fun _ => 0))) (fun _ => rfl) (by decide) (by decide) (by decide) (by decide) (by decide) d_M_init_118 (fun q15 C => ?_)
  refine y_putF C hin (ci := 5) ⟨in_M, rfl⟩ ⟨ty_M_ok, nm_M⟩ 0 rfl 18 (by decide) tw_646 rfl rfl (ty := .array .int) (by decide +kernel) rfl rfl (Nat.le_of_ble_eq_true rfl) (ws' := [(h0, .inr (5, [.int 0, .int 0, .ref q1, .ref q2, .ref q3, .ref q4, .ref q5, .int 0, .ref q6, .ref q7, .ref q8, .ref q9, .ref q10, .ref q11, .ref q12, .ref q13, .int 0, .ref q14, .ref q15, .null, .int 0, .int 0, .int 0, .null, .null, .null, .null, .null])), (q1, .inl (ca 0, 8, .inl (fun _ => 0))), (q2, .inl (ca 0, 8, .inl (fun _ => 0))), (q3, .inl (ca 0, 8, .inl (fun _ => 0))), (q4, .inl (ca 0, 8, .inl (fun _ => 0))), (q5, .inl (ca 0, 8, .inl (fun _ => 0))), (q6, .inl (ca 0, 8, .inl (fun _ => 0))), (q7, .inl (ca 0, 8, .inl (fun _ => 0))), (q8, .inl (ca 0, 8, .inl (fun _ => 0))), (q9, .inl (ca 0, 8, .inl (fun _ => 0))), (q10, .inl (ca 0, 8, .inl (fun _ => 0))), (q11, .inl (ca 0, 8, .inl (fun _ => 0))), (q12, .inl (ca 1, 64, .inl (fun _ => 0))), (q13, .inl (ca 1, 4, .inl (fun _ => 0))), (q14, .inl (ca 0, 64, .inl (fun _ => 0))), (q15, .inl (ca 0, 64, .inl (fun _ => 0)))]) rfl d_M_init_120 (fun C => ?_)
  refine v_aload_n C d_M_init_123 rfl 0 rfl ?_
  refine v_bipush C (v := (64 : Int32)) d_M_init_124 (by decide) ?_
  refine y_newa C (t0 := 0) (ty := .int) rfl (fun _ h => by cases h) tw_188 rfl (N' := 64) (a0 := (64, .inl (fun _ => 0))) (fun _ => rfl) (by decide) (by decide) (by decide) (by decide) (by decide) d_M_init_126 (fun q16 C => ?_)
  refine y_putF C hin (ci := 5) ⟨in_M, rfl⟩ ⟨ty_M_ok, nm_M⟩ 0 rfl 19 (by decide) tw_647 rfl rfl (ty := .array .int) (by decide +kernel) rfl rfl (Nat.le_of_ble_eq_true rfl) (ws' := [(h0, .inr (5, [.int 0, .int 0, .ref q1, .ref q2, .ref q3, .ref q4, .ref q5, .int 0, .ref q6, .ref q7, .ref q8, .ref q9, .ref q10, .ref q11, .ref q12, .ref q13, .int 0, .ref q14, .ref q15, .ref q16, .int 0, .int 0, .int 0, .null, .null, .null, .null, .null])), (q1, .inl (ca 0, 8, .inl (fun _ => 0))), (q2, .inl (ca 0, 8, .inl (fun _ => 0))), (q3, .inl (ca 0, 8, .inl (fun _ => 0))), (q4, .inl (ca 0, 8, .inl (fun _ => 0))), (q5, .inl (ca 0, 8, .inl (fun _ => 0))), (q6, .inl (ca 0, 8, .inl (fun _ => 0))), (q7, .inl (ca 0, 8, .inl (fun _ => 0))), (q8, .inl (ca 0, 8, .inl (fun _ => 0))), (q9, .inl (ca 0, 8, .inl (fun _ => 0))), (q10, .inl (ca 0, 8, .inl (fun _ => 0))), (q11, .inl (ca 0, 8, .inl (fun _ => 0))), (q12, .inl (ca 1, 64, .inl (fun _ => 0))), (q13, .inl (ca 1, 4, .inl (fun _ => 0))), (q14, .inl (ca 0, 64, .inl (fun _ => 0))), (q15, .inl (ca 0, 64, .inl (fun _ => 0))), (q16, .inl (ca 0, 64, .inl (fun _ => 0)))]) rfl d_M_init_128 (fun C => ?_)
  refine v_aload_n C d_M_init_131 rfl 0 rfl ?_
  refine v_bipush C (v := (64 : Int32)) d_M_init_132 (by decide) ?_
  refine y_newa C (t0 := 0) (ty := .int) rfl (fun _ h => by cases h) tw_188 rfl (N' := 64) (a0 := (64, .inl (fun _ => 0))) (fun _ => rfl) (by decide) (by decide) (by decide) (by decide) (by decide) d_M_init_134 (fun q17 C => ?_)
  refine y_putF C hin (ci := 5) ⟨in_M, rfl⟩ ⟨ty_M_ok, nm_M⟩ 0 rfl 23 (by decide) tw_651 rfl rfl (ty := .array .int) (by decide +kernel) rfl rfl (Nat.le_of_ble_eq_true rfl) (ws' := [(h0, .inr (5, [.int 0, .int 0, .ref q1, .ref q2, .ref q3, .ref q4, .ref q5, .int 0, .ref q6, .ref q7, .ref q8, .ref q9, .ref q10, .ref q11, .ref q12, .ref q13, .int 0, .ref q14, .ref q15, .ref q16, .int 0, .int 0, .int 0, .ref q17, .null, .null, .null, .null])), (q1, .inl (ca 0, 8, .inl (fun _ => 0))), (q2, .inl (ca 0, 8, .inl (fun _ => 0))), (q3, .inl (ca 0, 8, .inl (fun _ => 0))), (q4, .inl (ca 0, 8, .inl (fun _ => 0))), (q5, .inl (ca 0, 8, .inl (fun _ => 0))), (q6, .inl (ca 0, 8, .inl (fun _ => 0))), (q7, .inl (ca 0, 8, .inl (fun _ => 0))), (q8, .inl (ca 0, 8, .inl (fun _ => 0))), (q9, .inl (ca 0, 8, .inl (fun _ => 0))), (q10, .inl (ca 0, 8, .inl (fun _ => 0))), (q11, .inl (ca 0, 8, .inl (fun _ => 0))), (q12, .inl (ca 1, 64, .inl (fun _ => 0))), (q13, .inl (ca 1, 4, .inl (fun _ => 0))), (q14, .inl (ca 0, 64, .inl (fun _ => 0))), (q15, .inl (ca 0, 64, .inl (fun _ => 0))), (q16, .inl (ca 0, 64, .inl (fun _ => 0))), (q17, .inl (ca 0, 64, .inl (fun _ => 0)))]) rfl d_M_init_136 (fun C => ?_)
  refine v_aload_n C d_M_init_139 rfl 0 rfl ?_
  refine v_bipush C (v := (64 : Int32)) d_M_init_140 (by decide) ?_
  refine y_newa C (t0 := 0) (ty := .int) rfl (fun _ h => by cases h) tw_188 rfl (N' := 64) (a0 := (64, .inl (fun _ => 0))) (fun _ => rfl) (by decide) (by decide) (by decide) (by decide) (by decide) d_M_init_142 (fun q18 C => ?_)
  refine y_putF C hin (ci := 5) ⟨in_M, rfl⟩ ⟨ty_M_ok, nm_M⟩ 0 rfl 24 (by decide) tw_652 rfl rfl (ty := .array .int) (by decide +kernel) rfl rfl (Nat.le_of_ble_eq_true rfl) (ws' := [(h0, .inr (5, [.int 0, .int 0, .ref q1, .ref q2, .ref q3, .ref q4, .ref q5, .int 0, .ref q6, .ref q7, .ref q8, .ref q9, .ref q10, .ref q11, .ref q12, .ref q13, .int 0, .ref q14, .ref q15, .ref q16, .int 0, .int 0, .int 0, .ref q17, .ref q18, .null, .null, .null])), (q1, .inl (ca 0, 8, .inl (fun _ => 0))), (q2, .inl (ca 0, 8, .inl (fun _ => 0))), (q3, .inl (ca 0, 8, .inl (fun _ => 0))), (q4, .inl (ca 0, 8, .inl (fun _ => 0))), (q5, .inl (ca 0, 8, .inl (fun _ => 0))), (q6, .inl (ca 0, 8, .inl (fun _ => 0))), (q7, .inl (ca 0, 8, .inl (fun _ => 0))), (q8, .inl (ca 0, 8, .inl (fun _ => 0))), (q9, .inl (ca 0, 8, .inl (fun _ => 0))), (q10, .inl (ca 0, 8, .inl (fun _ => 0))), (q11, .inl (ca 0, 8, .inl (fun _ => 0))), (q12, .inl (ca 1, 64, .inl (fun _ => 0))), (q13, .inl (ca 1, 4, .inl (fun _ => 0))), (q14, .inl (ca 0, 64, .inl (fun _ => 0))), (q15, .inl (ca 0, 64, .inl (fun _ => 0))), (q16, .inl (ca 0, 64, .inl (fun _ => 0))), (q17, .inl (ca 0, 64, .inl (fun _ => 0))), (q18, .inl (ca 0, 64, .inl (fun _ => 0)))]) rfl d_M_init_144 (fun C => ?_)
  refine v_aload_n C d_M_init_147 rfl 0 rfl ?_
  refine v_bipush C (v := (65 : Int32)) d_M_init_148 (by decide) ?_
  refine y_newa C (t0 := 0) (ty := .int) rfl (fun _ h => by cases h) tw_188 rfl (N' := 65) (a0 := (65, .inl (fun _ => 0))) (fun _ => rfl) (by decide) (by decide) (by decide) (by decide) (by decide) d_M_init_150 (fun q19 C => ?_)
  refine y_putF C hin (ci := 5) ⟨in_M, rfl⟩ ⟨ty_M_ok, nm_M⟩ 0 rfl 25 (by decide) tw_653 rfl rfl (ty := .array .int) (by decide +kernel) rfl rfl (Nat.le_of_ble_eq_true rfl) (ws' := [(h0, .inr (5, [.int 0, .int 0, .ref q1, .ref q2, .ref q3, .ref q4, .ref q5, .int 0, .ref q6, .ref q7, .ref q8, .ref q9, .ref q10, .ref q11, .ref q12, .ref q13, .int 0, .ref q14, .ref q15, .ref q16, .int 0, .int 0, .int 0, .ref q17, .ref q18, .ref q19, .null, .null])), (q1, .inl (ca 0, 8, .inl (fun _ => 0))), (q2, .inl (ca 0, 8, .inl (fun _ => 0))), (q3, .inl (ca 0, 8, .inl (fun _ => 0))), (q4, .inl (ca 0, 8, .inl (fun _ => 0))), (q5, .inl (ca 0, 8, .inl (fun _ => 0))), (q6, .inl (ca 0, 8, .inl (fun _ => 0))), (q7, .inl (ca 0, 8, .inl (fun _ => 0))), (q8, .inl (ca 0, 8, .inl (fun _ => 0))), (q9, .inl (ca 0, 8, .inl (fun _ => 0))), (q10, .inl (ca 0, 8, .inl (fun _ => 0))), (q11, .inl (ca 0, 8, .inl (fun _ => 0))), (q12, .inl (ca 1, 64, .inl (fun _ => 0))), (q13, .inl (ca 1, 4, .inl (fun _ => 0))), (q14, .inl (ca 0, 64, .inl (fun _ => 0))), (q15, .inl (ca 0, 64, .inl (fun _ => 0))), (q16, .inl (ca 0, 64, .inl (fun _ => 0))), (q17, .inl (ca 0, 64, .inl (fun _ => 0))), (q18, .inl (ca 0, 64, .inl (fun _ => 0))), (q19, .inl (ca 0, 65, .inl (fun _ => 0)))]) rfl d_M_init_152 (fun C => ?_)
  refine v_aload_n C d_M_init_155 rfl 0 rfl ?_
  refine v_bipush C (v := (64 : Int32)) d_M_init_156 (by decide) ?_
  refine y_newa C (t0 := 0) (ty := .int) rfl (fun _ h => by cases h) tw_188 rfl (N' := 64) (a0 := (64, .inl (fun _ => 0))) (fun _ => rfl) (by decide) (by decide) (by decide) (by decide) (by decide) d_M_init_158 (fun q20 C => ?_)
  refine y_putF C hin (ci := 5) ⟨in_M, rfl⟩ ⟨ty_M_ok, nm_M⟩ 0 rfl 26 (by decide) tw_654 rfl rfl (ty := .array .int) (by decide +kernel) rfl rfl (Nat.le_of_ble_eq_true rfl) (ws' := [(h0, .inr (5, [.int 0, .int 0, .ref q1, .ref q2, .ref q3, .ref q4, .ref q5, .int 0, .ref q6, .ref q7, .ref q8, .ref q9, .ref q10, .ref q11, .ref q12, .ref q13, .int 0, .ref q14, .ref q15, .ref q16, .int 0, .int 0, .int 0, .ref q17, .ref q18, .ref q19, .ref q20, .null])), (q1, .inl (ca 0, 8, .inl (fun _ => 0))), (q2, .inl (ca 0, 8, .inl (fun _ => 0))), (q3, .inl (ca 0, 8, .inl (fun _ => 0))), (q4, .inl (ca 0, 8, .inl (fun _ => 0))), (q5, .inl (ca 0, 8, .inl (fun _ => 0))), (q6, .inl (ca 0, 8, .inl (fun _ => 0))), (q7, .inl (ca 0, 8, .inl (fun _ => 0))), (q8, .inl (ca 0, 8, .inl (fun _ => 0))), (q9, .inl (ca 0, 8, .inl (fun _ => 0))), (q10, .inl (ca 0, 8, .inl (fun _ => 0))), (q11, .inl (ca 0, 8, .inl (fun _ => 0))), (q12, .inl (ca 1, 64, .inl (fun _ => 0))), (q13, .inl (ca 1, 4, .inl (fun _ => 0))), (q14, .inl (ca 0, 64, .inl (fun _ => 0))), (q15, .inl (ca 0, 64, .inl (fun _ => 0))), (q16, .inl (ca 0, 64, .inl (fun _ => 0))), (q17, .inl (ca 0, 64, .inl (fun _ => 0))), (q18, .inl (ca 0, 64, .inl (fun _ => 0))), (q19, .inl (ca 0, 65, .inl (fun _ => 0))), (q20, .inl (ca 0, 64, .inl (fun _ => 0)))]) rfl d_M_init_160 (fun C => ?_)
  refine v_aload_n C d_M_init_163 rfl 0 rfl ?_
  refine v_bipush C (v := (8 : Int32)) d_M_init_164 (by decide) ?_
  refine y_newa C (t0 := 0) (ty := .int) rfl (fun _ h => by cases h) tw_188 rfl (N' := 8) (a0 := (8, .inl (fun _ => 0))) (fun _ => rfl) (by decide) (by decide) (by decide) (by decide) (by decide) d_M_init_166 (fun q21 C => ?_)
  refine y_putF C hin (ci := 5) ⟨in_M, rfl⟩ ⟨ty_M_ok, nm_M⟩ 0 rfl 27 (by decide) tw_655 rfl rfl (ty := .array .int) (by decide +kernel) rfl rfl (Nat.le_of_ble_eq_true rfl) (ws' := [(h0, .inr (5, [.int 0, .int 0, .ref q1, .ref q2, .ref q3, .ref q4, .ref q5, .int 0, .ref q6, .ref q7, .ref q8, .ref q9, .ref q10, .ref q11, .ref q12, .ref q13, .int 0, .ref q14, .ref q15, .ref q16, .int 0, .int 0, .int 0, .ref q17, .ref q18, .ref q19, .ref q20, .ref q21])), (q1, .inl (ca 0, 8, .inl (fun _ => 0))), (q2, .inl (ca 0, 8, .inl (fun _ => 0))), (q3, .inl (ca 0, 8, .inl (fun _ => 0))), (q4, .inl (ca 0, 8, .inl (fun _ => 0))), (q5, .inl (ca 0, 8, .inl (fun _ => 0))), (q6, .inl (ca 0, 8, .inl (fun _ => 0))), (q7, .inl (ca 0, 8, .inl (fun _ => 0))), (q8, .inl (ca 0, 8, .inl (fun _ => 0))), (q9, .inl (ca 0, 8, .inl (fun _ => 0))), (q10, .inl (ca 0, 8, .inl (fun _ => 0))), (q11, .inl (ca 0, 8, .inl (fun _ => 0))), (q12, .inl (ca 1, 64, .inl (fun _ => 0))), (q13, .inl (ca 1, 4, .inl (fun _ => 0))), (q14, .inl (ca 0, 64, .inl (fun _ => 0))), (q15, .inl (ca 0, 64, .inl (fun _ => 0))), (q16, .inl (ca 0, 64, .inl (fun _ => 0))), (q17, .inl (ca 0, 64, .inl (fun _ => 0))), (q18, .inl (ca 0, 64, .inl (fun _ => 0))), (q19, .inl (ca 0, 65, .inl (fun _ => 0))), (q20, .inl (ca 0, 64, .inl (fun _ => 0))), (q21, .inl (ca 0, 8, .inl (fun _ => 0)))]) rfl d_M_init_168 (fun C => ?_)
  exact y_vret C rfl hr hlk ⟨q1, q2, q3, q4, q5, q6, q7, q8, q9, q10, q11, q12, q13, q14, q15, q16, q17, q18, q19, q20, q21, rfl⟩ d_M_init_171 (by decide) (by decide)
end
