section
-- ===== PART A: goes FIRST, ahead of the names: the tables' words, and 'selects' of the private methods out of them =====
/-- a private method of a class that the tables say can be made, by its rows of tables_1 -/
def lw_okq (q : MethodName × Nat) : Prop := (q.1.cls ≠ "java/lang/invoke/MethodHandle" ∧ q.1.cls ≠ "java/lang/invoke/VarHandle") ∧ Cond.instantiable q.1.cls q.2 ∈ tables_1 ∧ Cond.privateMethod q.1 ∈ tables_1 ∧ Cond.instanceMethod q.1 ∈ tables_1
theorem lw_p0 : lw_okq (⟨"CrossDock", "arrivalsFor", "(I)I"⟩, 11) := ⟨⟨by decide +kernel, by decide +kernel⟩, List.mem_of_getElem? (i := 17) (by decide +kernel), List.mem_of_getElem? (i := 204) (by decide +kernel), List.mem_of_getElem? (i := 205) (by decide +kernel)⟩
theorem lw_p1 : lw_okq (⟨"CrossDock", "mayServe", "(II)Z"⟩, 11) := ⟨⟨by decide +kernel, by decide +kernel⟩, List.mem_of_getElem? (i := 17) (by decide +kernel), List.mem_of_getElem? (i := 208) (by decide +kernel), List.mem_of_getElem? (i := 209) (by decide +kernel)⟩
theorem lw_p2 : lw_okq (⟨"CrossDock", "obstacle", "(II)I"⟩, 11) := ⟨⟨by decide +kernel, by decide +kernel⟩, List.mem_of_getElem? (i := 17) (by decide +kernel), List.mem_of_getElem? (i := 212) (by decide +kernel), List.mem_of_getElem? (i := 213) (by decide +kernel)⟩
theorem lw_p3 : lw_okq (⟨"CrossDock$Order", "takesLot", "(I)Z"⟩, 6) := ⟨⟨by decide +kernel, by decide +kernel⟩, List.mem_of_getElem? (i := 57) (by decide +kernel), List.mem_of_getElem? (i := 216) (by decide +kernel), List.mem_of_getElem? (i := 217) (by decide +kernel)⟩
theorem lw_p4 : lw_okq (⟨"CrossDock$Arrival", "isBarredFor", "(I)Z"⟩, 6) := ⟨⟨by decide +kernel, by decide +kernel⟩, List.mem_of_getElem? (i := 26) (by decide +kernel), List.mem_of_getElem? (i := 220) (by decide +kernel), List.mem_of_getElem? (i := 221) (by decide +kernel)⟩
theorem lw_p5 : lw_okq (⟨"CrossDock", "ordersFor", "(I)I"⟩, 11) := ⟨⟨by decide +kernel, by decide +kernel⟩, List.mem_of_getElem? (i := 17) (by decide +kernel), List.mem_of_getElem? (i := 224) (by decide +kernel), List.mem_of_getElem? (i := 225) (by decide +kernel)⟩
theorem lw_p6 : lw_okq (⟨"CrossDock", "touchesSaved", "()I"⟩, 11) := ⟨⟨by decide +kernel, by decide +kernel⟩, List.mem_of_getElem? (i := 17) (by decide +kernel), List.mem_of_getElem? (i := 236) (by decide +kernel), List.mem_of_getElem? (i := 237) (by decide +kernel)⟩
theorem lw_p7 : lw_okq (⟨"CrossDock$Pairs", "palletsInAll", "()I"⟩, 4) := ⟨⟨by decide +kernel, by decide +kernel⟩, List.mem_of_getElem? (i := 139) (by decide +kernel), List.mem_of_getElem? (i := 240) (by decide +kernel), List.mem_of_getElem? (i := 241) (by decide +kernel)⟩
theorem lw_p8 : lw_okq (⟨"CrossDock$Pairs", "palletsFor", "(I)I"⟩, 4) := ⟨⟨by decide +kernel, by decide +kernel⟩, List.mem_of_getElem? (i := 139) (by decide +kernel), List.mem_of_getElem? (i := 244) (by decide +kernel), List.mem_of_getElem? (i := 245) (by decide +kernel)⟩
theorem lw_p9 : lw_okq (⟨"CrossDock$Arrival", "toGive", "()I"⟩, 6) := ⟨⟨by decide +kernel, by decide +kernel⟩, List.mem_of_getElem? (i := 26) (by decide +kernel), List.mem_of_getElem? (i := 248) (by decide +kernel), List.mem_of_getElem? (i := 249) (by decide +kernel)⟩
theorem lw_p10 : lw_okq (⟨"CrossDock", "fullLanes", "()I"⟩, 11) := ⟨⟨by decide +kernel, by decide +kernel⟩, List.mem_of_getElem? (i := 17) (by decide +kernel), List.mem_of_getElem? (i := 256) (by decide +kernel), List.mem_of_getElem? (i := 257) (by decide +kernel)⟩
theorem lw_p11 : lw_okq (⟨"java/lang/Throwable", "fillInStackTrace", "(I)Ljava/lang/Throwable;"⟩, 6) := ⟨⟨by decide +kernel, by decide +kernel⟩, List.mem_of_getElem? (i := 311) (by decide +kernel), List.mem_of_getElem? (i := 309) (by decide +kernel), List.mem_of_getElem? (i := 310) (by decide +kernel)⟩
theorem lw_p12 : lw_okq (⟨"CrossDock$Pairs", "palletsOf", "(I)I"⟩, 4) := ⟨⟨by decide +kernel, by decide +kernel⟩, List.mem_of_getElem? (i := 139) (by decide +kernel), List.mem_of_getElem? (i := 402) (by decide +kernel), List.mem_of_getElem? (i := 403) (by decide +kernel)⟩
theorem lw_p13 : lw_okq (⟨"CrossDock$Arrival", "setBarred", "(IZ)V"⟩, 6) := ⟨⟨by decide +kernel, by decide +kernel⟩, List.mem_of_getElem? (i := 26) (by decide +kernel), List.mem_of_getElem? (i := 429) (by decide +kernel), List.mem_of_getElem? (i := 430) (by decide +kernel)⟩
theorem lw_p14 : lw_okq (⟨"CrossDock", "layOutPairs", "()V"⟩, 11) := ⟨⟨by decide +kernel, by decide +kernel⟩, List.mem_of_getElem? (i := 17) (by decide +kernel), List.mem_of_getElem? (i := 447) (by decide +kernel), List.mem_of_getElem? (i := 448) (by decide +kernel)⟩
theorem lw_p15 : lw_okq (⟨"CrossDock", "sortOrders", "()V"⟩, 11) := ⟨⟨by decide +kernel, by decide +kernel⟩, List.mem_of_getElem? (i := 17) (by decide +kernel), List.mem_of_getElem? (i := 451) (by decide +kernel), List.mem_of_getElem? (i := 452) (by decide +kernel)⟩
def lw_privs_1 : List (MethodName × Nat) := [(⟨"CrossDock", "arrivalsFor", "(I)I"⟩, 11), (⟨"CrossDock", "mayServe", "(II)Z"⟩, 11), (⟨"CrossDock", "obstacle", "(II)I"⟩, 11), (⟨"CrossDock$Order", "takesLot", "(I)Z"⟩, 6), (⟨"CrossDock$Arrival", "isBarredFor", "(I)Z"⟩, 6), (⟨"CrossDock", "ordersFor", "(I)I"⟩, 11), (⟨"CrossDock", "touchesSaved", "()I"⟩, 11), (⟨"CrossDock$Pairs", "palletsInAll", "()I"⟩, 4), (⟨"CrossDock$Pairs", "palletsFor", "(I)I"⟩, 4), (⟨"CrossDock$Arrival", "toGive", "()I"⟩, 6), (⟨"CrossDock", "fullLanes", "()I"⟩, 11), (⟨"java/lang/Throwable", "fillInStackTrace", "(I)Ljava/lang/Throwable;"⟩, 6), (⟨"CrossDock$Pairs", "palletsOf", "(I)I"⟩, 4), (⟨"CrossDock$Arrival", "setBarred", "(IZ)V"⟩, 6), (⟨"CrossDock", "layOutPairs", "()V"⟩, 11), (⟨"CrossDock", "sortOrders", "()V"⟩, 11)]
theorem lw_r1 : ∀ q ∈ lw_privs_1, lw_okq q := List.forall_mem_cons.mpr ⟨lw_p0, List.forall_mem_cons.mpr ⟨lw_p1, List.forall_mem_cons.mpr ⟨lw_p2, List.forall_mem_cons.mpr ⟨lw_p3, List.forall_mem_cons.mpr ⟨lw_p4, List.forall_mem_cons.mpr ⟨lw_p5, List.forall_mem_cons.mpr ⟨lw_p6, List.forall_mem_cons.mpr ⟨lw_p7, List.forall_mem_cons.mpr ⟨lw_p8, List.forall_mem_cons.mpr ⟨lw_p9, List.forall_mem_cons.mpr ⟨lw_p10, List.forall_mem_cons.mpr ⟨lw_p11, List.forall_mem_cons.mpr ⟨lw_p12, List.forall_mem_cons.mpr ⟨lw_p13, List.forall_mem_cons.mpr ⟨lw_p14, List.forall_mem_cons.mpr ⟨lw_p15, fun _ h => absurd h List.not_mem_nil⟩⟩⟩⟩⟩⟩⟩⟩⟩⟩⟩⟩⟩⟩⟩⟩
theorem lw_p16 : lw_okq (⟨"CrossDock", "sortArrivals", "()V"⟩, 11) := ⟨⟨by decide +kernel, by decide +kernel⟩, List.mem_of_getElem? (i := 17) (by decide +kernel), List.mem_of_getElem? (i := 455) (by decide +kernel), List.mem_of_getElem? (i := 456) (by decide +kernel)⟩
theorem lw_p17 : lw_okq (⟨"CrossDock$Search", "addPair", "(II)V"⟩, 13) := ⟨⟨by decide +kernel, by decide +kernel⟩, List.mem_of_getElem? (i := 83) (by decide +kernel), List.mem_of_getElem? (i := 459) (by decide +kernel), List.mem_of_getElem? (i := 460) (by decide +kernel)⟩
theorem lw_p18 : lw_okq (⟨"CrossDock$Search", "lookAtAll", "(I)Z"⟩, 13) := ⟨⟨by decide +kernel, by decide +kernel⟩, List.mem_of_getElem? (i := 83) (by decide +kernel), List.mem_of_getElem? (i := 463) (by decide +kernel), List.mem_of_getElem? (i := 464) (by decide +kernel)⟩
theorem lw_p19 : lw_okq (⟨"CrossDock$Search", "putAllBack", "()V"⟩, 13) := ⟨⟨by decide +kernel, by decide +kernel⟩, List.mem_of_getElem? (i := 83) (by decide +kernel), List.mem_of_getElem? (i := 467) (by decide +kernel), List.mem_of_getElem? (i := 468) (by decide +kernel)⟩
theorem lw_p20 : lw_okq (⟨"CrossDock$Search", "greatest", "(I)I"⟩, 13) := ⟨⟨by decide +kernel, by decide +kernel⟩, List.mem_of_getElem? (i := 83) (by decide +kernel), List.mem_of_getElem? (i := 474) (by decide +kernel), List.mem_of_getElem? (i := 475) (by decide +kernel)⟩
theorem lw_p21 : lw_okq (⟨"CrossDock$Search", "backToUntried", "(I)I"⟩, 13) := ⟨⟨by decide +kernel, by decide +kernel⟩, List.mem_of_getElem? (i := 83) (by decide +kernel), List.mem_of_getElem? (i := 481) (by decide +kernel), List.mem_of_getElem? (i := 482) (by decide +kernel)⟩
theorem lw_p22 : lw_okq (⟨"CrossDock$Search", "putBack", "(I)V"⟩, 13) := ⟨⟨by decide +kernel, by decide +kernel⟩, List.mem_of_getElem? (i := 83) (by decide +kernel), List.mem_of_getElem? (i := 485) (by decide +kernel), List.mem_of_getElem? (i := 486) (by decide +kernel)⟩
theorem lw_p23 : lw_okq (⟨"CrossDock$Search", "touchesBy", "(I)I"⟩, 13) := ⟨⟨by decide +kernel, by decide +kernel⟩, List.mem_of_getElem? (i := 83) (by decide +kernel), List.mem_of_getElem? (i := 489) (by decide +kernel), List.mem_of_getElem? (i := 490) (by decide +kernel)⟩
theorem lw_p24 : lw_okq (⟨"CrossDock$Search", "take", "(II)V"⟩, 13) := ⟨⟨by decide +kernel, by decide +kernel⟩, List.mem_of_getElem? (i := 83) (by decide +kernel), List.mem_of_getElem? (i := 493) (by decide +kernel), List.mem_of_getElem? (i := 494) (by decide +kernel)⟩
theorem lw_p25 : lw_okq (⟨"CrossDock$Search", "chooseIfBetter", "()V"⟩, 13) := ⟨⟨by decide +kernel, by decide +kernel⟩, List.mem_of_getElem? (i := 83) (by decide +kernel), List.mem_of_getElem? (i := 497) (by decide +kernel), List.mem_of_getElem? (i := 498) (by decide +kernel)⟩
theorem lw_p26 : lw_okq (⟨"CrossDock$Search", "chooseByRule", "()V"⟩, 13) := ⟨⟨by decide +kernel, by decide +kernel⟩, List.mem_of_getElem? (i := 83) (by decide +kernel), List.mem_of_getElem? (i := 501) (by decide +kernel), List.mem_of_getElem? (i := 502) (by decide +kernel)⟩
theorem lw_p27 : lw_okq (⟨"CrossDock$Pairs", "replaceBy", "(LCrossDock$Search;)V"⟩, 4) := ⟨⟨by decide +kernel, by decide +kernel⟩, List.mem_of_getElem? (i := 139) (by decide +kernel), List.mem_of_getElem? (i := 505) (by decide +kernel), List.mem_of_getElem? (i := 506) (by decide +kernel)⟩
theorem lw_p28 : lw_okq (⟨"CrossDock$Pairs", "removeAt", "(I)V"⟩, 4) := ⟨⟨by decide +kernel, by decide +kernel⟩, List.mem_of_getElem? (i := 139) (by decide +kernel), List.mem_of_getElem? (i := 523) (by decide +kernel), List.mem_of_getElem? (i := 524) (by decide +kernel)⟩
theorem lw_p29 : lw_okq (⟨"CrossDock$Arrival", "moveTo", "(LCrossDock$Arrival;I)V"⟩, 6) := ⟨⟨by decide +kernel, by decide +kernel⟩, List.mem_of_getElem? (i := 26) (by decide +kernel), List.mem_of_getElem? (i := 535) (by decide +kernel), List.mem_of_getElem? (i := 536) (by decide +kernel)⟩
theorem lw_p30 : lw_okq (⟨"CrossDock", "isUnfit", "(II)Z"⟩, 11) := ⟨⟨by decide +kernel, by decide +kernel⟩, List.mem_of_getElem? (i := 17) (by decide +kernel), List.mem_of_getElem? (i := 547) (by decide +kernel), List.mem_of_getElem? (i := 548) (by decide +kernel)⟩
theorem lw_p31 : lw_okq (⟨"CrossDock", "whatBarsAll", "(I)I"⟩, 11) := ⟨⟨by decide +kernel, by decide +kernel⟩, List.mem_of_getElem? (i := 17) (by decide +kernel), List.mem_of_getElem? (i := 565) (by decide +kernel), List.mem_of_getElem? (i := 566) (by decide +kernel)⟩
def lw_privs_2 : List (MethodName × Nat) := [(⟨"CrossDock", "sortArrivals", "()V"⟩, 11), (⟨"CrossDock$Search", "addPair", "(II)V"⟩, 13), (⟨"CrossDock$Search", "lookAtAll", "(I)Z"⟩, 13), (⟨"CrossDock$Search", "putAllBack", "()V"⟩, 13), (⟨"CrossDock$Search", "greatest", "(I)I"⟩, 13), (⟨"CrossDock$Search", "backToUntried", "(I)I"⟩, 13), (⟨"CrossDock$Search", "putBack", "(I)V"⟩, 13), (⟨"CrossDock$Search", "touchesBy", "(I)I"⟩, 13), (⟨"CrossDock$Search", "take", "(II)V"⟩, 13), (⟨"CrossDock$Search", "chooseIfBetter", "()V"⟩, 13), (⟨"CrossDock$Search", "chooseByRule", "()V"⟩, 13), (⟨"CrossDock$Pairs", "replaceBy", "(LCrossDock$Search;)V"⟩, 4), (⟨"CrossDock$Pairs", "removeAt", "(I)V"⟩, 4), (⟨"CrossDock$Arrival", "moveTo", "(LCrossDock$Arrival;I)V"⟩, 6), (⟨"CrossDock", "isUnfit", "(II)Z"⟩, 11), (⟨"CrossDock", "whatBarsAll", "(I)I"⟩, 11)]
theorem lw_r2 : ∀ q ∈ lw_privs_2, lw_okq q := List.forall_mem_cons.mpr ⟨lw_p16, List.forall_mem_cons.mpr ⟨lw_p17, List.forall_mem_cons.mpr ⟨lw_p18, List.forall_mem_cons.mpr ⟨lw_p19, List.forall_mem_cons.mpr ⟨lw_p20, List.forall_mem_cons.mpr ⟨lw_p21, List.forall_mem_cons.mpr ⟨lw_p22, List.forall_mem_cons.mpr ⟨lw_p23, List.forall_mem_cons.mpr ⟨lw_p24, List.forall_mem_cons.mpr ⟨lw_p25, List.forall_mem_cons.mpr ⟨lw_p26, List.forall_mem_cons.mpr ⟨lw_p27, List.forall_mem_cons.mpr ⟨lw_p28, List.forall_mem_cons.mpr ⟨lw_p29, List.forall_mem_cons.mpr ⟨lw_p30, List.forall_mem_cons.mpr ⟨lw_p31, fun _ h => absurd h List.not_mem_nil⟩⟩⟩⟩⟩⟩⟩⟩⟩⟩⟩⟩⟩⟩⟩⟩
theorem lw_p32 : lw_okq (⟨"CrossDockModel", "isOrder", "(I)Z"⟩, 28) := ⟨⟨by decide +kernel, by decide +kernel⟩, List.mem_of_getElem? (i := 572) (by decide +kernel), List.mem_of_getElem? (i := 682) (by decide +kernel), List.mem_of_getElem? (i := 683) (by decide +kernel)⟩
theorem lw_p33 : lw_okq (⟨"CrossDockModel", "isArrival", "(I)Z"⟩, 28) := ⟨⟨by decide +kernel, by decide +kernel⟩, List.mem_of_getElem? (i := 572) (by decide +kernel), List.mem_of_getElem? (i := 690) (by decide +kernel), List.mem_of_getElem? (i := 691) (by decide +kernel)⟩
theorem lw_p34 : lw_okq (⟨"CrossDockModel", "held", "(I)I"⟩, 28) := ⟨⟨by decide +kernel, by decide +kernel⟩, List.mem_of_getElem? (i := 572) (by decide +kernel), List.mem_of_getElem? (i := 694) (by decide +kernel), List.mem_of_getElem? (i := 695) (by decide +kernel)⟩
theorem lw_p35 : lw_okq (⟨"CrossDockModel", "mayServe", "(II)Z"⟩, 28) := ⟨⟨by decide +kernel, by decide +kernel⟩, List.mem_of_getElem? (i := 572) (by decide +kernel), List.mem_of_getElem? (i := 702) (by decide +kernel), List.mem_of_getElem? (i := 703) (by decide +kernel)⟩
theorem lw_p36 : lw_okq (⟨"CrossDockModel", "passes", "(III)Z"⟩, 28) := ⟨⟨by decide +kernel, by decide +kernel⟩, List.mem_of_getElem? (i := 572) (by decide +kernel), List.mem_of_getElem? (i := 706) (by decide +kernel), List.mem_of_getElem? (i := 707) (by decide +kernel)⟩
theorem lw_p37 : lw_okq (⟨"CrossDockModel", "layOut", "()V"⟩, 28) := ⟨⟨by decide +kernel, by decide +kernel⟩, List.mem_of_getElem? (i := 572) (by decide +kernel), List.mem_of_getElem? (i := 718) (by decide +kernel), List.mem_of_getElem? (i := 719) (by decide +kernel)⟩
theorem lw_p38 : lw_okq (⟨"CrossDockModel", "orderAt", "(I)I"⟩, 28) := ⟨⟨by decide +kernel, by decide +kernel⟩, List.mem_of_getElem? (i := 572) (by decide +kernel), List.mem_of_getElem? (i := 722) (by decide +kernel), List.mem_of_getElem? (i := 723) (by decide +kernel)⟩
theorem lw_p39 : lw_okq (⟨"CrossDockModel", "isOrderBefore", "(II)Z"⟩, 28) := ⟨⟨by decide +kernel, by decide +kernel⟩, List.mem_of_getElem? (i := 572) (by decide +kernel), List.mem_of_getElem? (i := 726) (by decide +kernel), List.mem_of_getElem? (i := 727) (by decide +kernel)⟩
theorem lw_p40 : lw_okq (⟨"CrossDockModel", "arrivalAt", "(I)I"⟩, 28) := ⟨⟨by decide +kernel, by decide +kernel⟩, List.mem_of_getElem? (i := 572) (by decide +kernel), List.mem_of_getElem? (i := 730) (by decide +kernel), List.mem_of_getElem? (i := 731) (by decide +kernel)⟩
theorem lw_p41 : lw_okq (⟨"CrossDockModel", "isArrivalBefore", "(II)Z"⟩, 28) := ⟨⟨by decide +kernel, by decide +kernel⟩, List.mem_of_getElem? (i := 572) (by decide +kernel), List.mem_of_getElem? (i := 734) (by decide +kernel), List.mem_of_getElem? (i := 735) (by decide +kernel)⟩
theorem lw_p42 : lw_okq (⟨"CrossDockModel", "lookAtAll", "(I)Z"⟩, 28) := ⟨⟨by decide +kernel, by decide +kernel⟩, List.mem_of_getElem? (i := 572) (by decide +kernel), List.mem_of_getElem? (i := 738) (by decide +kernel), List.mem_of_getElem? (i := 739) (by decide +kernel)⟩
theorem lw_p43 : lw_okq (⟨"CrossDockModel", "greatest", "(I)I"⟩, 28) := ⟨⟨by decide +kernel, by decide +kernel⟩, List.mem_of_getElem? (i := 572) (by decide +kernel), List.mem_of_getElem? (i := 742) (by decide +kernel), List.mem_of_getElem? (i := 743) (by decide +kernel)⟩
theorem lw_p44 : lw_okq (⟨"CrossDockModel", "has", "(I)I"⟩, 28) := ⟨⟨by decide +kernel, by decide +kernel⟩, List.mem_of_getElem? (i := 572) (by decide +kernel), List.mem_of_getElem? (i := 746) (by decide +kernel), List.mem_of_getElem? (i := 747) (by decide +kernel)⟩
theorem lw_p45 : lw_okq (⟨"CrossDockModel", "worth", "()I"⟩, 28) := ⟨⟨by decide +kernel, by decide +kernel⟩, List.mem_of_getElem? (i := 572) (by decide +kernel), List.mem_of_getElem? (i := 750) (by decide +kernel), List.mem_of_getElem? (i := 751) (by decide +kernel)⟩
theorem lw_p46 : lw_okq (⟨"CrossDockModel", "byRule", "()V"⟩, 28) := ⟨⟨by decide +kernel, by decide +kernel⟩, List.mem_of_getElem? (i := 572) (by decide +kernel), List.mem_of_getElem? (i := 754) (by decide +kernel), List.mem_of_getElem? (i := 755) (by decide +kernel)⟩
theorem lw_p47 : lw_okq (⟨"CrossDockModel", "savedNow", "()I"⟩, 28) := ⟨⟨by decide +kernel, by decide +kernel⟩, List.mem_of_getElem? (i := 572) (by decide +kernel), List.mem_of_getElem? (i := 758) (by decide +kernel), List.mem_of_getElem? (i := 759) (by decide +kernel)⟩
def lw_privs_3 : List (MethodName × Nat) := [(⟨"CrossDockModel", "isOrder", "(I)Z"⟩, 28), (⟨"CrossDockModel", "isArrival", "(I)Z"⟩, 28), (⟨"CrossDockModel", "held", "(I)I"⟩, 28), (⟨"CrossDockModel", "mayServe", "(II)Z"⟩, 28), (⟨"CrossDockModel", "passes", "(III)Z"⟩, 28), (⟨"CrossDockModel", "layOut", "()V"⟩, 28), (⟨"CrossDockModel", "orderAt", "(I)I"⟩, 28), (⟨"CrossDockModel", "isOrderBefore", "(II)Z"⟩, 28), (⟨"CrossDockModel", "arrivalAt", "(I)I"⟩, 28), (⟨"CrossDockModel", "isArrivalBefore", "(II)Z"⟩, 28), (⟨"CrossDockModel", "lookAtAll", "(I)Z"⟩, 28), (⟨"CrossDockModel", "greatest", "(I)I"⟩, 28), (⟨"CrossDockModel", "has", "(I)I"⟩, 28), (⟨"CrossDockModel", "worth", "()I"⟩, 28), (⟨"CrossDockModel", "byRule", "()V"⟩, 28), (⟨"CrossDockModel", "savedNow", "()I"⟩, 28)]
theorem lw_r3 : ∀ q ∈ lw_privs_3, lw_okq q := List.forall_mem_cons.mpr ⟨lw_p32, List.forall_mem_cons.mpr ⟨lw_p33, List.forall_mem_cons.mpr ⟨lw_p34, List.forall_mem_cons.mpr ⟨lw_p35, List.forall_mem_cons.mpr ⟨lw_p36, List.forall_mem_cons.mpr ⟨lw_p37, List.forall_mem_cons.mpr ⟨lw_p38, List.forall_mem_cons.mpr ⟨lw_p39, List.forall_mem_cons.mpr ⟨lw_p40, List.forall_mem_cons.mpr ⟨lw_p41, List.forall_mem_cons.mpr ⟨lw_p42, List.forall_mem_cons.mpr ⟨lw_p43, List.forall_mem_cons.mpr ⟨lw_p44, List.forall_mem_cons.mpr ⟨lw_p45, List.forall_mem_cons.mpr ⟨lw_p46, List.forall_mem_cons.mpr ⟨lw_p47, fun _ h => absurd h List.not_mem_nil⟩⟩⟩⟩⟩⟩⟩⟩⟩⟩⟩⟩⟩⟩⟩⟩
theorem lw_p48 : lw_okq (⟨"CrossDockModel", "hasGot", "(I)I"⟩, 28) := ⟨⟨by decide +kernel, by decide +kernel⟩, List.mem_of_getElem? (i := 572) (by decide +kernel), List.mem_of_getElem? (i := 762) (by decide +kernel), List.mem_of_getElem? (i := 763) (by decide +kernel)⟩
theorem lw_p49 : lw_okq (⟨"CrossDockModel", "drop", "(I)V"⟩, 28) := ⟨⟨by decide +kernel, by decide +kernel⟩, List.mem_of_getElem? (i := 572) (by decide +kernel), List.mem_of_getElem? (i := 786) (by decide +kernel), List.mem_of_getElem? (i := 787) (by decide +kernel)⟩
theorem lw_p50 : lw_okq (⟨"CrossDockModel", "passing", "(II)I"⟩, 28) := ⟨⟨by decide +kernel, by decide +kernel⟩, List.mem_of_getElem? (i := 572) (by decide +kernel), List.mem_of_getElem? (i := 806) (by decide +kernel), List.mem_of_getElem? (i := 807) (by decide +kernel)⟩
def lw_privs_4 : List (MethodName × Nat) := [(⟨"CrossDockModel", "hasGot", "(I)I"⟩, 28), (⟨"CrossDockModel", "drop", "(I)V"⟩, 28), (⟨"CrossDockModel", "passing", "(II)I"⟩, 28)]
theorem lw_r4 : ∀ q ∈ lw_privs_4, lw_okq q := List.forall_mem_cons.mpr ⟨lw_p48, List.forall_mem_cons.mpr ⟨lw_p49, List.forall_mem_cons.mpr ⟨lw_p50, fun _ h => absurd h List.not_mem_nil⟩⟩⟩
def lw_privs : List (MethodName × Nat) := lw_privs_1 ++ (lw_privs_2 ++ (lw_privs_3 ++ (lw_privs_4)))
def lw_tbl : List Cond := k2_sels lw_privs ++ tables_1
theorem lw_privs_ok : ∀ q ∈ lw_privs, lw_okq q := by
  show ∀ q ∈ lw_privs_1 ++ (lw_privs_2 ++ (lw_privs_3 ++ (lw_privs_4))), lw_okq q
  exact List.forall_mem_append.mpr ⟨lw_r1, List.forall_mem_append.mpr ⟨lw_r2, List.forall_mem_append.mpr ⟨lw_r3, lw_r4⟩⟩⟩
end
section
/-! names: fields, classes, methods, words (printed by wip/whole/names.py) -/
/-- words that hold on when the tables grow warmer -/
def xok : Cond → Bool
  | .castable .. => true
  | .declares _ => true
  | .arrayClass _ => true
  | c => c.onTables && c.keepsH
def xT : List Cond := lw_tbl.filter xok
def T_D : u_T := fun k => match k with
  | 0 => ("CrossDock", "arrivals", "[LCrossDock$Arrival;", true)
  | 1 => ("CrossDock", "orders", "[LCrossDock$Order;", true)
  | 2 => ("CrossDock", "laneFull", "[Z", true)
  | 3 => ("CrossDock", "ordersByRank", "[I", true)
  | 4 => ("CrossDock", "arrivalsByTime", "[I", true)
  | 5 => ("CrossDock", "search", "LCrossDock$Search;", true)
  | 6 => ("CrossDock", "pairs", "LCrossDock$Pairs;", true)
  | 7 => ("CrossDock", "arrivalCount", "I", false)
  | 8 => ("CrossDock", "orderCount", "I", false)
  | 9 => ("CrossDock", "latestExact", "Z", false)
  | _ => ("CrossDock", "latestSteps", "I", false)
def ty_D : Nat → FieldType := fun k => match k with
  | 0 => .array (.object "CrossDock$Arrival")
  | 1 => .array (.object "CrossDock$Order")
  | 2 => .array .boolean
  | 3 => .array .int
  | 4 => .array .int
  | 5 => .object "CrossDock$Search"
  | 6 => .object "CrossDock$Pairs"
  | 7 => .int
  | 8 => .int
  | 9 => .boolean
  | _ => .int
theorem nm_D : ∀ a, a < 11 → ∀ b, b < 11 → a ≠ b → (T_D a).2.1 ≠ (T_D b).2.1 := by decide +kernel
theorem ty_D_ok : ∀ k, k < 11 → parseFieldDescriptor (T_D k).2.2.1 = some (ty_D k) := by decide +kernel
theorem in_D : ∀ w ∈ u_ws "CrossDock" T_D 11, w ∈ xT := by decide +kernel
def T_A : u_T := fun k => match k with
  | 0 => ("CrossDock$Arrival", "good", "I", false)
  | 1 => ("CrossDock$Arrival", "lot", "I", false)
  | 2 => ("CrossDock$Arrival", "time", "I", false)
  | 3 => ("CrossDock$Arrival", "pallets", "I", false)
  | 4 => ("CrossDock$Arrival", "kept", "I", false)
  | _ => ("CrossDock$Arrival", "barredOrders", "I", false)
def ty_A : Nat → FieldType := fun k => match k with
  | 0 => .int
  | 1 => .int
  | 2 => .int
  | 3 => .int
  | 4 => .int
  | _ => .int
theorem nm_A : ∀ a, a < 6 → ∀ b, b < 6 → a ≠ b → (T_A a).2.1 ≠ (T_A b).2.1 := by decide +kernel
theorem ty_A_ok : ∀ k, k < 6 → parseFieldDescriptor (T_A k).2.2.1 = some (ty_A k) := by decide +kernel
theorem in_A : ∀ w ∈ u_ws "CrossDock$Arrival" T_A 6, w ∈ xT := by decide +kernel
def T_O : u_T := fun k => match k with
  | 0 => ("CrossDock$Order", "good", "I", false)
  | 1 => ("CrossDock$Order", "pallets", "I", false)
  | 2 => ("CrossDock$Order", "rank", "I", false)
  | 3 => ("CrossDock$Order", "lane", "I", false)
  | 4 => ("CrossDock$Order", "due", "I", false)
  | _ => ("CrossDock$Order", "lots", "I", false)
def ty_O : Nat → FieldType := fun k => match k with
  | 0 => .int
  | 1 => .int
  | 2 => .int
  | 3 => .int
  | 4 => .int
  | _ => .int
theorem nm_O : ∀ a, a < 6 → ∀ b, b < 6 → a ≠ b → (T_O a).2.1 ≠ (T_O b).2.1 := by decide +kernel
theorem ty_O_ok : ∀ k, k < 6 → parseFieldDescriptor (T_O k).2.2.1 = some (ty_O k) := by decide +kernel
theorem in_O : ∀ w ∈ u_ws "CrossDock$Order" T_O 6, w ∈ xT := by decide +kernel
def T_P : u_T := fun k => match k with
  | 0 => ("CrossDock$Pairs", "arrivalOf", "[I", true)
  | 1 => ("CrossDock$Pairs", "orderOf", "[I", true)
  | 2 => ("CrossDock$Pairs", "palletsIn", "[I", true)
  | _ => ("CrossDock$Pairs", "size", "I", false)
def ty_P : Nat → FieldType := fun k => match k with
  | 0 => .array .int
  | 1 => .array .int
  | 2 => .array .int
  | _ => .int
theorem nm_P : ∀ a, a < 4 → ∀ b, b < 4 → a ≠ b → (T_P a).2.1 ≠ (T_P b).2.1 := by decide +kernel
theorem ty_P_ok : ∀ k, k < 4 → parseFieldDescriptor (T_P k).2.2.1 = some (ty_P k) := by decide +kernel
theorem in_P : ∀ w ∈ u_ws "CrossDock$Pairs" T_P 4, w ∈ xT := by decide +kernel
def T_S : u_T := fun k => match k with
  | 0 => ("CrossDock$Search", "arrivalOf", "[I", true)
  | 1 => ("CrossDock$Search", "orderOf", "[I", true)
  | 2 => ("CrossDock$Search", "give", "[I", true)
  | 3 => ("CrossDock$Search", "want", "[I", true)
  | 4 => ("CrossDock$Search", "giveLeft", "[I", true)
  | 5 => ("CrossDock$Search", "wantLeft", "[I", true)
  | 6 => ("CrossDock$Search", "taken", "[I", true)
  | 7 => ("CrossDock$Search", "untried", "[I", true)
  | 8 => ("CrossDock$Search", "chosen", "[I", true)
  | 9 => ("CrossDock$Search", "size", "I", false)
  | 10 => ("CrossDock$Search", "touches", "I", false)
  | 11 => ("CrossDock$Search", "mostTouches", "I", false)
  | _ => ("CrossDock$Search", "used", "I", false)
def ty_S : Nat → FieldType := fun k => match k with
  | 0 => .array .int
  | 1 => .array .int
  | 2 => .array .int
  | 3 => .array .int
  | 4 => .array .int
  | 5 => .array .int
  | 6 => .array .int
  | 7 => .array .int
  | 8 => .array .int
  | 9 => .int
  | 10 => .int
  | 11 => .int
  | _ => .int
theorem nm_S : ∀ a, a < 13 → ∀ b, b < 13 → a ≠ b → (T_S a).2.1 ≠ (T_S b).2.1 := by decide +kernel
theorem ty_S_ok : ∀ k, k < 13 → parseFieldDescriptor (T_S k).2.2.1 = some (ty_S k) := by decide +kernel
theorem in_S : ∀ w ∈ u_ws "CrossDock$Search" T_S 13, w ∈ xT := by decide +kernel
def T_M : u_T := fun k => match k with
  | 0 => ("CrossDockModel", "code", "I", false)
  | 1 => ("CrossDockModel", "arrivals", "I", false)
  | 2 => ("CrossDockModel", "good", "[I", true)
  | 3 => ("CrossDockModel", "lot", "[I", true)
  | 4 => ("CrossDockModel", "time", "[I", true)
  | 5 => ("CrossDockModel", "pallets", "[I", true)
  | 6 => ("CrossDockModel", "promise", "[I", true)
  | 7 => ("CrossDockModel", "orders", "I", false)
  | 8 => ("CrossDockModel", "wish", "[I", true)
  | 9 => ("CrossDockModel", "many", "[I", true)
  | 10 => ("CrossDockModel", "rank", "[I", true)
  | 11 => ("CrossDockModel", "lane", "[I", true)
  | 12 => ("CrossDockModel", "due", "[I", true)
  | 13 => ("CrossDockModel", "lots", "[I", true)
  | 14 => ("CrossDockModel", "bars", "[Z", true)
  | 15 => ("CrossDockModel", "isFull", "[Z", true)
  | 16 => ("CrossDockModel", "pairs", "I", false)
  | 17 => ("CrossDockModel", "pairArrival", "[I", true)
  | 18 => ("CrossDockModel", "pairOrder", "[I", true)
  | 19 => ("CrossDockModel", "pairMany", "[I", true)
  | 20 => ("CrossDockModel", "exact", "Z", false)
  | 21 => ("CrossDockModel", "steps", "I", false)
  | 22 => ("CrossDockModel", "places", "I", false)
  | 23 => ("CrossDockModel", "from", "[I", true)
  | 24 => ("CrossDockModel", "to", "[I", true)
  | 25 => ("CrossDockModel", "plan", "[I", true)
  | 26 => ("CrossDockModel", "best", "[I", true)
  | _ => ("CrossDockModel", "got", "[I", true)
def ty_M : Nat → FieldType := fun k => match k with
  | 0 => .int
  | 1 => .int
  | 2 => .array .int
  | 3 => .array .int
  | 4 => .array .int
  | 5 => .array .int
  | 6 => .array .int
  | 7 => .int
  | 8 => .array .int
  | 9 => .array .int
  | 10 => .array .int
  | 11 => .array .int
  | 12 => .array .int
  | 13 => .array .int
  | 14 => .array .boolean
  | 15 => .array .boolean
  | 16 => .int
  | 17 => .array .int
  | 18 => .array .int
  | 19 => .array .int
  | 20 => .boolean
  | 21 => .int
  | 22 => .int
  | 23 => .array .int
  | 24 => .array .int
  | 25 => .array .int
  | 26 => .array .int
  | _ => .array .int
theorem nm_M : ∀ a, a < 28 → ∀ b, b < 28 → a ≠ b → (T_M a).2.1 ≠ (T_M b).2.1 := by decide +kernel
theorem ty_M_ok : ∀ k, k < 28 → parseFieldDescriptor (T_M k).2.2.1 = some (ty_M k) := by decide +kernel
theorem in_M : ∀ w ∈ u_ws "CrossDockModel" T_M 28, w ∈ xT := by decide +kernel
abbrev xcl : List vw_C := [("CrossDock", T_D, 11), ("CrossDock$Arrival", T_A, 6), ("CrossDock$Order", T_O, 6), ("CrossDock$Pairs", T_P, 4), ("CrossDock$Search", T_S, 13), ("CrossDockModel", T_M, 28)]
abbrev b_D_init : ByteArray := prog_1_method_1_code
abbrev y_D_init : MethodName := ⟨"CrossDock", "<init>", "()V"⟩
abbrev b_A_init : ByteArray := prog_2_method_1_code
abbrev y_A_init : MethodName := ⟨"CrossDock$Arrival", "<init>", "()V"⟩
abbrev b_O_init : ByteArray := prog_3_method_1_code
abbrev y_O_init : MethodName := ⟨"CrossDock$Order", "<init>", "()V"⟩
abbrev b_S_init : ByteArray := prog_5_method_1_code
abbrev y_S_init : MethodName := ⟨"CrossDock$Search", "<init>", "()V"⟩
abbrev b_P_init : ByteArray := prog_4_method_1_code
abbrev y_P_init : MethodName := ⟨"CrossDock$Pairs", "<init>", "()V"⟩
abbrev b_D_exact : ByteArray := prog_1_method_9_code
abbrev y_D_exact : MethodName := ⟨"CrossDock", "exact", "()Z"⟩
abbrev b_D_bound : ByteArray := prog_1_method_10_code
abbrev y_D_bound : MethodName := ⟨"CrossDock", "bound", "()I"⟩
abbrev b_D_arrivalsFor : ByteArray := prog_1_method_28_code
abbrev y_D_arrivalsFor : MethodName := ⟨"CrossDock", "arrivalsFor", "(I)I"⟩
abbrev b_D_mayServe : ByteArray := prog_1_method_24_code
abbrev y_D_mayServe : MethodName := ⟨"CrossDock", "mayServe", "(II)Z"⟩
abbrev b_D_obstacle : ByteArray := prog_1_method_23_code
abbrev y_D_obstacle : MethodName := ⟨"CrossDock", "obstacle", "(II)I"⟩
abbrev b_O_takesLot : ByteArray := prog_3_method_2_code
abbrev y_O_takesLot : MethodName := ⟨"CrossDock$Order", "takesLot", "(I)Z"⟩
abbrev b_A_isBarredFor : ByteArray := prog_2_method_3_code
abbrev y_A_isBarredFor : MethodName := ⟨"CrossDock$Arrival", "isBarredFor", "(I)Z"⟩
abbrev b_D_ordersFor : ByteArray := prog_1_method_27_code
abbrev y_D_ordersFor : MethodName := ⟨"CrossDock", "ordersFor", "(I)I"⟩
abbrev b_D_steps : ByteArray := prog_1_method_11_code
abbrev y_D_steps : MethodName := ⟨"CrossDock", "steps", "()I"⟩
abbrev b_D_saved : ByteArray := prog_1_method_18_code
abbrev y_D_saved : MethodName := ⟨"CrossDock", "saved", "()I"⟩
abbrev b_D_touchesSaved : ByteArray := prog_1_method_30_code
abbrev y_D_touchesSaved : MethodName := ⟨"CrossDock", "touchesSaved", "()I"⟩
abbrev b_P_palletsInAll : ByteArray := prog_4_method_6_code
abbrev y_P_palletsInAll : MethodName := ⟨"CrossDock$Pairs", "palletsInAll", "()I"⟩
abbrev b_P_palletsFor : ByteArray := prog_4_method_5_code
abbrev y_P_palletsFor : MethodName := ⟨"CrossDock$Pairs", "palletsFor", "(I)I"⟩
abbrev b_A_toGive : ByteArray := prog_2_method_2_code
abbrev y_A_toGive : MethodName := ⟨"CrossDock$Arrival", "toGive", "()I"⟩
abbrev b_D_count : ByteArray := prog_1_method_19_code
abbrev y_D_count : MethodName := ⟨"CrossDock", "count", "(I)I"⟩
abbrev b_D_fullLanes : ByteArray := prog_1_method_29_code
abbrev y_D_fullLanes : MethodName := ⟨"CrossDock", "fullLanes", "()I"⟩
abbrev b_L_arrive : ByteArray := method_3_code
abbrev y_L_arrive : MethodName := ⟨"CrossDockLaw", "arrive", "(LCrossDock;IIII[J)I"⟩
abbrev b_D_arrive : ByteArray := prog_1_method_2_code
abbrev y_D_arrive : MethodName := ⟨"CrossDock", "arrive", "(IIII)I"⟩
abbrev b_D_checkRange : ByteArray := prog_1_method_21_code
abbrev y_D_checkRange : MethodName := ⟨"CrossDock", "checkRange", "(III)V"⟩
abbrev b_D_checkRoom : ByteArray := prog_1_method_22_code
abbrev y_D_checkRoom : MethodName := ⟨"CrossDock", "checkRoom", "(II)V"⟩
abbrev b_L_order : ByteArray := method_4_code
abbrev y_L_order : MethodName := ⟨"CrossDockLaw", "order", "(LCrossDock;IIII[J)I"⟩
abbrev b_D_order : ByteArray := prog_1_method_3_code
abbrev y_D_order : MethodName := ⟨"CrossDock", "order", "(IIII)I"⟩
abbrev b_L_wants : ByteArray := method_5_code
abbrev y_L_wants : MethodName := ⟨"CrossDockLaw", "wants", "(LCrossDock;III)I"⟩
abbrev b_D_wants : ByteArray := prog_1_method_4_code
abbrev y_D_wants : MethodName := ⟨"CrossDock", "wants", "(III)V"⟩
abbrev b_D_checkThere : ByteArray := prog_1_method_20_code
abbrev y_D_checkThere : MethodName := ⟨"CrossDock", "checkThere", "(II)V"⟩
abbrev b_L_promised : ByteArray := method_6_code
abbrev y_L_promised : MethodName := ⟨"CrossDockLaw", "promised", "(LCrossDock;II)I"⟩
abbrev b_D_promised : ByteArray := prog_1_method_5_code
abbrev y_D_promised : MethodName := ⟨"CrossDock", "promised", "(II)V"⟩
abbrev b_P_palletsOf : ByteArray := prog_4_method_4_code
abbrev y_P_palletsOf : MethodName := ⟨"CrossDock$Pairs", "palletsOf", "(I)I"⟩
abbrev b_L_rule : ByteArray := method_7_code
abbrev y_L_rule : MethodName := ⟨"CrossDockLaw", "rule", "(LCrossDock;IIZ[J)I"⟩
abbrev b_D_rule : ByteArray := prog_1_method_6_code
abbrev y_D_rule : MethodName := ⟨"CrossDock", "rule", "(IIZ)Z"⟩
abbrev b_A_setBarred : ByteArray := prog_2_method_4_code
abbrev y_A_setBarred : MethodName := ⟨"CrossDock$Arrival", "setBarred", "(IZ)V"⟩
abbrev b_L_full : ByteArray := method_8_code
abbrev y_L_full : MethodName := ⟨"CrossDockLaw", "full", "(LCrossDock;IZ[J)I"⟩
abbrev b_D_full : ByteArray := prog_1_method_7_code
abbrev y_D_full : MethodName := ⟨"CrossDock", "full", "(IZ)I"⟩
abbrev b_L_match : ByteArray := method_9_code
abbrev y_L_match : MethodName := ⟨"CrossDockLaw", "match", "(LCrossDock;I[J)I"⟩
abbrev b_D_match : ByteArray := prog_1_method_8_code
abbrev y_D_match : MethodName := ⟨"CrossDock", "match", "(I)I"⟩
abbrev b_D_layOutPairs : ByteArray := prog_1_method_31_code
abbrev y_D_layOutPairs : MethodName := ⟨"CrossDock", "layOutPairs", "()V"⟩
abbrev b_D_sortOrders : ByteArray := prog_1_method_32_code
abbrev y_D_sortOrders : MethodName := ⟨"CrossDock", "sortOrders", "()V"⟩
abbrev b_D_sortArrivals : ByteArray := prog_1_method_33_code
abbrev y_D_sortArrivals : MethodName := ⟨"CrossDock", "sortArrivals", "()V"⟩
abbrev b_S_addPair : ByteArray := prog_5_method_2_code
abbrev y_S_addPair : MethodName := ⟨"CrossDock$Search", "addPair", "(II)V"⟩
abbrev b_S_lookAtAll : ByteArray := prog_5_method_3_code
abbrev y_S_lookAtAll : MethodName := ⟨"CrossDock$Search", "lookAtAll", "(I)Z"⟩
abbrev b_S_putAllBack : ByteArray := prog_5_method_5_code
abbrev y_S_putAllBack : MethodName := ⟨"CrossDock$Search", "putAllBack", "()V"⟩
abbrev b_S_greatest : ByteArray := prog_5_method_6_code
abbrev y_S_greatest : MethodName := ⟨"CrossDock$Search", "greatest", "(I)I"⟩
abbrev b_S_backToUntried : ByteArray := prog_5_method_7_code
abbrev y_S_backToUntried : MethodName := ⟨"CrossDock$Search", "backToUntried", "(I)I"⟩
abbrev b_S_putBack : ByteArray := prog_5_method_9_code
abbrev y_S_putBack : MethodName := ⟨"CrossDock$Search", "putBack", "(I)V"⟩
abbrev b_S_touchesBy : ByteArray := prog_5_method_10_code
abbrev y_S_touchesBy : MethodName := ⟨"CrossDock$Search", "touchesBy", "(I)I"⟩
abbrev b_S_take : ByteArray := prog_5_method_8_code
abbrev y_S_take : MethodName := ⟨"CrossDock$Search", "take", "(II)V"⟩
abbrev b_S_chooseIfBetter : ByteArray := prog_5_method_11_code
abbrev y_S_chooseIfBetter : MethodName := ⟨"CrossDock$Search", "chooseIfBetter", "()V"⟩
abbrev b_S_chooseByRule : ByteArray := prog_5_method_4_code
abbrev y_S_chooseByRule : MethodName := ⟨"CrossDock$Search", "chooseByRule", "()V"⟩
abbrev b_P_replaceBy : ByteArray := prog_4_method_2_code
abbrev y_P_replaceBy : MethodName := ⟨"CrossDock$Pairs", "replaceBy", "(LCrossDock$Search;)V"⟩
abbrev b_L_pair : ByteArray := method_10_code
abbrev y_L_pair : MethodName := ⟨"CrossDockLaw", "pair", "(LCrossDock;II[J)I"⟩
abbrev b_D_pair : ByteArray := prog_1_method_12_code
abbrev y_D_pair : MethodName := ⟨"CrossDock", "pair", "(II)I"⟩
abbrev b_L_undo : ByteArray := method_11_code
abbrev y_L_undo : MethodName := ⟨"CrossDockLaw", "undo", "(LCrossDock;I[J)I"⟩
abbrev b_D_undo : ByteArray := prog_1_method_13_code
abbrev y_D_undo : MethodName := ⟨"CrossDock", "undo", "(I)I"⟩
abbrev b_P_removeAt : ByteArray := prog_4_method_3_code
abbrev y_P_removeAt : MethodName := ⟨"CrossDock$Pairs", "removeAt", "(I)V"⟩
abbrev b_L_split : ByteArray := method_12_code
abbrev y_L_split : MethodName := ⟨"CrossDockLaw", "split", "(LCrossDock;II[J)I"⟩
abbrev b_D_split : ByteArray := prog_1_method_14_code
abbrev y_D_split : MethodName := ⟨"CrossDock", "split", "(II)I"⟩
abbrev b_A_moveTo : ByteArray := prog_2_method_5_code
abbrev y_A_moveTo : MethodName := ⟨"CrossDock$Arrival", "moveTo", "(LCrossDock$Arrival;I)V"⟩
abbrev b_L_late : ByteArray := method_13_code
abbrev y_L_late : MethodName := ⟨"CrossDockLaw", "late", "(LCrossDock;II[J)I"⟩
abbrev b_D_late : ByteArray := prog_1_method_15_code
abbrev y_D_late : MethodName := ⟨"CrossDock", "late", "(II)I"⟩
abbrev b_D_isUnfit : ByteArray := prog_1_method_25_code
abbrev y_D_isUnfit : MethodName := ⟨"CrossDock", "isUnfit", "(II)Z"⟩
abbrev b_L_arrival : ByteArray := method_14_code
abbrev y_L_arrival : MethodName := ⟨"CrossDockLaw", "arrival", "(LCrossDock;II[J)I"⟩
abbrev b_D_arrival : ByteArray := prog_1_method_16_code
abbrev y_D_arrival : MethodName := ⟨"CrossDock", "arrival", "(II)I"⟩
abbrev b_L_wanted : ByteArray := method_15_code
abbrev y_L_wanted : MethodName := ⟨"CrossDockLaw", "wanted", "(LCrossDock;II[J)I"⟩
abbrev b_D_wanted : ByteArray := prog_1_method_17_code
abbrev y_D_wanted : MethodName := ⟨"CrossDock", "wanted", "(II)I"⟩
abbrev b_D_whatBarsAll : ByteArray := prog_1_method_26_code
abbrev y_D_whatBarsAll : MethodName := ⟨"CrossDock", "whatBarsAll", "(I)I"⟩
abbrev b_M_init : ByteArray := prog_7_method_1_code
abbrev y_M_init : MethodName := ⟨"CrossDockModel", "<init>", "()V"⟩
abbrev b_M_thrown : ByteArray := prog_7_method_2_code
abbrev y_M_thrown : MethodName := ⟨"CrossDockModel", "thrown", "()I"⟩
abbrev b_M_arrive : ByteArray := prog_7_method_6_code
abbrev y_M_arrive : MethodName := ⟨"CrossDockModel", "arrive", "(IIII)I"⟩
abbrev b_M_in : ByteArray := prog_7_method_3_code
abbrev y_M_in : MethodName := ⟨"CrossDockModel", "in", "(III)Z"⟩
abbrev b_M_order : ByteArray := prog_7_method_7_code
abbrev y_M_order : MethodName := ⟨"CrossDockModel", "order", "(IIII)I"⟩
abbrev b_M_wants : ByteArray := prog_7_method_8_code
abbrev y_M_wants : MethodName := ⟨"CrossDockModel", "wants", "(III)V"⟩
abbrev b_M_isOrder : ByteArray := prog_7_method_5_code
abbrev y_M_isOrder : MethodName := ⟨"CrossDockModel", "isOrder", "(I)Z"⟩
abbrev b_M_promised : ByteArray := prog_7_method_11_code
abbrev y_M_promised : MethodName := ⟨"CrossDockModel", "promised", "(II)V"⟩
abbrev b_M_isArrival : ByteArray := prog_7_method_4_code
abbrev y_M_isArrival : MethodName := ⟨"CrossDockModel", "isArrival", "(I)Z"⟩
abbrev b_M_held : ByteArray := prog_7_method_9_code
abbrev y_M_held : MethodName := ⟨"CrossDockModel", "held", "(I)I"⟩
abbrev b_M_rule : ByteArray := prog_7_method_14_code
abbrev y_M_rule : MethodName := ⟨"CrossDockModel", "rule", "(IIZ)Z"⟩
abbrev b_M_mayServe : ByteArray := prog_7_method_13_code
abbrev y_M_mayServe : MethodName := ⟨"CrossDockModel", "mayServe", "(II)Z"⟩
abbrev b_M_passes : ByteArray := prog_7_method_12_code
abbrev y_M_passes : MethodName := ⟨"CrossDockModel", "passes", "(III)Z"⟩
abbrev b_M_full : ByteArray := prog_7_method_15_code
abbrev y_M_full : MethodName := ⟨"CrossDockModel", "full", "(IZ)I"⟩
abbrev b_M_match : ByteArray := prog_7_method_26_code
abbrev y_M_match : MethodName := ⟨"CrossDockModel", "match", "(I)I"⟩
abbrev b_M_layOut : ByteArray := prog_7_method_20_code
abbrev y_M_layOut : MethodName := ⟨"CrossDockModel", "layOut", "()V"⟩
abbrev b_M_orderAt : ByteArray := prog_7_method_18_code
abbrev y_M_orderAt : MethodName := ⟨"CrossDockModel", "orderAt", "(I)I"⟩
abbrev b_M_isOrderBefore : ByteArray := prog_7_method_16_code
abbrev y_M_isOrderBefore : MethodName := ⟨"CrossDockModel", "isOrderBefore", "(II)Z"⟩
abbrev b_M_arrivalAt : ByteArray := prog_7_method_19_code
abbrev y_M_arrivalAt : MethodName := ⟨"CrossDockModel", "arrivalAt", "(I)I"⟩
abbrev b_M_isArrivalBefore : ByteArray := prog_7_method_17_code
abbrev y_M_isArrivalBefore : MethodName := ⟨"CrossDockModel", "isArrivalBefore", "(II)Z"⟩
abbrev b_M_lookAtAll : ByteArray := prog_7_method_24_code
abbrev y_M_lookAtAll : MethodName := ⟨"CrossDockModel", "lookAtAll", "(I)Z"⟩
abbrev b_M_greatest : ByteArray := prog_7_method_22_code
abbrev y_M_greatest : MethodName := ⟨"CrossDockModel", "greatest", "(I)I"⟩
abbrev b_M_has : ByteArray := prog_7_method_21_code
abbrev y_M_has : MethodName := ⟨"CrossDockModel", "has", "(I)I"⟩
abbrev b_M_worth : ByteArray := prog_7_method_23_code
abbrev y_M_worth : MethodName := ⟨"CrossDockModel", "worth", "()I"⟩
abbrev b_M_byRule : ByteArray := prog_7_method_25_code
abbrev y_M_byRule : MethodName := ⟨"CrossDockModel", "byRule", "()V"⟩
abbrev b_M_savedNow : ByteArray := prog_7_method_30_code
abbrev y_M_savedNow : MethodName := ⟨"CrossDockModel", "savedNow", "()I"⟩
abbrev b_M_hasGot : ByteArray := prog_7_method_10_code
abbrev y_M_hasGot : MethodName := ⟨"CrossDockModel", "hasGot", "(I)I"⟩
abbrev b_M_exact : ByteArray := prog_7_method_27_code
abbrev y_M_exact : MethodName := ⟨"CrossDockModel", "exact", "()Z"⟩
abbrev b_M_bound : ByteArray := prog_7_method_28_code
abbrev y_M_bound : MethodName := ⟨"CrossDockModel", "bound", "()I"⟩
abbrev b_M_steps : ByteArray := prog_7_method_29_code
abbrev y_M_steps : MethodName := ⟨"CrossDockModel", "steps", "()I"⟩
abbrev b_M_pair : ByteArray := prog_7_method_31_code
abbrev y_M_pair : MethodName := ⟨"CrossDockModel", "pair", "(II)I"⟩
abbrev b_M_undo : ByteArray := prog_7_method_33_code
abbrev y_M_undo : MethodName := ⟨"CrossDockModel", "undo", "(I)I"⟩
abbrev b_M_drop : ByteArray := prog_7_method_32_code
abbrev y_M_drop : MethodName := ⟨"CrossDockModel", "drop", "(I)V"⟩
abbrev b_M_split : ByteArray := prog_7_method_34_code
abbrev y_M_split : MethodName := ⟨"CrossDockModel", "split", "(II)I"⟩
abbrev b_M_late : ByteArray := prog_7_method_35_code
abbrev y_M_late : MethodName := ⟨"CrossDockModel", "late", "(II)I"⟩
abbrev b_M_arrival : ByteArray := prog_7_method_36_code
abbrev y_M_arrival : MethodName := ⟨"CrossDockModel", "arrival", "(II)I"⟩
abbrev b_M_wanted : ByteArray := prog_7_method_38_code
abbrev y_M_wanted : MethodName := ⟨"CrossDockModel", "wanted", "(II)I"⟩
abbrev b_M_passing : ByteArray := prog_7_method_37_code
abbrev y_M_passing : MethodName := ⟨"CrossDockModel", "passing", "(II)I"⟩
abbrev b_M_saved : ByteArray := prog_7_method_39_code
abbrev y_M_saved : MethodName := ⟨"CrossDockModel", "saved", "()I"⟩
abbrev b_M_count : ByteArray := prog_7_method_40_code
abbrev y_M_count : MethodName := ⟨"CrossDockModel", "count", "(I)I"⟩
end
section
/-! THE CALCULUS: contracts that may throw; states as register files; one row an instruction, goal first -/
/-- what a method's end leaves, returned or thrown -/
def xFr (first t : State) (L : List Loc) (k n : Nat) : Prop := first.WarmedH t.vm ∧ first.sameButNew ({ t with vm := first.vm } : State) L k n
/-- a contract whose end may be a throw -/
def xMet (l : Launch) (y : MethodName) (ws : List Cond) (rm : Room) (Pc : Array Value → State → Prop) (Qc : Array Value → State → Outcome → State → Prop) (mc ms : Nat) (free : Addr → Prop) : Prop :=
  MetFree l y (headSpec ws rm) Pc (fun _ _ _ _ _ => True) (fun a st o t => Qc a st o t ∧ ∃ L, xFr st t L mc ms ∧ ∀ q ∈ L, free q.base)
def xMQ (below : List Frame) (Qc : Array Value → State → Outcome → State → Prop) (a : Array Value) (s : State) (mc ms : Nat) (free : Addr → Prop) : State → Prop := fun t =>
  ∃ o, t.status = .running ∧ Ended t below o ∧ Qc a s o t ∧ ∃ L, xFr s t L mc ms ∧ ∀ q ∈ L, free q.base
section XM
variable {p : Program} {l : Launch} {e : Env} {R : Room} {s : State} {m : MethodId} {args : Array Value} {below : List Frame} {meth : Method} {c : Code} {T : State} {H : Heap} {locs : List Loc} {cells slots : Nat}
variable {y : MethodName} {ws ws' : List Cond} {rm : Room} {Pc : Array Value → State → Prop} {Qc : Array Value → State → Outcome → State → Prop} {mc ms : Nat} {free : Addr → Prop} {cc bytes : ByteArray} {maxL : Nat} {ret : Option FieldType}
theorem xMet.ofW (hy : plainName y.cls = true) (hw : ws = Cond.code y cc maxL ret :: ws')
    (body : ∀ p e s m args below meth c s₁, BodyLoose p l y (headSpec ws rm) cc maxL ret e s m args below meth c s₁ → c.maxLocals = maxL → Pc args s →
      W p l e (headSpec ws rm).room s m args below meth c s.heap [] 0 0 (xMQ below Qc args s mc ms free) (entryFrame m args maxL)) : xMet l y ws rm Pc Qc mc ms free := by
  refine MetFree.of_bodyS (code := cc) (maxLocals := maxL) (ret := ret) hy ?_ ?_
  · intro args s m h hn
    obtain ⟨meth, c, h1, h2, h3, h4, h5, h6, -, -⟩ := Cond.code_spec hn (atoms_spec (ws := ws) h _ (by rw [hw]; exact List.mem_cons_self))
    exact ⟨meth, c, h1, h2, h3, h4, h5, h6⟩
  · intro p e s m args below meth c s₁ B hml hP _
    have hh0 : s₁.heap = s.heap := by rw [B.state]; rfl
    obtain ⟨t, a1, o, b1, b2, b3⟩ := body p e s m args below meth c s₁ B hml hP s₁ hh0 (Stand.of_body B)
    exact ⟨t, o, a1, b1, b2, ⟨b3.1, b3.2⟩⟩
theorem xMet.of (h : Met l y ws rm Pc Qc mc ms free) : xMet l y ws rm Pc Qc mc ms free := by
  intro p e ha hc hk s m args below hf happ hP hK
  obtain ⟨n, o, h1, h2, h3, h4, L, h5, h6⟩ := h p e ha hc hk s m args below hf happ hP hK
  exact ⟨n, o, h1, h2, h3, h4, L, ⟨h5.2.1, h5.2.2⟩, h6⟩
/-- a call of a method with such a contract: it comes back, or it throws -/
theorem xBack (hM : xMet l y ws rm Pc Qc mc ms free) (hbl : FrameBlind Pc)
    (cb : rm.cells = mc ∧ rm.slots = ms ∧ rm.frames + 1 ≤ R.frames ∧ 8 + (maxL + 11) + rm.locals ≤ R.locals ∧ (∀ w ∈ ws, ∀ (a' : Array Value) (U : State), s.WarmedH U.vm → w.before a' U = true) ∧ Cond.code y bytes maxL ret ∈ ws)
    (hini : ∀ (a' : Array Value) (U : State), s.WarmedH U.vm → (Cond.initialized y.cls).before a' U = true)
    (X : Stand p l e R s m args below meth c T locs cells slots) {g : JFrame} (hg : g.method = m) (hsize : g.locals.size = c.maxLocals) {ig : Instr} {len : Nat} (hdg : decode c.code g.pc = .ok (ig, len)) (hW : 2 * g.monitorRoom + (g.stack.map fun v => v.category).sum ≤ 8)
    {mk : MethodId} (hn : T.methodNamed? y = some mk) {a : Array Value} (hc : cells + mc ≤ R.cells) (hs : slots + ms ≤ R.slots) (hP : Pc a T) :
    ∃ (o : Outcome) (t T' : State) (L : List Loc), Stand p l e R s m args below meth c T' (locs ++ L) (cells + mc) (slots + ms) ∧ (∀ q ∈ L, free q.base) ∧ T'.heap = t.heap ∧ T'.vm = t.vm ∧ Qc a (T.calling g mk a) o t ∧
      ((∃ v, o = .returned v ∧ Steps p.tables e below (doInvoke e (T.setTop g) [] mk a).1 (T'.setTop { g with pc := g.pc + len, stack := v.toList ++ g.stack })) ∨
       (∃ x, o = .threw x ∧ Steps p.tables e below (doInvoke e (T.setTop g) [] mk a).1 ((T'.setTop g).pushFrame (.throwing x)))) := by
  obtain ⟨hrc, hrs, hfr, hlo, hws, hcw⟩ := cb
  obtain ⟨methY, cY, hmY, hcY, -, hlY, -, -, -, -⟩ := Cond.code_spec hn (hws _ hcw a T X.warmed)
  obtain ⟨kY, hkY, -⟩ := className_of_methodNamed hn
  have hinitY : kY.init = .initialized := Cond.initialized_spec (findClass_of_methodNamed hn) hkY (hini a T X.warmed)
  have h : At T g.method c below := by rw [hg]; exact X.here
  have happ : (headSpec ws rm).appliesLoose y e.platform (T.calling g mk a) = true :=
    Spec.appliesLoose_calling (g := g) h hdg hn hkY hinitY
      (X.room_calling (g := g) (R' := (headSpec ws rm).room) hsize hmY hcY hfr (by rw [hlY]; show _ + rm.locals ≤ _; omega) (by show _ + rm.cells ≤ _; rw [hrc]; exact hc) (by show _ + rm.slots ≤ _; rw [hrs]; exact hs)) (atoms_intro fun w hw => hws w hw _ _ X.warmed)
  obtain ⟨mid, hmid⟩ := h.above
  have hfr2 : (T.setTop g).frames = (.java g :: mid) ++ below := by rw [State.frames_setTop' g h.top, hmid]; rfl
  obtain ⟨o, t, hsteps, -, hend, hq, L, ⟨hWt, hsame⟩, hL⟩ := Steps.callFree hM p X.admits X.cas X.clock (acts := []) hfr2 happ (hbl _ _ _ _ hP) trivial
  rw [State.frames_setTop' g h.top, X.tail] at hend
  cases o with
  | returned v =>
    obtain ⟨T', X', hW', hs', ht⟩ := X.outOf hg hdg (mk := mk) (a := a) hend hWt hsame
    refine ⟨.returned v, t, T', L, X', hL, by rw [ht]; rfl, by rw [ht]; rfl, hq, Or.inl ⟨v, rfl, ?_⟩⟩
    rw [← ht]; exact hsteps
  | threw x =>
    obtain ⟨T', X', hW', hs', ht⟩ := X.outOfThrown hg (mk := mk) (a := a) hend hWt hsame
    refine ⟨.threw x, t, T', L, X', hL, by rw [ht]; rfl, by rw [ht]; rfl, hq, Or.inr ⟨x, rfl, ?_⟩⟩
    rw [← ht]; exact hsteps
variable {Q : State → Prop} {pc : Nat} {ls : Array Slot}
theorem xiret {v : Int32} {ty : FieldType} (hexec : p.tables.exec = Jvm.exec) (hb : c.code = cc) (hr : meth.sig.returnType = some ty) (hn : narrow ty (.int v) = .int v)
    (hq : ∀ t : State, t.heap = H → s.WarmedH t.vm → Qc args s (.returned (some (.int v))) t) (hf : ∀ q ∈ locs, free q.base)
    (hdg : decode cc pc = .ok (.ireturn, 1)) (hlocks : meth.locks = false) : W p l e R s m args below meth c H locs cells slots (xMQ below Qc args s cells slots free) (F0 m pc ls [.int v]) := by
  intro T hT X
  obtain ⟨fs, hret, hrun, hended, hW, hframe⟩ := X.leave (v := some (.int v)) (fun h => by rw [hr] at h; cases h)
  have hmeth' : T.vm.method? m = some meth := X.method'
  refine ⟨T.setFrames fs, ?_, .returned (some (.int v)), hrun, hended, hq _ hT hW, locs, ⟨hW, hframe⟩, hf⟩
  jvm_step X.here [X.here.top, hexec, hb, hdg, hmeth', hr, hn]
  (try refine ⟨rfl, ?_⟩); (try refine ⟨rfl, ?_⟩)
  first | (intro acts; rw [hret _ acts rfl rfl rfl]) | rw [hret _ _ rfl rfl rfl]
  exact Steps.refl _
theorem xvret (hexec : p.tables.exec = Jvm.exec) (hb : c.code = cc) (hr : meth.sig.returnType = none)
    (hq : ∀ t : State, t.heap = H → s.WarmedH t.vm → Qc args s (.returned none) t) (hf : ∀ q ∈ locs, free q.base)
    (hdg : decode cc pc = .ok (.return_, 1)) (hlocks : meth.locks = false) : W p l e R s m args below meth c H locs cells slots (xMQ below Qc args s cells slots free) (F0 m pc ls []) := by
  intro T hT X
  obtain ⟨fs, hret, hrun, hended, hW, hframe⟩ := X.leave (v := none) (fun _ => rfl)
  have hmeth' : T.vm.method? m = some meth := X.method'
  refine ⟨T.setFrames fs, ?_, .returned none, hrun, hended, hq _ hT hW, locs, ⟨hW, hframe⟩, hf⟩
  jvm_step X.here [X.here.top, hexec, hb, hdg, hmeth', hr]
  (try refine ⟨rfl, ?_⟩); (try refine ⟨rfl, ?_⟩)
  first | (intro acts; rw [hret _ acts rfl rfl rfl]) | rw [hret _ _ rfl rfl rfl]
  exact Steps.refl _
end XM
abbrev xSt : Type := Nat → Nat → Int32
/-- a register's place gets a value -/
def xw (g : xSt) (a i : Nat) (v : Int32) : xSt := va_up g a (upd (g a) i v)
theorem xw_self (g : xSt) (a i : Nat) (v : Int32) : xw g a i v a i = v := by simp [xw, va_up, upd]
theorem xw_reg (g : xSt) {a b : Nat} (i : Nat) (v : Int32) (h : b ≠ a) : xw g a i v b = g b := by simp [xw, va_up, h]
theorem xw_ix (g : xSt) (a : Nat) {i j : Nat} (v : Int32) (h : j ≠ i) : xw g a i v a j = g a j := by simp [xw, va_up, upd, h]
/-- from every heap that holds the state g, at this place of the code with these locals: the machine comes to Q -/
def xV (p : Program) (l : Launch) (e : Env) (R : Room) (s : State) (m : MethodId) (args : Array Value) (below : List Frame) (meth : Method) (c : Code) (D : va_G) (cl : List vw_C) (w : xSt → va_W) (A : Nat → Prop) (nL cells slots : Nat) (Q : State → Prop) (g : xSt) (pc : Nat) (lv : List (Nat × Value)) (stk : List Value) : Prop :=
  ∀ (H : Heap) (locs : List Loc) (ls : Array Slot), va_P D cl (w g) H → va_S A s.heap H locs → lv_has ls nL lv → W p l e R s m args below meth c H locs cells slots Q (F0 m pc ls stk)
/-- what stays the same in a method's walk -/
def xC (p : Program) (s : State) (m : MethodId) (args : Array Value) (c : Code) (cc : ByteArray) (own : String) (Ts : List Cond) (nL : Nat) (D : va_G) (cl : List vw_C) (w : xSt → va_W) (tys : List (ClassId × FieldType)) (A : Nat → Prop) : Prop :=
  p.tables.exec = Jvm.exec ∧ c.code = cc ∧ c.maxLocals = nL ∧ s.vm.findClass own = some m.cls ∧ (∀ q ∈ Ts, q.before args s = true) ∧ va_K D cl tys s ∧ (∀ g, va_D A (w g)) ∧ ∀ q, s.heap.size ≤ q → A q
section XR
variable {p : Program} {l : Launch} {e : Env} {R : Room} {s : State} {m : MethodId} {args : Array Value} {below : List Frame} {meth : Method} {c : Code} {D : va_G} {cl : List vw_C} {w : xSt → va_W} {A : Nat → Prop} {nL cells slots : Nat} {Q : State → Prop}
variable {cc : ByteArray} {own : String} {Ts : List Cond} {tys : List (ClassId × FieldType)} {g : xSt} {pc : Nat} {lv lv' : List (Nat × Value)} {stk : List Value}
theorem v_iconst (C : xC p s m args c cc own Ts nL D cl w tys A) {n : Int} {v : Int32} (hdg : decode cc pc = .ok (.iconst n, 1)) (hv : Int32.ofInt n = v) (k : xV p l e R s m args below meth c D cl w A nL cells slots Q g (pc + 1) lv (.int v :: stk)) : xV p l e R s m args below meth c D cl w A nL cells slots Q g pc lv stk := fun H locs ls hP hS hl => lv_iconst C.1 C.2.1 hdg hv (k H locs ls hP hS hl)
theorem v_bipush (C : xC p s m args c cc own Ts nL D cl w tys A) {n : Int} {v : Int32} (hdg : decode cc pc = .ok (.bipush n, 2)) (hv : (Int8.ofInt n).toInt32 = v) (k : xV p l e R s m args below meth c D cl w A nL cells slots Q g (pc + 2) lv (.int v :: stk)) : xV p l e R s m args below meth c D cl w A nL cells slots Q g pc lv stk := fun H locs ls hP hS hl => lv_bipush C.1 C.2.1 hdg hv (k H locs ls hP hS hl)
theorem v_sipush (C : xC p s m args c cc own Ts nL D cl w tys A) {n : Int} {v : Int32} (hdg : decode cc pc = .ok (.sipush n, 3)) (hv : (Int16.ofInt n).toInt32 = v) (k : xV p l e R s m args below meth c D cl w A nL cells slots Q g (pc + 3) lv (.int v :: stk)) : xV p l e R s m args below meth c D cl w A nL cells slots Q g pc lv stk := fun H locs ls hP hS hl => lv_sipush C.1 C.2.1 hdg hv (k H locs ls hP hS hl)
theorem v_iload_n (C : xC p s m args c cc own Ts nL D cl w tys A) {k0 : Fin 4} {i : Nat} {x : Int32} (hdg : decode cc pc = .ok (.iload_n k0, 1)) (hi : (k0 : Nat) = i) (q : Nat) (hq : lv[q]? = some (i, .int x)) (k : xV p l e R s m args below meth c D cl w A nL cells slots Q g (pc + 1) lv (.int x :: stk)) : xV p l e R s m args below meth c D cl w A nL cells slots Q g pc lv stk := fun H locs ls hP hS hl => lv_iload_n C.1 C.2.1 hdg hi (lv_at hl q hq) (k H locs ls hP hS hl)
theorem v_iload (C : xC p s m args c cc own Ts nL D cl w tys A) {i : Nat} {x : Int32} (hdg : decode cc pc = .ok (.iload i, 2)) (q : Nat) (hq : lv[q]? = some (i, .int x)) (k : xV p l e R s m args below meth c D cl w A nL cells slots Q g (pc + 2) lv (.int x :: stk)) : xV p l e R s m args below meth c D cl w A nL cells slots Q g pc lv stk := fun H locs ls hP hS hl => lv_iload C.1 C.2.1 hdg (lv_at hl q hq) (k H locs ls hP hS hl)
theorem v_aload_n (C : xC p s m args c cc own Ts nL D cl w tys A) {k0 : Fin 4} {i : Nat} {x : Nat} (hdg : decode cc pc = .ok (.aload_n k0, 1)) (hi : (k0 : Nat) = i) (q : Nat) (hq : lv[q]? = some (i, .ref x)) (k : xV p l e R s m args below meth c D cl w A nL cells slots Q g (pc + 1) lv (.ref x :: stk)) : xV p l e R s m args below meth c D cl w A nL cells slots Q g pc lv stk := fun H locs ls hP hS hl => lv_aload_n C.1 C.2.1 hdg hi (lv_at hl q hq) (k H locs ls hP hS hl)
theorem v_aload (C : xC p s m args c cc own Ts nL D cl w tys A) {i : Nat} {x : Nat} (hdg : decode cc pc = .ok (.aload i, 2)) (q : Nat) (hq : lv[q]? = some (i, .ref x)) (k : xV p l e R s m args below meth c D cl w A nL cells slots Q g (pc + 2) lv (.ref x :: stk)) : xV p l e R s m args below meth c D cl w A nL cells slots Q g pc lv stk := fun H locs ls hP hS hl => lv_aload C.1 C.2.1 hdg (lv_at hl q hq) (k H locs ls hP hS hl)
theorem v_lload_n (C : xC p s m args c cc own Ts nL D cl w tys A) {k0 : Fin 4} {i : Nat} {x : Int64} (hdg : decode cc pc = .ok (.lload_n k0, 1)) (hi : (k0 : Nat) = i) (q : Nat) (hq : lv[q]? = some (i, .long x)) (k : xV p l e R s m args below meth c D cl w A nL cells slots Q g (pc + 1) lv (.long x :: stk)) : xV p l e R s m args below meth c D cl w A nL cells slots Q g pc lv stk := fun H locs ls hP hS hl => lv_lload_n C.1 C.2.1 hdg hi (lv_at hl q hq) (k H locs ls hP hS hl)
theorem v_lload (C : xC p s m args c cc own Ts nL D cl w tys A) {i : Nat} {x : Int64} (hdg : decode cc pc = .ok (.lload i, 2)) (q : Nat) (hq : lv[q]? = some (i, .long x)) (k : xV p l e R s m args below meth c D cl w A nL cells slots Q g (pc + 2) lv (.long x :: stk)) : xV p l e R s m args below meth c D cl w A nL cells slots Q g pc lv stk := fun H locs ls hP hS hl => lv_lload C.1 C.2.1 hdg (lv_at hl q hq) (k H locs ls hP hS hl)
theorem v_istore_n (C : xC p s m args c cc own Ts nL D cl w tys A) {k0 : Fin 4} {i : Nat} {x : Int32} (hdg : decode cc pc = .ok (.istore_n k0, 1)) (hi : (k0 : Nat) = i) (hn : i < nL) (hv : (i, Value.int x) :: lv.filter (fun q => !(q.1 == i) && !(q.1 + 1 == i && q.2.category == 2)) = lv') (k : xV p l e R s m args below meth c D cl w A nL cells slots Q g (pc + 1) lv' stk) : xV p l e R s m args below meth c D cl w A nL cells slots Q g pc lv (.int x :: stk) := fun H locs ls hP hS hl => lv_istore_n C.1 C.2.1 hdg hi hl hn hv (fun ls' hl' => k H locs ls' hP hS hl')
theorem v_istore (C : xC p s m args c cc own Ts nL D cl w tys A) {i : Nat} {x : Int32} (hdg : decode cc pc = .ok (.istore i, 2)) (hn : i < nL) (hv : (i, Value.int x) :: lv.filter (fun q => !(q.1 == i) && !(q.1 + 1 == i && q.2.category == 2)) = lv') (k : xV p l e R s m args below meth c D cl w A nL cells slots Q g (pc + 2) lv' stk) : xV p l e R s m args below meth c D cl w A nL cells slots Q g pc lv (.int x :: stk) := fun H locs ls hP hS hl => lv_istore C.1 C.2.1 hdg hl hn hv (fun ls' hl' => k H locs ls' hP hS hl')
theorem v_astore_n (C : xC p s m args c cc own Ts nL D cl w tys A) {k0 : Fin 4} {i : Nat} {x : Nat} (hdg : decode cc pc = .ok (.astore_n k0, 1)) (hi : (k0 : Nat) = i) (hn : i < nL) (hv : (i, Value.ref x) :: lv.filter (fun q => !(q.1 == i) && !(q.1 + 1 == i && q.2.category == 2)) = lv') (k : xV p l e R s m args below meth c D cl w A nL cells slots Q g (pc + 1) lv' stk) : xV p l e R s m args below meth c D cl w A nL cells slots Q g pc lv (.ref x :: stk) := fun H locs ls hP hS hl => lv_astore_n C.1 C.2.1 hdg hi hl hn hv (fun ls' hl' => k H locs ls' hP hS hl')
theorem v_astore (C : xC p s m args c cc own Ts nL D cl w tys A) {i : Nat} {x : Nat} (hdg : decode cc pc = .ok (.astore i, 2)) (hn : i < nL) (hv : (i, Value.ref x) :: lv.filter (fun q => !(q.1 == i) && !(q.1 + 1 == i && q.2.category == 2)) = lv') (k : xV p l e R s m args below meth c D cl w A nL cells slots Q g (pc + 2) lv' stk) : xV p l e R s m args below meth c D cl w A nL cells slots Q g pc lv (.ref x :: stk) := fun H locs ls hP hS hl => lv_astore C.1 C.2.1 hdg hl hn hv (fun ls' hl' => k H locs ls' hP hS hl')
theorem v_iinc (C : xC p s m args c cc own Ts nL D cl w tys A) {i k0 : Nat} {n : Int} {x v : Int32} (hdg : decode cc pc = .ok (.iinc i n, 3)) (hk : lv[k0]? = some (i, .int x)) (hx : x + Int32.ofInt n = v) (hn : i < nL) (hv : (i, Value.int v) :: lv.filter (fun q => !(q.1 == i) && !(q.1 + 1 == i && q.2.category == 2)) = lv') (k : xV p l e R s m args below meth c D cl w A nL cells slots Q g (pc + 3) lv' stk) : xV p l e R s m args below meth c D cl w A nL cells slots Q g pc lv stk := fun H locs ls hP hS hl => lv_iinc C.1 C.2.1 hdg hl hk hx hn hv (fun ls' hl' => k H locs ls' hP hS hl')
theorem v_iadd (C : xC p s m args c cc own Ts nL D cl w tys A) {x y : Int32} (hdg : decode cc pc = .ok (.iadd, 1)) (k : xV p l e R s m args below meth c D cl w A nL cells slots Q g (pc + 1) lv (.int (x + y) :: stk)) : xV p l e R s m args below meth c D cl w A nL cells slots Q g pc lv (.int y :: .int x :: stk) := fun H locs ls hP hS hl => lv_iadd C.1 C.2.1 hdg (k H locs ls hP hS hl)
theorem v_isub (C : xC p s m args c cc own Ts nL D cl w tys A) {x y : Int32} (hdg : decode cc pc = .ok (.isub, 1)) (k : xV p l e R s m args below meth c D cl w A nL cells slots Q g (pc + 1) lv (.int (x - y) :: stk)) : xV p l e R s m args below meth c D cl w A nL cells slots Q g pc lv (.int y :: .int x :: stk) := fun H locs ls hP hS hl => lv_isub C.1 C.2.1 hdg (k H locs ls hP hS hl)
theorem v_imul (C : xC p s m args c cc own Ts nL D cl w tys A) {x y : Int32} (hdg : decode cc pc = .ok (.imul, 1)) (k : xV p l e R s m args below meth c D cl w A nL cells slots Q g (pc + 1) lv (.int (x * y) :: stk)) : xV p l e R s m args below meth c D cl w A nL cells slots Q g pc lv (.int y :: .int x :: stk) := fun H locs ls hP hS hl => lv_imul C.1 C.2.1 hdg (k H locs ls hP hS hl)
theorem v_iand (C : xC p s m args c cc own Ts nL D cl w tys A) {x y : Int32} (hdg : decode cc pc = .ok (.iand, 1)) (k : xV p l e R s m args below meth c D cl w A nL cells slots Q g (pc + 1) lv (.int (x &&& y) :: stk)) : xV p l e R s m args below meth c D cl w A nL cells slots Q g pc lv (.int y :: .int x :: stk) := fun H locs ls hP hS hl => lv_iand C.1 C.2.1 hdg (k H locs ls hP hS hl)
theorem v_ior (C : xC p s m args c cc own Ts nL D cl w tys A) {x y : Int32} (hdg : decode cc pc = .ok (.ior, 1)) (k : xV p l e R s m args below meth c D cl w A nL cells slots Q g (pc + 1) lv (.int (x ||| y) :: stk)) : xV p l e R s m args below meth c D cl w A nL cells slots Q g pc lv (.int y :: .int x :: stk) := fun H locs ls hP hS hl => lv_ior C.1 C.2.1 hdg (k H locs ls hP hS hl)
theorem v_ixor (C : xC p s m args c cc own Ts nL D cl w tys A) {x y : Int32} (hdg : decode cc pc = .ok (.ixor, 1)) (k : xV p l e R s m args below meth c D cl w A nL cells slots Q g (pc + 1) lv (.int (x ^^^ y) :: stk)) : xV p l e R s m args below meth c D cl w A nL cells slots Q g pc lv (.int y :: .int x :: stk) := fun H locs ls hP hS hl => lv_ixor C.1 C.2.1 hdg (k H locs ls hP hS hl)
theorem v_ishl (C : xC p s m args c cc own Ts nL D cl w tys A) {x y : Int32} (hdg : decode cc pc = .ok (.ishl, 1)) (k : xV p l e R s m args below meth c D cl w A nL cells slots Q g (pc + 1) lv (.int (x <<< (y &&& 31)) :: stk)) : xV p l e R s m args below meth c D cl w A nL cells slots Q g pc lv (.int y :: .int x :: stk) := fun H locs ls hP hS hl => lv_ishl C.1 C.2.1 hdg (k H locs ls hP hS hl)
theorem v_ishr (C : xC p s m args c cc own Ts nL D cl w tys A) {x y : Int32} (hdg : decode cc pc = .ok (.ishr, 1)) (k : xV p l e R s m args below meth c D cl w A nL cells slots Q g (pc + 1) lv (.int (x >>> (y &&& 31)) :: stk)) : xV p l e R s m args below meth c D cl w A nL cells slots Q g pc lv (.int y :: .int x :: stk) := fun H locs ls hP hS hl => lv_ishr C.1 C.2.1 hdg (k H locs ls hP hS hl)
theorem v_i2l (C : xC p s m args c cc own Ts nL D cl w tys A) {x : Int32} {v : Int64} (hdg : decode cc pc = .ok (.i2l, 1)) (hv : x.toInt64 = v) (k : xV p l e R s m args below meth c D cl w A nL cells slots Q g (pc + 1) lv (.long v :: stk)) : xV p l e R s m args below meth c D cl w A nL cells slots Q g pc lv (.int x :: stk) := fun H locs ls hP hS hl => lv_i2l C.1 C.2.1 hdg hv (k H locs ls hP hS hl)
theorem v_dup (C : xC p s m args c cc own Ts nL D cl w tys A) {va : Value} (hdg : decode cc pc = .ok (.dup, 1)) (hva : va.category = 1) (k : xV p l e R s m args below meth c D cl w A nL cells slots Q g (pc + 1) lv (va :: va :: stk)) : xV p l e R s m args below meth c D cl w A nL cells slots Q g pc lv (va :: stk) := fun H locs ls hP hS hl => lv_dup C.1 C.2.1 hdg hva (k H locs ls hP hS hl)
theorem v_pop (C : xC p s m args c cc own Ts nL D cl w tys A) {va : Value} (hdg : decode cc pc = .ok (.pop, 1)) (hva : va.category = 1) (k : xV p l e R s m args below meth c D cl w A nL cells slots Q g (pc + 1) lv stk) : xV p l e R s m args below meth c D cl w A nL cells slots Q g pc lv (va :: stk) := fun H locs ls hP hS hl => lv_pop C.1 C.2.1 hdg hva (k H locs ls hP hS hl)
theorem v_dup_x1 (C : xC p s m args c cc own Ts nL D cl w tys A) {va vb : Value} (hdg : decode cc pc = .ok (.dup_x1, 1)) (hva : va.category = 1) (hvb : vb.category = 1) (k : xV p l e R s m args below meth c D cl w A nL cells slots Q g (pc + 1) lv (va :: vb :: va :: stk)) : xV p l e R s m args below meth c D cl w A nL cells slots Q g pc lv (va :: vb :: stk) := fun H locs ls hP hS hl => lv_dup_x1 C.1 C.2.1 hdg hva hvb (k H locs ls hP hS hl)
theorem v_dup2 (C : xC p s m args c cc own Ts nL D cl w tys A) {va vb : Value} (hdg : decode cc pc = .ok (.dup2, 1)) (hva : va.category = 1) (hvb : vb.category = 1) (k : xV p l e R s m args below meth c D cl w A nL cells slots Q g (pc + 1) lv (va :: vb :: va :: vb :: stk)) : xV p l e R s m args below meth c D cl w A nL cells slots Q g pc lv (va :: vb :: stk) := fun H locs ls hP hS hl => lv_dup2_11 C.1 C.2.1 hdg hva hvb (k H locs ls hP hS hl)
theorem v_goto (C : xC p s m args c cc own Ts nL D cl w tys A) {off : Int} {tgt : Nat} (hdg : decode cc pc = .ok (.goto off, 3)) (ht : (pc : Int) + off = (tgt : Int)) (k : xV p l e R s m args below meth c D cl w A nL cells slots Q g tgt lv stk) : xV p l e R s m args below meth c D cl w A nL cells slots Q g pc lv stk := fun H locs ls hP hS hl => lv_goto C.1 C.2.1 hdg ht (k H locs ls hP hS hl)
theorem v_if_eq (C : xC p s m args c cc own Ts nL D cl w tys A) {x : Int32} {off : Int} {tgt : Nat} (hdg : decode cc pc = .ok (.ifCond .eq off, 3)) (ht : (pc : Int) + off = (tgt : Int)) (kt : (x = 0) → xV p l e R s m args below meth c D cl w A nL cells slots Q g tgt lv stk) (kf : (¬ x = 0) → xV p l e R s m args below meth c D cl w A nL cells slots Q g (pc + 3) lv stk) : xV p l e R s m args below meth c D cl w A nL cells slots Q g pc lv (.int x :: stk) := fun H locs ls hP hS hl => lv_if_eq C.1 C.2.1 hdg ht (fun q => kt q H locs ls hP hS hl) (fun q => kf q H locs ls hP hS hl)
theorem v_icmp_eq (C : xC p s m args c cc own Ts nL D cl w tys A) {x y : Int32} {off : Int} {tgt : Nat} (hdg : decode cc pc = .ok (.if_icmp .eq off, 3)) (ht : (pc : Int) + off = (tgt : Int)) (kt : (x = y) → xV p l e R s m args below meth c D cl w A nL cells slots Q g tgt lv stk) (kf : (¬ x = y) → xV p l e R s m args below meth c D cl w A nL cells slots Q g (pc + 3) lv stk) : xV p l e R s m args below meth c D cl w A nL cells slots Q g pc lv (.int y :: .int x :: stk) := fun H locs ls hP hS hl => lv_icmp_eq C.1 C.2.1 hdg ht (fun q => kt q H locs ls hP hS hl) (fun q => kf q H locs ls hP hS hl)
theorem v_if_ne (C : xC p s m args c cc own Ts nL D cl w tys A) {x : Int32} {off : Int} {tgt : Nat} (hdg : decode cc pc = .ok (.ifCond .ne off, 3)) (ht : (pc : Int) + off = (tgt : Int)) (kt : (¬ x = 0) → xV p l e R s m args below meth c D cl w A nL cells slots Q g tgt lv stk) (kf : (x = 0) → xV p l e R s m args below meth c D cl w A nL cells slots Q g (pc + 3) lv stk) : xV p l e R s m args below meth c D cl w A nL cells slots Q g pc lv (.int x :: stk) := fun H locs ls hP hS hl => lv_if_ne C.1 C.2.1 hdg ht (fun q => kt q H locs ls hP hS hl) (fun q => kf q H locs ls hP hS hl)
theorem v_icmp_ne (C : xC p s m args c cc own Ts nL D cl w tys A) {x y : Int32} {off : Int} {tgt : Nat} (hdg : decode cc pc = .ok (.if_icmp .ne off, 3)) (ht : (pc : Int) + off = (tgt : Int)) (kt : (¬ x = y) → xV p l e R s m args below meth c D cl w A nL cells slots Q g tgt lv stk) (kf : (x = y) → xV p l e R s m args below meth c D cl w A nL cells slots Q g (pc + 3) lv stk) : xV p l e R s m args below meth c D cl w A nL cells slots Q g pc lv (.int y :: .int x :: stk) := fun H locs ls hP hS hl => lv_icmp_ne C.1 C.2.1 hdg ht (fun q => kt q H locs ls hP hS hl) (fun q => kf q H locs ls hP hS hl)
theorem v_if_lt (C : xC p s m args c cc own Ts nL D cl w tys A) {x : Int32} {off : Int} {tgt : Nat} (hdg : decode cc pc = .ok (.ifCond .lt off, 3)) (ht : (pc : Int) + off = (tgt : Int)) (kt : (x < 0) → xV p l e R s m args below meth c D cl w A nL cells slots Q g tgt lv stk) (kf : (¬ x < 0) → xV p l e R s m args below meth c D cl w A nL cells slots Q g (pc + 3) lv stk) : xV p l e R s m args below meth c D cl w A nL cells slots Q g pc lv (.int x :: stk) := fun H locs ls hP hS hl => lv_if_lt C.1 C.2.1 hdg ht (fun q => kt q H locs ls hP hS hl) (fun q => kf q H locs ls hP hS hl)
theorem v_icmp_lt (C : xC p s m args c cc own Ts nL D cl w tys A) {x y : Int32} {off : Int} {tgt : Nat} (hdg : decode cc pc = .ok (.if_icmp .lt off, 3)) (ht : (pc : Int) + off = (tgt : Int)) (kt : (x < y) → xV p l e R s m args below meth c D cl w A nL cells slots Q g tgt lv stk) (kf : (¬ x < y) → xV p l e R s m args below meth c D cl w A nL cells slots Q g (pc + 3) lv stk) : xV p l e R s m args below meth c D cl w A nL cells slots Q g pc lv (.int y :: .int x :: stk) := fun H locs ls hP hS hl => lv_icmp_lt C.1 C.2.1 hdg ht (fun q => kt q H locs ls hP hS hl) (fun q => kf q H locs ls hP hS hl)
theorem v_if_ge (C : xC p s m args c cc own Ts nL D cl w tys A) {x : Int32} {off : Int} {tgt : Nat} (hdg : decode cc pc = .ok (.ifCond .ge off, 3)) (ht : (pc : Int) + off = (tgt : Int)) (kt : (0 ≤ x) → xV p l e R s m args below meth c D cl w A nL cells slots Q g tgt lv stk) (kf : (¬ 0 ≤ x) → xV p l e R s m args below meth c D cl w A nL cells slots Q g (pc + 3) lv stk) : xV p l e R s m args below meth c D cl w A nL cells slots Q g pc lv (.int x :: stk) := fun H locs ls hP hS hl => lv_if_ge C.1 C.2.1 hdg ht (fun q => kt q H locs ls hP hS hl) (fun q => kf q H locs ls hP hS hl)
theorem v_icmp_ge (C : xC p s m args c cc own Ts nL D cl w tys A) {x y : Int32} {off : Int} {tgt : Nat} (hdg : decode cc pc = .ok (.if_icmp .ge off, 3)) (ht : (pc : Int) + off = (tgt : Int)) (kt : (y ≤ x) → xV p l e R s m args below meth c D cl w A nL cells slots Q g tgt lv stk) (kf : (¬ y ≤ x) → xV p l e R s m args below meth c D cl w A nL cells slots Q g (pc + 3) lv stk) : xV p l e R s m args below meth c D cl w A nL cells slots Q g pc lv (.int y :: .int x :: stk) := fun H locs ls hP hS hl => lv_icmp_ge C.1 C.2.1 hdg ht (fun q => kt q H locs ls hP hS hl) (fun q => kf q H locs ls hP hS hl)
theorem v_if_gt (C : xC p s m args c cc own Ts nL D cl w tys A) {x : Int32} {off : Int} {tgt : Nat} (hdg : decode cc pc = .ok (.ifCond .gt off, 3)) (ht : (pc : Int) + off = (tgt : Int)) (kt : (0 < x) → xV p l e R s m args below meth c D cl w A nL cells slots Q g tgt lv stk) (kf : (¬ 0 < x) → xV p l e R s m args below meth c D cl w A nL cells slots Q g (pc + 3) lv stk) : xV p l e R s m args below meth c D cl w A nL cells slots Q g pc lv (.int x :: stk) := fun H locs ls hP hS hl => lv_if_gt C.1 C.2.1 hdg ht (fun q => kt q H locs ls hP hS hl) (fun q => kf q H locs ls hP hS hl)
theorem v_icmp_gt (C : xC p s m args c cc own Ts nL D cl w tys A) {x y : Int32} {off : Int} {tgt : Nat} (hdg : decode cc pc = .ok (.if_icmp .gt off, 3)) (ht : (pc : Int) + off = (tgt : Int)) (kt : (y < x) → xV p l e R s m args below meth c D cl w A nL cells slots Q g tgt lv stk) (kf : (¬ y < x) → xV p l e R s m args below meth c D cl w A nL cells slots Q g (pc + 3) lv stk) : xV p l e R s m args below meth c D cl w A nL cells slots Q g pc lv (.int y :: .int x :: stk) := fun H locs ls hP hS hl => lv_icmp_gt C.1 C.2.1 hdg ht (fun q => kt q H locs ls hP hS hl) (fun q => kf q H locs ls hP hS hl)
theorem v_if_le (C : xC p s m args c cc own Ts nL D cl w tys A) {x : Int32} {off : Int} {tgt : Nat} (hdg : decode cc pc = .ok (.ifCond .le off, 3)) (ht : (pc : Int) + off = (tgt : Int)) (kt : (x ≤ 0) → xV p l e R s m args below meth c D cl w A nL cells slots Q g tgt lv stk) (kf : (¬ x ≤ 0) → xV p l e R s m args below meth c D cl w A nL cells slots Q g (pc + 3) lv stk) : xV p l e R s m args below meth c D cl w A nL cells slots Q g pc lv (.int x :: stk) := fun H locs ls hP hS hl => lv_if_le C.1 C.2.1 hdg ht (fun q => kt q H locs ls hP hS hl) (fun q => kf q H locs ls hP hS hl)
theorem v_icmp_le (C : xC p s m args c cc own Ts nL D cl w tys A) {x y : Int32} {off : Int} {tgt : Nat} (hdg : decode cc pc = .ok (.if_icmp .le off, 3)) (ht : (pc : Int) + off = (tgt : Int)) (kt : (x ≤ y) → xV p l e R s m args below meth c D cl w A nL cells slots Q g tgt lv stk) (kf : (¬ x ≤ y) → xV p l e R s m args below meth c D cl w A nL cells slots Q g (pc + 3) lv stk) : xV p l e R s m args below meth c D cl w A nL cells slots Q g pc lv (.int y :: .int x :: stk) := fun H locs ls hP hS hl => lv_icmp_le C.1 C.2.1 hdg ht (fun q => kt q H locs ls hP hS hl) (fun q => kf q H locs ls hP hS hl)
theorem v_get (C : xC p s m args c cc own Ts nL D cl w tys A) {ref Cn : String} {Tf : u_T} {N ci index a : Nat} (F : (∀ q ∈ u_ws Cn Tf N, q ∈ Ts) ∧ cl[ci]? = some (Cn, Tf, N)) (q0 : Nat) {fs : List Value} (he : (w g)[q0]? = some (a, .inr (ci, fs))) (k0 : Nat) (hk : k0 < N) (hlink : (Cond.fieldLink own index (Tf k0).1 (Tf k0).2.1 (Tf k0).2.2.1).before args s = true) {v : Value} (hv : fs[k0]? = some v) (hdg : decode cc pc = .ok (.getfield index, 3)) (k : xV p l e R s m args below meth c D cl w A nL cells slots Q g (pc + 3) lv (v :: stk)) : xV p l e R s m args below meth c D cl w A nL cells slots Q g pc lv (.ref a :: stk) := fun H locs ls hP hS hl => va_get C.1 C.2.1 C.2.2.2.2.1 F.1 C.2.2.2.1 C.2.2.2.2.2.1 hP q0 he F.2 k0 hk hlink (fun _ h9 => h9) hv hdg (k H locs ls hP hS hl)
theorem v_getN (C : xC p s m args c cc own Ts nL D cl w tys A) {host : String} {ref Cn : String} {Tf : u_T} {N ci index a : Nat} (F : (∀ q ∈ u_ws Cn Tf N, q ∈ Ts) ∧ cl[ci]? = some (Cn, Tf, N)) (q0 : Nat) {fs : List Value} (he : (w g)[q0]? = some (a, .inr (ci, fs))) (k0 : Nat) (hk : k0 < N) (hlink : (Cond.fieldLinkNest own index (Tf k0).1 (Tf k0).2.1 (Tf k0).2.2.1 host).before args s = true) {v : Value} (hv : fs[k0]? = some v) (hdg : decode cc pc = .ok (.getfield index, 3)) (k : xV p l e R s m args below meth c D cl w A nL cells slots Q g (pc + 3) lv (v :: stk)) : xV p l e R s m args below meth c D cl w A nL cells slots Q g pc lv (.ref a :: stk) := fun H locs ls hP hS hl => va_getN C.1 C.2.1 C.2.2.2.2.1 F.1 C.2.2.2.1 C.2.2.2.2.2.1 hP q0 he F.2 k0 hk hlink (fun _ h9 => h9) hv hdg (k H locs ls hP hS hl)
theorem v_put (C : xC p s m args c cc own Ts nL D cl w tys A) {ref Cn : String} {Tf : u_T} {N ci index a : Nat} (F : (∀ q ∈ u_ws Cn Tf N, q ∈ Ts) ∧ cl[ci]? = some (Cn, Tf, N)) (q0 : Nat) {fs : List Value} (he : (w g)[q0]? = some (a, .inr (ci, fs))) (k0 : Nat) (hk : k0 < N) {ty0 : Nat → FieldType} (G : (∀ j, j < N → parseFieldDescriptor (Tf j).2.2.1 = some (ty0 j)) ∧ ∀ a, a < N → ∀ b, b < N → a ≠ b → (Tf a).2.1 ≠ (Tf b).2.1) (hlink : (Cond.fieldLink own index (Tf k0).1 (Tf k0).2.1 (Tf k0).2.2.1).before args s = true) (hfin : (Tf k0).2.2.2 = false) {ty : FieldType} {v : Value} (hd : parseFieldDescriptor (Tf k0).2.2.1 = some ty) (hn : narrow ty v = v) (hfit : fits ty v = true) (hl0 : k0 < fs.length) {g' : xSt} (hw : (w g).set q0 (a, .inr (ci, fs.set k0 v)) = w g') (hdg : decode cc pc = .ok (.putfield index, 3)) (k : xV p l e R s m args below meth c D cl w A nL cells slots Q g' (pc + 3) lv stk) : xV p l e R s m args below meth c D cl w A nL cells slots Q g pc lv (v :: .ref a :: stk) := fun H locs ls hP hS hl => va_put C.1 C.2.1 C.2.2.2.2.1 F.1 ty0 G.1 G.2 C.2.2.2.1 C.2.2.2.2.2.1 hP (C.2.2.2.2.2.2.1 g) hS q0 he F.2 k0 hk hlink (fun _ h9 => h9) hfin hd hn hfit hl0 hdg (fun H1 locs1 hP1 _ hS1 => k H1 locs1 ls (by rw [← hw]; exact hP1) hS1 hl)
theorem v_putN (C : xC p s m args c cc own Ts nL D cl w tys A) {host : String} {ref Cn : String} {Tf : u_T} {N ci index a : Nat} (F : (∀ q ∈ u_ws Cn Tf N, q ∈ Ts) ∧ cl[ci]? = some (Cn, Tf, N)) (q0 : Nat) {fs : List Value} (he : (w g)[q0]? = some (a, .inr (ci, fs))) (k0 : Nat) (hk : k0 < N) {ty0 : Nat → FieldType} (G : (∀ j, j < N → parseFieldDescriptor (Tf j).2.2.1 = some (ty0 j)) ∧ ∀ a, a < N → ∀ b, b < N → a ≠ b → (Tf a).2.1 ≠ (Tf b).2.1) (hlink : (Cond.fieldLinkNest own index (Tf k0).1 (Tf k0).2.1 (Tf k0).2.2.1 host).before args s = true) (hfin : (Tf k0).2.2.2 = false) {ty : FieldType} {v : Value} (hd : parseFieldDescriptor (Tf k0).2.2.1 = some ty) (hn : narrow ty v = v) (hfit : fits ty v = true) (hl0 : k0 < fs.length) {g' : xSt} (hw : (w g).set q0 (a, .inr (ci, fs.set k0 v)) = w g') (hdg : decode cc pc = .ok (.putfield index, 3)) (k : xV p l e R s m args below meth c D cl w A nL cells slots Q g' (pc + 3) lv stk) : xV p l e R s m args below meth c D cl w A nL cells slots Q g pc lv (v :: .ref a :: stk) := fun H locs ls hP hS hl => va_putN C.1 C.2.1 C.2.2.2.2.1 F.1 ty0 G.1 G.2 C.2.2.2.1 C.2.2.2.2.2.1 hP (C.2.2.2.2.2.2.1 g) hS q0 he F.2 k0 hk hlink (fun _ h9 => h9) hfin hd hn hfit hl0 hdg (fun H1 locs1 hP1 _ hS1 => k H1 locs1 ls (by rw [← hw]; exact hP1) hS1 hl)
theorem v_iald (C : xC p s m args c cc own Ts nL D cl w tys A) (q0 t0 : Nat) {a : Nat} {cA : ClassId} {n : Nat} {f : Nat → Int32} (ha : (w g)[q0]? = some (a, .inl (cA, n, .inl f))) (ht : tys[t0]? = some (cA, .int)) {i : Int32} (hin : ¬ (i < 0 ∨ n ≤ i.toNatClampNeg)) (hdg : decode cc pc = .ok (.iaload, 1)) (k : xV p l e R s m args below meth c D cl w A nL cells slots Q g (pc + 1) lv (.int (f i.toNatClampNeg) :: stk)) : xV p l e R s m args below meth c D cl w A nL cells slots Q g pc lv (.int i :: .ref a :: stk) := fun H locs ls hP hS hl => va_iald C.1 C.2.1 C.2.2.2.2.2.1 hP q0 t0 ha ht hin hdg (k H locs ls hP hS hl)
theorem v_zald (C : xC p s m args c cc own Ts nL D cl w tys A) (q0 t0 : Nat) {a : Nat} {cA : ClassId} {n : Nat} {f : Nat → Int32} (ha : (w g)[q0]? = some (a, .inl (cA, n, .inl f))) (ht : tys[t0]? = some (cA, .boolean)) {i : Int32} (hin : ¬ (i < 0 ∨ n ≤ i.toNatClampNeg)) (hdg : decode cc pc = .ok (.baload, 1)) (k : xV p l e R s m args below meth c D cl w A nL cells slots Q g (pc + 1) lv (.int (f i.toNatClampNeg) :: stk)) : xV p l e R s m args below meth c D cl w A nL cells slots Q g pc lv (.int i :: .ref a :: stk) := fun H locs ls hP hS hl => va_zald C.1 C.2.1 C.2.2.2.2.2.1 hP q0 t0 ha ht hin hdg (k H locs ls hP hS hl)
theorem v_aald (C : xC p s m args c cc own Ts nL D cl w tys A) (q0 t0 : Nat) {a b : Nat} {cA : ClassId} {n : Nat} {Cn : String} {f : Nat → Option Nat} (ha : (w g)[q0]? = some (a, .inl (cA, n, .inr (.inr (.inr (.inr f)))))) (ht : tys[t0]? = some (cA, .object Cn)) {i : Int32} (hin : ¬ (i < 0 ∨ n ≤ i.toNatClampNeg)) (hf : f i.toNatClampNeg = some b) (hdg : decode cc pc = .ok (.aaload, 1)) (k : xV p l e R s m args below meth c D cl w A nL cells slots Q g (pc + 1) lv (.ref b :: stk)) : xV p l e R s m args below meth c D cl w A nL cells slots Q g pc lv (.int i :: .ref a :: stk) := fun H locs ls hP hS hl => va_aldq C.1 C.2.1 C.2.2.2.2.2.1 hP q0 t0 ha ht hin hdg (by rw [hf]; exact k H locs ls hP hS hl)
theorem v_iast (C : xC p s m args c cc own Ts nL D cl w tys A) (q0 t0 : Nat) {a : Nat} {cA : ClassId} {n : Nat} {f : Nat → Int32} (ha : (w g)[q0]? = some (a, .inl (cA, n, .inl f))) (ht : tys[t0]? = some (cA, .int)) {i x : Int32} (hin : ¬ (i < 0 ∨ n ≤ i.toNatClampNeg)) {g' : xSt} (hw : (w g).set q0 (a, .inl (cA, n, .inl (upd f i.toNatClampNeg x))) = w g') (hdg : decode cc pc = .ok (.iastore, 1)) (k : xV p l e R s m args below meth c D cl w A nL cells slots Q g' (pc + 1) lv stk) : xV p l e R s m args below meth c D cl w A nL cells slots Q g pc lv (.int x :: .int i :: .ref a :: stk) := fun H locs ls hP hS hl => va_iast C.1 C.2.1 C.2.2.2.2.2.1 hP (C.2.2.2.2.2.2.1 g) hS q0 t0 ha ht hin hdg (fun H1 locs1 hP1 _ hS1 => k H1 locs1 ls (by rw [← hw]; exact hP1) hS1 hl)
theorem v_zast (C : xC p s m args c cc own Ts nL D cl w tys A) (q0 t0 : Nat) {a : Nat} {cA : ClassId} {n : Nat} {f : Nat → Int32} (ha : (w g)[q0]? = some (a, .inl (cA, n, .inl f))) (ht : tys[t0]? = some (cA, .boolean)) {i x : Int32} (hin : ¬ (i < 0 ∨ n ≤ i.toNatClampNeg)) {g' : xSt} (hw : (w g).set q0 (a, .inl (cA, n, .inl (upd f i.toNatClampNeg (vp_nar .boolean x)))) = w g') (hdg : decode cc pc = .ok (.bastore, 1)) (k : xV p l e R s m args below meth c D cl w A nL cells slots Q g' (pc + 1) lv stk) : xV p l e R s m args below meth c D cl w A nL cells slots Q g pc lv (.int x :: .int i :: .ref a :: stk) := fun H locs ls hP hS hl => va_zast C.1 C.2.1 C.2.2.2.2.2.1 hP (C.2.2.2.2.2.2.1 g) hS q0 t0 ha ht hin hdg (fun H1 locs1 hP1 _ hS1 => k H1 locs1 ls (by rw [← hw]; exact hP1) hS1 hl)
theorem v_lv (h : lv = lv') (k : xV p l e R s m args below meth c D cl w A nL cells slots Q g pc lv' stk) : xV p l e R s m args below meth c D cl w A nL cells slots Q g pc lv stk := h ▸ k
theorem v_g {g' : xSt} (h : g' = g) (k : xV p l e R s m args below meth c D cl w A nL cells slots Q g' pc lv stk) : xV p l e R s m args below meth c D cl w A nL cells slots Q g pc lv stk := h ▸ k
theorem v_sub (ks : List Nat) (h : lv_pick lv ks = lv') (k : xV p l e R s m args below meth c D cl w A nL cells slots Q g pc lv' stk) : xV p l e R s m args below meth c D cl w A nL cells slots Q g pc lv stk := fun H locs ls hP hS hl => k H locs ls hP hS (lv_sub hl ks h)
end XR
/-! calls -/
def xTh (E : String) (t : State) (a : Addr) : Prop := ∃ ce : Cell, t.heap[a]? = some ce ∧ t.vm.findClass E = some ce.cls ∧ ce.vm = .none
def xA (w : xSt → va_W) (sz : Nat) : Nat → Prop := va_A (w (fun _ _ => 0)) sz
def xP (TB : State → Prop) (D : va_G) (cl : List vw_C) (w : xSt → va_W) (tys : List (ClassId × FieldType)) (sz : Nat) (As : List Value) (g : xSt) : Array Value → State → Prop :=
  va_Pc As (fun U => U.heap.size = sz ∧ va_P D cl (w g) U.heap ∧ va_K D cl tys U ∧ va_D (fun _ => True) (w g) ∧ TB U)
def xQ (D : va_G) (cl : List vw_C) (w : xSt → va_W) (A : Nat → Prop) (ov : Option Value ⊕ String) (g' : xSt) : Array Value → State → Outcome → State → Prop := fun _ st oc t =>
  (match ov with | .inl v => oc = .returned v | .inr E => ∃ a : Addr, oc = .threw a ∧ st.heap.size ≤ a ∧ xTh E t a) ∧ va_P D cl (w g') t.heap ∧ va_F A st t
section XCALL
variable {p : Program} {l : Launch} {e : Env} {R : Room} {s : State} {m : MethodId} {args : Array Value} {below : List Frame} {meth : Method} {c : Code} {T : State} {H : Heap} {locs : List Loc} {cells slots : Nat}
variable {y : MethodName} {ws ws' : List Cond} {rm : Room} {Pc : Array Value → State → Prop} {Qc : Array Value → State → Outcome → State → Prop} {mc ms : Nat} {free : Addr → Prop} {cc bytes : ByteArray} {maxL : Nat} {ret : Option FieldType}
/-- what a call does to the caller's walk -/
def xRun (p : Program) (l : Launch) (e : Env) (R : Room) (s : State) (m : MethodId) (args : Array Value) (below : List Frame) (meth : Method) (c : Code) (T : State) (locs : List Loc) (cells slots mc ms : Nat) (g : JFrame) (rest : List Value) (Qa : State → Outcome → State → Prop) (free : Addr → Prop) : Prop :=
  ∃ (o : Outcome) (st₀ t T' : State) (L : List Loc), st₀.heap = T.heap ∧ Stand p l e R s m args below meth c T' (locs ++ L) (cells + mc) (slots + ms) ∧ (∀ q ∈ L, free q.base) ∧ T'.heap = t.heap ∧ T'.vm = t.vm ∧ Qa st₀ o t ∧
    ((∃ v, o = .returned v ∧ ∀ tg, Steps p.tables e below (T'.setTop { g with pc := g.pc + 3, stack := v.toList ++ rest }) tg → Steps p.tables e below (T.setTop g) tg) ∨
     (∃ x, o = .threw x ∧ ∀ tg, Steps p.tables e below ((T'.setTop { g with stack := rest }).pushFrame (.throwing x)) tg → Steps p.tables e below (T.setTop g) tg))
/-- what is asked of a callee's words and room -/
def xCB (R : Room) (s : State) (y : MethodName) (bytes : ByteArray) (maxL : Nat) (ret : Option FieldType) (ws : List Cond) (rm : Room) (mc ms : Nat) : Prop :=
  (rm.cells = mc ∧ rm.slots = ms ∧ rm.frames + 1 ≤ R.frames ∧ 8 + (maxL + 11) + rm.locals ≤ R.locals ∧ (∀ w ∈ ws, ∀ (a' : Array Value) (U : State), s.WarmedH U.vm → w.before a' U = true) ∧ Cond.code y bytes maxL ret ∈ ws) ∧
  (∀ (a' : Array Value) (U : State), s.WarmedH U.vm → (Cond.initialized y.cls).before a' U = true)
theorem xcallS (X : Stand p l e R s m args below meth c T locs cells slots) (hexec : p.tables.exec = Jvm.exec) (hM : xMet l y ws rm Pc Qc mc ms free) (hbl : FrameBlind Pc) (cb : xCB R s y bytes maxL ret ws rm mc ms)
    {own : String} {index : Nat} (hown : s.vm.findClass own = some m.cls) (hlink : (Cond.methodLink own index y).before args s = true) (hstat : (Cond.static y).before args s = true)
    (hy : y.cls ≠ "java/lang/invoke/MethodHandle" ∧ y.cls ≠ "java/lang/invoke/VarHandle")
    {g : JFrame} (hg : g.method = m) (hsize : g.locals.size = c.maxLocals) {argsL rest : List Value} (hlen : ∀ sig, parseMethodDescriptor y.desc = some sig → argsL.length = sig.parameters.length)
    (hstack : g.stack = argsL.reverse ++ rest) (hW : 2 * g.monitorRoom + (rest.map fun v => v.category).sum ≤ 8) (hdg : decode c.code g.pc = .ok (.invokestatic index, 3)) (hc : cells + mc ≤ R.cells) (hs : slots + ms ≤ R.slots)
    (hP : ∀ U : State, U.heap = T.heap → s.WarmedH U.vm → Pc argsL.toArray U) : xRun p l e R s m args below meth c T locs cells slots mc ms g rest (Qc argsL.toArray) free := by
  have hcode : (Cond.code y bytes maxL ret).before args s = true := cb.1.2.2.2.2.1 _ cb.1.2.2.2.2.2 args s (State.WarmedH.refl s)
  have hinit : (Cond.initialized y.cls).before args s = true := cb.2 args s (State.WarmedH.refl s)
  obtain ⟨mk, hnamed⟩ := Cond.code_named hcode
  obtain ⟨methM, cM, hmethM, -, -, -, -, -, -, hsigM⟩ := Cond.code_spec hnamed hcode
  have hstatic : methM.isStatic = true := Cond.static_spec hnamed hmethM hstat
  obtain ⟨kP, hkP, -⟩ := className_of_methodNamed hnamed
  have hinitP : kP.init = .initialized := Cond.initialized_spec (findClass_of_methodNamed hnamed) hkP hinit
  obtain ⟨vm₁, X₁, hstep₁⟩ := X.invokestatic hexec hown hlink hnamed hmethM hstatic hkP hinitP hy (g := g) hg (argsL := argsL) (rest := rest) (hlen _ hsigM) hstack hdg
  obtain ⟨o, t, T', L, X', hL, e1, e2, hq, hst⟩ := xBack hM hbl cb.1 cb.2 X₁ (g := { g with stack := rest }) hg hsize hdg hW (X₁.named hnamed) hc hs (hP (T.setVm vm₁) rfl X₁.warmed)
  refine ⟨o, (T.setVm vm₁).calling { g with stack := rest } mk _, t, T', L, rfl, X', hL, e1, e2, hq, ?_⟩
  rcases hst with ⟨v, hv, h⟩ | ⟨x, hx, h⟩
  · exact Or.inl ⟨v, hv, fun tg ht => hstep₁ _ fun acts => by rw [doInvoke_state]; exact h.trans ht⟩
  · exact Or.inr ⟨x, hx, fun tg ht => hstep₁ _ fun acts => by rw [doInvoke_state]; exact h.trans ht⟩
theorem xcallV (X : Stand p l e R s m args below meth c T locs cells slots) (hexec : p.tables.exec = Jvm.exec) (hM : xMet l y ws rm Pc Qc mc ms free) (hbl : FrameBlind Pc) (cb : xCB R s y bytes maxL ret ws rm mc ms)
    {own C : String} {index : Nat} (hown : s.vm.findClass own = some m.cls) (hlink : (Cond.methodLink own index y).before args s = true) (hinst : (Cond.instanceMethod y).before args s = true) (hsel : (Cond.selects C y y).before args s = true)
    (hy : y.cls ≠ "java/lang/invoke/MethodHandle" ∧ y.cls ≠ "java/lang/invoke/VarHandle")
    {b : Addr} {cellB : Cell} (hcell : T.heap[b]? = some cellB) (hobj : cellB.vm.isStatics = false) (hcls : s.vm.findClass C = some cellB.cls)
    {g : JFrame} (hg : g.method = m) (hsize : g.locals.size = c.maxLocals) {argsL rest : List Value} (hlen : ∀ sig, parseMethodDescriptor y.desc = some sig → argsL.length = sig.parameters.length)
    (hstack : g.stack = argsL.reverse ++ .ref b :: rest) (hW : 2 * g.monitorRoom + (rest.map fun v => v.category).sum ≤ 8) (hdg : decode c.code g.pc = .ok (.invokevirtual index, 3)) (hc : cells + mc ≤ R.cells) (hs : slots + ms ≤ R.slots)
    (hP : ∀ U : State, U.heap = T.heap → s.WarmedH U.vm → Pc (Value.ref b :: argsL).toArray U) : xRun p l e R s m args below meth c T locs cells slots mc ms g rest (Qc (Value.ref b :: argsL).toArray) free := by
  have hcode : (Cond.code y bytes maxL ret).before args s = true := cb.1.2.2.2.2.1 _ cb.1.2.2.2.2.2 args s (State.WarmedH.refl s)
  obtain ⟨mk, methM, hnamed, hmethM, hstM, habM⟩ := Cond.instanceMethod_spec hinst
  obtain ⟨methM', cM, hmethM', -, -, -, -, -, -, hsigM⟩ := Cond.code_spec hnamed hcode
  cases hmethM.symm.trans hmethM'
  obtain ⟨c2, r2, m2, q1, q2, q3, q4, kP, hkP, hkPi⟩ := Cond.selects_spec hsel
  cases hcls.symm.trans q1
  cases (State.methodFound?_of_named hnamed hy).symm.trans q2
  cases hnamed.symm.trans q3
  have hselP : selectMethod e.platform s.vm cellB.cls mk = .method mk := by rw [Launch.admits_selectMethod X.admits]; exact q4
  obtain ⟨vm₁, X₁, hstep₁⟩ := X.invokevirtual hexec hown hlink hnamed hmethM hstM hkP hkPi hy (a := b) (cell := cellB) hcell
    (fun z h => by rw [h] at hobj; cases hobj) hselP hmethM habM hkP hkPi (g := g) hg (argsL := argsL) (rest := rest) (hlen _ hsigM) hstack hdg
  obtain ⟨o, t, T', L, X', hL, e1, e2, hq, hst⟩ := xBack hM hbl cb.1 cb.2 X₁ (g := { g with stack := rest }) hg hsize hdg hW (X₁.named hnamed) hc hs (hP (T.setVm vm₁) rfl X₁.warmed)
  refine ⟨o, (T.setVm vm₁).calling { g with stack := rest } mk _, t, T', L, rfl, X', hL, e1, e2, hq, ?_⟩
  rcases hst with ⟨v, hv, h⟩ | ⟨x, hx, h⟩
  · exact Or.inl ⟨v, hv, fun tg ht => hstep₁ _ fun acts => by rw [doInvoke_state]; exact h.trans ht⟩
  · exact Or.inr ⟨x, hx, fun tg ht => hstep₁ _ fun acts => by rw [doInvoke_state]; exact h.trans ht⟩
theorem xcallVN (X : Stand p l e R s m args below meth c T locs cells slots) (hexec : p.tables.exec = Jvm.exec) (hM : xMet l y ws rm Pc Qc mc ms free) (hbl : FrameBlind Pc) (cb : xCB R s y bytes maxL ret ws rm mc ms)
    {own C host : String} {index : Nat} (hown : s.vm.findClass own = some m.cls) (hlink : (Cond.methodLinkNest own index y host).before args s = true) (hinst : (Cond.instanceMethod y).before args s = true) (hsel : (Cond.selects C y y).before args s = true)
    (hy : y.cls ≠ "java/lang/invoke/MethodHandle" ∧ y.cls ≠ "java/lang/invoke/VarHandle")
    {b : Addr} {cellB : Cell} (hcell : T.heap[b]? = some cellB) (hobj : cellB.vm.isStatics = false) (hcls : s.vm.findClass C = some cellB.cls)
    {g : JFrame} (hg : g.method = m) (hsize : g.locals.size = c.maxLocals) {argsL rest : List Value} (hlen : ∀ sig, parseMethodDescriptor y.desc = some sig → argsL.length = sig.parameters.length)
    (hstack : g.stack = argsL.reverse ++ .ref b :: rest) (hW : 2 * g.monitorRoom + (rest.map fun v => v.category).sum ≤ 8) (hdg : decode c.code g.pc = .ok (.invokevirtual index, 3)) (hc : cells + mc ≤ R.cells) (hs : slots + ms ≤ R.slots)
    (hP : ∀ U : State, U.heap = T.heap → s.WarmedH U.vm → Pc (Value.ref b :: argsL).toArray U) : xRun p l e R s m args below meth c T locs cells slots mc ms g rest (Qc (Value.ref b :: argsL).toArray) free := by
  have hcode : (Cond.code y bytes maxL ret).before args s = true := cb.1.2.2.2.2.1 _ cb.1.2.2.2.2.2 args s (State.WarmedH.refl s)
  obtain ⟨mk, methM, hnamed, hmethM, hstM, habM⟩ := Cond.instanceMethod_spec hinst
  obtain ⟨methM', cM, hmethM', -, -, -, -, -, -, hsigM⟩ := Cond.code_spec hnamed hcode
  cases hmethM.symm.trans hmethM'
  obtain ⟨c2, r2, m2, q1, q2, q3, q4, kP, hkP, hkPi⟩ := Cond.selects_spec hsel
  cases hcls.symm.trans q1
  cases (State.methodFound?_of_named hnamed hy).symm.trans q2
  cases hnamed.symm.trans q3
  have hselP : selectMethod e.platform s.vm cellB.cls mk = .method mk := by rw [Launch.admits_selectMethod X.admits]; exact q4
  obtain ⟨vm₁, X₁, hstep₁⟩ := X.invokevirtualNest hexec hown hlink hnamed hmethM hstM hkP hkPi hy (a := b) (cell := cellB) hcell
    (fun z h => by rw [h] at hobj; cases hobj) hselP hmethM habM hkP hkPi (g := g) hg (argsL := argsL) (rest := rest) (hlen _ hsigM) hstack hdg
  obtain ⟨o, t, T', L, X', hL, e1, e2, hq, hst⟩ := xBack hM hbl cb.1 cb.2 X₁ (g := { g with stack := rest }) hg hsize hdg hW (X₁.named hnamed) hc hs (hP (T.setVm vm₁) rfl X₁.warmed)
  refine ⟨o, (T.setVm vm₁).calling { g with stack := rest } mk _, t, T', L, rfl, X', hL, e1, e2, hq, ?_⟩
  rcases hst with ⟨v, hv, h⟩ | ⟨x, hx, h⟩
  · exact Or.inl ⟨v, hv, fun tg ht => hstep₁ _ fun acts => by rw [doInvoke_state]; exact h.trans ht⟩
  · exact Or.inr ⟨x, hx, fun tg ht => hstep₁ _ fun acts => by rw [doInvoke_state]; exact h.trans ht⟩
end XCALL
/-! calls, returns, throws and the entry, in the calculus -/
section XVC
variable {p : Program} {l : Launch} {e : Env} {R : Room} {s : State} {m : MethodId} {args : Array Value} {below : List Frame} {meth : Method} {c : Code} {D : va_G} {cl : List vw_C} {w : xSt → va_W} {A : Nat → Prop} {nL cells slots : Nat} {Q : State → Prop}
variable {cc : ByteArray} {own : String} {Ts : List Cond} {tys : List (ClassId × FieldType)} {g g' : xSt} {pc mc ms : Nat} {lv lv' : List (Nat × Value)} {stk rest : List Value} {v : Option Value} {E : String} {a : Array Value}
theorem xA_sub (C : xC p s m args c cc own Ts nL D cl w tys A) {sz q : Nat} (hz : s.heap.size ≤ sz) (h : xA w sz q) : A q := by
  rcases h with ⟨k, e, h⟩ | h
  · exact (C.2.2.2.2.2.2.1 _).2 k _ h
  · exact C.2.2.2.2.2.2.2 q (Nat.le_trans hz h)
theorem xS_call (C : xC p s m args c cc own Ts nL D cl w tys A) {H : Heap} {t st₀ : State} {locs L : List Loc} (hS : va_S A s.heap H locs) (h0 : st₀.heap = H) (hF : va_F (xA w H.size) st₀ t) (hL : ∀ q ∈ L, xA w H.size q.base) : va_S A s.heap t.heap (locs ++ L) := by
  obtain ⟨hz, hk⟩ := hF
  rw [h0] at hz hk
  refine ⟨Nat.le_trans hS.1 hz, fun q h1 h2 => ?_, fun q hq => ?_⟩
  · rw [hk q (Nat.lt_of_lt_of_le h1 hS.1) (fun z => h2 (xA_sub C hS.1 z))]
    exact hS.2.1 q h1 h2
  · rcases List.mem_append.mp hq with h | h
    · exact hS.2.2 q h
    · exact xA_sub C hS.1 (hL q h)
theorem v_back (C : xC p s m args c cc own Ts nL D cl w tys A)
    (run : ∀ (T : State) (locs : List Loc) (ls : Array Slot), va_P D cl (w g) T.heap → va_S A s.heap T.heap locs → ls.size = nL → Stand p l e R s m args below meth c T locs cells slots → xRun p l e R s m args below meth c T locs cells slots mc ms (F0 m pc ls stk) rest (xQ D cl w (xA w T.heap.size) (.inl v) g' a) (xA w T.heap.size))
    (k : xV p l e R s m args below meth c D cl w A nL (cells + mc) (slots + ms) Q g' (pc + 3) lv (v.toList ++ rest)) : xV p l e R s m args below meth c D cl w A nL cells slots Q g pc lv stk := by
  intro H locs ls hP hS hl T hT X
  subst hT
  obtain ⟨o, st₀, t, T', L, h0, X', hL, e1, e2, ⟨ho, hP', hF⟩, hst⟩ := run T locs ls hP hS hl.1 X
  have ho : o = .returned v := ho
  rcases hst with ⟨v', hv', h⟩ | ⟨x, hx, h⟩
  · have hvv : v' = v := by have := hv'.symm.trans ho; cases this; rfl
    subst hvv
    obtain ⟨t2, a1, b1⟩ := k T'.heap (locs ++ L) ls (by rw [e1]; exact hP') (by rw [e1]; exact xS_call C hS h0 hF hL) hl T' rfl X'
    exact ⟨t2, h t2 a1, b1⟩
  · have := hx.symm.trans ho
    cases this
/-- a call that throws out of this method -/
theorem v_out (C : xC p s m args c cc own Ts nL D cl w tys A)
    (run : ∀ (T : State) (locs : List Loc) (ls : Array Slot), va_P D cl (w g) T.heap → va_S A s.heap T.heap locs → ls.size = nL → Stand p l e R s m args below meth c T locs cells slots → xRun p l e R s m args below meth c T locs cells slots mc ms (F0 m pc ls stk) rest (xQ D cl w (xA w T.heap.size) (.inr E) g' a) (xA w T.heap.size))
    (hout : ∀ x ∈ c.exceptionTable.toList, covers x pc = false) (hlocks : meth.locks = false) {mc' ms' : Nat} (h1 : cells + mc ≤ mc') (h2 : slots + ms ≤ ms') :
    xV p l e R s m args below meth c D cl w A nL cells slots (xMQ below (xQ D cl w A (.inr E) g') args s mc' ms' A) g pc lv stk := by
  intro H locs ls hP hS hl T hT X
  subst hT
  obtain ⟨o, st₀, t, T', L, h0, X', hL, e1, e2, ⟨ho, hP', hF⟩, hst⟩ := run T locs ls hP hS hl.1 X
  obtain ⟨x, ho, hx, hth⟩ : ∃ x : Addr, o = .threw x ∧ st₀.heap.size ≤ x ∧ xTh E t x := ho
  rcases hst with ⟨v', hv', h⟩ | ⟨x', hx', h⟩
  · have := hv'.symm.trans ho
    cases this
  · have hxx : x' = x := by have := hx'.symm.trans ho; cases this; rfl
    subst hxx
    have X'' := stand_widen X' h1 h2
    obtain ⟨q1, q2, q3, q4, q5⟩ := X''.leaveThrown x' (g := { F0 m pc ls stk with stack := rest }) rfl rfl rfl hout hlocks
    have hS' := xS_call C hS h0 hF hL
    refine ⟨_, h _ q1, .threw x', q2, q3, ⟨⟨x', rfl, by rw [h0] at hx; exact Nat.le_trans hS.1 hx, ?_⟩, ?_, ?_⟩, locs ++ L, ⟨q4, q5⟩, hS'.2.2⟩
    · obtain ⟨ce, c1, c2, c3⟩ := hth
      exact ⟨ce, by show T'.heap[x']? = _; rw [e1]; exact c1, by show T'.vm.findClass E = _; rw [e2]; exact c2, c3⟩
    · show va_P D cl (w g') T'.heap
      rw [e1]; exact hP'
    · rw [← e1] at hS'
      exact hS'.F rfl
theorem v_iret (C : xC p s m args c cc own Ts nL D cl w tys A) {r : Int32} {ty : FieldType} (hr : meth.sig.returnType = some ty) (hn : narrow ty (.int r) = .int r) (hdg : decode cc pc = .ok (.ireturn, 1)) (hlocks : meth.locks = false) {mc' ms' : Nat} (h1 : cells ≤ mc') (h2 : slots ≤ ms') :
    xV p l e R s m args below meth c D cl w A nL cells slots (xMQ below (xQ D cl w A (.inl (some (.int r))) g) args s mc' ms' A) g pc lv [.int r] :=
  fun H locs ls hP hS hl => W.widen h1 h2 (xiret C.1 C.2.1 hr hn (fun t ht hW => ⟨rfl, by rw [ht]; exact hP, hS.F ht⟩) hS.2.2 hdg hlocks)
theorem v_vret (C : xC p s m args c cc own Ts nL D cl w tys A) (hr : meth.sig.returnType = none) (hdg : decode cc pc = .ok (.return_, 1)) (hlocks : meth.locks = false) {mc' ms' : Nat} (h1 : cells ≤ mc') (h2 : slots ≤ ms') :
    xV p l e R s m args below meth c D cl w A nL cells slots (xMQ below (xQ D cl w A (.inl none) g) args s mc' ms' A) g pc lv [] :=
  fun H locs ls hP hS hl => W.widen h1 h2 (xvret C.1 C.2.1 hr (fun t ht hW => ⟨rfl, by rw [ht]; exact hP, hS.F ht⟩) hS.2.2 hdg hlocks)
theorem x_start {As : List Value} (hV : xV p l e R s m args below meth c D cl w A nL cells slots Q g 0 (lv_args 0 As) []) (hP : va_P D cl (w g) s.heap) (hn : (lg_sl As).length ≤ nL) : W p l e R s m args below meth c s.heap [] cells slots Q (entryFrame m As.toArray nL) := by
  rw [lg_entry_eq]
  exact hV s.heap [] _ hP va_S.rf (lv_entry As hn)
end XVC
end
section
/-! the one world: class, reference and out array; registers g (printed by wip/whole/world.py) -/
def wX (ad : Nat → Nat) (ca : Nat → ClassId) (g : xSt) : va_W := [(ad 0, .inr (0, [.ref (ad 1), .ref (ad 2), .ref (ad 3), .ref (ad 4), .ref (ad 5), .ref (ad 6), .ref (ad 7), .int (g 0 0), .int (g 1 0), .int (g 2 0), .int (g 3 0)])), (ad 1, .inl (ca 2, 8, .inr (.inr (.inr (.inr (fun j => some (ad (20 + j)))))))), (ad 2, .inl (ca 3, 8, .inr (.inr (.inr (.inr (fun j => some (ad (28 + j)))))))), (ad 3, .inl (ca 1, 4, .inl (g 4))), (ad 4, .inl (ca 0, 8, .inl (g 5))), (ad 5, .inl (ca 0, 8, .inl (g 6))), (ad 6, .inr (4, [.ref (ad 8), .ref (ad 9), .ref (ad 10), .ref (ad 11), .ref (ad 12), .ref (ad 13), .ref (ad 14), .ref (ad 15), .ref (ad 16), .int (g 16 0), .int (g 17 0), .int (g 18 0), .int (g 19 0)])), (ad 7, .inr (3, [.ref (ad 17), .ref (ad 18), .ref (ad 19), .int (g 23 0)])), (ad 8, .inl (ca 0, 64, .inl (g 7))), (ad 9, .inl (ca 0, 64, .inl (g 8))), (ad 10, .inl (ca 0, 8, .inl (g 9))), (ad 11, .inl (ca 0, 8, .inl (g 10))), (ad 12, .inl (ca 0, 8, .inl (g 11))), (ad 13, .inl (ca 0, 8, .inl (g 12))), (ad 14, .inl (ca 0, 64, .inl (g 13))), (ad 15, .inl (ca 0, 64, .inl (g 14))), (ad 16, .inl (ca 0, 64, .inl (g 15))), (ad 17, .inl (ca 0, 64, .inl (g 20))), (ad 18, .inl (ca 0, 64, .inl (g 21))), (ad 19, .inl (ca 0, 64, .inl (g 22))), (ad 20, .inr (1, [.int (g 24 0), .int (g 25 0), .int (g 26 0), .int (g 27 0), .int (g 28 0), .int (g 29 0)])), (ad 21, .inr (1, [.int (g 24 1), .int (g 25 1), .int (g 26 1), .int (g 27 1), .int (g 28 1), .int (g 29 1)])), (ad 22, .inr (1, [.int (g 24 2), .int (g 25 2), .int (g 26 2), .int (g 27 2), .int (g 28 2), .int (g 29 2)])), (ad 23, .inr (1, [.int (g 24 3), .int (g 25 3), .int (g 26 3), .int (g 27 3), .int (g 28 3), .int (g 29 3)])), (ad 24, .inr (1, [.int (g 24 4), .int (g 25 4), .int (g 26 4), .int (g 27 4), .int (g 28 4), .int (g 29 4)])), (ad 25, .inr (1, [.int (g 24 5), .int (g 25 5), .int (g 26 5), .int (g 27 5), .int (g 28 5), .int (g 29 5)])), (ad 26, .inr (1, [.int (g 24 6), .int (g 25 6), .int (g 26 6), .int (g 27 6), .int (g 28 6), .int (g 29 6)])), (ad 27, .inr (1, [.int (g 24 7), .int (g 25 7), .int (g 26 7), .int (g 27 7), .int (g 28 7), .int (g 29 7)])), (ad 28, .inr (2, [.int (g 30 0), .int (g 31 0), .int (g 32 0), .int (g 33 0), .int (g 34 0), .int (g 35 0)])), (ad 29, .inr (2, [.int (g 30 1), .int (g 31 1), .int (g 32 1), .int (g 33 1), .int (g 34 1), .int (g 35 1)])), (ad 30, .inr (2, [.int (g 30 2), .int (g 31 2), .int (g 32 2), .int (g 33 2), .int (g 34 2), .int (g 35 2)])), (ad 31, .inr (2, [.int (g 30 3), .int (g 31 3), .int (g 32 3), .int (g 33 3), .int (g 34 3), .int (g 35 3)])), (ad 32, .inr (2, [.int (g 30 4), .int (g 31 4), .int (g 32 4), .int (g 33 4), .int (g 34 4), .int (g 35 4)])), (ad 33, .inr (2, [.int (g 30 5), .int (g 31 5), .int (g 32 5), .int (g 33 5), .int (g 34 5), .int (g 35 5)])), (ad 34, .inr (2, [.int (g 30 6), .int (g 31 6), .int (g 32 6), .int (g 33 6), .int (g 34 6), .int (g 35 6)])), (ad 35, .inr (2, [.int (g 30 7), .int (g 31 7), .int (g 32 7), .int (g 33 7), .int (g 34 7), .int (g 35 7)])), (ad 36, .inr (5, [.int (g 40 0), .int (g 41 0), .ref (ad 37), .ref (ad 38), .ref (ad 39), .ref (ad 40), .ref (ad 41), .int (g 42 0), .ref (ad 42), .ref (ad 43), .ref (ad 44), .ref (ad 45), .ref (ad 46), .ref (ad 47), .ref (ad 48), .ref (ad 49), .int (g 43 0), .ref (ad 50), .ref (ad 51), .ref (ad 52), .int (g 44 0), .int (g 45 0), .int (g 46 0), .ref (ad 53), .ref (ad 54), .ref (ad 55), .ref (ad 56), .ref (ad 57)])), (ad 37, .inl (ca 0, 8, .inl (g 47))), (ad 38, .inl (ca 0, 8, .inl (g 48))), (ad 39, .inl (ca 0, 8, .inl (g 49))), (ad 40, .inl (ca 0, 8, .inl (g 50))), (ad 41, .inl (ca 0, 8, .inl (g 51))), (ad 42, .inl (ca 0, 8, .inl (g 52))), (ad 43, .inl (ca 0, 8, .inl (g 53))), (ad 44, .inl (ca 0, 8, .inl (g 54))), (ad 45, .inl (ca 0, 8, .inl (g 55))), (ad 46, .inl (ca 0, 8, .inl (g 56))), (ad 47, .inl (ca 0, 8, .inl (g 57))), (ad 48, .inl (ca 1, 64, .inl (g 58))), (ad 49, .inl (ca 1, 4, .inl (g 59))), (ad 50, .inl (ca 0, 64, .inl (g 60))), (ad 51, .inl (ca 0, 64, .inl (g 61))), (ad 52, .inl (ca 0, 64, .inl (g 62))), (ad 53, .inl (ca 0, 64, .inl (g 63))), (ad 54, .inl (ca 0, 64, .inl (g 64))), (ad 55, .inl (ca 0, 65, .inl (g 65))), (ad 56, .inl (ca 0, 64, .inl (g 66))), (ad 57, .inl (ca 0, 8, .inl (g 67))), (ad 58, .inl (ca 4, 1, .inr (.inl (fun j => (g 68 j).toInt64))))]
def tyX (ca : Nat → ClassId) : List (ClassId × FieldType) := [(ca 0, .int), (ca 1, .boolean), (ca 2, .object "CrossDock$Arrival"), (ca 3, .object "CrossDock$Order"), (ca 4, .long)]
theorem wX_fst (ad : Nat → Nat) (ca : Nat → ClassId) (g g' : xSt) : (wX ad ca g).map (·.1) = (wX ad ca g').map (·.1) := rfl
theorem va_D.of_fst {A : Nat → Prop} {ws ws' : va_W} (h : ws.map (·.1) = ws'.map (·.1)) (hD : va_D A ws) : va_D A ws' := by
  have k : ∀ (i : Nat) (q : Nat × va_E), ws'[i]? = some q → ∃ q', ws[i]? = some q' ∧ q'.1 = q.1 := by
    intro i q hq
    have h1 : (ws'.map (·.1))[i]? = some q.1 := by rw [List.getElem?_map, hq]; rfl
    rw [← h, List.getElem?_map] at h1
    cases hw : ws[i]? with
    | none => rw [hw] at h1; cases h1
    | some q' => rw [hw] at h1; exact ⟨q', rfl, Option.some.inj h1⟩
  refine ⟨fun i j p q hp hq e => ?_, fun i q hq => ?_⟩
  · obtain ⟨p', hp', e1⟩ := k i p hp
    obtain ⟨q', hq', e2⟩ := k j q hq
    exact hD.1 i j p' q' hp' hq' (by rw [e1, e2]; exact e)
  · obtain ⟨q', hq', e2⟩ := k i q hq
    rw [← e2]; exact hD.2 i q' hq'
theorem wA_at (ad : Nat → Nat) (ca : Nat → ClassId) (g : xSt) {i : Nat} (h : i < 8) : (wX ad ca g)[20 + i]? = some (ad (20 + i), .inr (1, [.int (g 24 i), .int (g 25 i), .int (g 26 i), .int (g 27 i), .int (g 28 i), .int (g 29 i)])) := by
  match i, h with
  | 0, _ => rfl
  | 1, _ => rfl
  | 2, _ => rfl
  | 3, _ => rfl
  | 4, _ => rfl
  | 5, _ => rfl
  | 6, _ => rfl
  | 7, _ => rfl
set_option maxRecDepth 100000 in
theorem wA_set0 (ad : Nat → Nat) (ca : Nat → ClassId) (g : xSt) (v : Int32) {i : Nat} (h : i < 8) : (wX ad ca g).set (20 + i) (ad (20 + i), .inr (1, [.int v, .int (g 25 i), .int (g 26 i), .int (g 27 i), .int (g 28 i), .int (g 29 i)])) = wX ad ca (xw g 24 i v) := by
  match i, h with
  | 0, _ => rfl
  | 1, _ => rfl
  | 2, _ => rfl
  | 3, _ => rfl
  | 4, _ => rfl
  | 5, _ => rfl
  | 6, _ => rfl
  | 7, _ => rfl
set_option maxRecDepth 100000 in
theorem wA_set1 (ad : Nat → Nat) (ca : Nat → ClassId) (g : xSt) (v : Int32) {i : Nat} (h : i < 8) : (wX ad ca g).set (20 + i) (ad (20 + i), .inr (1, [.int (g 24 i), .int v, .int (g 26 i), .int (g 27 i), .int (g 28 i), .int (g 29 i)])) = wX ad ca (xw g 25 i v) := by
  match i, h with
  | 0, _ => rfl
  | 1, _ => rfl
  | 2, _ => rfl
  | 3, _ => rfl
  | 4, _ => rfl
  | 5, _ => rfl
  | 6, _ => rfl
  | 7, _ => rfl
set_option maxRecDepth 100000 in
theorem wA_set2 (ad : Nat → Nat) (ca : Nat → ClassId) (g : xSt) (v : Int32) {i : Nat} (h : i < 8) : (wX ad ca g).set (20 + i) (ad (20 + i), .inr (1, [.int (g 24 i), .int (g 25 i), .int v, .int (g 27 i), .int (g 28 i), .int (g 29 i)])) = wX ad ca (xw g 26 i v) := by
  match i, h with
  | 0, _ => rfl
  | 1, _ => rfl
  | 2, _ => rfl
  | 3, _ => rfl
  | 4, _ => rfl
  | 5, _ => rfl
  | 6, _ => rfl
  | 7, _ => rfl
set_option maxRecDepth 100000 in
theorem wA_set3 (ad : Nat → Nat) (ca : Nat → ClassId) (g : xSt) (v : Int32) {i : Nat} (h : i < 8) : (wX ad ca g).set (20 + i) (ad (20 + i), .inr (1, [.int (g 24 i), .int (g 25 i), .int (g 26 i), .int v, .int (g 28 i), .int (g 29 i)])) = wX ad ca (xw g 27 i v) := by
  match i, h with
  | 0, _ => rfl
  | 1, _ => rfl
  | 2, _ => rfl
  | 3, _ => rfl
  | 4, _ => rfl
  | 5, _ => rfl
  | 6, _ => rfl
  | 7, _ => rfl
set_option maxRecDepth 100000 in
theorem wA_set4 (ad : Nat → Nat) (ca : Nat → ClassId) (g : xSt) (v : Int32) {i : Nat} (h : i < 8) : (wX ad ca g).set (20 + i) (ad (20 + i), .inr (1, [.int (g 24 i), .int (g 25 i), .int (g 26 i), .int (g 27 i), .int v, .int (g 29 i)])) = wX ad ca (xw g 28 i v) := by
  match i, h with
  | 0, _ => rfl
  | 1, _ => rfl
  | 2, _ => rfl
  | 3, _ => rfl
  | 4, _ => rfl
  | 5, _ => rfl
  | 6, _ => rfl
  | 7, _ => rfl
set_option maxRecDepth 100000 in
theorem wA_set5 (ad : Nat → Nat) (ca : Nat → ClassId) (g : xSt) (v : Int32) {i : Nat} (h : i < 8) : (wX ad ca g).set (20 + i) (ad (20 + i), .inr (1, [.int (g 24 i), .int (g 25 i), .int (g 26 i), .int (g 27 i), .int (g 28 i), .int v])) = wX ad ca (xw g 29 i v) := by
  match i, h with
  | 0, _ => rfl
  | 1, _ => rfl
  | 2, _ => rfl
  | 3, _ => rfl
  | 4, _ => rfl
  | 5, _ => rfl
  | 6, _ => rfl
  | 7, _ => rfl
theorem wO_at (ad : Nat → Nat) (ca : Nat → ClassId) (g : xSt) {i : Nat} (h : i < 8) : (wX ad ca g)[28 + i]? = some (ad (28 + i), .inr (2, [.int (g 30 i), .int (g 31 i), .int (g 32 i), .int (g 33 i), .int (g 34 i), .int (g 35 i)])) := by
  match i, h with
  | 0, _ => rfl
  | 1, _ => rfl
  | 2, _ => rfl
  | 3, _ => rfl
  | 4, _ => rfl
  | 5, _ => rfl
  | 6, _ => rfl
  | 7, _ => rfl
set_option maxRecDepth 100000 in
theorem wO_set0 (ad : Nat → Nat) (ca : Nat → ClassId) (g : xSt) (v : Int32) {i : Nat} (h : i < 8) : (wX ad ca g).set (28 + i) (ad (28 + i), .inr (2, [.int v, .int (g 31 i), .int (g 32 i), .int (g 33 i), .int (g 34 i), .int (g 35 i)])) = wX ad ca (xw g 30 i v) := by
  match i, h with
  | 0, _ => rfl
  | 1, _ => rfl
  | 2, _ => rfl
  | 3, _ => rfl
  | 4, _ => rfl
  | 5, _ => rfl
  | 6, _ => rfl
  | 7, _ => rfl
set_option maxRecDepth 100000 in
theorem wO_set1 (ad : Nat → Nat) (ca : Nat → ClassId) (g : xSt) (v : Int32) {i : Nat} (h : i < 8) : (wX ad ca g).set (28 + i) (ad (28 + i), .inr (2, [.int (g 30 i), .int v, .int (g 32 i), .int (g 33 i), .int (g 34 i), .int (g 35 i)])) = wX ad ca (xw g 31 i v) := by
  match i, h with
  | 0, _ => rfl
  | 1, _ => rfl
  | 2, _ => rfl
  | 3, _ => rfl
  | 4, _ => rfl
  | 5, _ => rfl
  | 6, _ => rfl
  | 7, _ => rfl
set_option maxRecDepth 100000 in
theorem wO_set2 (ad : Nat → Nat) (ca : Nat → ClassId) (g : xSt) (v : Int32) {i : Nat} (h : i < 8) : (wX ad ca g).set (28 + i) (ad (28 + i), .inr (2, [.int (g 30 i), .int (g 31 i), .int v, .int (g 33 i), .int (g 34 i), .int (g 35 i)])) = wX ad ca (xw g 32 i v) := by
  match i, h with
  | 0, _ => rfl
  | 1, _ => rfl
  | 2, _ => rfl
  | 3, _ => rfl
  | 4, _ => rfl
  | 5, _ => rfl
  | 6, _ => rfl
  | 7, _ => rfl
set_option maxRecDepth 100000 in
theorem wO_set3 (ad : Nat → Nat) (ca : Nat → ClassId) (g : xSt) (v : Int32) {i : Nat} (h : i < 8) : (wX ad ca g).set (28 + i) (ad (28 + i), .inr (2, [.int (g 30 i), .int (g 31 i), .int (g 32 i), .int v, .int (g 34 i), .int (g 35 i)])) = wX ad ca (xw g 33 i v) := by
  match i, h with
  | 0, _ => rfl
  | 1, _ => rfl
  | 2, _ => rfl
  | 3, _ => rfl
  | 4, _ => rfl
  | 5, _ => rfl
  | 6, _ => rfl
  | 7, _ => rfl
set_option maxRecDepth 100000 in
theorem wO_set4 (ad : Nat → Nat) (ca : Nat → ClassId) (g : xSt) (v : Int32) {i : Nat} (h : i < 8) : (wX ad ca g).set (28 + i) (ad (28 + i), .inr (2, [.int (g 30 i), .int (g 31 i), .int (g 32 i), .int (g 33 i), .int v, .int (g 35 i)])) = wX ad ca (xw g 34 i v) := by
  match i, h with
  | 0, _ => rfl
  | 1, _ => rfl
  | 2, _ => rfl
  | 3, _ => rfl
  | 4, _ => rfl
  | 5, _ => rfl
  | 6, _ => rfl
  | 7, _ => rfl
set_option maxRecDepth 100000 in
theorem wO_set5 (ad : Nat → Nat) (ca : Nat → ClassId) (g : xSt) (v : Int32) {i : Nat} (h : i < 8) : (wX ad ca g).set (28 + i) (ad (28 + i), .inr (2, [.int (g 30 i), .int (g 31 i), .int (g 32 i), .int (g 33 i), .int (g 34 i), .int v])) = wX ad ca (xw g 35 i v) := by
  match i, h with
  | 0, _ => rfl
  | 1, _ => rfl
  | 2, _ => rfl
  | 3, _ => rfl
  | 4, _ => rfl
  | 5, _ => rfl
  | 6, _ => rfl
  | 7, _ => rfl
set_option maxRecDepth 100000 in
theorem sw_0 (ad : Nat → Nat) (ca : Nat → ClassId) (g : xSt) (v : Int32) : (wX ad ca g).set 0 (ad 0, .inr (0, [.ref (ad 1), .ref (ad 2), .ref (ad 3), .ref (ad 4), .ref (ad 5), .ref (ad 6), .ref (ad 7), .int v, .int (g 1 0), .int (g 2 0), .int (g 3 0)])) = wX ad ca (xw g 0 0 v) := rfl
set_option maxRecDepth 100000 in
theorem sw_1 (ad : Nat → Nat) (ca : Nat → ClassId) (g : xSt) (v : Int32) : (wX ad ca g).set 0 (ad 0, .inr (0, [.ref (ad 1), .ref (ad 2), .ref (ad 3), .ref (ad 4), .ref (ad 5), .ref (ad 6), .ref (ad 7), .int (g 0 0), .int v, .int (g 2 0), .int (g 3 0)])) = wX ad ca (xw g 1 0 v) := rfl
set_option maxRecDepth 100000 in
theorem sw_2 (ad : Nat → Nat) (ca : Nat → ClassId) (g : xSt) (v : Int32) : (wX ad ca g).set 0 (ad 0, .inr (0, [.ref (ad 1), .ref (ad 2), .ref (ad 3), .ref (ad 4), .ref (ad 5), .ref (ad 6), .ref (ad 7), .int (g 0 0), .int (g 1 0), .int v, .int (g 3 0)])) = wX ad ca (xw g 2 0 v) := rfl
set_option maxRecDepth 100000 in
theorem sw_3 (ad : Nat → Nat) (ca : Nat → ClassId) (g : xSt) (v : Int32) : (wX ad ca g).set 0 (ad 0, .inr (0, [.ref (ad 1), .ref (ad 2), .ref (ad 3), .ref (ad 4), .ref (ad 5), .ref (ad 6), .ref (ad 7), .int (g 0 0), .int (g 1 0), .int (g 2 0), .int v])) = wX ad ca (xw g 3 0 v) := rfl
set_option maxRecDepth 100000 in
theorem sw_16 (ad : Nat → Nat) (ca : Nat → ClassId) (g : xSt) (v : Int32) : (wX ad ca g).set 6 (ad 6, .inr (4, [.ref (ad 8), .ref (ad 9), .ref (ad 10), .ref (ad 11), .ref (ad 12), .ref (ad 13), .ref (ad 14), .ref (ad 15), .ref (ad 16), .int v, .int (g 17 0), .int (g 18 0), .int (g 19 0)])) = wX ad ca (xw g 16 0 v) := rfl
set_option maxRecDepth 100000 in
theorem sw_17 (ad : Nat → Nat) (ca : Nat → ClassId) (g : xSt) (v : Int32) : (wX ad ca g).set 6 (ad 6, .inr (4, [.ref (ad 8), .ref (ad 9), .ref (ad 10), .ref (ad 11), .ref (ad 12), .ref (ad 13), .ref (ad 14), .ref (ad 15), .ref (ad 16), .int (g 16 0), .int v, .int (g 18 0), .int (g 19 0)])) = wX ad ca (xw g 17 0 v) := rfl
set_option maxRecDepth 100000 in
theorem sw_18 (ad : Nat → Nat) (ca : Nat → ClassId) (g : xSt) (v : Int32) : (wX ad ca g).set 6 (ad 6, .inr (4, [.ref (ad 8), .ref (ad 9), .ref (ad 10), .ref (ad 11), .ref (ad 12), .ref (ad 13), .ref (ad 14), .ref (ad 15), .ref (ad 16), .int (g 16 0), .int (g 17 0), .int v, .int (g 19 0)])) = wX ad ca (xw g 18 0 v) := rfl
set_option maxRecDepth 100000 in
theorem sw_19 (ad : Nat → Nat) (ca : Nat → ClassId) (g : xSt) (v : Int32) : (wX ad ca g).set 6 (ad 6, .inr (4, [.ref (ad 8), .ref (ad 9), .ref (ad 10), .ref (ad 11), .ref (ad 12), .ref (ad 13), .ref (ad 14), .ref (ad 15), .ref (ad 16), .int (g 16 0), .int (g 17 0), .int (g 18 0), .int v])) = wX ad ca (xw g 19 0 v) := rfl
set_option maxRecDepth 100000 in
theorem sw_23 (ad : Nat → Nat) (ca : Nat → ClassId) (g : xSt) (v : Int32) : (wX ad ca g).set 7 (ad 7, .inr (3, [.ref (ad 17), .ref (ad 18), .ref (ad 19), .int v])) = wX ad ca (xw g 23 0 v) := rfl
set_option maxRecDepth 100000 in
theorem sw_40 (ad : Nat → Nat) (ca : Nat → ClassId) (g : xSt) (v : Int32) : (wX ad ca g).set 36 (ad 36, .inr (5, [.int v, .int (g 41 0), .ref (ad 37), .ref (ad 38), .ref (ad 39), .ref (ad 40), .ref (ad 41), .int (g 42 0), .ref (ad 42), .ref (ad 43), .ref (ad 44), .ref (ad 45), .ref (ad 46), .ref (ad 47), .ref (ad 48), .ref (ad 49), .int (g 43 0), .ref (ad 50), .ref (ad 51), .ref (ad 52), .int (g 44 0), .int (g 45 0), .int (g 46 0), .ref (ad 53), .ref (ad 54), .ref (ad 55), .ref (ad 56), .ref (ad 57)])) = wX ad ca (xw g 40 0 v) := rfl
set_option maxRecDepth 100000 in
theorem sw_41 (ad : Nat → Nat) (ca : Nat → ClassId) (g : xSt) (v : Int32) : (wX ad ca g).set 36 (ad 36, .inr (5, [.int (g 40 0), .int v, .ref (ad 37), .ref (ad 38), .ref (ad 39), .ref (ad 40), .ref (ad 41), .int (g 42 0), .ref (ad 42), .ref (ad 43), .ref (ad 44), .ref (ad 45), .ref (ad 46), .ref (ad 47), .ref (ad 48), .ref (ad 49), .int (g 43 0), .ref (ad 50), .ref (ad 51), .ref (ad 52), .int (g 44 0), .int (g 45 0), .int (g 46 0), .ref (ad 53), .ref (ad 54), .ref (ad 55), .ref (ad 56), .ref (ad 57)])) = wX ad ca (xw g 41 0 v) := rfl
set_option maxRecDepth 100000 in
theorem sw_42 (ad : Nat → Nat) (ca : Nat → ClassId) (g : xSt) (v : Int32) : (wX ad ca g).set 36 (ad 36, .inr (5, [.int (g 40 0), .int (g 41 0), .ref (ad 37), .ref (ad 38), .ref (ad 39), .ref (ad 40), .ref (ad 41), .int v, .ref (ad 42), .ref (ad 43), .ref (ad 44), .ref (ad 45), .ref (ad 46), .ref (ad 47), .ref (ad 48), .ref (ad 49), .int (g 43 0), .ref (ad 50), .ref (ad 51), .ref (ad 52), .int (g 44 0), .int (g 45 0), .int (g 46 0), .ref (ad 53), .ref (ad 54), .ref (ad 55), .ref (ad 56), .ref (ad 57)])) = wX ad ca (xw g 42 0 v) := rfl
set_option maxRecDepth 100000 in
theorem sw_43 (ad : Nat → Nat) (ca : Nat → ClassId) (g : xSt) (v : Int32) : (wX ad ca g).set 36 (ad 36, .inr (5, [.int (g 40 0), .int (g 41 0), .ref (ad 37), .ref (ad 38), .ref (ad 39), .ref (ad 40), .ref (ad 41), .int (g 42 0), .ref (ad 42), .ref (ad 43), .ref (ad 44), .ref (ad 45), .ref (ad 46), .ref (ad 47), .ref (ad 48), .ref (ad 49), .int v, .ref (ad 50), .ref (ad 51), .ref (ad 52), .int (g 44 0), .int (g 45 0), .int (g 46 0), .ref (ad 53), .ref (ad 54), .ref (ad 55), .ref (ad 56), .ref (ad 57)])) = wX ad ca (xw g 43 0 v) := rfl
set_option maxRecDepth 100000 in
theorem sw_44 (ad : Nat → Nat) (ca : Nat → ClassId) (g : xSt) (v : Int32) : (wX ad ca g).set 36 (ad 36, .inr (5, [.int (g 40 0), .int (g 41 0), .ref (ad 37), .ref (ad 38), .ref (ad 39), .ref (ad 40), .ref (ad 41), .int (g 42 0), .ref (ad 42), .ref (ad 43), .ref (ad 44), .ref (ad 45), .ref (ad 46), .ref (ad 47), .ref (ad 48), .ref (ad 49), .int (g 43 0), .ref (ad 50), .ref (ad 51), .ref (ad 52), .int v, .int (g 45 0), .int (g 46 0), .ref (ad 53), .ref (ad 54), .ref (ad 55), .ref (ad 56), .ref (ad 57)])) = wX ad ca (xw g 44 0 v) := rfl
set_option maxRecDepth 100000 in
theorem sw_45 (ad : Nat → Nat) (ca : Nat → ClassId) (g : xSt) (v : Int32) : (wX ad ca g).set 36 (ad 36, .inr (5, [.int (g 40 0), .int (g 41 0), .ref (ad 37), .ref (ad 38), .ref (ad 39), .ref (ad 40), .ref (ad 41), .int (g 42 0), .ref (ad 42), .ref (ad 43), .ref (ad 44), .ref (ad 45), .ref (ad 46), .ref (ad 47), .ref (ad 48), .ref (ad 49), .int (g 43 0), .ref (ad 50), .ref (ad 51), .ref (ad 52), .int (g 44 0), .int v, .int (g 46 0), .ref (ad 53), .ref (ad 54), .ref (ad 55), .ref (ad 56), .ref (ad 57)])) = wX ad ca (xw g 45 0 v) := rfl
set_option maxRecDepth 100000 in
theorem sw_46 (ad : Nat → Nat) (ca : Nat → ClassId) (g : xSt) (v : Int32) : (wX ad ca g).set 36 (ad 36, .inr (5, [.int (g 40 0), .int (g 41 0), .ref (ad 37), .ref (ad 38), .ref (ad 39), .ref (ad 40), .ref (ad 41), .int (g 42 0), .ref (ad 42), .ref (ad 43), .ref (ad 44), .ref (ad 45), .ref (ad 46), .ref (ad 47), .ref (ad 48), .ref (ad 49), .int (g 43 0), .ref (ad 50), .ref (ad 51), .ref (ad 52), .int (g 44 0), .int (g 45 0), .int v, .ref (ad 53), .ref (ad 54), .ref (ad 55), .ref (ad 56), .ref (ad 57)])) = wX ad ca (xw g 46 0 v) := rfl
set_option maxRecDepth 100000 in
theorem sa_4 (ad : Nat → Nat) (ca : Nat → ClassId) (g : xSt) (i : Nat) (v : Int32) : (wX ad ca g).set 3 (ad 3, .inl (ca 1, 4, .inl (upd (g 4) i v))) = wX ad ca (xw g 4 i v) := rfl
set_option maxRecDepth 100000 in
theorem sf_4 (ad : Nat → Nat) (ca : Nat → ClassId) (g : xSt) (f : Nat → Int32) : (wX ad ca g).set 3 (ad 3, .inl (ca 1, 4, .inl f)) = wX ad ca (va_up g 4 f) := rfl
set_option maxRecDepth 100000 in
theorem sa_5 (ad : Nat → Nat) (ca : Nat → ClassId) (g : xSt) (i : Nat) (v : Int32) : (wX ad ca g).set 4 (ad 4, .inl (ca 0, 8, .inl (upd (g 5) i v))) = wX ad ca (xw g 5 i v) := rfl
set_option maxRecDepth 100000 in
theorem sf_5 (ad : Nat → Nat) (ca : Nat → ClassId) (g : xSt) (f : Nat → Int32) : (wX ad ca g).set 4 (ad 4, .inl (ca 0, 8, .inl f)) = wX ad ca (va_up g 5 f) := rfl
set_option maxRecDepth 100000 in
theorem sa_6 (ad : Nat → Nat) (ca : Nat → ClassId) (g : xSt) (i : Nat) (v : Int32) : (wX ad ca g).set 5 (ad 5, .inl (ca 0, 8, .inl (upd (g 6) i v))) = wX ad ca (xw g 6 i v) := rfl
set_option maxRecDepth 100000 in
theorem sf_6 (ad : Nat → Nat) (ca : Nat → ClassId) (g : xSt) (f : Nat → Int32) : (wX ad ca g).set 5 (ad 5, .inl (ca 0, 8, .inl f)) = wX ad ca (va_up g 6 f) := rfl
set_option maxRecDepth 100000 in
theorem sa_7 (ad : Nat → Nat) (ca : Nat → ClassId) (g : xSt) (i : Nat) (v : Int32) : (wX ad ca g).set 8 (ad 8, .inl (ca 0, 64, .inl (upd (g 7) i v))) = wX ad ca (xw g 7 i v) := rfl
set_option maxRecDepth 100000 in
theorem sf_7 (ad : Nat → Nat) (ca : Nat → ClassId) (g : xSt) (f : Nat → Int32) : (wX ad ca g).set 8 (ad 8, .inl (ca 0, 64, .inl f)) = wX ad ca (va_up g 7 f) := rfl
set_option maxRecDepth 100000 in
theorem sa_8 (ad : Nat → Nat) (ca : Nat → ClassId) (g : xSt) (i : Nat) (v : Int32) : (wX ad ca g).set 9 (ad 9, .inl (ca 0, 64, .inl (upd (g 8) i v))) = wX ad ca (xw g 8 i v) := rfl
set_option maxRecDepth 100000 in
theorem sf_8 (ad : Nat → Nat) (ca : Nat → ClassId) (g : xSt) (f : Nat → Int32) : (wX ad ca g).set 9 (ad 9, .inl (ca 0, 64, .inl f)) = wX ad ca (va_up g 8 f) := rfl
set_option maxRecDepth 100000 in
theorem sa_9 (ad : Nat → Nat) (ca : Nat → ClassId) (g : xSt) (i : Nat) (v : Int32) : (wX ad ca g).set 10 (ad 10, .inl (ca 0, 8, .inl (upd (g 9) i v))) = wX ad ca (xw g 9 i v) := rfl
set_option maxRecDepth 100000 in
theorem sf_9 (ad : Nat → Nat) (ca : Nat → ClassId) (g : xSt) (f : Nat → Int32) : (wX ad ca g).set 10 (ad 10, .inl (ca 0, 8, .inl f)) = wX ad ca (va_up g 9 f) := rfl
set_option maxRecDepth 100000 in
theorem sa_10 (ad : Nat → Nat) (ca : Nat → ClassId) (g : xSt) (i : Nat) (v : Int32) : (wX ad ca g).set 11 (ad 11, .inl (ca 0, 8, .inl (upd (g 10) i v))) = wX ad ca (xw g 10 i v) := rfl
set_option maxRecDepth 100000 in
theorem sf_10 (ad : Nat → Nat) (ca : Nat → ClassId) (g : xSt) (f : Nat → Int32) : (wX ad ca g).set 11 (ad 11, .inl (ca 0, 8, .inl f)) = wX ad ca (va_up g 10 f) := rfl
set_option maxRecDepth 100000 in
theorem sa_11 (ad : Nat → Nat) (ca : Nat → ClassId) (g : xSt) (i : Nat) (v : Int32) : (wX ad ca g).set 12 (ad 12, .inl (ca 0, 8, .inl (upd (g 11) i v))) = wX ad ca (xw g 11 i v) := rfl
set_option maxRecDepth 100000 in
theorem sf_11 (ad : Nat → Nat) (ca : Nat → ClassId) (g : xSt) (f : Nat → Int32) : (wX ad ca g).set 12 (ad 12, .inl (ca 0, 8, .inl f)) = wX ad ca (va_up g 11 f) := rfl
set_option maxRecDepth 100000 in
theorem sa_12 (ad : Nat → Nat) (ca : Nat → ClassId) (g : xSt) (i : Nat) (v : Int32) : (wX ad ca g).set 13 (ad 13, .inl (ca 0, 8, .inl (upd (g 12) i v))) = wX ad ca (xw g 12 i v) := rfl
set_option maxRecDepth 100000 in
theorem sf_12 (ad : Nat → Nat) (ca : Nat → ClassId) (g : xSt) (f : Nat → Int32) : (wX ad ca g).set 13 (ad 13, .inl (ca 0, 8, .inl f)) = wX ad ca (va_up g 12 f) := rfl
set_option maxRecDepth 100000 in
theorem sa_13 (ad : Nat → Nat) (ca : Nat → ClassId) (g : xSt) (i : Nat) (v : Int32) : (wX ad ca g).set 14 (ad 14, .inl (ca 0, 64, .inl (upd (g 13) i v))) = wX ad ca (xw g 13 i v) := rfl
set_option maxRecDepth 100000 in
theorem sf_13 (ad : Nat → Nat) (ca : Nat → ClassId) (g : xSt) (f : Nat → Int32) : (wX ad ca g).set 14 (ad 14, .inl (ca 0, 64, .inl f)) = wX ad ca (va_up g 13 f) := rfl
set_option maxRecDepth 100000 in
theorem sa_14 (ad : Nat → Nat) (ca : Nat → ClassId) (g : xSt) (i : Nat) (v : Int32) : (wX ad ca g).set 15 (ad 15, .inl (ca 0, 64, .inl (upd (g 14) i v))) = wX ad ca (xw g 14 i v) := rfl
set_option maxRecDepth 100000 in
theorem sf_14 (ad : Nat → Nat) (ca : Nat → ClassId) (g : xSt) (f : Nat → Int32) : (wX ad ca g).set 15 (ad 15, .inl (ca 0, 64, .inl f)) = wX ad ca (va_up g 14 f) := rfl
set_option maxRecDepth 100000 in
theorem sa_15 (ad : Nat → Nat) (ca : Nat → ClassId) (g : xSt) (i : Nat) (v : Int32) : (wX ad ca g).set 16 (ad 16, .inl (ca 0, 64, .inl (upd (g 15) i v))) = wX ad ca (xw g 15 i v) := rfl
set_option maxRecDepth 100000 in
theorem sf_15 (ad : Nat → Nat) (ca : Nat → ClassId) (g : xSt) (f : Nat → Int32) : (wX ad ca g).set 16 (ad 16, .inl (ca 0, 64, .inl f)) = wX ad ca (va_up g 15 f) := rfl
set_option maxRecDepth 100000 in
theorem sa_20 (ad : Nat → Nat) (ca : Nat → ClassId) (g : xSt) (i : Nat) (v : Int32) : (wX ad ca g).set 17 (ad 17, .inl (ca 0, 64, .inl (upd (g 20) i v))) = wX ad ca (xw g 20 i v) := rfl
set_option maxRecDepth 100000 in
theorem sf_20 (ad : Nat → Nat) (ca : Nat → ClassId) (g : xSt) (f : Nat → Int32) : (wX ad ca g).set 17 (ad 17, .inl (ca 0, 64, .inl f)) = wX ad ca (va_up g 20 f) := rfl
set_option maxRecDepth 100000 in
theorem sa_21 (ad : Nat → Nat) (ca : Nat → ClassId) (g : xSt) (i : Nat) (v : Int32) : (wX ad ca g).set 18 (ad 18, .inl (ca 0, 64, .inl (upd (g 21) i v))) = wX ad ca (xw g 21 i v) := rfl
set_option maxRecDepth 100000 in
theorem sf_21 (ad : Nat → Nat) (ca : Nat → ClassId) (g : xSt) (f : Nat → Int32) : (wX ad ca g).set 18 (ad 18, .inl (ca 0, 64, .inl f)) = wX ad ca (va_up g 21 f) := rfl
set_option maxRecDepth 100000 in
theorem sa_22 (ad : Nat → Nat) (ca : Nat → ClassId) (g : xSt) (i : Nat) (v : Int32) : (wX ad ca g).set 19 (ad 19, .inl (ca 0, 64, .inl (upd (g 22) i v))) = wX ad ca (xw g 22 i v) := rfl
set_option maxRecDepth 100000 in
theorem sf_22 (ad : Nat → Nat) (ca : Nat → ClassId) (g : xSt) (f : Nat → Int32) : (wX ad ca g).set 19 (ad 19, .inl (ca 0, 64, .inl f)) = wX ad ca (va_up g 22 f) := rfl
set_option maxRecDepth 100000 in
theorem sa_47 (ad : Nat → Nat) (ca : Nat → ClassId) (g : xSt) (i : Nat) (v : Int32) : (wX ad ca g).set 37 (ad 37, .inl (ca 0, 8, .inl (upd (g 47) i v))) = wX ad ca (xw g 47 i v) := rfl
set_option maxRecDepth 100000 in
theorem sf_47 (ad : Nat → Nat) (ca : Nat → ClassId) (g : xSt) (f : Nat → Int32) : (wX ad ca g).set 37 (ad 37, .inl (ca 0, 8, .inl f)) = wX ad ca (va_up g 47 f) := rfl
set_option maxRecDepth 100000 in
theorem sa_48 (ad : Nat → Nat) (ca : Nat → ClassId) (g : xSt) (i : Nat) (v : Int32) : (wX ad ca g).set 38 (ad 38, .inl (ca 0, 8, .inl (upd (g 48) i v))) = wX ad ca (xw g 48 i v) := rfl
set_option maxRecDepth 100000 in
theorem sf_48 (ad : Nat → Nat) (ca : Nat → ClassId) (g : xSt) (f : Nat → Int32) : (wX ad ca g).set 38 (ad 38, .inl (ca 0, 8, .inl f)) = wX ad ca (va_up g 48 f) := rfl
set_option maxRecDepth 100000 in
theorem sa_49 (ad : Nat → Nat) (ca : Nat → ClassId) (g : xSt) (i : Nat) (v : Int32) : (wX ad ca g).set 39 (ad 39, .inl (ca 0, 8, .inl (upd (g 49) i v))) = wX ad ca (xw g 49 i v) := rfl
set_option maxRecDepth 100000 in
theorem sf_49 (ad : Nat → Nat) (ca : Nat → ClassId) (g : xSt) (f : Nat → Int32) : (wX ad ca g).set 39 (ad 39, .inl (ca 0, 8, .inl f)) = wX ad ca (va_up g 49 f) := rfl
set_option maxRecDepth 100000 in
theorem sa_50 (ad : Nat → Nat) (ca : Nat → ClassId) (g : xSt) (i : Nat) (v : Int32) : (wX ad ca g).set 40 (ad 40, .inl (ca 0, 8, .inl (upd (g 50) i v))) = wX ad ca (xw g 50 i v) := rfl
set_option maxRecDepth 100000 in
theorem sf_50 (ad : Nat → Nat) (ca : Nat → ClassId) (g : xSt) (f : Nat → Int32) : (wX ad ca g).set 40 (ad 40, .inl (ca 0, 8, .inl f)) = wX ad ca (va_up g 50 f) := rfl
set_option maxRecDepth 100000 in
theorem sa_51 (ad : Nat → Nat) (ca : Nat → ClassId) (g : xSt) (i : Nat) (v : Int32) : (wX ad ca g).set 41 (ad 41, .inl (ca 0, 8, .inl (upd (g 51) i v))) = wX ad ca (xw g 51 i v) := rfl
set_option maxRecDepth 100000 in
theorem sf_51 (ad : Nat → Nat) (ca : Nat → ClassId) (g : xSt) (f : Nat → Int32) : (wX ad ca g).set 41 (ad 41, .inl (ca 0, 8, .inl f)) = wX ad ca (va_up g 51 f) := rfl
set_option maxRecDepth 100000 in
theorem sa_52 (ad : Nat → Nat) (ca : Nat → ClassId) (g : xSt) (i : Nat) (v : Int32) : (wX ad ca g).set 42 (ad 42, .inl (ca 0, 8, .inl (upd (g 52) i v))) = wX ad ca (xw g 52 i v) := rfl
set_option maxRecDepth 100000 in
theorem sf_52 (ad : Nat → Nat) (ca : Nat → ClassId) (g : xSt) (f : Nat → Int32) : (wX ad ca g).set 42 (ad 42, .inl (ca 0, 8, .inl f)) = wX ad ca (va_up g 52 f) := rfl
set_option maxRecDepth 100000 in
theorem sa_53 (ad : Nat → Nat) (ca : Nat → ClassId) (g : xSt) (i : Nat) (v : Int32) : (wX ad ca g).set 43 (ad 43, .inl (ca 0, 8, .inl (upd (g 53) i v))) = wX ad ca (xw g 53 i v) := rfl
set_option maxRecDepth 100000 in
theorem sf_53 (ad : Nat → Nat) (ca : Nat → ClassId) (g : xSt) (f : Nat → Int32) : (wX ad ca g).set 43 (ad 43, .inl (ca 0, 8, .inl f)) = wX ad ca (va_up g 53 f) := rfl
set_option maxRecDepth 100000 in
theorem sa_54 (ad : Nat → Nat) (ca : Nat → ClassId) (g : xSt) (i : Nat) (v : Int32) : (wX ad ca g).set 44 (ad 44, .inl (ca 0, 8, .inl (upd (g 54) i v))) = wX ad ca (xw g 54 i v) := rfl
set_option maxRecDepth 100000 in
theorem sf_54 (ad : Nat → Nat) (ca : Nat → ClassId) (g : xSt) (f : Nat → Int32) : (wX ad ca g).set 44 (ad 44, .inl (ca 0, 8, .inl f)) = wX ad ca (va_up g 54 f) := rfl
set_option maxRecDepth 100000 in
theorem sa_55 (ad : Nat → Nat) (ca : Nat → ClassId) (g : xSt) (i : Nat) (v : Int32) : (wX ad ca g).set 45 (ad 45, .inl (ca 0, 8, .inl (upd (g 55) i v))) = wX ad ca (xw g 55 i v) := rfl
set_option maxRecDepth 100000 in
theorem sf_55 (ad : Nat → Nat) (ca : Nat → ClassId) (g : xSt) (f : Nat → Int32) : (wX ad ca g).set 45 (ad 45, .inl (ca 0, 8, .inl f)) = wX ad ca (va_up g 55 f) := rfl
set_option maxRecDepth 100000 in
theorem sa_56 (ad : Nat → Nat) (ca : Nat → ClassId) (g : xSt) (i : Nat) (v : Int32) : (wX ad ca g).set 46 (ad 46, .inl (ca 0, 8, .inl (upd (g 56) i v))) = wX ad ca (xw g 56 i v) := rfl
set_option maxRecDepth 100000 in
theorem sf_56 (ad : Nat → Nat) (ca : Nat → ClassId) (g : xSt) (f : Nat → Int32) : (wX ad ca g).set 46 (ad 46, .inl (ca 0, 8, .inl f)) = wX ad ca (va_up g 56 f) := rfl
set_option maxRecDepth 100000 in
theorem sa_57 (ad : Nat → Nat) (ca : Nat → ClassId) (g : xSt) (i : Nat) (v : Int32) : (wX ad ca g).set 47 (ad 47, .inl (ca 0, 8, .inl (upd (g 57) i v))) = wX ad ca (xw g 57 i v) := rfl
set_option maxRecDepth 100000 in
theorem sf_57 (ad : Nat → Nat) (ca : Nat → ClassId) (g : xSt) (f : Nat → Int32) : (wX ad ca g).set 47 (ad 47, .inl (ca 0, 8, .inl f)) = wX ad ca (va_up g 57 f) := rfl
set_option maxRecDepth 100000 in
theorem sa_58 (ad : Nat → Nat) (ca : Nat → ClassId) (g : xSt) (i : Nat) (v : Int32) : (wX ad ca g).set 48 (ad 48, .inl (ca 1, 64, .inl (upd (g 58) i v))) = wX ad ca (xw g 58 i v) := rfl
set_option maxRecDepth 100000 in
theorem sf_58 (ad : Nat → Nat) (ca : Nat → ClassId) (g : xSt) (f : Nat → Int32) : (wX ad ca g).set 48 (ad 48, .inl (ca 1, 64, .inl f)) = wX ad ca (va_up g 58 f) := rfl
set_option maxRecDepth 100000 in
theorem sa_59 (ad : Nat → Nat) (ca : Nat → ClassId) (g : xSt) (i : Nat) (v : Int32) : (wX ad ca g).set 49 (ad 49, .inl (ca 1, 4, .inl (upd (g 59) i v))) = wX ad ca (xw g 59 i v) := rfl
set_option maxRecDepth 100000 in
theorem sf_59 (ad : Nat → Nat) (ca : Nat → ClassId) (g : xSt) (f : Nat → Int32) : (wX ad ca g).set 49 (ad 49, .inl (ca 1, 4, .inl f)) = wX ad ca (va_up g 59 f) := rfl
set_option maxRecDepth 100000 in
theorem sa_60 (ad : Nat → Nat) (ca : Nat → ClassId) (g : xSt) (i : Nat) (v : Int32) : (wX ad ca g).set 50 (ad 50, .inl (ca 0, 64, .inl (upd (g 60) i v))) = wX ad ca (xw g 60 i v) := rfl
set_option maxRecDepth 100000 in
theorem sf_60 (ad : Nat → Nat) (ca : Nat → ClassId) (g : xSt) (f : Nat → Int32) : (wX ad ca g).set 50 (ad 50, .inl (ca 0, 64, .inl f)) = wX ad ca (va_up g 60 f) := rfl
set_option maxRecDepth 100000 in
theorem sa_61 (ad : Nat → Nat) (ca : Nat → ClassId) (g : xSt) (i : Nat) (v : Int32) : (wX ad ca g).set 51 (ad 51, .inl (ca 0, 64, .inl (upd (g 61) i v))) = wX ad ca (xw g 61 i v) := rfl
set_option maxRecDepth 100000 in
theorem sf_61 (ad : Nat → Nat) (ca : Nat → ClassId) (g : xSt) (f : Nat → Int32) : (wX ad ca g).set 51 (ad 51, .inl (ca 0, 64, .inl f)) = wX ad ca (va_up g 61 f) := rfl
set_option maxRecDepth 100000 in
theorem sa_62 (ad : Nat → Nat) (ca : Nat → ClassId) (g : xSt) (i : Nat) (v : Int32) : (wX ad ca g).set 52 (ad 52, .inl (ca 0, 64, .inl (upd (g 62) i v))) = wX ad ca (xw g 62 i v) := rfl
set_option maxRecDepth 100000 in
theorem sf_62 (ad : Nat → Nat) (ca : Nat → ClassId) (g : xSt) (f : Nat → Int32) : (wX ad ca g).set 52 (ad 52, .inl (ca 0, 64, .inl f)) = wX ad ca (va_up g 62 f) := rfl
set_option maxRecDepth 100000 in
theorem sa_63 (ad : Nat → Nat) (ca : Nat → ClassId) (g : xSt) (i : Nat) (v : Int32) : (wX ad ca g).set 53 (ad 53, .inl (ca 0, 64, .inl (upd (g 63) i v))) = wX ad ca (xw g 63 i v) := rfl
set_option maxRecDepth 100000 in
theorem sf_63 (ad : Nat → Nat) (ca : Nat → ClassId) (g : xSt) (f : Nat → Int32) : (wX ad ca g).set 53 (ad 53, .inl (ca 0, 64, .inl f)) = wX ad ca (va_up g 63 f) := rfl
set_option maxRecDepth 100000 in
theorem sa_64 (ad : Nat → Nat) (ca : Nat → ClassId) (g : xSt) (i : Nat) (v : Int32) : (wX ad ca g).set 54 (ad 54, .inl (ca 0, 64, .inl (upd (g 64) i v))) = wX ad ca (xw g 64 i v) := rfl
set_option maxRecDepth 100000 in
theorem sf_64 (ad : Nat → Nat) (ca : Nat → ClassId) (g : xSt) (f : Nat → Int32) : (wX ad ca g).set 54 (ad 54, .inl (ca 0, 64, .inl f)) = wX ad ca (va_up g 64 f) := rfl
set_option maxRecDepth 100000 in
theorem sa_65 (ad : Nat → Nat) (ca : Nat → ClassId) (g : xSt) (i : Nat) (v : Int32) : (wX ad ca g).set 55 (ad 55, .inl (ca 0, 65, .inl (upd (g 65) i v))) = wX ad ca (xw g 65 i v) := rfl
set_option maxRecDepth 100000 in
theorem sf_65 (ad : Nat → Nat) (ca : Nat → ClassId) (g : xSt) (f : Nat → Int32) : (wX ad ca g).set 55 (ad 55, .inl (ca 0, 65, .inl f)) = wX ad ca (va_up g 65 f) := rfl
set_option maxRecDepth 100000 in
theorem sa_66 (ad : Nat → Nat) (ca : Nat → ClassId) (g : xSt) (i : Nat) (v : Int32) : (wX ad ca g).set 56 (ad 56, .inl (ca 0, 64, .inl (upd (g 66) i v))) = wX ad ca (xw g 66 i v) := rfl
set_option maxRecDepth 100000 in
theorem sf_66 (ad : Nat → Nat) (ca : Nat → ClassId) (g : xSt) (f : Nat → Int32) : (wX ad ca g).set 56 (ad 56, .inl (ca 0, 64, .inl f)) = wX ad ca (va_up g 66 f) := rfl
set_option maxRecDepth 100000 in
theorem sa_67 (ad : Nat → Nat) (ca : Nat → ClassId) (g : xSt) (i : Nat) (v : Int32) : (wX ad ca g).set 57 (ad 57, .inl (ca 0, 8, .inl (upd (g 67) i v))) = wX ad ca (xw g 67 i v) := rfl
set_option maxRecDepth 100000 in
theorem sf_67 (ad : Nat → Nat) (ca : Nat → ClassId) (g : xSt) (f : Nat → Int32) : (wX ad ca g).set 57 (ad 57, .inl (ca 0, 8, .inl f)) = wX ad ca (va_up g 67 f) := rfl
end
section
/-! contracts over the one world: what every method is given (tables, texts, Throwable's statics), how it is entered, how it calls -/
theorem xok_warm {s U : State} (hW : s.WarmedH U.vm) {q : Cond} (hk : xok q = true) {a a' : Array Value} (h : q.before a s = true) : q.before a' U = true := by
  have key : ∀ q : Cond, (q.onTables && q.keepsH) = true → q.before a s = true → q.before a' U = true := by
    intro q hk h
    simp only [Bool.and_eq_true] at hk
    have h1 := Cond.onTables_warmH (T := U) (args' := a') hW hk.1 hk.2 h
    rwa [State.setVm_self] at h1
  cases q with
  | castable x y => exact va_Nw.use rfl (va_Nw.warmC hW (va_Nw.of rfl h))
  | declares x => exact va_Nw.use rfl (va_Nw.warmD hW (va_Nw.of rfl h))
  | arrayClass ty => exact word_at hW (Or.inr ⟨ty, rfl⟩) h
  | _ => exact key _ hk h
def xTB (U : State) : Prop := ∀ (a : Array Value) (q : Cond), q ∈ xT → q.before a U = true
theorem xTB.warm {s U : State} (hW : s.WarmedH U.vm) (h : xTB s) : xTB U := fun a q hq => xok_warm hW (List.mem_filter.mp hq).2 (h a q hq)
theorem xTB.same {s U : State} (hv : U.vm = s.vm) (h : xTB s) : xTB U := by
  refine h.warm ?_
  rw [hv]; exact State.WarmedH.refl s
/-- the texts of the messages -/
abbrev xtx : List (Nat × String) := [(195, "a number is outside its range"), (200, "there is no room"), (190, "there is none of this number"), (105, "matches that stand hold too many pallets"), (164, "the arrival is in a pair")]
def xSR (U : State) : Prop := ∀ q ∈ xtx, ∃ a : Nat, vk_R "CrossDock" q.1 q.2 a U
theorem xSR.warm {s U : State} (hW : s.WarmedH U.vm) (h : xSR s) : xSR U := fun q hq => by
  obtain ⟨a, ha⟩ := h q hq
  exact ⟨a, ha.warm hW⟩
/-- Throwable's two statics -/
abbrev xsts : List Cond := [.laysStatic "java/lang/Throwable" "UNASSIGNED_STACK" "[Ljava/lang/StackTraceElement;", .laysStatic "java/lang/Throwable" "SUPPRESSED_SENTINEL" "Ljava/util/List;", .isRef (.static "java/lang/Throwable" "UNASSIGNED_STACK" "[Ljava/lang/StackTraceElement;"), .isRef (.static "java/lang/Throwable" "SUPPRESSED_SENTINEL" "Ljava/util/List;")]
def xST (w : xSt → va_W) (U : State) : Prop := ∃ aS : Nat, aS < U.heap.size ∧ (∀ (k : Nat) (e : va_E), (w (fun _ _ => 0))[k]? ≠ some (aS, e)) ∧ ∀ V : State, U.vm.Alike V.vm → V.heap[aS]? = U.heap[aS]? → ∀ (a : Array Value), ∀ q ∈ xsts, q.before a V = true
theorem xST.moved {w : xSt → va_W} {s U : State} (hvm : s.vm.Alike U.vm) (hz : s.heap.size ≤ U.heap.size) (hk : ∀ q : Nat, q < s.heap.size → ¬ xA w s.heap.size q → U.heap[q]? = s.heap[q]?) (h : xST w s) : xST w U := by
  obtain ⟨aS, h1, h2, h3⟩ := h
  have e : U.heap[aS]? = s.heap[aS]? := hk aS h1 (by
    rintro (⟨k, x, hx⟩ | hx)
    · exact h2 k x hx
    · omega)
  exact ⟨aS, by omega, h2, fun V hv he => h3 V (hvm.trans hv) (he.trans e)⟩
/-- what no exception of one class is -/
abbrev xex : List String := ["java/lang/IllegalArgumentException", "java/lang/UnsupportedOperationException", "java/util/NoSuchElementException", "java/lang/IllegalStateException"]
def xNC (U : State) : Prop := ∀ x ∈ xex, ∀ y ∈ xex, x ≠ y → (Cond.castable x y).before #[] U = false
theorem xNC.warm {s U : State} (hW : s.WarmedH U.vm) (h : xNC s) : xNC U := fun x hx y hy hne => by
  have h1 : (Cond.castable x y).before #[] (s.setVm U.vm) = (Cond.castable x y).before #[] s := Cond.castable_setVm hW.alike x y
  have h2 : (Cond.castable x y).before #[] (s.setVm U.vm) = (Cond.castable x y).before #[] (U.setVm U.vm) := Cond.onTables_vm U.vm _ rfl
  rw [State.setVm_self] at h2
  rw [← h2, h1]; exact h x hx y hy hne
def xE (w : xSt → va_W) (U : State) : Prop := xTB U ∧ xSR U ∧ xNC U ∧ xST w U
theorem xE.moved {w : xSt → va_W} {s U : State} (hW : s.WarmedH U.vm) (hz : s.heap.size ≤ U.heap.size) (hk : ∀ q : Nat, q < s.heap.size → ¬ xA w s.heap.size q → U.heap[q]? = s.heap[q]?) (h : xE w s) : xE w U :=
  ⟨h.1.warm hW, h.2.1.warm hW, h.2.2.1.warm hW, h.2.2.2.moved hW.alike hz hk⟩
theorem xE.calling {w : xSt → va_W} {U : State} {g : JFrame} {mk : MethodId} {a : Array Value} (h : xE w U) : xE w (U.calling g mk a) :=
  h.moved (s := U) (U := U.calling g mk a) (State.WarmedH.refl U) (Nat.le_refl _) (fun _ _ _ => rfl)
theorem xP_blind {D : va_G} {ad : Nat → Nat} {ca : Nat → ClassId} {sz : Nat} {As : List Value} {g : xSt} : FrameBlind (xP (xE (wX ad ca)) D xcl (wX ad ca) (tyX ca) sz As g) := fun a U gf mk q => by
  obtain ⟨q0, q1, qP, qK, qD, qE⟩ := q
  exact ⟨q0, q1, qP, va_K.moved (u := U) (U := U.calling gf mk a) (Vm.Alike.refl U.vm) qK, qD, qE.calling⟩
/-- a method's contract over the one world: from the state g with these arguments to this outcome and the state g' -/
def xM (l : Launch) (y : MethodName) (cw : Cond) (rm : Room) (As : (Nat → Nat) → List Value) (g : xSt) (ov : Option Value ⊕ String) (g' : xSt) (mc ms : Nat) : Prop :=
  ∀ (D : va_G) (ad : Nat → Nat) (ca : Nat → ClassId) (sz : Nat), xMet l y [cw] rm (xP (xE (wX ad ca)) D xcl (wX ad ca) (tyX ca) sz (As ad) g) (xQ D xcl (wX ad ca) (xA (wX ad ca) sz) ov g') mc ms (xA (wX ad ca) sz)
/-- the walk's context in a method of this world -/
def xX (p : Program) (s : State) (m : MethodId) (args : Array Value) (meth : Method) (c : Code) (cc : ByteArray) (own : String) (nL : Nat) (ret : Option FieldType) (D : va_G) (ad : Nat → Nat) (ca : Nat → ClassId) : Prop :=
  xC p s m args c cc own xT nL D xcl (wX ad ca) (tyX ca) (xA (wX ad ca) s.heap.size) ∧ xE (wX ad ca) s ∧ meth.sig.returnType = ret ∧ meth.locks = false ∧ ∃ g0 : xSt, va_P D xcl (wX ad ca g0) s.heap
theorem x_D {A : Nat → Prop} {ad : Nat → Nat} {ca : Nat → ClassId} {g : xSt} (h : va_D A (wX ad ca g)) (sz : Nat) : ∀ g', va_D (xA (wX ad ca) sz) (wX ad ca g') := fun g' => va_D.of_fst (wX_fst ad ca (fun _ _ => 0) g') ((va_D.of_fst (wX_fst ad ca g (fun _ _ => 0)) h).self)
theorem x_contract {l : Launch} {y : MethodName} {bytes : ByteArray} {maxL : Nat} {ret : Option FieldType} {rm : Room} {As : (Nat → Nat) → List Value} {g g' : xSt} {ov : Option Value ⊕ String} {mc ms : Nat} (hy : plainName y.cls = true) (hn : ∀ ad, (lg_sl (As ad)).length ≤ maxL)
    (body : ∀ (p : Program) (e : Env) (s : State) (m : MethodId) (below : List Frame) (meth : Method) (c : Code) (D : va_G) (ad : Nat → Nat) (ca : Nat → ClassId), xX p s m (As ad).toArray meth c bytes y.cls maxL ret D ad ca → c.exceptionTable.toList = [] →
      xV p l e rm s m (As ad).toArray below meth c D xcl (wX ad ca) (xA (wX ad ca) s.heap.size) maxL 0 0 (xMQ below (xQ D xcl (wX ad ca) (xA (wX ad ca) s.heap.size) ov g') (As ad).toArray s mc ms (xA (wX ad ca) s.heap.size)) g 0 (lv_args 0 (As ad)) []) :
    xM l y (.code y bytes maxL ret) rm As g ov g' mc ms := by
  intro D ad ca sz
  refine xMet.ofW (cc := bytes) (maxL := maxL) (ret := ret) (ws' := []) hy rfl ?_
  intro p e s m args below meth c s₁ B hml hv
  obtain ⟨rfl, hsz, hP, hK, hD, hE⟩ := hv
  subst hsz
  have hcode := atoms_spec (ws := [Cond.code y bytes maxL ret]) B.pre _ List.mem_cons_self
  have hempty := B.noHandlers hcode
  have hno : c.exceptionTable.toList = [] := List.eq_nil_of_length_eq_zero (by simpa [Array.isEmpty] using hempty)
  have hown : s.vm.findClass y.cls = some m.cls := findClass_of_methodNamed B.named
  exact x_start (body p e s m below meth c D ad ca ⟨⟨B.exec, B.bytes, hml, hown, fun q hq => hE.1 _ q hq, hK, x_D hD _, fun q h => Or.inr h⟩, hE, B.returns, B.notSynchronized, g, hP⟩ hno) hP (hn ad)
section XW
variable {p : Program} {l : Launch} {e : Env} {R : Room} {s : State} {m : MethodId} {args : Array Value} {below : List Frame} {meth : Method} {c : Code} {D : va_G} {ad : Nat → Nat} {ca : Nat → ClassId} {nL cells slots : Nat} {Q : State → Prop}
variable {cc : ByteArray} {own : String} {g g' : xSt} {pc mc ms : Nat} {lv lv' : List (Nat × Value)} {stk rest : List Value} {v : Option Value} {E : String} {rt : Option FieldType}
variable {y : MethodName} {bytes : ByteArray} {maxL : Nat} {ret : Option FieldType} {rm : Room} {As : (Nat → Nat) → List Value} {ov : Option Value ⊕ String}
theorem xX.t (X : xX p s m args meth c cc own nL rt D ad ca) {i : Nat} {q : Cond} (h : lw_tbl[i]? = some q) (hq : xok q = true) : q.before args s = true := X.1.2.2.2.2.1 q (List.mem_filter.mpr ⟨List.mem_of_getElem? h, hq⟩)
/-- what a callee is given -/
theorem x_pre (X : xX p s m args meth c cc own nL rt D ad ca) {H : Heap} {locs : List Loc} (hP : va_P D xcl (wX ad ca g) H) (hS : va_S (xA (wX ad ca) s.heap.size) s.heap H locs) (L : List Value) : ∀ U : State, U.heap = H → s.WarmedH U.vm → xP (xE (wX ad ca)) D xcl (wX ad ca) (tyX ca) H.size L g L.toArray U := by
  intro U hU hW
  subst hU
  exact ⟨rfl, rfl, hP, va_K.moved hW.alike X.1.2.2.2.2.2.1, (X.1.2.2.2.2.2.2.1 g).weaken (fun _ _ _ _ => trivial), X.2.1.moved hW hS.1 hS.2.1⟩
theorem x_cb (X : xX p s m args meth c cc own nL rt D ad ca) {i j : Nat} (hc : lw_tbl[i]? = some (Cond.code y bytes maxL ret)) (hi : lw_tbl[j]? = some (Cond.initialized y.cls)) (hr : rm.cells = mc ∧ rm.slots = ms ∧ rm.frames + 1 ≤ R.frames ∧ 8 + (maxL + 11) + rm.locals ≤ R.locals) : xCB R s y bytes maxL ret [Cond.code y bytes maxL ret] rm mc ms :=
  ⟨⟨hr.1, hr.2.1, hr.2.2.1, hr.2.2.2, fun w hw a' U hW => by rw [List.mem_singleton.mp hw]; exact xok_warm hW rfl (X.t hc rfl), List.mem_singleton.mpr rfl⟩, fun a' U hW => xok_warm hW rfl (X.t hi rfl)⟩
theorem x_len {n : Nat} (h : (parseMethodDescriptor y.desc).map (fun d => d.parameters.length) = some n) : ∀ sig, parseMethodDescriptor y.desc = some sig → n = sig.parameters.length := fun sig hs => by
  rw [hs] at h
  exact (Option.some.inj h).symm
theorem x_runS (X : xX p s m args meth c cc own nL rt D ad ca) (hM : xM l y (.code y bytes maxL ret) rm As g ov g' mc ms) {i1 i2 i3 i4 index : Nat} (h1 : lw_tbl[i1]? = some (Cond.code y bytes maxL ret)) (h2 : lw_tbl[i2]? = some (Cond.initialized y.cls)) (h3 : lw_tbl[i3]? = some (Cond.methodLink own index y)) (h4 : lw_tbl[i4]? = some (Cond.static y))
    (hr : rm.cells = mc ∧ rm.slots = ms ∧ rm.frames + 1 ≤ R.frames ∧ 8 + (maxL + 11) + rm.locals ≤ R.locals) (hy : (y.cls ≠ "java/lang/invoke/MethodHandle" ∧ y.cls ≠ "java/lang/invoke/VarHandle") ∧ (parseMethodDescriptor y.desc).map (fun d => d.parameters.length) = some (As ad).length)
    (hstk : (As ad).reverse ++ rest = stk) (hW : (rest.map fun v => v.category).sum ≤ 8) (hdg : decode cc pc = .ok (.invokestatic index, 3)) (hc : cells + mc ≤ R.cells) (hs : slots + ms ≤ R.slots) :
    ∀ (T : State) (locs : List Loc) (ls : Array Slot), va_P D xcl (wX ad ca g) T.heap → va_S (xA (wX ad ca) s.heap.size) s.heap T.heap locs → ls.size = nL → Stand p l e R s m args below meth c T locs cells slots → xRun p l e R s m args below meth c T locs cells slots mc ms (F0 m pc ls stk) rest (xQ D xcl (wX ad ca) (xA (wX ad ca) T.heap.size) ov g' (As ad).toArray) (xA (wX ad ca) T.heap.size) := by
  intro T locs ls hP hS hl St
  exact xcallS St X.1.1 (hM D ad ca T.heap.size) xP_blind (x_cb X h1 h2 hr) X.1.2.2.2.1 (X.t h3 rfl) (X.t h4 rfl) hy.1 (g := F0 m pc ls stk) rfl (hl.trans X.1.2.2.1.symm) (argsL := As ad) (rest := rest) (x_len hy.2) hstk.symm (by show 2 * 0 + _ ≤ 8; omega) (by rw [X.1.2.1]; exact hdg) hc hs (x_pre X hP hS (As ad))
end XW
end
section
/-! throw new E("text"), the launch without stack traces -/
theorem th_a0 : ∀ q ∈ Bundle.throwableAtoms, q ∈ xT ∨ q ∈ xsts := by decide +kernel
theorem th_a1 : ∀ q ∈ Bundle.throwableSAtoms, q ∈ xT := by decide +kernel
theorem th_a2 : ∀ q ∈ Bundle.chainSAtoms "java/lang/RuntimeException" ["java/lang/Exception"], q ∈ xT := by decide +kernel
/-- what the tables say of an exception's class -/
def thW (X : String) (i : Nat) (bytes : ByteArray) : List Cond := Bundle.passSAtoms X "java/lang/RuntimeException" i bytes ++ [.instantiable X 6, .castable X X, .selects X Bundle.tFill0 Bundle.tFill0, .selects X Bundle.tFill Bundle.tFill,
   .lays X Bundle.tN "cause" "Ljava/lang/Throwable;", .lays X Bundle.tN "stackTrace" Bundle.steD, .lays X Bundle.tN "suppressedExceptions" Bundle.listD, .lays X Bundle.tN "detailMessage" "Ljava/lang/String;",
   .fieldLink Bundle.tN 198 Bundle.tN "backtrace" "Ljava/lang/Object;", .lays Bundle.tN Bundle.tN "backtrace" "Ljava/lang/Object;", .lays X Bundle.tN "backtrace" "Ljava/lang/Object;"]
theorem xE.static {w : xSt → va_W} {s : State} (h : xE w s) (a : Array Value) : ∀ q ∈ xsts, q.before a s = true := by
  obtain ⟨aS, -, -, h3⟩ := h.2.2.2
  exact h3 s (Vm.Alike.refl _) rfl a
section XTH
variable {p : Program} {l : Launch} {e : Env} {R : Room} {s : State} {m : MethodId} {args : Array Value} {below : List Frame} {meth : Method} {c : Code} {W : State} {locs : List Loc} {cells slots : Nat}
set_option maxHeartbeats 1000000 in
/-- the constructor of a fresh exception, called with a text: it comes back, and only the new cell has changed -/
theorem x_ctor (X : Stand p l e R s m args below meth c W locs cells slots) (hexec : p.tables.exec = Jvm.exec) (htr : e.platform.stackTraces = false) {w : xSt → va_W} (hE : xE w s) {own cls : String} {ic i1 : Nat} {b1 : ByteArray}
    (hown : s.vm.findClass own = some m.cls) (hcls : Bundle.fit cls = true) (hd0 : decode b1 0 = .ok (.aload_n 0, 1)) (hd1 : decode b1 1 = .ok (.aload_n 1, 1)) (hd2 : decode b1 2 = .ok (.invokespecial i1, 3)) (hd5 : decode b1 5 = .ok (.return_, 1))
    (hw : ∀ q ∈ thW cls i1 b1, q ∈ xT) (hml : Cond.methodLink own ic (Bundle.initS cls) ∈ xT)
    (hlocs : ∀ x ∈ locs, ∀ cell, s.heap[x.base]? = some cell → cell.vm.isStatics = false)
    {a : Addr} {cX : ClassId} {kX : Class} (hfoundX : s.vm.findClass cls = some cX) (hkX : s.vm.classes[cX]? = some kX) (hcell : W.heap[a]? = some (freshCell cX kX)) (hnew : s.heap.size ≤ a)
    {msg : Value} (hmsg : msg.isRef = true)
    {g : JFrame} (hg : g.method = m) (hsize : g.locals.size = c.maxLocals) {rest : List Value} (hstack : g.stack = msg :: .ref a :: rest) (hd6 : decode c.code g.pc = .ok (.invokespecial ic, 3))
    (hRframes : 5 < R.frames) (hRlocals : 2 * g.monitorRoom + (rest.map fun v => v.category).sum + 81 ≤ R.locals) :
    ∃ (T' : State) (L : List Loc) (ce : Cell), Stand p l e R s m args below meth c T' (locs ++ L) cells slots ∧ (∀ x ∈ L, x.base = a) ∧ T'.heap = W.heap.setIfInBounds a ce ∧ ce.cls = cX ∧ ce.vm = .none ∧
      ∀ tg, Steps p.tables e below (T'.setTop { g with pc := g.pc + 3, stack := rest }) tg → Steps p.tables e below (W.setTop g) tg := by
  have howns : e.platform.frameOwnsMonitors = true := by rw [X.admits.platform]
  have hfin : e.platform.finalization = false := by rw [X.admits.platform]
  have hpl : e.platform.magicAccessors = ({} : Platform).magicAccessors := by rw [X.admits.platform]
  have hst := hE.static args
  have htb : ∀ q ∈ xT, q.before args s = true := fun q hq => hE.1 args q hq
  have tw : ∀ q ∈ thW cls i1 b1, q.holds args s none s [] = true := fun q hq => htb q (hw q hq)
  obtain ⟨T, Z0, L, -, Y⟩ := ThrowableC.of_atoms (args := args) howns hfin hpl (fun q hq => (th_a0 q hq).elim (htb q) (hst q))
  obtain ⟨Z, M, LZ, LM, hnZ⟩ := Init0T.ofS_atoms (args := args) hpl L Y (fun q hq => htb q (th_a1 q hq))
  obtain ⟨P2, Ps, hlen, L2, hL, hP2m, hlink2, hlink⟩ := Bundle.chainS (args := args) hpl hnZ ["java/lang/Exception"] "java/lang/RuntimeException" (by decide +kernel) (by decide +kernel) (fun q hq => htb q (th_a2 q hq))
  obtain ⟨P1, L1, hP1m, hP1s⟩ := PassC.ofS_atoms (args := args) (s := s) hpl (X := cls) (Y := "java/lang/RuntimeException") (Bundle.fit_spec hcls).1 (by decide) hd0 hd1 hd2 hd5 (fun q hq => htb q (hw q (by simp [thW, hq])))
  have hsup : P1.sup = P2.m := Option.some.inj (hP1s.symm.trans hP2m)
  have hfound : s.vm.findClass cls = some P1.m.cls := findClass_of_methodNamed hP1m
  cases Option.some.inj (hfoundX.symm.trans hfound)
  obtain ⟨c1, kX', hc1, hk, hord, -, -, hn6⟩ := Cond.instantiable_spec (tw (.instantiable cls 6) (by simp [thW]))
  cases Option.some.inj (hc1.symm.trans hfound)
  cases Option.some.inj (hkX.symm.trans hk)
  have hsel0 : selectMethod e.platform s.vm P1.m.cls T.fill0 = .method T.fill0 := by
    obtain ⟨c2, r2, m2, q1, q2, q3, q4, -⟩ := Cond.selects_spec (tw (.selects cls Bundle.tFill0 Bundle.tFill0) (by simp [thW]))
    cases Option.some.inj (q1.symm.trans hfound)
    cases Option.some.inj (q2.symm.trans (State.methodFound?_of_named Y.fill0 (by decide)))
    cases Option.some.inj (q3.symm.trans Y.fill0)
    rw [Launch.admits_selectMethod X.admits]; exact q4
  have hselF : selectMethod e.platform s.vm P1.m.cls T.fill = .method T.fill := by
    obtain ⟨c2, r2, m2, q1, q2, q3, q4, -⟩ := Cond.selects_spec (tw (.selects cls Bundle.tFill Bundle.tFill) (by simp [thW]))
    cases Option.some.inj (q1.symm.trans hfound)
    cases Option.some.inj (q2.symm.trans (State.methodFound?_of_named Y.fill (by decide)))
    cases Option.some.inj (q3.symm.trans Y.fill)
    rw [Launch.admits_selectMethod X.admits]; exact q4
  obtain ⟨cellS0, hcS0, hiss⟩ := Y.statics
  obtain ⟨u0, hu0⟩ := Cond.staticRefV Y.unassigned L.unassignedStatic L.statics hcS0 hiss (hst (.isRef (.static Bundle.tN "UNASSIGNED_STACK" Bundle.steD)) (by simp [xsts, Bundle.tN, Bundle.steD]))
  obtain ⟨sen, hsen⟩ := Cond.staticRefV Y.sentinel L.sentinelStatic L.statics hcS0 hiss (hst (.isRef (.static Bundle.tN "SUPPRESSED_SENTINEL" Bundle.listD)) (by simp [xsts, Bundle.tN, Bundle.listD]))
  obtain ⟨ci198, i198, fB, hk198, hg198, ha198, hsB, -, hnB, htB, hffB⟩ := Cond.ownField (t := .object "java/lang/Object") Y.found L.cls (by decide +kernel) (tw (.fieldLink Bundle.tN 198 Bundle.tN "backtrace" "Ljava/lang/Object;") (by simp [thW])) (tw (.lays Bundle.tN Bundle.tN "backtrace" "Ljava/lang/Object;") (by simp [thW])) e.platform hpl
  obtain ⟨cellS, hcS', heS, -, hkeep⟩ := X.same.2.2.2.2.2 T.aS cellS0 hcS0
  have hcellS : W.heap[T.aS]? = some cellS := hcS'
  have hout' : ∀ i, (⟨T.aS, i⟩ : Loc) ∉ locs := fun i hmem => by
    have := hlocs _ hmem cellS0 hcS0
    rw [hiss] at this; cases this
  have hknownS : cellS.vm ≠ .unknown := by
    rw [heS]; intro hu
    rw [show cellS0.vm = .unknown from hu] at hiss
    cases hiss
  have hneS : T.aS ≠ a := Nat.ne_of_lt (Nat.lt_of_lt_of_le (Array.getElem?_eq_some_iff.mp hcS0).1 hnew)
  obtain ⟨iM, hffM⟩ := Y.msg
  obtain ⟨tyC, dC, hdC, hdnC⟩ := Cond.laysAt hfound hk Y.cause (tw (.lays cls Bundle.tN "cause" "Ljava/lang/Throwable;") (by simp [thW]))
  obtain ⟨tyS, dS, hdS, hdnS⟩ := Cond.laysAt hfound hk Y.stack (tw (.lays cls Bundle.tN "stackTrace" Bundle.steD) (by simp [thW]))
  obtain ⟨tyP, dP, hdP, hdnP⟩ := Cond.laysAt hfound hk Y.supp (tw (.lays cls Bundle.tN "suppressedExceptions" Bundle.listD) (by simp [thW]))
  obtain ⟨tyM, dM, hdM, hdnM⟩ := Cond.laysAt hfound hk hffM (tw (.lays cls Bundle.tN "detailMessage" "Ljava/lang/String;") (by simp [thW]))
  obtain ⟨tyB, dB, hdB, hdnB⟩ := Cond.laysAt hfound hk hffB (tw (.lays cls Bundle.tN "backtrace" "Ljava/lang/Object;") (by simp [thW]))
  have bC := Cond.laysApart hdB hdC hdnB hdnC (by rw [hnB, Y.causeName]; decide)
  have bS := Cond.laysApart hdB hdS hdnB hdnS (by rw [hnB, Y.stackName]; decide)
  have bP := Cond.laysApart hdB hdP hdnB hdnP (by rw [hnB, Y.suppName]; decide)
  have hskip : SkipFacts T e.platform s (fun u => u) u0 ((preparedCellV T.toThrowableT (freshCell P1.m.cls kX) a u0 sen).withEntry W.cur) :=
    ⟨{ ci198 := ci198, i198 := i198, fBack := fB }, ⟨hk198, hg198, ha198, hsB⟩, by
      have := fresh_default (c := P1.m.cls) tyB
      rw [htB] at this
      simpa [preparedCellV, Cell.setSlot, Cell.withEntry, Array.getElem?_setIfInBounds, bC, bS, bP, bC.symm, bS.symm, bP.symm, defaultValue] using this, fun _ _ => rfl⟩
  obtain ⟨tm, methC, cdC, kC, vm₁, hnC, -, -, -, -, -, -, -, hW₁, st1⟩ := Steps.initColdS (tb := p.tables) (e := e) (below := below) (s := s) (U := W) X.here hexec X.warmed hpl hown (t := Bundle.initS cls) rfl rfl (Bundle.fit_spec hcls).2
    (htb (.methodLink own ic (Bundle.initS cls)) hml) (htb _ (hw (.instanceMethod (Bundle.initS cls)) (by simp [thW, Bundle.passSAtoms]))) (bytes := b1) (maxL := 2) (htb _ (hw (.code (Bundle.initS cls) b1 2 none) (by simp [thW, Bundle.passSAtoms])))
    (f := g) hg (a := a) (msg := msg) (rest := rest) hstack hd6
  cases Option.some.inj (hnC.symm.trans hP1m)
  have X₁ := X.noted hW₁
  obtain ⟨vm₂, X₂, st2⟩ := X₁.ctorMessageOffV hexec (g := { g with stack := rest }) hg hsize T L Z LZ M LM (P1 :: P2 :: Ps)
    (fun P hP => by
      rcases List.mem_cons.mp hP with rfl | hP
      · exact L1
      · rcases List.mem_cons.mp hP with rfl | hP
        · exact L2
        · exact hL P hP) ⟨hsup, hlink2, hlink⟩ (u0 := u0) (sen := sen) (self := a) hmsg (cell := freshCell P1.m.cls kX) (cellS := cellS)
    hcell (fun _ => by simp) (by simp) rfl rfl hsel0 hselF hcellS hneS hknownS (by rw [hkeep _ (hout' _)]; exact hu0) (by rw [hkeep _ (hout' _)]; exact hsen)
    (Takes.of_laid hk hord tyC (by rw [Y.causeType]; rfl)) (Takes.of_laid hk hord tyS (by rw [Y.stackType]; exact fits_refV_array _ u0)) (Takes.of_laid hk hord tyP (by rw [Y.suppType]; exact fits_refV_object _ sen))
    (Takes.of_laid hk hord tyM (by rw [Y.msgType]; exact fits_refV_object _ ⟨msg, hmsg⟩)) Y.objLocals hskip htr [] hd6
    (by simp only [List.length_cons, hlen]; omega) (by simp only [List.length_cons, hlen]; exact hRlocals)
  refine ⟨_, _, plainBareV T.toThrowableT (freshCell P1.m.cls kX) a u0 sen msg, X₂, ?_, rfl, ?_, ?_, fun tg h => st1 _ (fun acts => ?_)⟩
  · intro x hx
    simp only [List.mem_cons, List.not_mem_nil, or_false] at hx
    rcases hx with rfl | rfl | rfl | rfl | rfl <;> rfl
  · simp [plainBareV, preparedCellV, Cell.setSlot]
  · simp [plainBareV, preparedCellV, Cell.setSlot]
  · rw [doInvoke_state]
    exact st2 _ h
end XTH
section XTV
variable {p : Program} {l : Launch} {e : Env} {R : Room} {s : State} {m : MethodId} {args : Array Value} {below : List Frame} {meth : Method} {c : Code} {D : va_G} {ad : Nat → Nat} {ca : Nat → ClassId} {nL cells slots : Nat}
variable {cc : ByteArray} {own : String} {g : xSt} {pc mc ms : Nat} {lv : List (Nat × Value)} {rt : Option FieldType}
theorem x_notrace {p : Program} {T : State} {locs : List Loc} (X : Stand p l e R s m args below meth c T locs cells slots) (h : l.stackTraces = false) : e.platform.stackTraces = false := by
  rw [X.admits.platform]; exact h
theorem x_locs (X : xX p s m args meth c cc own nL rt D ad ca) {g0 : xSt} {locs : List Loc} (hP : va_P D xcl (wX ad ca g0) s.heap) (hA : ∀ x ∈ locs, xA (wX ad ca) s.heap.size x.base) : ∀ x ∈ locs, ∀ cell, s.heap[x.base]? = some cell → cell.vm.isStatics = false := by
  intro x hx cell hc
  rcases hA x hx with ⟨k, en, hk⟩ | h
  · have h1 : ((wX ad ca g0).map (·.1))[k]? = some x.base := by rw [wX_fst ad ca g0 (fun _ _ => 0), List.getElem?_map, hk]; rfl
    rw [List.getElem?_map] at h1
    cases hq : (wX ad ca g0)[k]? with
    | none => rw [hq] at h1; cases h1
    | some q =>
      rw [hq] at h1
      have e1 : q.1 = x.base := Option.some.inj h1
      have h2 := hP k q hq
      unfold va_at at h2
      rw [e1] at h2
      split at h2
      · rename_i a0 _
        rw [hc] at h2
        rw [Option.some.inj h2]
        obtain ⟨cA, n, f | f | f | f | f⟩ := a0 <;> rfl
      · obtain ⟨r, -, cell', c1, -, c3, -⟩ := h2
        rw [hc] at c1
        rw [Option.some.inj c1, c3]; rfl
  · have := (Array.getElem?_eq_some_iff.mp hc).1
    omega
theorem v_throw (X : xX p s m args meth c cc own nL rt D ad ca) (hfl : l.stackTraces = false) (hno : c.exceptionTable.toList = []) {cls text : String} {icl itx ic i1 j1 j2 j3 j4 : Nat} {b1 : ByteArray} (hown : own = "CrossDock")
    (w1 : lw_tbl[j1]? = some (Cond.classLink own icl cls)) (w2 : lw_tbl[j2]? = some (Cond.instantiable cls 6)) (w3 : lw_tbl[j3]? = some (Cond.initialized cls)) (w4 : lw_tbl[j4]? = some (Cond.methodLink own ic (Bundle.initS cls))) (htx : (itx, text) ∈ xtx)
    (hcls : Bundle.fit cls = true) (hb : decode b1 0 = .ok (.aload_n 0, 1) ∧ decode b1 1 = .ok (.aload_n 1, 1) ∧ decode b1 2 = .ok (.invokespecial i1, 3) ∧ decode b1 5 = .ok (.return_, 1)) (hw : ∀ q ∈ thW cls i1 b1, q ∈ xT)
    (d0 : decode cc pc = .ok (.new icl, 3)) (d1 : decode cc (pc + 3) = .ok (.dup, 1)) (d2 : decode cc (pc + 4) = .ok (.ldc itx, 2)) (d3 : decode cc (pc + 6) = .ok (.invokespecial ic, 3)) (d4 : decode cc (pc + 9) = .ok (.athrow, 1))
    (hR : cells + 1 ≤ R.cells ∧ slots + 6 ≤ R.slots ∧ 5 < R.frames ∧ 82 ≤ R.locals) (h1 : cells + 1 ≤ mc) (h2 : slots + 6 ≤ ms) :
    xV p l e R s m args below meth c D xcl (wX ad ca) (xA (wX ad ca) s.heap.size) nL cells slots (xMQ below (xQ D xcl (wX ad ca) (xA (wX ad ca) s.heap.size) (.inr cls) g) args s mc ms (xA (wX ad ca) s.heap.size)) g pc lv [] := by
  intro H locs ls hP hS hl
  obtain ⟨g0, hP0⟩ := X.2.2.2.2
  refine W.newc X.1.1 X.1.2.1 X.1.2.2.2.1 (X.t w1 rfl) (X.t w2 rfl) (X.t w3 rfl) rfl d0 hR.1 hR.2.1 (fun cC kC f1 f2 f3 f4 => ?_)
  refine W.eq (g2 := F0 m (pc + 3) ls [.ref H.size]) rfl ?_
  refine lv_dup X.1.1 X.1.2.1 d1 rfl ?_
  obtain ⟨ta, hta⟩ := X.2.1.2.1 _ htx
  rw [← hown] at hta
  refine va_ldcS X.1.1 X.1.2.1 X.1.2.2.2.1 hta d2 ?_
  intro T hT St
  have hcell : T.heap[H.size]? = some (freshCell cC kC) := by rw [hT]; exact Array.getElem?_push_size
  obtain ⟨T', L, ce, St', hL, hh, hc1, hc2, st⟩ := x_ctor St X.1.1 (x_notrace St hfl) X.2.1 X.1.2.2.2.1 hcls hb.1 hb.2.1 hb.2.2.1 hb.2.2.2 hw (List.mem_filter.mpr ⟨List.mem_of_getElem? w4, rfl⟩) (x_locs X hP0 hS.2.2) f1 f2 hcell hS.1 (msg := .ref ta) rfl
    (g := F0 m (pc + 6) ls [.ref ta, .ref H.size, .ref H.size]) rfl (hl.1.trans X.1.2.2.1.symm) (rest := [.ref H.size]) rfl (by rw [X.1.2.1]; exact d3) hR.2.2.1 (by show 2 * 0 + 1 + 81 ≤ R.locals; exact hR.2.2.2)
  have St'' := stand_widen St' h1 h2
  obtain ⟨q1, q2, q3, q4, q5⟩ := St''.athrowLeaves X.1.1 (g := F0 m (pc + 9) ls [.ref H.size]) rfl rfl rfl (by rw [hno]; intro x hx; cases hx) (a := H.size) (rest := []) rfl (by rw [X.1.2.1]; exact d4) X.2.2.2.1
  have hother : ∀ q : Nat, q < H.size → T'.heap[q]? = H[q]? := fun q hq => by
    rw [hh, hT, Array.getElem?_setIfInBounds, if_neg (Nat.ne_of_gt hq), Array.getElem?_push, if_neg (Nat.ne_of_lt hq)]
  have hsz : T'.heap.size = H.size + 1 := by rw [hh, hT]; simp
  refine ⟨_, st _ q1, .threw H.size, q2, q3, ⟨⟨H.size, rfl, hS.1, ce, ?_, ?_, hc2⟩, ?_, ?_⟩, locs ++ L, ⟨q4, q5⟩, ?_⟩
  · show T'.heap[H.size]? = some ce
    rw [hh, hT, Array.getElem?_setIfInBounds]; simp
  · show T'.vm.findClass cls = some ce.cls
    rw [hc1, ← f1, St'.warmed.alike.findClass]
  · show va_P D xcl (wX ad ca g) T'.heap
    exact hP.kept (fun k q hq => hother q.1 ((hP k q hq).lt))
  · refine ⟨?_, fun q a1 a2 => ?_⟩
    · show s.heap.size ≤ T'.heap.size
      have := hS.1
      omega
    · show T'.heap[q]? = s.heap[q]?
      rw [hother q (Nat.lt_of_lt_of_le a1 hS.1)]
      exact hS.2.1 q a1 a2
  · intro q hq
    rcases List.mem_append.mp hq with h | h
    · exact hS.2.2 q h
    · rw [hL q h]; exact Or.inr hS.1
end XTV
end
