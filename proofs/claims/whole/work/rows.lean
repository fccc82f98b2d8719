section
-- ===== PART A: goes FIRST, ahead of the names: the tables' words, and 'selects' of the private methods out of them =====
/-- a private method of a class that the tables say can be made, by its rows of tables_1 -/
def lw_okq (q : MethodName × Nat) : Prop := (q.1.cls ≠ "java/lang/invoke/MethodHandle" ∧ q.1.cls ≠ "java/lang/invoke/VarHandle") ∧ Cond.instantiable q.1.cls q.2 ∈ tables_1 ∧ Cond.privateMethod q.1 ∈ tables_1 ∧ Cond.instanceMethod q.1 ∈ tables_1
theorem lw_p0 : lw_okq (⟨"CrossDock", "arrivalsFor", "(I)I"⟩, 11) := ⟨⟨by decide +kernel, by decide +kernel⟩, List.mem_of_getElem? (i := 17) (by decide +kernel), List.mem_of_getElem? (i := 204) (by decide +kernel), List.mem_of_getElem? (i := 205) (by decide +kernel)⟩
theorem lw_p1 : lw_okq (⟨"CrossDock", "mayServe", "(II)Z"⟩, 11) := ⟨⟨by decide +kernel, by decide +kernel⟩, List.mem_of_getElem? (i := 17) (by decide +kernel), List.mem_of_getElem? (i := 208) (by decide +kernel), List.mem_of_getElem? (i := 209) (by decide +kernel)⟩
theorem lw_p2 : lw_okq (⟨"CrossDock", "obstacle", "(II)I"⟩, 11) := ⟨⟨by decide +kernel, by decide +kernel⟩, List.mem_of_getElem? (i := 17) (by decide +kernel), List.mem_of_getElem? (i := 212) (by decide +kernel), List.mem_of_getElem? (i := 213) (by decide +kernel)⟩
theorem lw_p3 : lw_okq (⟨"CrossDock$Order", "takesLot", "(I)Z"⟩, 6) := ⟨⟨by decide +kernel, by decide +kernel⟩, List.mem_of_getElem? (i := 57) (by decide +kernel), List.mem_of_getElem? (i := 216) (by decide +kernel), List.mem_of_getElem? (i := 217) (by decide +kernel)⟩
theorem lw_p4 : lw_okq (⟨"CrossDock$Arrival", "isBarredFor", "(I)Z"⟩, 6) := ⟨⟨by decide +kernel, by decide +kernel⟩, List.mem_of_getElem? (i := 26) (by decide +kernel), List.mem_of_getElem? (i := 220) (by decide +kernel), List.mem_of_getElem? (i := 221) (by decide +kernel)⟩
theorem lw_p5 : lw_okq (⟨"CrossDock", "ordersFor", "(I)I"⟩, 11) := ⟨⟨by decide +kernel, by decide +kernel⟩, List.mem_of_getElem? (i := 17) (by decide +kernel), List.mem_of_getElem? (i := 224) (by decide +kernel), List.mem_of_getElem? (i := 225) (by decide +kernel)⟩
theorem lw_p6 : lw_okq (⟨"CrossDock", "touchesSaved", "()I"⟩, 11) := ⟨⟨by decide +kernel, by decide +kernel⟩, List.mem_of_getElem? (i := 17) (by decide +kernel), List.mem_of_getElem? (i := 236) (by decide +kernel), List.mem_of_getElem? (i := 237) (by decide +kernel)⟩
theorem lw_p7 : lw_okq (⟨"CrossDock$Pairs", "palletsInAll", "()I"⟩, 4) := ⟨⟨by decide +kernel, by decide +kernel⟩, List.mem_of_getElem? (i := 139) (by decide +kernel), List.mem_of_getElem? (i := 240) (by decide +kernel), List.mem_of_getElem? (i := 241) (by decide +kernel)⟩
theorem lw_p8 : lw_okq (⟨"CrossDock$Pairs", "palletsFor", "(I)I"⟩, 4) := ⟨⟨by decide +kernel, by decide +kernel⟩, List.mem_of_getElem? (i := 139) (by decide +kernel), List.mem_of_getElem? (i := 244) (by decide +kernel), List.mem_of_getElem? (i := 245) (by decide +kernel)⟩
theorem lw_p9 : lw_okq (⟨"CrossDock$Arrival", "toGive", "()I"⟩, 6) := ⟨⟨by decide +kernel, by decide +kernel⟩, List.mem_of_getElem? (i := 26) (by decide +kernel), List.mem_of_getElem? (i := 248) (by decide +kernel), List.mem_of_getElem? (i := 249) (by decide +kernel)⟩
theorem lw_p10 : lw_okq (⟨"CrossDock", "fullLanes", "()I"⟩, 11) := ⟨⟨by decide +kernel, by decide +kernel⟩, List.mem_of_getElem? (i := 17) (by decide +kernel), List.mem_of_getElem? (i := 256) (by decide +kernel), List.mem_of_getElem? (i := 257) (by decide +kernel)⟩
theorem lw_p11 : lw_okq (⟨"java/lang/Throwable", "fillInStackTrace", "(I)Ljava/lang/Throwable;"⟩, 6) := ⟨⟨by decide +kernel, by decide +kernel⟩, List.mem_of_getElem? (i := 311) (by decide +kernel), List.mem_of_getElem? (i := 309) (by decide +kernel), List.mem_of_getElem? (i := 310) (by decide +kernel)⟩
theorem lw_p12 : lw_okq (⟨"CrossDock$Pairs", "palletsOf", "(I)I"⟩, 4) := ⟨⟨by decide +kernel, by decide +kernel⟩, List.mem_of_getElem? (i := 139) (by decide +kernel), List.mem_of_getElem? (i := 402) (by decide +kernel), List.mem_of_getElem? (i := 403) (by decide +kernel)⟩
theorem lw_p13 : lw_okq (⟨"CrossDock$Arrival", "setBarred", "(IZ)V"⟩, 6) := ⟨⟨by decide +kernel, by decide +kernel⟩, List.mem_of_getElem? (i := 26) (by decide +kernel), List.mem_of_getElem? (i := 429) (by decide +kernel), List.mem_of_getElem? (i := 430) (by decide +kernel)⟩
theorem lw_p14 : lw_okq (⟨"CrossDock", "layOutPairs", "()V"⟩, 11) := ⟨⟨by decide +kernel, by decide +kernel⟩, List.mem_of_getElem? (i := 17) (by decide +kernel), List.mem_of_getElem? (i := 447) (by decide +kernel), List.mem_of_getElem? (i := 448) (by decide +kernel)⟩
theorem lw_p15 : lw_okq (⟨"CrossDock", "sortOrders", "()V"⟩, 11) := ⟨⟨by decide +kernel, by decide +kernel⟩, List.mem_of_getElem? (i := 17) (by decide +kernel), List.mem_of_getElem? (i := 451) (by decide +kernel), List.mem_of_getElem? (i := 452) (by decide +kernel)⟩
def lw_privs_1 : List (MethodName × Nat) := [(⟨"CrossDock", "arrivalsFor", "(I)I"⟩, 11), (⟨"CrossDock", "mayServe", "(II)Z"⟩, 11), (⟨"CrossDock", "obstacle", "(II)I"⟩, 11), (⟨"CrossDock$Order", "takesLot", "(I)Z"⟩, 6), (⟨"CrossDock$Arrival", "isBarredFor", "(I)Z"⟩, 6), (⟨"CrossDock", "ordersFor", "(I)I"⟩, 11), (⟨"CrossDock", "touchesSaved", "()I"⟩, 11), (⟨"CrossDock$Pairs", "palletsInAll", "()I"⟩, 4), (⟨"CrossDock$Pairs", "palletsFor", "(I)I"⟩, 4), (⟨"CrossDock$Arrival", "toGive", "()I"⟩, 6), (⟨"CrossDock", "fullLanes", "()I"⟩, 11), (⟨"java/lang/Throwable", "fillInStackTrace", "(I)Ljava/lang/Throwable;"⟩, 6), (⟨"CrossDock$Pairs", "palletsOf", "(I)I"⟩, 4), (⟨"CrossDock$Arrival", "setBarred", "(IZ)V"⟩, 6), (⟨"CrossDock", "layOutPairs", "()V"⟩, 11), (⟨"CrossDock", "sortOrders", "()V"⟩, 11)]
theorem lw_r1 : ∀ q ∈ lw_privs_1, lw_okq q := List.forall_mem_cons.mpr ⟨lw_p0, List.forall_mem_cons.mpr ⟨lw_p1, List.forall_mem_cons.mpr ⟨lw_p2, List.forall_mem_cons.mpr ⟨lw_p3, List.forall_mem_cons.mpr ⟨lw_p4, List.forall_mem_cons.mpr ⟨lw_p5, List.forall_mem_cons.mpr ⟨lw_p6, List.forall_mem_cons.mpr ⟨lw_p7, List.forall_mem_cons.mpr ⟨lw_p8, List.forall_mem_cons.mpr ⟨lw_p9, List.forall_mem_cons.mpr ⟨lw_p10, List.forall_mem_cons.mpr ⟨lw_p11, List.forall_mem_cons.mpr ⟨lw_p12, List.forall_mem_cons.mpr ⟨lw_p13, List.forall_mem_cons.mpr ⟨lw_p14, List.forall_mem_cons.mpr ⟨lw_p15, fun _ h => absurd h List.not_mem_nil⟩⟩⟩⟩⟩⟩⟩⟩⟩⟩⟩⟩⟩⟩⟩⟩
theorem lw_p16 : lw_okq (⟨"CrossDock", "sortArrivals", "()V"⟩, 11) := ⟨⟨by decide +kernel, by decide +kernel⟩, List.mem_of_getElem? (i := 17) (by decide +kernel), List.mem_of_getElem? (i := 455) (by decide +kernel), List.mem_of_getElem? (i := 456) (by decide +kernel)⟩
theorem lw_p17 : lw_okq (⟨"CrossDock$Search", "addPair", "(II)V"⟩, 13) := ⟨⟨by decide +kernel, by decide +kernel⟩, List.mem_of_getElem? (i := 83) (by decide +kernel), List.mem_of_getElem? (i := 459) (by decide +kernel), List.mem_of_getElem? (i := 460) (by decide +kernel)⟩
theorem lw_p18 : lw_okq (⟨"CrossDock$Search", "lookAtAll", "(I)Z"⟩, 13) := ⟨⟨by decide +kernel, by decide +kernel⟩, List.mem_of_getElem? (i := 83) (by decide +kernel), List.mem_of_getElem? (i := 463) (by decide +kernel), List.mem_of_getElem? (i := 464) (by decide +kernel)⟩
theorem lw_p19 : lw_okq (⟨"CrossDock$Search", "putAllBack", "()V"⟩, 13) := ⟨⟨by decide +kernel, by decide +kernel⟩, List.mem_of_getElem? (i := 83) (by decide +kernel), List.mem_of_getElem? (i := 467) (by decide +kernel), List.mem_of_getElem? (i := 468) (by decide +kernel)⟩
theorem lw_p20 : lw_okq (⟨"CrossDock$Search", "greatest", "(I)I"⟩, 13) := ⟨⟨by decide +kernel, by decide +kernel⟩, List.mem_of_getElem? (i := 83) (by decide +kernel), List.mem_of_getElem? (i := 474) (by decide +kernel), List.mem_of_getElem? (i := 475) (by decide +kernel)⟩
theorem lw_p21 : lw_okq (⟨"CrossDock$Search", "backToUntried", "(I)I"⟩, 13) := ⟨⟨by decide +kernel, by decide +kernel⟩, List.mem_of_getElem? (i := 83) (by decide +kernel), List.mem_of_getElem? (i := 481) (by decide +kernel), List.mem_of_getElem? (i := 482) (by decide +kernel)⟩
theorem lw_p22 : lw_okq (⟨"CrossDock$Search", "putBack", "(I)V"⟩, 13) := ⟨⟨by decide +kernel, by decide +kernel⟩, List.mem_of_getElem? (i := 83) (by decide +kernel), List.mem_of_getElem? (i := 485) (by decide +kernel), List.mem_of_getElem? (i := 486) (by decide +kernel)⟩
theorem lw_p23 : lw_okq (⟨"CrossDock$Search", "touchesBy", "(I)I"⟩, 13) := ⟨⟨by decide +kernel, by decide +kernel⟩, List.mem_of_getElem? (i := 83) (by decide +kernel), List.mem_of_getElem? (i := 489) (by decide +kernel), List.mem_of_getElem? (i := 490) (by decide +kernel)⟩
theorem lw_p24 : lw_okq (⟨"CrossDock$Search", "take", "(II)V"⟩, 13) := ⟨⟨by decide +kernel, by decide +kernel⟩, List.mem_of_getElem? (i := 83) (by decide +kernel), List.mem_of_getElem? (i := 493) (by decide +kernel), List.mem_of_getElem? (i := 494) (by decide +kernel)⟩
theorem lw_p25 : lw_okq (⟨"CrossDock$Search", "chooseIfBetter", "()V"⟩, 13) := ⟨⟨by decide +kernel, by decide +kernel⟩, List.mem_of_getElem? (i := 83) (by decide +kernel), List.mem_of_getElem? (i := 497) (by decide +kernel), List.mem_of_getElem? (i := 498) (by decide +kernel)⟩
theorem lw_p26 : lw_okq (⟨"CrossDock$Search", "chooseByRule", "()V"⟩, 13) := ⟨⟨by decide +kernel, by decide +kernel⟩, List.mem_of_getElem? (i := 83) (by decide +kernel), List.mem_of_getElem? (i := 501) (by decide +kernel), List.mem_of_getElem? (i := 502) (by decide +kernel)⟩
theorem lw_p27 : lw_okq (⟨"CrossDock$Pairs", "replaceBy", "(LCrossDock$Search;)V"⟩, 4) := ⟨⟨by decide +kernel, by decide +kernel⟩, List.mem_of_getElem? (i := 139) (by decide +kernel), List.mem_of_getElem? (i := 505) (by decide +kernel), List.mem_of_getElem? (i := 506) (by decide +kernel)⟩
theorem lw_p28 : lw_okq (⟨"CrossDock$Pairs", "removeAt", "(I)V"⟩, 4) := ⟨⟨by decide +kernel, by decide +kernel⟩, List.mem_of_getElem? (i := 139) (by decide +kernel), List.mem_of_getElem? (i := 523) (by decide +kernel), List.mem_of_getElem? (i := 524) (by decide +kernel)⟩
theorem lw_p29 : lw_okq (⟨"CrossDock$Arrival", "moveTo", "(LCrossDock$Arrival;I)V"⟩, 6) := ⟨⟨by decide +kernel, by decide +kernel⟩, List.mem_of_getElem? (i := 26) (by decide +kernel), List.mem_of_getElem? (i := 535) (by decide +kernel), List.mem_of_getElem? (i := 536) (by decide +kernel)⟩
theorem lw_p30 : lw_okq (⟨"CrossDock", "isUnfit", "(II)Z"⟩, 11) := ⟨⟨by decide +kernel, by decide +kernel⟩, List.mem_of_getElem? (i := 17) (by decide +kernel), List.mem_of_getElem? (i := 547) (by decide +kernel), List.mem_of_getElem? (i := 548) (by decide +kernel)⟩
theorem lw_p31 : lw_okq (⟨"CrossDock", "whatBarsAll", "(I)I"⟩, 11) := ⟨⟨by decide +kernel, by decide +kernel⟩, List.mem_of_getElem? (i := 17) (by decide +kernel), List.mem_of_getElem? (i := 565) (by decide +kernel), List.mem_of_getElem? (i := 566) (by decide +kernel)⟩
def lw_privs_2 : List (MethodName × Nat) := [(⟨"CrossDock", "sortArrivals", "()V"⟩, 11), (⟨"CrossDock$Search", "addPair", "(II)V"⟩, 13), (⟨"CrossDock$Search", "lookAtAll", "(I)Z"⟩, 13), (⟨"CrossDock$Search", "putAllBack", "()V"⟩, 13), (⟨"CrossDock$Search", "greatest", "(I)I"⟩, 13), (⟨"CrossDock$Search", "backToUntried", "(I)I"⟩, 13), (⟨"CrossDock$Search", "putBack", "(I)V"⟩, 13), (⟨"CrossDock$Search", "touchesBy", "(I)I"⟩, 13), (⟨"CrossDock$Search", "take", "(II)V"⟩, 13), (⟨"CrossDock$Search", "chooseIfBetter", "()V"⟩, 13), (⟨"CrossDock$Search", "chooseByRule", "()V"⟩, 13), (⟨"CrossDock$Pairs", "replaceBy", "(LCrossDock$Search;)V"⟩, 4), (⟨"CrossDock$Pairs", "removeAt", "(I)V"⟩, 4), (⟨"CrossDock$Arrival", "moveTo", "(LCrossDock$Arrival;I)V"⟩, 6), (⟨"CrossDock", "isUnfit", "(II)Z"⟩, 11), (⟨"CrossDock", "whatBarsAll", "(I)I"⟩, 11)]
theorem lw_r2 : ∀ q ∈ lw_privs_2, lw_okq q := List.forall_mem_cons.mpr ⟨lw_p16, List.forall_mem_cons.mpr ⟨lw_p17, List.forall_mem_cons.mpr ⟨lw_p18, List.forall_mem_cons.mpr ⟨lw_p19, List.forall_mem_cons.mpr ⟨lw_p20, List.forall_mem_cons.mpr ⟨lw_p21, List.forall_mem_cons.mpr ⟨lw_p22, List.forall_mem_cons.mpr ⟨lw_p23, List.forall_mem_cons.mpr ⟨lw_p24, List.forall_mem_cons.mpr ⟨lw_p25, List.forall_mem_cons.mpr ⟨lw_p26, List.forall_mem_cons.mpr ⟨lw_p27, List.forall_mem_cons.mpr ⟨lw_p28, List.forall_mem_cons.mpr ⟨lw_p29, List.forall_mem_cons.mpr ⟨lw_p30, List.forall_mem_cons.mpr ⟨lw_p31, fun _ h => absurd h List.not_mem_nil⟩⟩⟩⟩⟩⟩⟩⟩⟩⟩⟩⟩⟩⟩⟩⟩
theorem lw_p32 : lw_okq (⟨"CrossDockModel", "isOrder", "(I)Z"⟩, 28) := ⟨⟨by decide +kernel, by decide +kernel⟩, List.mem_of_getElem? (i := 572) (by decide +kernel), List.mem_of_getElem? (i := 682) (by decide +kernel), List.mem_of_getElem? (i := 683) (by decide +kernel)⟩
theorem lw_p33 : lw_okq (⟨"CrossDockModel", "isArrival", "(I)Z"⟩, 28) := ⟨⟨by decide +kernel, by decide +kernel⟩, List.mem_of_getElem? (i := 572) (by decide +kernel), List.mem_of_getElem? (i := 690) (by decide +kernel), List.mem_of_getElem? (i := 691) (by decide +kernel)⟩
theorem lw_p34 : lw_okq (⟨"CrossDockModel", "held", "(I)I"⟩, 28) := ⟨⟨by decide +kernel, by decide +kernel⟩, List.mem_of_getElem? (i := 572) (by decide +kernel), List.mem_of_getElem? (i := 694) (by decide +kernel), List.mem_of_getElem? (i := 695) (by decide +kernel)⟩
theorem lw_p35 : lw_okq (⟨"CrossDockModel", "mayServe", "(II)Z"⟩, 28) := ⟨⟨by decide +kernel, by decide +kernel⟩, List.mem_of_getElem? (i := 572) (by decide +kernel), List.mem_of_getElem? (i := 702) (by decide +kernel), List.mem_of_getElem? (i := 703) (by decide +kernel)⟩
theorem lw_p36 : lw_okq (⟨"CrossDockModel", "passes", "(III)Z"⟩, 28) := ⟨⟨by decide +kernel, by decide +kernel⟩, List.mem_of_getElem? (i := 572) (by decide +kernel), List.mem_of_getElem? (i := 706) (by decide +kernel), List.mem_of_getElem? (i := 707) (by decide +kernel)⟩
theorem lw_p37 : lw_okq (⟨"CrossDockModel", "layOut", "()V"⟩, 28) := ⟨⟨by decide +kernel, by decide +kernel⟩, List.mem_of_getElem? (i := 572) (by decide +kernel), List.mem_of_getElem? (i := 718) (by decide +kernel), List.mem_of_getElem? (i := 719) (by decide +kernel)⟩
theorem lw_p38 : lw_okq (⟨"CrossDockModel", "orderAt", "(I)I"⟩, 28) := ⟨⟨by decide +kernel, by decide +kernel⟩, List.mem_of_getElem? (i := 572) (by decide +kernel), List.mem_of_getElem? (i := 722) (by decide +kernel), List.mem_of_getElem? (i := 723) (by decide +kernel)⟩
theorem lw_p39 : lw_okq (⟨"CrossDockModel", "isOrderBefore", "(II)Z"⟩, 28) := ⟨⟨by decide +kernel, by decide +kernel⟩, List.mem_of_getElem? (i := 572) (by decide +kernel), List.mem_of_getElem? (i := 726) (by decide +kernel), List.mem_of_getElem? (i := 727) (by decide +kernel)⟩
theorem lw_p40 : lw_okq (⟨"CrossDockModel", "arrivalAt", "(I)I"⟩, 28) := ⟨⟨by decide +kernel, by decide +kernel⟩, List.mem_of_getElem? (i := 572) (by decide +kernel), List.mem_of_getElem? (i := 730) (by decide +kernel), List.mem_of_getElem? (i := 731) (by decide +kernel)⟩
theorem lw_p41 : lw_okq (⟨"CrossDockModel", "isArrivalBefore", "(II)Z"⟩, 28) := ⟨⟨by decide +kernel, by decide +kernel⟩, List.mem_of_getElem? (i := 572) (by decide +kernel), List.mem_of_getElem? (i := 734) (by decide +kernel), List.mem_of_getElem? (i := 735) (by decide +kernel)⟩
theorem lw_p42 : lw_okq (⟨"CrossDockModel", "lookAtAll", "(I)Z"⟩, 28) := ⟨⟨by decide +kernel, by decide +kernel⟩, List.mem_of_getElem? (i := 572) (by decide +kernel), List.mem_of_getElem? (i := 738) (by decide +kernel), List.mem_of_getElem? (i := 739) (by decide +kernel)⟩
theorem lw_p43 : lw_okq (⟨"CrossDockModel", "greatest", "(I)I"⟩, 28) := ⟨⟨by decide +kernel, by decide +kernel⟩, List.mem_of_getElem? (i := 572) (by decide +kernel), List.mem_of_getElem? (i := 742) (by decide +kernel), List.mem_of_getElem? (i := 743) (by decide +kernel)⟩
theorem lw_p44 : lw_okq (⟨"CrossDockModel", "has", "(I)I"⟩, 28) := ⟨⟨by decide +kernel, by decide +kernel⟩, List.mem_of_getElem? (i := 572) (by decide +kernel), List.mem_of_getElem? (i := 746) (by decide +kernel), List.mem_of_getElem? (i := 747) (by decide +kernel)⟩
theorem lw_p45 : lw_okq (⟨"CrossDockModel", "worth", "()I"⟩, 28) := ⟨⟨by decide +kernel, by decide +kernel⟩, List.mem_of_getElem? (i := 572) (by decide +kernel), List.mem_of_getElem? (i := 750) (by decide +kernel), List.mem_of_getElem? (i := 751) (by decide +kernel)⟩
theorem lw_p46 : lw_okq (⟨"CrossDockModel", "byRule", "()V"⟩, 28) := ⟨⟨by decide +kernel, by decide +kernel⟩, List.mem_of_getElem? (i := 572) (by decide +kernel), List.mem_of_getElem? (i := 754) (by decide +kernel), List.mem_of_getElem? (i := 755) (by decide +kernel)⟩
theorem lw_p47 : lw_okq (⟨"CrossDockModel", "savedNow", "()I"⟩, 28) := ⟨⟨by decide +kernel, by decide +kernel⟩, List.mem_of_getElem? (i := 572) (by decide +kernel), List.mem_of_getElem? (i := 758) (by decide +kernel), List.mem_of_getElem? (i := 759) (by decide +kernel)⟩
def lw_privs_3 : List (MethodName × Nat) := [(⟨"CrossDockModel", "isOrder", "(I)Z"⟩, 28), (⟨"CrossDockModel", "isArrival", "(I)Z"⟩, 28), (⟨"CrossDockModel", "held", "(I)I"⟩, 28), (⟨"CrossDockModel", "mayServe", "(II)Z"⟩, 28), (⟨"CrossDockModel", "passes", "(III)Z"⟩, 28), (⟨"CrossDockModel", "layOut", "()V"⟩, 28), (⟨"CrossDockModel", "orderAt", "(I)I"⟩, 28), (⟨"CrossDockModel", "isOrderBefore", "(II)Z"⟩, 28), (⟨"CrossDockModel", "arrivalAt", "(I)I"⟩, 28), (⟨"CrossDockModel", "isArrivalBefore", "(II)Z"⟩, 28), (⟨"CrossDockModel", "lookAtAll", "(I)Z"⟩, 28), (⟨"CrossDockModel", "greatest", "(I)I"⟩, 28), (⟨"CrossDockModel", "has", "(I)I"⟩, 28), (⟨"CrossDockModel", "worth", "()I"⟩, 28), (⟨"CrossDockModel", "byRule", "()V"⟩, 28), (⟨"CrossDockModel", "savedNow", "()I"⟩, 28)]
theorem lw_r3 : ∀ q ∈ lw_privs_3, lw_okq q := List.forall_mem_cons.mpr ⟨lw_p32, List.forall_mem_cons.mpr ⟨lw_p33, List.forall_mem_cons.mpr ⟨lw_p34, List.forall_mem_cons.mpr ⟨lw_p35, List.forall_mem_cons.mpr ⟨lw_p36, List.forall_mem_cons.mpr ⟨lw_p37, List.forall_mem_cons.mpr ⟨lw_p38, List.forall_mem_cons.mpr ⟨lw_p39, List.forall_mem_cons.mpr ⟨lw_p40, List.forall_mem_cons.mpr ⟨lw_p41, List.forall_mem_cons.mpr ⟨lw_p42, List.forall_mem_cons.mpr ⟨lw_p43, List.forall_mem_cons.mpr ⟨lw_p44, List.forall_mem_cons.mpr ⟨lw_p45, List.forall_mem_cons.mpr ⟨lw_p46, List.forall_mem_cons.mpr ⟨lw_p47, fun _ h => absurd h List.not_mem_nil⟩⟩⟩⟩⟩⟩⟩⟩⟩⟩⟩⟩⟩⟩⟩⟩
theorem lw_p48 : lw_okq (⟨"CrossDockModel", "hasGot", "(I)I"⟩, 28) := ⟨⟨by decide +kernel, by decide +kernel⟩, List.mem_of_getElem? (i := 572) (by decide +kernel), List.mem_of_getElem? (i := 762) (by decide +kernel), List.mem_of_getElem? (i := 763) (by decide +kernel)⟩
theorem lw_p49 : lw_okq (⟨"CrossDockModel", "drop", "(I)V"⟩, 28) := ⟨⟨by decide +kernel, by decide +kernel⟩, List.mem_of_getElem? (i := 572) (by decide +kernel), List.mem_of_getElem? (i := 786) (by decide +kernel), List.mem_of_getElem? (i := 787) (by decide +kernel)⟩
theorem lw_p50 : lw_okq (⟨"CrossDockModel", "passing", "(II)I"⟩, 28) := ⟨⟨by decide +kernel, by decide +kernel⟩, List.mem_of_getElem? (i := 572) (by decide +kernel), List.mem_of_getElem? (i := 806) (by decide +kernel), List.mem_of_getElem? (i := 807) (by decide +kernel)⟩
def lw_privs_4 : List (MethodName × Nat) := [(⟨"CrossDockModel", "hasGot", "(I)I"⟩, 28), (⟨"CrossDockModel", "drop", "(I)V"⟩, 28), (⟨"CrossDockModel", "passing", "(II)I"⟩, 28)]
theorem lw_r4 : ∀ q ∈ lw_privs_4, lw_okq q := List.forall_mem_cons.mpr ⟨lw_p48, List.forall_mem_cons.mpr ⟨lw_p49, List.forall_mem_cons.mpr ⟨lw_p50, fun _ h => absurd h List.not_mem_nil⟩⟩⟩
def lw_privs : List (MethodName × Nat) := lw_privs_1 ++ (lw_privs_2 ++ (lw_privs_3 ++ (lw_privs_4)))
def lw_tbl : List Cond := k2_sels lw_privs ++ tables_1
theorem lw_privs_ok : ∀ q ∈ lw_privs, lw_okq q := by
  show ∀ q ∈ lw_privs_1 ++ (lw_privs_2 ++ (lw_privs_3 ++ (lw_privs_4))), lw_okq q
  exact List.forall_mem_append.mpr ⟨lw_r1, List.forall_mem_append.mpr ⟨lw_r2, List.forall_mem_append.mpr ⟨lw_r3, lw_r4⟩⟩⟩
end
section
/-! names: fields, classes, methods, words (printed by wip/whole/names.py) -/
def T_D : u_T := fun k => match k with
  | 0 => ("CrossDock", "arrivals", "[LCrossDock$Arrival;", true)
  | 1 => ("CrossDock", "orders", "[LCrossDock$Order;", true)
  | 2 => ("CrossDock", "laneFull", "[Z", true)
  | 3 => ("CrossDock", "ordersByRank", "[I", true)
  | 4 => ("CrossDock", "arrivalsByTime", "[I", true)
  | 5 => ("CrossDock", "search", "LCrossDock$Search;", true)
  | 6 => ("CrossDock", "pairs", "LCrossDock$Pairs;", true)
  | 7 => ("CrossDock", "arrivalCount", "I", false)
  | 8 => ("CrossDock", "orderCount", "I", false)
  | 9 => ("CrossDock", "latestExact", "Z", false)
  | _ => ("CrossDock", "latestSteps", "I", false)
def ty_D : Nat → FieldType := fun k => match k with
  | 0 => .array (.object "CrossDock$Arrival")
  | 1 => .array (.object "CrossDock$Order")
  | 2 => .array .boolean
  | 3 => .array .int
  | 4 => .array .int
  | 5 => .object "CrossDock$Search"
  | 6 => .object "CrossDock$Pairs"
  | 7 => .int
  | 8 => .int
  | 9 => .boolean
  | _ => .int
theorem nm_D : ∀ a, a < 11 → ∀ b, b < 11 → a ≠ b → (T_D a).2.1 ≠ (T_D b).2.1 := by decide +kernel
theorem ty_D_ok : ∀ k, k < 11 → parseFieldDescriptor (T_D k).2.2.1 = some (ty_D k) := by decide +kernel
theorem in_D : ∀ w ∈ u_ws "CrossDock" T_D 11, w ∈ lw_tbl := by decide +kernel
def T_A : u_T := fun k => match k with
  | 0 => ("CrossDock$Arrival", "good", "I", false)
  | 1 => ("CrossDock$Arrival", "lot", "I", false)
  | 2 => ("CrossDock$Arrival", "time", "I", false)
  | 3 => ("CrossDock$Arrival", "pallets", "I", false)
  | 4 => ("CrossDock$Arrival", "kept", "I", false)
  | _ => ("CrossDock$Arrival", "barredOrders", "I", false)
def ty_A : Nat → FieldType := fun k => match k with
  | 0 => .int
  | 1 => .int
  | 2 => .int
  | 3 => .int
  | 4 => .int
  | _ => .int
theorem nm_A : ∀ a, a < 6 → ∀ b, b < 6 → a ≠ b → (T_A a).2.1 ≠ (T_A b).2.1 := by decide +kernel
theorem ty_A_ok : ∀ k, k < 6 → parseFieldDescriptor (T_A k).2.2.1 = some (ty_A k) := by decide +kernel
theorem in_A : ∀ w ∈ u_ws "CrossDock$Arrival" T_A 6, w ∈ lw_tbl := by decide +kernel
def T_O : u_T := fun k => match k with
  | 0 => ("CrossDock$Order", "good", "I", false)
  | 1 => ("CrossDock$Order", "pallets", "I", false)
  | 2 => ("CrossDock$Order", "rank", "I", false)
  | 3 => ("CrossDock$Order", "lane", "I", false)
  | 4 => ("CrossDock$Order", "due", "I", false)
  | _ => ("CrossDock$Order", "lots", "I", false)
def ty_O : Nat → FieldType := fun k => match k with
  | 0 => .int
  | 1 => .int
  | 2 => .int
  | 3 => .int
  | 4 => .int
  | _ => .int
theorem nm_O : ∀ a, a < 6 → ∀ b, b < 6 → a ≠ b → (T_O a).2.1 ≠ (T_O b).2.1 := by decide +kernel
theorem ty_O_ok : ∀ k, k < 6 → parseFieldDescriptor (T_O k).2.2.1 = some (ty_O k) := by decide +kernel
theorem in_O : ∀ w ∈ u_ws "CrossDock$Order" T_O 6, w ∈ lw_tbl := by decide +kernel
def T_P : u_T := fun k => match k with
  | 0 => ("CrossDock$Pairs", "arrivalOf", "[I", true)
  | 1 => ("CrossDock$Pairs", "orderOf", "[I", true)
  | 2 => ("CrossDock$Pairs", "palletsIn", "[I", true)
  | _ => ("CrossDock$Pairs", "size", "I", false)
def ty_P : Nat → FieldType := fun k => match k with
  | 0 => .array .int
  | 1 => .array .int
  | 2 => .array .int
  | _ => .int
theorem nm_P : ∀ a, a < 4 → ∀ b, b < 4 → a ≠ b → (T_P a).2.1 ≠ (T_P b).2.1 := by decide +kernel
theorem ty_P_ok : ∀ k, k < 4 → parseFieldDescriptor (T_P k).2.2.1 = some (ty_P k) := by decide +kernel
theorem in_P : ∀ w ∈ u_ws "CrossDock$Pairs" T_P 4, w ∈ lw_tbl := by decide +kernel
def T_S : u_T := fun k => match k with
  | 0 => ("CrossDock$Search", "arrivalOf", "[I", true)
  | 1 => ("CrossDock$Search", "orderOf", "[I", true)
  | 2 => ("CrossDock$Search", "give", "[I", true)
  | 3 => ("CrossDock$Search", "want", "[I", true)
  | 4 => ("CrossDock$Search", "giveLeft", "[I", true)
  | 5 => ("CrossDock$Search", "wantLeft", "[I", true)
  | 6 => ("CrossDock$Search", "taken", "[I", true)
  | 7 => ("CrossDock$Search", "untried", "[I", true)
  | 8 => ("CrossDock$Search", "chosen", "[I", true)
  | 9 => ("CrossDock$Search", "size", "I", false)
  | 10 => ("CrossDock$Search", "touches", "I", false)
  | 11 => ("CrossDock$Search", "mostTouches", "I", false)
  | _ => ("CrossDock$Search", "used", "I", false)
def ty_S : Nat → FieldType := fun k => match k with
  | 0 => .array .int
  | 1 => .array .int
  | 2 => .array .int
  | 3 => .array .int
  | 4 => .array .int
  | 5 => .array .int
  | 6 => .array .int
  | 7 => .array .int
  | 8 => .array .int
  | 9 => .int
  | 10 => .int
  | 11 => .int
  | _ => .int
theorem nm_S : ∀ a, a < 13 → ∀ b, b < 13 → a ≠ b → (T_S a).2.1 ≠ (T_S b).2.1 := by decide +kernel
theorem ty_S_ok : ∀ k, k < 13 → parseFieldDescriptor (T_S k).2.2.1 = some (ty_S k) := by decide +kernel
theorem in_S : ∀ w ∈ u_ws "CrossDock$Search" T_S 13, w ∈ lw_tbl := by decide +kernel
def T_M : u_T := fun k => match k with
  | 0 => ("CrossDockModel", "code", "I", false)
  | 1 => ("CrossDockModel", "arrivals", "I", false)
  | 2 => ("CrossDockModel", "good", "[I", true)
  | 3 => ("CrossDockModel", "lot", "[I", true)
  | 4 => ("CrossDockModel", "time", "[I", true)
  | 5 => ("CrossDockModel", "pallets", "[I", true)
  | 6 => ("CrossDockModel", "promise", "[I", true)
  | 7 => ("CrossDockModel", "orders", "I", false)
  | 8 => ("CrossDockModel", "wish", "[I", true)
  | 9 => ("CrossDockModel", "many", "[I", true)
  | 10 => ("CrossDockModel", "rank", "[I", true)
  | 11 => ("CrossDockModel", "lane", "[I", true)
  | 12 => ("CrossDockModel", "due", "[I", true)
  | 13 => ("CrossDockModel", "lots", "[I", true)
  | 14 => ("CrossDockModel", "bars", "[Z", true)
  | 15 => ("CrossDockModel", "isFull", "[Z", true)
  | 16 => ("CrossDockModel", "pairs", "I", false)
  | 17 => ("CrossDockModel", "pairArrival", "[I", true)
  | 18 => ("CrossDockModel", "pairOrder", "[I", true)
  | 19 => ("CrossDockModel", "pairMany", "[I", true)
  | 20 => ("CrossDockModel", "exact", "Z", false)
  | 21 => ("CrossDockModel", "steps", "I", false)
  | 22 => ("CrossDockModel", "places", "I", false)
  | 23 => ("CrossDockModel", "from", "[I", true)
  | 24 => ("CrossDockModel", "to", "[I", true)
  | 25 => ("CrossDockModel", "plan", "[I", true)
  | 26 => ("CrossDockModel", "best", "[I", true)
  | _ => ("CrossDockModel", "got", "[I", true)
def ty_M : Nat → FieldType := fun k => match k with
  | 0 => .int
  | 1 => .int
  | 2 => .array .int
  | 3 => .array .int
  | 4 => .array .int
  | 5 => .array .int
  | 6 => .array .int
  | 7 => .int
  | 8 => .array .int
  | 9 => .array .int
  | 10 => .array .int
  | 11 => .array .int
  | 12 => .array .int
  | 13 => .array .int
  | 14 => .array .boolean
  | 15 => .array .boolean
  | 16 => .int
  | 17 => .array .int
  | 18 => .array .int
  | 19 => .array .int
  | 20 => .boolean
  | 21 => .int
  | 22 => .int
  | 23 => .array .int
  | 24 => .array .int
  | 25 => .array .int
  | 26 => .array .int
  | _ => .array .int
theorem nm_M : ∀ a, a < 28 → ∀ b, b < 28 → a ≠ b → (T_M a).2.1 ≠ (T_M b).2.1 := by decide +kernel
theorem ty_M_ok : ∀ k, k < 28 → parseFieldDescriptor (T_M k).2.2.1 = some (ty_M k) := by decide +kernel
theorem in_M : ∀ w ∈ u_ws "CrossDockModel" T_M 28, w ∈ lw_tbl := by decide +kernel
abbrev xcl : List vw_C := [("CrossDock", T_D, 11), ("CrossDock$Arrival", T_A, 6), ("CrossDock$Order", T_O, 6), ("CrossDock$Pairs", T_P, 4), ("CrossDock$Search", T_S, 13), ("CrossDockModel", T_M, 28)]
abbrev b_D_init : ByteArray := prog_1_method_1_code
abbrev y_D_init : MethodName := ⟨"CrossDock", "<init>", "()V"⟩
abbrev b_A_init : ByteArray := prog_2_method_1_code
abbrev y_A_init : MethodName := ⟨"CrossDock$Arrival", "<init>", "()V"⟩
abbrev b_O_init : ByteArray := prog_3_method_1_code
abbrev y_O_init : MethodName := ⟨"CrossDock$Order", "<init>", "()V"⟩
abbrev b_S_init : ByteArray := prog_5_method_1_code
abbrev y_S_init : MethodName := ⟨"CrossDock$Search", "<init>", "()V"⟩
abbrev b_P_init : ByteArray := prog_4_method_1_code
abbrev y_P_init : MethodName := ⟨"CrossDock$Pairs", "<init>", "()V"⟩
abbrev b_D_exact : ByteArray := prog_1_method_9_code
abbrev y_D_exact : MethodName := ⟨"CrossDock", "exact", "()Z"⟩
abbrev b_D_bound : ByteArray := prog_1_method_10_code
abbrev y_D_bound : MethodName := ⟨"CrossDock", "bound", "()I"⟩
abbrev b_D_arrivalsFor : ByteArray := prog_1_method_28_code
abbrev y_D_arrivalsFor : MethodName := ⟨"CrossDock", "arrivalsFor", "(I)I"⟩
abbrev b_D_mayServe : ByteArray := prog_1_method_24_code
abbrev y_D_mayServe : MethodName := ⟨"CrossDock", "mayServe", "(II)Z"⟩
abbrev b_D_obstacle : ByteArray := prog_1_method_23_code
abbrev y_D_obstacle : MethodName := ⟨"CrossDock", "obstacle", "(II)I"⟩
abbrev b_O_takesLot : ByteArray := prog_3_method_2_code
abbrev y_O_takesLot : MethodName := ⟨"CrossDock$Order", "takesLot", "(I)Z"⟩
abbrev b_A_isBarredFor : ByteArray := prog_2_method_3_code
abbrev y_A_isBarredFor : MethodName := ⟨"CrossDock$Arrival", "isBarredFor", "(I)Z"⟩
abbrev b_D_ordersFor : ByteArray := prog_1_method_27_code
abbrev y_D_ordersFor : MethodName := ⟨"CrossDock", "ordersFor", "(I)I"⟩
abbrev b_D_steps : ByteArray := prog_1_method_11_code
abbrev y_D_steps : MethodName := ⟨"CrossDock", "steps", "()I"⟩
abbrev b_D_saved : ByteArray := prog_1_method_18_code
abbrev y_D_saved : MethodName := ⟨"CrossDock", "saved", "()I"⟩
abbrev b_D_touchesSaved : ByteArray := prog_1_method_30_code
abbrev y_D_touchesSaved : MethodName := ⟨"CrossDock", "touchesSaved", "()I"⟩
abbrev b_P_palletsInAll : ByteArray := prog_4_method_6_code
abbrev y_P_palletsInAll : MethodName := ⟨"CrossDock$Pairs", "palletsInAll", "()I"⟩
abbrev b_P_palletsFor : ByteArray := prog_4_method_5_code
abbrev y_P_palletsFor : MethodName := ⟨"CrossDock$Pairs", "palletsFor", "(I)I"⟩
abbrev b_A_toGive : ByteArray := prog_2_method_2_code
abbrev y_A_toGive : MethodName := ⟨"CrossDock$Arrival", "toGive", "()I"⟩
abbrev b_D_count : ByteArray := prog_1_method_19_code
abbrev y_D_count : MethodName := ⟨"CrossDock", "count", "(I)I"⟩
abbrev b_D_fullLanes : ByteArray := prog_1_method_29_code
abbrev y_D_fullLanes : MethodName := ⟨"CrossDock", "fullLanes", "()I"⟩
abbrev b_L_arrive : ByteArray := method_3_code
abbrev y_L_arrive : MethodName := ⟨"CrossDockLaw", "arrive", "(LCrossDock;IIII[J)I"⟩
abbrev b_D_arrive : ByteArray := prog_1_method_2_code
abbrev y_D_arrive : MethodName := ⟨"CrossDock", "arrive", "(IIII)I"⟩
abbrev b_D_checkRange : ByteArray := prog_1_method_21_code
abbrev y_D_checkRange : MethodName := ⟨"CrossDock", "checkRange", "(III)V"⟩
abbrev b_D_checkRoom : ByteArray := prog_1_method_22_code
abbrev y_D_checkRoom : MethodName := ⟨"CrossDock", "checkRoom", "(II)V"⟩
abbrev b_L_order : ByteArray := method_4_code
abbrev y_L_order : MethodName := ⟨"CrossDockLaw", "order", "(LCrossDock;IIII[J)I"⟩
abbrev b_D_order : ByteArray := prog_1_method_3_code
abbrev y_D_order : MethodName := ⟨"CrossDock", "order", "(IIII)I"⟩
abbrev b_L_wants : ByteArray := method_5_code
abbrev y_L_wants : MethodName := ⟨"CrossDockLaw", "wants", "(LCrossDock;III)I"⟩
abbrev b_D_wants : ByteArray := prog_1_method_4_code
abbrev y_D_wants : MethodName := ⟨"CrossDock", "wants", "(III)V"⟩
abbrev b_D_checkThere : ByteArray := prog_1_method_20_code
abbrev y_D_checkThere : MethodName := ⟨"CrossDock", "checkThere", "(II)V"⟩
abbrev b_L_promised : ByteArray := method_6_code
abbrev y_L_promised : MethodName := ⟨"CrossDockLaw", "promised", "(LCrossDock;II)I"⟩
abbrev b_D_promised : ByteArray := prog_1_method_5_code
abbrev y_D_promised : MethodName := ⟨"CrossDock", "promised", "(II)V"⟩
abbrev b_P_palletsOf : ByteArray := prog_4_method_4_code
abbrev y_P_palletsOf : MethodName := ⟨"CrossDock$Pairs", "palletsOf", "(I)I"⟩
abbrev b_L_rule : ByteArray := method_7_code
abbrev y_L_rule : MethodName := ⟨"CrossDockLaw", "rule", "(LCrossDock;IIZ[J)I"⟩
abbrev b_D_rule : ByteArray := prog_1_method_6_code
abbrev y_D_rule : MethodName := ⟨"CrossDock", "rule", "(IIZ)Z"⟩
abbrev b_A_setBarred : ByteArray := prog_2_method_4_code
abbrev y_A_setBarred : MethodName := ⟨"CrossDock$Arrival", "setBarred", "(IZ)V"⟩
abbrev b_L_full : ByteArray := method_8_code
abbrev y_L_full : MethodName := ⟨"CrossDockLaw", "full", "(LCrossDock;IZ[J)I"⟩
abbrev b_D_full : ByteArray := prog_1_method_7_code
abbrev y_D_full : MethodName := ⟨"CrossDock", "full", "(IZ)I"⟩
abbrev b_L_match : ByteArray := method_9_code
abbrev y_L_match : MethodName := ⟨"CrossDockLaw", "match", "(LCrossDock;I[J)I"⟩
abbrev b_D_match : ByteArray := prog_1_method_8_code
abbrev y_D_match : MethodName := ⟨"CrossDock", "match", "(I)I"⟩
abbrev b_D_layOutPairs : ByteArray := prog_1_method_31_code
abbrev y_D_layOutPairs : MethodName := ⟨"CrossDock", "layOutPairs", "()V"⟩
abbrev b_D_sortOrders : ByteArray := prog_1_method_32_code
abbrev y_D_sortOrders : MethodName := ⟨"CrossDock", "sortOrders", "()V"⟩
abbrev b_D_sortArrivals : ByteArray := prog_1_method_33_code
abbrev y_D_sortArrivals : MethodName := ⟨"CrossDock", "sortArrivals", "()V"⟩
abbrev b_S_addPair : ByteArray := prog_5_method_2_code
abbrev y_S_addPair : MethodName := ⟨"CrossDock$Search", "addPair", "(II)V"⟩
abbrev b_S_lookAtAll : ByteArray := prog_5_method_3_code
abbrev y_S_lookAtAll : MethodName := ⟨"CrossDock$Search", "lookAtAll", "(I)Z"⟩
abbrev b_S_putAllBack : ByteArray := prog_5_method_5_code
abbrev y_S_putAllBack : MethodName := ⟨"CrossDock$Search", "putAllBack", "()V"⟩
abbrev b_S_greatest : ByteArray := prog_5_method_6_code
abbrev y_S_greatest : MethodName := ⟨"CrossDock$Search", "greatest", "(I)I"⟩
abbrev b_S_backToUntried : ByteArray := prog_5_method_7_code
abbrev y_S_backToUntried : MethodName := ⟨"CrossDock$Search", "backToUntried", "(I)I"⟩
abbrev b_S_putBack : ByteArray := prog_5_method_9_code
abbrev y_S_putBack : MethodName := ⟨"CrossDock$Search", "putBack", "(I)V"⟩
abbrev b_S_touchesBy : ByteArray := prog_5_method_10_code
abbrev y_S_touchesBy : MethodName := ⟨"CrossDock$Search", "touchesBy", "(I)I"⟩
abbrev b_S_take : ByteArray := prog_5_method_8_code
abbrev y_S_take : MethodName := ⟨"CrossDock$Search", "take", "(II)V"⟩
abbrev b_S_chooseIfBetter : ByteArray := prog_5_method_11_code
abbrev y_S_chooseIfBetter : MethodName := ⟨"CrossDock$Search", "chooseIfBetter", "()V"⟩
abbrev b_S_chooseByRule : ByteArray := prog_5_method_4_code
abbrev y_S_chooseByRule : MethodName := ⟨"CrossDock$Search", "chooseByRule", "()V"⟩
abbrev b_P_replaceBy : ByteArray := prog_4_method_2_code
abbrev y_P_replaceBy : MethodName := ⟨"CrossDock$Pairs", "replaceBy", "(LCrossDock$Search;)V"⟩
abbrev b_L_pair : ByteArray := method_10_code
abbrev y_L_pair : MethodName := ⟨"CrossDockLaw", "pair", "(LCrossDock;II[J)I"⟩
abbrev b_D_pair : ByteArray := prog_1_method_12_code
abbrev y_D_pair : MethodName := ⟨"CrossDock", "pair", "(II)I"⟩
abbrev b_L_undo : ByteArray := method_11_code
abbrev y_L_undo : MethodName := ⟨"CrossDockLaw", "undo", "(LCrossDock;I[J)I"⟩
abbrev b_D_undo : ByteArray := prog_1_method_13_code
abbrev y_D_undo : MethodName := ⟨"CrossDock", "undo", "(I)I"⟩
abbrev b_P_removeAt : ByteArray := prog_4_method_3_code
abbrev y_P_removeAt : MethodName := ⟨"CrossDock$Pairs", "removeAt", "(I)V"⟩
abbrev b_L_split : ByteArray := method_12_code
abbrev y_L_split : MethodName := ⟨"CrossDockLaw", "split", "(LCrossDock;II[J)I"⟩
abbrev b_D_split : ByteArray := prog_1_method_14_code
abbrev y_D_split : MethodName := ⟨"CrossDock", "split", "(II)I"⟩
abbrev b_A_moveTo : ByteArray := prog_2_method_5_code
abbrev y_A_moveTo : MethodName := ⟨"CrossDock$Arrival", "moveTo", "(LCrossDock$Arrival;I)V"⟩
abbrev b_L_late : ByteArray := method_13_code
abbrev y_L_late : MethodName := ⟨"CrossDockLaw", "late", "(LCrossDock;II[J)I"⟩
abbrev b_D_late : ByteArray := prog_1_method_15_code
abbrev y_D_late : MethodName := ⟨"CrossDock", "late", "(II)I"⟩
abbrev b_D_isUnfit : ByteArray := prog_1_method_25_code
abbrev y_D_isUnfit : MethodName := ⟨"CrossDock", "isUnfit", "(II)Z"⟩
abbrev b_L_arrival : ByteArray := method_14_code
abbrev y_L_arrival : MethodName := ⟨"CrossDockLaw", "arrival", "(LCrossDock;II[J)I"⟩
abbrev b_D_arrival : ByteArray := prog_1_method_16_code
abbrev y_D_arrival : MethodName := ⟨"CrossDock", "arrival", "(II)I"⟩
abbrev b_L_wanted : ByteArray := method_15_code
abbrev y_L_wanted : MethodName := ⟨"CrossDockLaw", "wanted", "(LCrossDock;II[J)I"⟩
abbrev b_D_wanted : ByteArray := prog_1_method_17_code
abbrev y_D_wanted : MethodName := ⟨"CrossDock", "wanted", "(II)I"⟩
abbrev b_D_whatBarsAll : ByteArray := prog_1_method_26_code
abbrev y_D_whatBarsAll : MethodName := ⟨"CrossDock", "whatBarsAll", "(I)I"⟩
abbrev b_M_init : ByteArray := prog_7_method_1_code
abbrev y_M_init : MethodName := ⟨"CrossDockModel", "<init>", "()V"⟩
abbrev b_M_thrown : ByteArray := prog_7_method_2_code
abbrev y_M_thrown : MethodName := ⟨"CrossDockModel", "thrown", "()I"⟩
abbrev b_M_arrive : ByteArray := prog_7_method_6_code
abbrev y_M_arrive : MethodName := ⟨"CrossDockModel", "arrive", "(IIII)I"⟩
abbrev b_M_in : ByteArray := prog_7_method_3_code
abbrev y_M_in : MethodName := ⟨"CrossDockModel", "in", "(III)Z"⟩
abbrev b_M_order : ByteArray := prog_7_method_7_code
abbrev y_M_order : MethodName := ⟨"CrossDockModel", "order", "(IIII)I"⟩
abbrev b_M_wants : ByteArray := prog_7_method_8_code
abbrev y_M_wants : MethodName := ⟨"CrossDockModel", "wants", "(III)V"⟩
abbrev b_M_isOrder : ByteArray := prog_7_method_5_code
abbrev y_M_isOrder : MethodName := ⟨"CrossDockModel", "isOrder", "(I)Z"⟩
abbrev b_M_promised : ByteArray := prog_7_method_11_code
abbrev y_M_promised : MethodName := ⟨"CrossDockModel", "promised", "(II)V"⟩
abbrev b_M_isArrival : ByteArray := prog_7_method_4_code
abbrev y_M_isArrival : MethodName := ⟨"CrossDockModel", "isArrival", "(I)Z"⟩
abbrev b_M_held : ByteArray := prog_7_method_9_code
abbrev y_M_held : MethodName := ⟨"CrossDockModel", "held", "(I)I"⟩
abbrev b_M_rule : ByteArray := prog_7_method_14_code
abbrev y_M_rule : MethodName := ⟨"CrossDockModel", "rule", "(IIZ)Z"⟩
abbrev b_M_mayServe : ByteArray := prog_7_method_13_code
abbrev y_M_mayServe : MethodName := ⟨"CrossDockModel", "mayServe", "(II)Z"⟩
abbrev b_M_passes : ByteArray := prog_7_method_12_code
abbrev y_M_passes : MethodName := ⟨"CrossDockModel", "passes", "(III)Z"⟩
abbrev b_M_full : ByteArray := prog_7_method_15_code
abbrev y_M_full : MethodName := ⟨"CrossDockModel", "full", "(IZ)I"⟩
abbrev b_M_match : ByteArray := prog_7_method_26_code
abbrev y_M_match : MethodName := ⟨"CrossDockModel", "match", "(I)I"⟩
abbrev b_M_layOut : ByteArray := prog_7_method_20_code
abbrev y_M_layOut : MethodName := ⟨"CrossDockModel", "layOut", "()V"⟩
abbrev b_M_orderAt : ByteArray := prog_7_method_18_code
abbrev y_M_orderAt : MethodName := ⟨"CrossDockModel", "orderAt", "(I)I"⟩
abbrev b_M_isOrderBefore : ByteArray := prog_7_method_16_code
abbrev y_M_isOrderBefore : MethodName := ⟨"CrossDockModel", "isOrderBefore", "(II)Z"⟩
abbrev b_M_arrivalAt : ByteArray := prog_7_method_19_code
abbrev y_M_arrivalAt : MethodName := ⟨"CrossDockModel", "arrivalAt", "(I)I"⟩
abbrev b_M_isArrivalBefore : ByteArray := prog_7_method_17_code
abbrev y_M_isArrivalBefore : MethodName := ⟨"CrossDockModel", "isArrivalBefore", "(II)Z"⟩
abbrev b_M_lookAtAll : ByteArray := prog_7_method_24_code
abbrev y_M_lookAtAll : MethodName := ⟨"CrossDockModel", "lookAtAll", "(I)Z"⟩
abbrev b_M_greatest : ByteArray := prog_7_method_22_code
abbrev y_M_greatest : MethodName := ⟨"CrossDockModel", "greatest", "(I)I"⟩
abbrev b_M_has : ByteArray := prog_7_method_21_code
abbrev y_M_has : MethodName := ⟨"CrossDockModel", "has", "(I)I"⟩
abbrev b_M_worth : ByteArray := prog_7_method_23_code
abbrev y_M_worth : MethodName := ⟨"CrossDockModel", "worth", "()I"⟩
abbrev b_M_byRule : ByteArray := prog_7_method_25_code
abbrev y_M_byRule : MethodName := ⟨"CrossDockModel", "byRule", "()V"⟩
abbrev b_M_savedNow : ByteArray := prog_7_method_30_code
abbrev y_M_savedNow : MethodName := ⟨"CrossDockModel", "savedNow", "()I"⟩
abbrev b_M_hasGot : ByteArray := prog_7_method_10_code
abbrev y_M_hasGot : MethodName := ⟨"CrossDockModel", "hasGot", "(I)I"⟩
abbrev b_M_exact : ByteArray := prog_7_method_27_code
abbrev y_M_exact : MethodName := ⟨"CrossDockModel", "exact", "()Z"⟩
abbrev b_M_bound : ByteArray := prog_7_method_28_code
abbrev y_M_bound : MethodName := ⟨"CrossDockModel", "bound", "()I"⟩
abbrev b_M_steps : ByteArray := prog_7_method_29_code
abbrev y_M_steps : MethodName := ⟨"CrossDockModel", "steps", "()I"⟩
abbrev b_M_pair : ByteArray := prog_7_method_31_code
abbrev y_M_pair : MethodName := ⟨"CrossDockModel", "pair", "(II)I"⟩
abbrev b_M_undo : ByteArray := prog_7_method_33_code
abbrev y_M_undo : MethodName := ⟨"CrossDockModel", "undo", "(I)I"⟩
abbrev b_M_drop : ByteArray := prog_7_method_32_code
abbrev y_M_drop : MethodName := ⟨"CrossDockModel", "drop", "(I)V"⟩
abbrev b_M_split : ByteArray := prog_7_method_34_code
abbrev y_M_split : MethodName := ⟨"CrossDockModel", "split", "(II)I"⟩
abbrev b_M_late : ByteArray := prog_7_method_35_code
abbrev y_M_late : MethodName := ⟨"CrossDockModel", "late", "(II)I"⟩
abbrev b_M_arrival : ByteArray := prog_7_method_36_code
abbrev y_M_arrival : MethodName := ⟨"CrossDockModel", "arrival", "(II)I"⟩
abbrev b_M_wanted : ByteArray := prog_7_method_38_code
abbrev y_M_wanted : MethodName := ⟨"CrossDockModel", "wanted", "(II)I"⟩
abbrev b_M_passing : ByteArray := prog_7_method_37_code
abbrev y_M_passing : MethodName := ⟨"CrossDockModel", "passing", "(II)I"⟩
abbrev b_M_saved : ByteArray := prog_7_method_39_code
abbrev y_M_saved : MethodName := ⟨"CrossDockModel", "saved", "()I"⟩
abbrev b_M_count : ByteArray := prog_7_method_40_code
abbrev y_M_count : MethodName := ⟨"CrossDockModel", "count", "(I)I"⟩
end
section
/-! THE CALCULUS: contracts that may throw; states as register files; one row an instruction, goal first -/
/-- what a method's end leaves, returned or thrown -/
def xFr (first t : State) (L : List Loc) (k n : Nat) : Prop := first.WarmedH t.vm ∧ first.sameButNew ({ t with vm := first.vm } : State) L k n
/-- a contract whose end may be a throw -/
def xMet (l : Launch) (y : MethodName) (ws : List Cond) (rm : Room) (Pc : Array Value → State → Prop) (Qc : Array Value → State → Outcome → State → Prop) (mc ms : Nat) (free : Addr → Prop) : Prop :=
  MetFree l y (headSpec ws rm) Pc (fun _ _ _ _ _ => True) (fun a st o t => Qc a st o t ∧ ∃ L, xFr st t L mc ms ∧ ∀ q ∈ L, free q.base)
def xMQ (below : List Frame) (Qc : Array Value → State → Outcome → State → Prop) (a : Array Value) (s : State) (mc ms : Nat) (free : Addr → Prop) : State → Prop := fun t =>
  ∃ o, t.status = .running ∧ Ended t below o ∧ Qc a s o t ∧ ∃ L, xFr s t L mc ms ∧ ∀ q ∈ L, free q.base
section XM
variable {p : Program} {l : Launch} {e : Env} {R : Room} {s : State} {m : MethodId} {args : Array Value} {below : List Frame} {meth : Method} {c : Code} {T : State} {H : Heap} {locs : List Loc} {cells slots : Nat}
variable {y : MethodName} {ws ws' : List Cond} {rm : Room} {Pc : Array Value → State → Prop} {Qc : Array Value → State → Outcome → State → Prop} {mc ms : Nat} {free : Addr → Prop} {cc bytes : ByteArray} {maxL : Nat} {ret : Option FieldType}
theorem xMet.ofW (hy : plainName y.cls = true) (hw : ws = Cond.code y cc maxL ret :: ws')
    (body : ∀ p e s m args below meth c s₁, BodyLoose p l y (headSpec ws rm) cc maxL ret e s m args below meth c s₁ → c.maxLocals = maxL → Pc args s →
      W p l e (headSpec ws rm).room s m args below meth c s.heap [] 0 0 (xMQ below Qc args s mc ms free) (entryFrame m args maxL)) : xMet l y ws rm Pc Qc mc ms free := by
  refine MetFree.of_bodyS (code := cc) (maxLocals := maxL) (ret := ret) hy ?_ ?_
  · intro args s m h hn
    obtain ⟨meth, c, h1, h2, h3, h4, h5, h6, -, -⟩ := Cond.code_spec hn (atoms_spec (ws := ws) h _ (by rw [hw]; exact List.mem_cons_self))
    exact ⟨meth, c, h1, h2, h3, h4, h5, h6⟩
  · intro p e s m args below meth c s₁ B hml hP _
    have hh0 : s₁.heap = s.heap := by rw [B.state]; rfl
    obtain ⟨t, a1, o, b1, b2, b3⟩ := body p e s m args below meth c s₁ B hml hP s₁ hh0 (Stand.of_body B)
    exact ⟨t, o, a1, b1, b2, ⟨b3.1, b3.2⟩⟩
theorem xMet.of (h : Met l y ws rm Pc Qc mc ms free) : xMet l y ws rm Pc Qc mc ms free := by
  intro p e ha hc hk s m args below hf happ hP hK
  obtain ⟨n, o, h1, h2, h3, h4, L, h5, h6⟩ := h p e ha hc hk s m args below hf happ hP hK
  exact ⟨n, o, h1, h2, h3, h4, L, ⟨h5.2.1, h5.2.2⟩, h6⟩
/-- a call of a method with such a contract: it comes back, or it throws -/
theorem xBack (hM : xMet l y ws rm Pc Qc mc ms free) (hbl : FrameBlind Pc)
    (cb : rm.cells = mc ∧ rm.slots = ms ∧ rm.frames + 1 ≤ R.frames ∧ 8 + (maxL + 11) + rm.locals ≤ R.locals ∧ (∀ w ∈ ws, ∀ (a' : Array Value) (U : State), s.WarmedH U.vm → w.before a' U = true) ∧ Cond.code y bytes maxL ret ∈ ws)
    (hini : ∀ (a' : Array Value) (U : State), s.WarmedH U.vm → (Cond.initialized y.cls).before a' U = true)
    (X : Stand p l e R s m args below meth c T locs cells slots) {g : JFrame} (hg : g.method = m) (hsize : g.locals.size = c.maxLocals) {ig : Instr} {len : Nat} (hdg : decode c.code g.pc = .ok (ig, len)) (hW : 2 * g.monitorRoom + (g.stack.map fun v => v.category).sum ≤ 8)
    {mk : MethodId} (hn : T.methodNamed? y = some mk) {a : Array Value} (hc : cells + mc ≤ R.cells) (hs : slots + ms ≤ R.slots) (hP : Pc a T) :
    ∃ (o : Outcome) (t T' : State) (L : List Loc), Stand p l e R s m args below meth c T' (locs ++ L) (cells + mc) (slots + ms) ∧ (∀ q ∈ L, free q.base) ∧ T'.heap = t.heap ∧ T'.vm = t.vm ∧ Qc a (T.calling g mk a) o t ∧
      ((∃ v, o = .returned v ∧ Steps p.tables e below (doInvoke e (T.setTop g) [] mk a).1 (T'.setTop { g with pc := g.pc + len, stack := v.toList ++ g.stack })) ∨
       (∃ x, o = .threw x ∧ Steps p.tables e below (doInvoke e (T.setTop g) [] mk a).1 ((T'.setTop g).pushFrame (.throwing x)))) := by
  obtain ⟨hrc, hrs, hfr, hlo, hws, hcw⟩ := cb
  obtain ⟨methY, cY, hmY, hcY, -, hlY, -, -, -, -⟩ := Cond.code_spec hn (hws _ hcw a T X.warmed)
  obtain ⟨kY, hkY, -⟩ := className_of_methodNamed hn
  have hinitY : kY.init = .initialized := Cond.initialized_spec (findClass_of_methodNamed hn) hkY (hini a T X.warmed)
  have h : At T g.method c below := by rw [hg]; exact X.here
  have happ : (headSpec ws rm).appliesLoose y e.platform (T.calling g mk a) = true :=
    Spec.appliesLoose_calling (g := g) h hdg hn hkY hinitY
      (X.room_calling (g := g) (R' := (headSpec ws rm).room) hsize hmY hcY hfr (by rw [hlY]; show _ + rm.locals ≤ _; omega) (by show _ + rm.cells ≤ _; rw [hrc]; exact hc) (by show _ + rm.slots ≤ _; rw [hrs]; exact hs)) (atoms_intro fun w hw => hws w hw _ _ X.warmed)
  obtain ⟨mid, hmid⟩ := h.above
  have hfr2 : (T.setTop g).frames = (.java g :: mid) ++ below := by rw [State.frames_setTop' g h.top, hmid]; rfl
  obtain ⟨o, t, hsteps, -, hend, hq, L, ⟨hWt, hsame⟩, hL⟩ := Steps.callFree hM p X.admits X.cas X.clock (acts := []) hfr2 happ (hbl _ _ _ _ hP) trivial
  rw [State.frames_setTop' g h.top, X.tail] at hend
  cases o with
  | returned v =>
    obtain ⟨T', X', hW', hs', ht⟩ := X.outOf hg hdg (mk := mk) (a := a) hend hWt hsame
    refine ⟨.returned v, t, T', L, X', hL, by rw [ht]; rfl, by rw [ht]; rfl, hq, Or.inl ⟨v, rfl, ?_⟩⟩
    rw [← ht]; exact hsteps
  | threw x =>
    obtain ⟨T', X', hW', hs', ht⟩ := X.outOfThrown hg (mk := mk) (a := a) hend hWt hsame
    refine ⟨.threw x, t, T', L, X', hL, by rw [ht]; rfl, by rw [ht]; rfl, hq, Or.inr ⟨x, rfl, ?_⟩⟩
    rw [← ht]; exact hsteps
variable {Q : State → Prop} {pc : Nat} {ls : Array Slot}
theorem xiret {v : Int32} {ty : FieldType} (hexec : p.tables.exec = Jvm.exec) (hb : c.code = cc) (hr : meth.sig.returnType = some ty) (hn : narrow ty (.int v) = .int v)
    (hq : ∀ t : State, t.heap = H → s.WarmedH t.vm → Qc args s (.returned (some (.int v))) t) (hf : ∀ q ∈ locs, free q.base)
    (hdg : decode cc pc = .ok (.ireturn, 1)) (hlocks : meth.locks = false) : W p l e R s m args below meth c H locs cells slots (xMQ below Qc args s cells slots free) (F0 m pc ls [.int v]) := by
  intro T hT X
  obtain ⟨fs, hret, hrun, hended, hW, hframe⟩ := X.leave (v := some (.int v)) (fun h => by rw [hr] at h; cases h)
  have hmeth' : T.vm.method? m = some meth := X.method'
  refine ⟨T.setFrames fs, ?_, .returned (some (.int v)), hrun, hended, hq _ hT hW, locs, ⟨hW, hframe⟩, hf⟩
  jvm_step X.here [X.here.top, hexec, hb, hdg, hmeth', hr, hn]
  (try refine ⟨rfl, ?_⟩); (try refine ⟨rfl, ?_⟩)
  first | (intro acts; rw [hret _ acts rfl rfl rfl]) | rw [hret _ _ rfl rfl rfl]
  exact Steps.refl _
theorem xvret (hexec : p.tables.exec = Jvm.exec) (hb : c.code = cc) (hr : meth.sig.returnType = none)
    (hq : ∀ t : State, t.heap = H → s.WarmedH t.vm → Qc args s (.returned none) t) (hf : ∀ q ∈ locs, free q.base)
    (hdg : decode cc pc = .ok (.return_, 1)) (hlocks : meth.locks = false) : W p l e R s m args below meth c H locs cells slots (xMQ below Qc args s cells slots free) (F0 m pc ls []) := by
  intro T hT X
  obtain ⟨fs, hret, hrun, hended, hW, hframe⟩ := X.leave (v := none) (fun _ => rfl)
  have hmeth' : T.vm.method? m = some meth := X.method'
  refine ⟨T.setFrames fs, ?_, .returned none, hrun, hended, hq _ hT hW, locs, ⟨hW, hframe⟩, hf⟩
  jvm_step X.here [X.here.top, hexec, hb, hdg, hmeth', hr]
  (try refine ⟨rfl, ?_⟩); (try refine ⟨rfl, ?_⟩)
  first | (intro acts; rw [hret _ acts rfl rfl rfl]) | rw [hret _ _ rfl rfl rfl]
  exact Steps.refl _
end XM
abbrev xSt : Type := Nat → Nat → Int32
/-- a register's place gets a value -/
def xw (g : xSt) (a i : Nat) (v : Int32) : xSt := va_up g a (upd (g a) i v)
theorem xw_self (g : xSt) (a i : Nat) (v : Int32) : xw g a i v a i = v := by simp [xw, va_up, upd]
theorem xw_reg (g : xSt) {a b : Nat} (i : Nat) (v : Int32) (h : b ≠ a) : xw g a i v b = g b := by simp [xw, va_up, h]
theorem xw_ix (g : xSt) (a : Nat) {i j : Nat} (v : Int32) (h : j ≠ i) : xw g a i v a j = g a j := by simp [xw, va_up, upd, h]
/-- from every heap that holds the state g, at this place of the code with these locals: the machine comes to Q -/
def xV (p : Program) (l : Launch) (e : Env) (R : Room) (s : State) (m : MethodId) (args : Array Value) (below : List Frame) (meth : Method) (c : Code) (D : va_G) (cl : List vw_C) (w : xSt → va_W) (A : Nat → Prop) (nL cells slots : Nat) (Q : State → Prop) (g : xSt) (pc : Nat) (lv : List (Nat × Value)) (stk : List Value) : Prop :=
  ∀ (H : Heap) (locs : List Loc) (ls : Array Slot), va_P D cl (w g) H → va_S A s.heap H locs → lv_has ls nL lv → W p l e R s m args below meth c H locs cells slots Q (F0 m pc ls stk)
/-- what stays the same in a method's walk -/
def xC (p : Program) (s : State) (m : MethodId) (args : Array Value) (c : Code) (cc : ByteArray) (own : String) (Ts : List Cond) (nL : Nat) (D : va_G) (cl : List vw_C) (w : xSt → va_W) (tys : List (ClassId × FieldType)) (A : Nat → Prop) : Prop :=
  p.tables.exec = Jvm.exec ∧ c.code = cc ∧ c.maxLocals = nL ∧ s.vm.findClass own = some m.cls ∧ (∀ q ∈ Ts, q.before args s = true) ∧ va_K D cl tys s ∧ (∀ g, va_D A (w g)) ∧ ∀ q, s.heap.size ≤ q → A q
section XR
variable {p : Program} {l : Launch} {e : Env} {R : Room} {s : State} {m : MethodId} {args : Array Value} {below : List Frame} {meth : Method} {c : Code} {D : va_G} {cl : List vw_C} {w : xSt → va_W} {A : Nat → Prop} {nL cells slots : Nat} {Q : State → Prop}
variable {cc : ByteArray} {own : String} {Ts : List Cond} {tys : List (ClassId × FieldType)} {g : xSt} {pc : Nat} {lv lv' : List (Nat × Value)} {stk : List Value}
theorem v_iconst (C : xC p s m args c cc own Ts nL D cl w tys A) {n : Int} {v : Int32} (hdg : decode cc pc = .ok (.iconst n, 1)) (hv : Int32.ofInt n = v) (k : xV p l e R s m args below meth c D cl w A nL cells slots Q g (pc + 1) lv (.int v :: stk)) : xV p l e R s m args below meth c D cl w A nL cells slots Q g pc lv stk := fun H locs ls hP hS hl => lv_iconst C.1 C.2.1 hdg hv (k H locs ls hP hS hl)
theorem v_bipush (C : xC p s m args c cc own Ts nL D cl w tys A) {n : Int} {v : Int32} (hdg : decode cc pc = .ok (.bipush n, 2)) (hv : (Int8.ofInt n).toInt32 = v) (k : xV p l e R s m args below meth c D cl w A nL cells slots Q g (pc + 2) lv (.int v :: stk)) : xV p l e R s m args below meth c D cl w A nL cells slots Q g pc lv stk := fun H locs ls hP hS hl => lv_bipush C.1 C.2.1 hdg hv (k H locs ls hP hS hl)
theorem v_sipush (C : xC p s m args c cc own Ts nL D cl w tys A) {n : Int} {v : Int32} (hdg : decode cc pc = .ok (.sipush n, 3)) (hv : (Int16.ofInt n).toInt32 = v) (k : xV p l e R s m args below meth c D cl w A nL cells slots Q g (pc + 3) lv (.int v :: stk)) : xV p l e R s m args below meth c D cl w A nL cells slots Q g pc lv stk := fun H locs ls hP hS hl => lv_sipush C.1 C.2.1 hdg hv (k H locs ls hP hS hl)
theorem v_iload_n (C : xC p s m args c cc own Ts nL D cl w tys A) {k0 : Fin 4} {i : Nat} {x : Int32} (hdg : decode cc pc = .ok (.iload_n k0, 1)) (hi : (k0 : Nat) = i) (q : Nat) (hq : lv[q]? = some (i, .int x)) (k : xV p l e R s m args below meth c D cl w A nL cells slots Q g (pc + 1) lv (.int x :: stk)) : xV p l e R s m args below meth c D cl w A nL cells slots Q g pc lv stk := fun H locs ls hP hS hl => lv_iload_n C.1 C.2.1 hdg hi (lv_at hl q hq) (k H locs ls hP hS hl)
theorem v_iload (C : xC p s m args c cc own Ts nL D cl w tys A) {i : Nat} {x : Int32} (hdg : decode cc pc = .ok (.iload i, 2)) (q : Nat) (hq : lv[q]? = some (i, .int x)) (k : xV p l e R s m args below meth c D cl w A nL cells slots Q g (pc + 2) lv (.int x :: stk)) : xV p l e R s m args below meth c D cl w A nL cells slots Q g pc lv stk := fun H locs ls hP hS hl => lv_iload C.1 C.2.1 hdg (lv_at hl q hq) (k H locs ls hP hS hl)
theorem v_aload_n (C : xC p s m args c cc own Ts nL D cl w tys A) {k0 : Fin 4} {i : Nat} {x : Nat} (hdg : decode cc pc = .ok (.aload_n k0, 1)) (hi : (k0 : Nat) = i) (q : Nat) (hq : lv[q]? = some (i, .ref x)) (k : xV p l e R s m args below meth c D cl w A nL cells slots Q g (pc + 1) lv (.ref x :: stk)) : xV p l e R s m args below meth c D cl w A nL cells slots Q g pc lv stk := fun H locs ls hP hS hl => lv_aload_n C.1 C.2.1 hdg hi (lv_at hl q hq) (k H locs ls hP hS hl)
theorem v_aload (C : xC p s m args c cc own Ts nL D cl w tys A) {i : Nat} {x : Nat} (hdg : decode cc pc = .ok (.aload i, 2)) (q : Nat) (hq : lv[q]? = some (i, .ref x)) (k : xV p l e R s m args below meth c D cl w A nL cells slots Q g (pc + 2) lv (.ref x :: stk)) : xV p l e R s m args below meth c D cl w A nL cells slots Q g pc lv stk := fun H locs ls hP hS hl => lv_aload C.1 C.2.1 hdg (lv_at hl q hq) (k H locs ls hP hS hl)
theorem v_lload_n (C : xC p s m args c cc own Ts nL D cl w tys A) {k0 : Fin 4} {i : Nat} {x : Int64} (hdg : decode cc pc = .ok (.lload_n k0, 1)) (hi : (k0 : Nat) = i) (q : Nat) (hq : lv[q]? = some (i, .long x)) (k : xV p l e R s m args below meth c D cl w A nL cells slots Q g (pc + 1) lv (.long x :: stk)) : xV p l e R s m args below meth c D cl w A nL cells slots Q g pc lv stk := fun H locs ls hP hS hl => lv_lload_n C.1 C.2.1 hdg hi (lv_at hl q hq) (k H locs ls hP hS hl)
theorem v_lload (C : xC p s m args c cc own Ts nL D cl w tys A) {i : Nat} {x : Int64} (hdg : decode cc pc = .ok (.lload i, 2)) (q : Nat) (hq : lv[q]? = some (i, .long x)) (k : xV p l e R s m args below meth c D cl w A nL cells slots Q g (pc + 2) lv (.long x :: stk)) : xV p l e R s m args below meth c D cl w A nL cells slots Q g pc lv stk := fun H locs ls hP hS hl => lv_lload C.1 C.2.1 hdg (lv_at hl q hq) (k H locs ls hP hS hl)
theorem v_istore_n (C : xC p s m args c cc own Ts nL D cl w tys A) {k0 : Fin 4} {i : Nat} {x : Int32} (hdg : decode cc pc = .ok (.istore_n k0, 1)) (hi : (k0 : Nat) = i) (hn : i < nL) (hv : (i, Value.int x) :: lv.filter (fun q => !(q.1 == i) && !(q.1 + 1 == i && q.2.category == 2)) = lv') (k : xV p l e R s m args below meth c D cl w A nL cells slots Q g (pc + 1) lv' stk) : xV p l e R s m args below meth c D cl w A nL cells slots Q g pc lv (.int x :: stk) := fun H locs ls hP hS hl => lv_istore_n C.1 C.2.1 hdg hi hl hn hv (fun ls' hl' => k H locs ls' hP hS hl')
theorem v_istore (C : xC p s m args c cc own Ts nL D cl w tys A) {i : Nat} {x : Int32} (hdg : decode cc pc = .ok (.istore i, 2)) (hn : i < nL) (hv : (i, Value.int x) :: lv.filter (fun q => !(q.1 == i) && !(q.1 + 1 == i && q.2.category == 2)) = lv') (k : xV p l e R s m args below meth c D cl w A nL cells slots Q g (pc + 2) lv' stk) : xV p l e R s m args below meth c D cl w A nL cells slots Q g pc lv (.int x :: stk) := fun H locs ls hP hS hl => lv_istore C.1 C.2.1 hdg hl hn hv (fun ls' hl' => k H locs ls' hP hS hl')
theorem v_astore_n (C : xC p s m args c cc own Ts nL D cl w tys A) {k0 : Fin 4} {i : Nat} {x : Nat} (hdg : decode cc pc = .ok (.astore_n k0, 1)) (hi : (k0 : Nat) = i) (hn : i < nL) (hv : (i, Value.ref x) :: lv.filter (fun q => !(q.1 == i) && !(q.1 + 1 == i && q.2.category == 2)) = lv') (k : xV p l e R s m args below meth c D cl w A nL cells slots Q g (pc + 1) lv' stk) : xV p l e R s m args below meth c D cl w A nL cells slots Q g pc lv (.ref x :: stk) := fun H locs ls hP hS hl => lv_astore_n C.1 C.2.1 hdg hi hl hn hv (fun ls' hl' => k H locs ls' hP hS hl')
theorem v_astore (C : xC p s m args c cc own Ts nL D cl w tys A) {i : Nat} {x : Nat} (hdg : decode cc pc = .ok (.astore i, 2)) (hn : i < nL) (hv : (i, Value.ref x) :: lv.filter (fun q => !(q.1 == i) && !(q.1 + 1 == i && q.2.category == 2)) = lv') (k : xV p l e R s m args below meth c D cl w A nL cells slots Q g (pc + 2) lv' stk) : xV p l e R s m args below meth c D cl w A nL cells slots Q g pc lv (.ref x :: stk) := fun H locs ls hP hS hl => lv_astore C.1 C.2.1 hdg hl hn hv (fun ls' hl' => k H locs ls' hP hS hl')
theorem v_iinc (C : xC p s m args c cc own Ts nL D cl w tys A) {i k0 : Nat} {n : Int} {x v : Int32} (hdg : decode cc pc = .ok (.iinc i n, 3)) (hk : lv[k0]? = some (i, .int x)) (hx : x + Int32.ofInt n = v) (hn : i < nL) (hv : (i, Value.int v) :: lv.filter (fun q => !(q.1 == i) && !(q.1 + 1 == i && q.2.category == 2)) = lv') (k : xV p l e R s m args below meth c D cl w A nL cells slots Q g (pc + 3) lv' stk) : xV p l e R s m args below meth c D cl w A nL cells slots Q g pc lv stk := fun H locs ls hP hS hl => lv_iinc C.1 C.2.1 hdg hl hk hx hn hv (fun ls' hl' => k H locs ls' hP hS hl')
theorem v_iadd (C : xC p s m args c cc own Ts nL D cl w tys A) {x y : Int32} (hdg : decode cc pc = .ok (.iadd, 1)) (k : xV p l e R s m args below meth c D cl w A nL cells slots Q g (pc + 1) lv (.int (x + y) :: stk)) : xV p l e R s m args below meth c D cl w A nL cells slots Q g pc lv (.int y :: .int x :: stk) := fun H locs ls hP hS hl => lv_iadd C.1 C.2.1 hdg (k H locs ls hP hS hl)
theorem v_isub (C : xC p s m args c cc own Ts nL D cl w tys A) {x y : Int32} (hdg : decode cc pc = .ok (.isub, 1)) (k : xV p l e R s m args below meth c D cl w A nL cells slots Q g (pc + 1) lv (.int (x - y) :: stk)) : xV p l e R s m args below meth c D cl w A nL cells slots Q g pc lv (.int y :: .int x :: stk) := fun H locs ls hP hS hl => lv_isub C.1 C.2.1 hdg (k H locs ls hP hS hl)
theorem v_imul (C : xC p s m args c cc own Ts nL D cl w tys A) {x y : Int32} (hdg : decode cc pc = .ok (.imul, 1)) (k : xV p l e R s m args below meth c D cl w A nL cells slots Q g (pc + 1) lv (.int (x * y) :: stk)) : xV p l e R s m args below meth c D cl w A nL cells slots Q g pc lv (.int y :: .int x :: stk) := fun H locs ls hP hS hl => lv_imul C.1 C.2.1 hdg (k H locs ls hP hS hl)
theorem v_iand (C : xC p s m args c cc own Ts nL D cl w tys A) {x y : Int32} (hdg : decode cc pc = .ok (.iand, 1)) (k : xV p l e R s m args below meth c D cl w A nL cells slots Q g (pc + 1) lv (.int (x &&& y) :: stk)) : xV p l e R s m args below meth c D cl w A nL cells slots Q g pc lv (.int y :: .int x :: stk) := fun H locs ls hP hS hl => lv_iand C.1 C.2.1 hdg (k H locs ls hP hS hl)
theorem v_ior (C : xC p s m args c cc own Ts nL D cl w tys A) {x y : Int32} (hdg : decode cc pc = .ok (.ior, 1)) (k : xV p l e R s m args below meth c D cl w A nL cells slots Q g (pc + 1) lv (.int (x ||| y) :: stk)) : xV p l e R s m args below meth c D cl w A nL cells slots Q g pc lv (.int y :: .int x :: stk) := fun H locs ls hP hS hl => lv_ior C.1 C.2.1 hdg (k H locs ls hP hS hl)
theorem v_ixor (C : xC p s m args c cc own Ts nL D cl w tys A) {x y : Int32} (hdg : decode cc pc = .ok (.ixor, 1)) (k : xV p l e R s m args below meth c D cl w A nL cells slots Q g (pc + 1) lv (.int (x ^^^ y) :: stk)) : xV p l e R s m args below meth c D cl w A nL cells slots Q g pc lv (.int y :: .int x :: stk) := fun H locs ls hP hS hl => lv_ixor C.1 C.2.1 hdg (k H locs ls hP hS hl)
theorem v_ishl (C : xC p s m args c cc own Ts nL D cl w tys A) {x y : Int32} (hdg : decode cc pc = .ok (.ishl, 1)) (k : xV p l e R s m args below meth c D cl w A nL cells slots Q g (pc + 1) lv (.int (x <<< (y &&& 31)) :: stk)) : xV p l e R s m args below meth c D cl w A nL cells slots Q g pc lv (.int y :: .int x :: stk) := fun H locs ls hP hS hl => lv_ishl C.1 C.2.1 hdg (k H locs ls hP hS hl)
theorem v_ishr (C : xC p s m args c cc own Ts nL D cl w tys A) {x y : Int32} (hdg : decode cc pc = .ok (.ishr, 1)) (k : xV p l e R s m args below meth c D cl w A nL cells slots Q g (pc + 1) lv (.int (x >>> (y &&& 31)) :: stk)) : xV p l e R s m args below meth c D cl w A nL cells slots Q g pc lv (.int y :: .int x :: stk) := fun H locs ls hP hS hl => lv_ishr C.1 C.2.1 hdg (k H locs ls hP hS hl)
theorem v_i2l (C : xC p s m args c cc own Ts nL D cl w tys A) {x : Int32} {v : Int64} (hdg : decode cc pc = .ok (.i2l, 1)) (hv : x.toInt64 = v) (k : xV p l e R s m args below meth c D cl w A nL cells slots Q g (pc + 1) lv (.long v :: stk)) : xV p l e R s m args below meth c D cl w A nL cells slots Q g pc lv (.int x :: stk) := fun H locs ls hP hS hl => lv_i2l C.1 C.2.1 hdg hv (k H locs ls hP hS hl)
theorem v_dup (C : xC p s m args c cc own Ts nL D cl w tys A) {va : Value} (hdg : decode cc pc = .ok (.dup, 1)) (hva : va.category = 1) (k : xV p l e R s m args below meth c D cl w A nL cells slots Q g (pc + 1) lv (va :: va :: stk)) : xV p l e R s m args below meth c D cl w A nL cells slots Q g pc lv (va :: stk) := fun H locs ls hP hS hl => lv_dup C.1 C.2.1 hdg hva (k H locs ls hP hS hl)
theorem v_pop (C : xC p s m args c cc own Ts nL D cl w tys A) {va : Value} (hdg : decode cc pc = .ok (.pop, 1)) (hva : va.category = 1) (k : xV p l e R s m args below meth c D cl w A nL cells slots Q g (pc + 1) lv stk) : xV p l e R s m args below meth c D cl w A nL cells slots Q g pc lv (va :: stk) := fun H locs ls hP hS hl => lv_pop C.1 C.2.1 hdg hva (k H locs ls hP hS hl)
theorem v_dup_x1 (C : xC p s m args c cc own Ts nL D cl w tys A) {va vb : Value} (hdg : decode cc pc = .ok (.dup_x1, 1)) (hva : va.category = 1) (hvb : vb.category = 1) (k : xV p l e R s m args below meth c D cl w A nL cells slots Q g (pc + 1) lv (va :: vb :: va :: stk)) : xV p l e R s m args below meth c D cl w A nL cells slots Q g pc lv (va :: vb :: stk) := fun H locs ls hP hS hl => lv_dup_x1 C.1 C.2.1 hdg hva hvb (k H locs ls hP hS hl)
theorem v_dup2 (C : xC p s m args c cc own Ts nL D cl w tys A) {va vb : Value} (hdg : decode cc pc = .ok (.dup2, 1)) (hva : va.category = 1) (hvb : vb.category = 1) (k : xV p l e R s m args below meth c D cl w A nL cells slots Q g (pc + 1) lv (va :: vb :: va :: vb :: stk)) : xV p l e R s m args below meth c D cl w A nL cells slots Q g pc lv (va :: vb :: stk) := fun H locs ls hP hS hl => lv_dup2_11 C.1 C.2.1 hdg hva hvb (k H locs ls hP hS hl)
theorem v_goto (C : xC p s m args c cc own Ts nL D cl w tys A) {off : Int} {tgt : Nat} (hdg : decode cc pc = .ok (.goto off, 3)) (ht : (pc : Int) + off = (tgt : Int)) (k : xV p l e R s m args below meth c D cl w A nL cells slots Q g tgt lv stk) : xV p l e R s m args below meth c D cl w A nL cells slots Q g pc lv stk := fun H locs ls hP hS hl => lv_goto C.1 C.2.1 hdg ht (k H locs ls hP hS hl)
theorem v_if_eq (C : xC p s m args c cc own Ts nL D cl w tys A) {x : Int32} {off : Int} {tgt : Nat} (hdg : decode cc pc = .ok (.ifCond .eq off, 3)) (ht : (pc : Int) + off = (tgt : Int)) (kt : (x = 0) → xV p l e R s m args below meth c D cl w A nL cells slots Q g tgt lv stk) (kf : (¬ x = 0) → xV p l e R s m args below meth c D cl w A nL cells slots Q g (pc + 3) lv stk) : xV p l e R s m args below meth c D cl w A nL cells slots Q g pc lv (.int x :: stk) := fun H locs ls hP hS hl => lv_if_eq C.1 C.2.1 hdg ht (fun q => kt q H locs ls hP hS hl) (fun q => kf q H locs ls hP hS hl)
theorem v_icmp_eq (C : xC p s m args c cc own Ts nL D cl w tys A) {x y : Int32} {off : Int} {tgt : Nat} (hdg : decode cc pc = .ok (.if_icmp .eq off, 3)) (ht : (pc : Int) + off = (tgt : Int)) (kt : (x = y) → xV p l e R s m args below meth c D cl w A nL cells slots Q g tgt lv stk) (kf : (¬ x = y) → xV p l e R s m args below meth c D cl w A nL cells slots Q g (pc + 3) lv stk) : xV p l e R s m args below meth c D cl w A nL cells slots Q g pc lv (.int y :: .int x :: stk) := fun H locs ls hP hS hl => lv_icmp_eq C.1 C.2.1 hdg ht (fun q => kt q H locs ls hP hS hl) (fun q => kf q H locs ls hP hS hl)
theorem v_if_ne (C : xC p s m args c cc own Ts nL D cl w tys A) {x : Int32} {off : Int} {tgt : Nat} (hdg : decode cc pc = .ok (.ifCond .ne off, 3)) (ht : (pc : Int) + off = (tgt : Int)) (kt : (¬ x = 0) → xV p l e R s m args below meth c D cl w A nL cells slots Q g tgt lv stk) (kf : (x = 0) → xV p l e R s m args below meth c D cl w A nL cells slots Q g (pc + 3) lv stk) : xV p l e R s m args below meth c D cl w A nL cells slots Q g pc lv (.int x :: stk) := fun H locs ls hP hS hl => lv_if_ne C.1 C.2.1 hdg ht (fun q => kt q H locs ls hP hS hl) (fun q => kf q H locs ls hP hS hl)
theorem v_icmp_ne (C : xC p s m args c cc own Ts nL D cl w tys A) {x y : Int32} {off : Int} {tgt : Nat} (hdg : decode cc pc = .ok (.if_icmp .ne off, 3)) (ht : (pc : Int) + off = (tgt : Int)) (kt : (¬ x = y) → xV p l e R s m args below meth c D cl w A nL cells slots Q g tgt lv stk) (kf : (x = y) → xV p l e R s m args below meth c D cl w A nL cells slots Q g (pc + 3) lv stk) : xV p l e R s m args below meth c D cl w A nL cells slots Q g pc lv (.int y :: .int x :: stk) := fun H locs ls hP hS hl => lv_icmp_ne C.1 C.2.1 hdg ht (fun q => kt q H locs ls hP hS hl) (fun q => kf q H locs ls hP hS hl)
theorem v_if_lt (C : xC p s m args c cc own Ts nL D cl w tys A) {x : Int32} {off : Int} {tgt : Nat} (hdg : decode cc pc = .ok (.ifCond .lt off, 3)) (ht : (pc : Int) + off = (tgt : Int)) (kt : (x < 0) → xV p l e R s m args below meth c D cl w A nL cells slots Q g tgt lv stk) (kf : (¬ x < 0) → xV p l e R s m args below meth c D cl w A nL cells slots Q g (pc + 3) lv stk) : xV p l e R s m args below meth c D cl w A nL cells slots Q g pc lv (.int x :: stk) := fun H locs ls hP hS hl => lv_if_lt C.1 C.2.1 hdg ht (fun q => kt q H locs ls hP hS hl) (fun q => kf q H locs ls hP hS hl)
theorem v_icmp_lt (C : xC p s m args c cc own Ts nL D cl w tys A) {x y : Int32} {off : Int} {tgt : Nat} (hdg : decode cc pc = .ok (.if_icmp .lt off, 3)) (ht : (pc : Int) + off = (tgt : Int)) (kt : (x < y) → xV p l e R s m args below meth c D cl w A nL cells slots Q g tgt lv stk) (kf : (¬ x < y) → xV p l e R s m args below meth c D cl w A nL cells slots Q g (pc + 3) lv stk) : xV p l e R s m args below meth c D cl w A nL cells slots Q g pc lv (.int y :: .int x :: stk) := fun H locs ls hP hS hl => lv_icmp_lt C.1 C.2.1 hdg ht (fun q => kt q H locs ls hP hS hl) (fun q => kf q H locs ls hP hS hl)
theorem v_if_ge (C : xC p s m args c cc own Ts nL D cl w tys A) {x : Int32} {off : Int} {tgt : Nat} (hdg : decode cc pc = .ok (.ifCond .ge off, 3)) (ht : (pc : Int) + off = (tgt : Int)) (kt : (0 ≤ x) → xV p l e R s m args below meth c D cl w A nL cells slots Q g tgt lv stk) (kf : (¬ 0 ≤ x) → xV p l e R s m args below meth c D cl w A nL cells slots Q g (pc + 3) lv stk) : xV p l e R s m args below meth c D cl w A nL cells slots Q g pc lv (.int x :: stk) := fun H locs ls hP hS hl => lv_if_ge C.1 C.2.1 hdg ht (fun q => kt q H locs ls hP hS hl) (fun q => kf q H locs ls hP hS hl)
theorem v_icmp_ge (C : xC p s m args c cc own Ts nL D cl w tys A) {x y : Int32} {off : Int} {tgt : Nat} (hdg : decode cc pc = .ok (.if_icmp .ge off, 3)) (ht : (pc : Int) + off = (tgt : Int)) (kt : (y ≤ x) → xV p l e R s m args below meth c D cl w A nL cells slots Q g tgt lv stk) (kf : (¬ y ≤ x) → xV p l e R s m args below meth c D cl w A nL cells slots Q g (pc + 3) lv stk) : xV p l e R s m args below meth c D cl w A nL cells slots Q g pc lv (.int y :: .int x :: stk) := fun H locs ls hP hS hl => lv_icmp_ge C.1 C.2.1 hdg ht (fun q => kt q H locs ls hP hS hl) (fun q => kf q H locs ls hP hS hl)
theorem v_if_gt (C : xC p s m args c cc own Ts nL D cl w tys A) {x : Int32} {off : Int} {tgt : Nat} (hdg : decode cc pc = .ok (.ifCond .gt off, 3)) (ht : (pc : Int) + off = (tgt : Int)) (kt : (0 < x) → xV p l e R s m args below meth c D cl w A nL cells slots Q g tgt lv stk) (kf : (¬ 0 < x) → xV p l e R s m args below meth c D cl w A nL cells slots Q g (pc + 3) lv stk) : xV p l e R s m args below meth c D cl w A nL cells slots Q g pc lv (.int x :: stk) := fun H locs ls hP hS hl => lv_if_gt C.1 C.2.1 hdg ht (fun q => kt q H locs ls hP hS hl) (fun q => kf q H locs ls hP hS hl)
theorem v_icmp_gt (C : xC p s m args c cc own Ts nL D cl w tys A) {x y : Int32} {off : Int} {tgt : Nat} (hdg : decode cc pc = .ok (.if_icmp .gt off, 3)) (ht : (pc : Int) + off = (tgt : Int)) (kt : (y < x) → xV p l e R s m args below meth c D cl w A nL cells slots Q g tgt lv stk) (kf : (¬ y < x) → xV p l e R s m args below meth c D cl w A nL cells slots Q g (pc + 3) lv stk) : xV p l e R s m args below meth c D cl w A nL cells slots Q g pc lv (.int y :: .int x :: stk) := fun H locs ls hP hS hl => lv_icmp_gt C.1 C.2.1 hdg ht (fun q => kt q H locs ls hP hS hl) (fun q => kf q H locs ls hP hS hl)
theorem v_if_le (C : xC p s m args c cc own Ts nL D cl w tys A) {x : Int32} {off : Int} {tgt : Nat} (hdg : decode cc pc = .ok (.ifCond .le off, 3)) (ht : (pc : Int) + off = (tgt : Int)) (kt : (x ≤ 0) → xV p l e R s m args below meth c D cl w A nL cells slots Q g tgt lv stk) (kf : (¬ x ≤ 0) → xV p l e R s m args below meth c D cl w A nL cells slots Q g (pc + 3) lv stk) : xV p l e R s m args below meth c D cl w A nL cells slots Q g pc lv (.int x :: stk) := fun H locs ls hP hS hl => lv_if_le C.1 C.2.1 hdg ht (fun q => kt q H locs ls hP hS hl) (fun q => kf q H locs ls hP hS hl)
theorem v_icmp_le (C : xC p s m args c cc own Ts nL D cl w tys A) {x y : Int32} {off : Int} {tgt : Nat} (hdg : decode cc pc = .ok (.if_icmp .le off, 3)) (ht : (pc : Int) + off = (tgt : Int)) (kt : (x ≤ y) → xV p l e R s m args below meth c D cl w A nL cells slots Q g tgt lv stk) (kf : (¬ x ≤ y) → xV p l e R s m args below meth c D cl w A nL cells slots Q g (pc + 3) lv stk) : xV p l e R s m args below meth c D cl w A nL cells slots Q g pc lv (.int y :: .int x :: stk) := fun H locs ls hP hS hl => lv_icmp_le C.1 C.2.1 hdg ht (fun q => kt q H locs ls hP hS hl) (fun q => kf q H locs ls hP hS hl)
theorem v_get (C : xC p s m args c cc own Ts nL D cl w tys A) {ref Cn : String} {Tf : u_T} {N ci index a : Nat} (F : (∀ q ∈ u_ws Cn Tf N, q ∈ Ts) ∧ cl[ci]? = some (Cn, Tf, N)) (q0 : Nat) {fs : List Value} (he : (w g)[q0]? = some (a, .inr (ci, fs))) (k0 : Nat) (hk : k0 < N) (hlink : (Cond.fieldLink own index (Tf k0).1 (Tf k0).2.1 (Tf k0).2.2.1).before args s = true) {v : Value} (hv : fs[k0]? = some v) (hdg : decode cc pc = .ok (.getfield index, 3)) (k : xV p l e R s m args below meth c D cl w A nL cells slots Q g (pc + 3) lv (v :: stk)) : xV p l e R s m args below meth c D cl w A nL cells slots Q g pc lv (.ref a :: stk) := fun H locs ls hP hS hl => va_get C.1 C.2.1 C.2.2.2.2.1 F.1 C.2.2.2.1 C.2.2.2.2.2.1 hP q0 he F.2 k0 hk hlink (fun _ h9 => h9) hv hdg (k H locs ls hP hS hl)
theorem v_getN (C : xC p s m args c cc own Ts nL D cl w tys A) {host : String} {ref Cn : String} {Tf : u_T} {N ci index a : Nat} (F : (∀ q ∈ u_ws Cn Tf N, q ∈ Ts) ∧ cl[ci]? = some (Cn, Tf, N)) (q0 : Nat) {fs : List Value} (he : (w g)[q0]? = some (a, .inr (ci, fs))) (k0 : Nat) (hk : k0 < N) (hlink : (Cond.fieldLinkNest own index (Tf k0).1 (Tf k0).2.1 (Tf k0).2.2.1 host).before args s = true) {v : Value} (hv : fs[k0]? = some v) (hdg : decode cc pc = .ok (.getfield index, 3)) (k : xV p l e R s m args below meth c D cl w A nL cells slots Q g (pc + 3) lv (v :: stk)) : xV p l e R s m args below meth c D cl w A nL cells slots Q g pc lv (.ref a :: stk) := fun H locs ls hP hS hl => va_getN C.1 C.2.1 C.2.2.2.2.1 F.1 C.2.2.2.1 C.2.2.2.2.2.1 hP q0 he F.2 k0 hk hlink (fun _ h9 => h9) hv hdg (k H locs ls hP hS hl)
theorem v_put (C : xC p s m args c cc own Ts nL D cl w tys A) {ref Cn : String} {Tf : u_T} {N ci index a : Nat} (F : (∀ q ∈ u_ws Cn Tf N, q ∈ Ts) ∧ cl[ci]? = some (Cn, Tf, N)) (q0 : Nat) {fs : List Value} (he : (w g)[q0]? = some (a, .inr (ci, fs))) (k0 : Nat) (hk : k0 < N) {ty0 : Nat → FieldType} (G : (∀ j, j < N → parseFieldDescriptor (Tf j).2.2.1 = some (ty0 j)) ∧ ∀ a, a < N → ∀ b, b < N → a ≠ b → (Tf a).2.1 ≠ (Tf b).2.1) (hlink : (Cond.fieldLink own index (Tf k0).1 (Tf k0).2.1 (Tf k0).2.2.1).before args s = true) (hfin : (Tf k0).2.2.2 = false) {ty : FieldType} {v : Value} (hd : parseFieldDescriptor (Tf k0).2.2.1 = some ty) (hn : narrow ty v = v) (hfit : fits ty v = true) (hl0 : k0 < fs.length) {g' : xSt} (hw : (w g).set q0 (a, .inr (ci, fs.set k0 v)) = w g') (hdg : decode cc pc = .ok (.putfield index, 3)) (k : xV p l e R s m args below meth c D cl w A nL cells slots Q g' (pc + 3) lv stk) : xV p l e R s m args below meth c D cl w A nL cells slots Q g pc lv (v :: .ref a :: stk) := fun H locs ls hP hS hl => va_put C.1 C.2.1 C.2.2.2.2.1 F.1 ty0 G.1 G.2 C.2.2.2.1 C.2.2.2.2.2.1 hP (C.2.2.2.2.2.2.1 g) hS q0 he F.2 k0 hk hlink (fun _ h9 => h9) hfin hd hn hfit hl0 hdg (fun H1 locs1 hP1 _ hS1 => k H1 locs1 ls (by rw [← hw]; exact hP1) hS1 hl)
theorem v_putN (C : xC p s m args c cc own Ts nL D cl w tys A) {host : String} {ref Cn : String} {Tf : u_T} {N ci index a : Nat} (F : (∀ q ∈ u_ws Cn Tf N, q ∈ Ts) ∧ cl[ci]? = some (Cn, Tf, N)) (q0 : Nat) {fs : List Value} (he : (w g)[q0]? = some (a, .inr (ci, fs))) (k0 : Nat) (hk : k0 < N) {ty0 : Nat → FieldType} (G : (∀ j, j < N → parseFieldDescriptor (Tf j).2.2.1 = some (ty0 j)) ∧ ∀ a, a < N → ∀ b, b < N → a ≠ b → (Tf a).2.1 ≠ (Tf b).2.1) (hlink : (Cond.fieldLinkNest own index (Tf k0).1 (Tf k0).2.1 (Tf k0).2.2.1 host).before args s = true) (hfin : (Tf k0).2.2.2 = false) {ty : FieldType} {v : Value} (hd : parseFieldDescriptor (Tf k0).2.2.1 = some ty) (hn : narrow ty v = v) (hfit : fits ty v = true) (hl0 : k0 < fs.length) {g' : xSt} (hw : (w g).set q0 (a, .inr (ci, fs.set k0 v)) = w g') (hdg : decode cc pc = .ok (.putfield index, 3)) (k : xV p l e R s m args below meth c D cl w A nL cells slots Q g' (pc + 3) lv stk) : xV p l e R s m args below meth c D cl w A nL cells slots Q g pc lv (v :: .ref a :: stk) := fun H locs ls hP hS hl => va_putN C.1 C.2.1 C.2.2.2.2.1 F.1 ty0 G.1 G.2 C.2.2.2.1 C.2.2.2.2.2.1 hP (C.2.2.2.2.2.2.1 g) hS q0 he F.2 k0 hk hlink (fun _ h9 => h9) hfin hd hn hfit hl0 hdg (fun H1 locs1 hP1 _ hS1 => k H1 locs1 ls (by rw [← hw]; exact hP1) hS1 hl)
theorem v_iald (C : xC p s m args c cc own Ts nL D cl w tys A) (q0 t0 : Nat) {a : Nat} {cA : ClassId} {n : Nat} {f : Nat → Int32} (ha : (w g)[q0]? = some (a, .inl (cA, n, .inl f))) (ht : tys[t0]? = some (cA, .int)) {i : Int32} (hin : ¬ (i < 0 ∨ n ≤ i.toNatClampNeg)) (hdg : decode cc pc = .ok (.iaload, 1)) (k : xV p l e R s m args below meth c D cl w A nL cells slots Q g (pc + 1) lv (.int (f i.toNatClampNeg) :: stk)) : xV p l e R s m args below meth c D cl w A nL cells slots Q g pc lv (.int i :: .ref a :: stk) := fun H locs ls hP hS hl => va_iald C.1 C.2.1 C.2.2.2.2.2.1 hP q0 t0 ha ht hin hdg (k H locs ls hP hS hl)
theorem v_zald (C : xC p s m args c cc own Ts nL D cl w tys A) (q0 t0 : Nat) {a : Nat} {cA : ClassId} {n : Nat} {f : Nat → Int32} (ha : (w g)[q0]? = some (a, .inl (cA, n, .inl f))) (ht : tys[t0]? = some (cA, .boolean)) {i : Int32} (hin : ¬ (i < 0 ∨ n ≤ i.toNatClampNeg)) (hdg : decode cc pc = .ok (.baload, 1)) (k : xV p l e R s m args below meth c D cl w A nL cells slots Q g (pc + 1) lv (.int (f i.toNatClampNeg) :: stk)) : xV p l e R s m args below meth c D cl w A nL cells slots Q g pc lv (.int i :: .ref a :: stk) := fun H locs ls hP hS hl => va_zald C.1 C.2.1 C.2.2.2.2.2.1 hP q0 t0 ha ht hin hdg (k H locs ls hP hS hl)
theorem v_aald (C : xC p s m args c cc own Ts nL D cl w tys A) (q0 t0 : Nat) {a b : Nat} {cA : ClassId} {n : Nat} {Cn : String} {f : Nat → Option Nat} (ha : (w g)[q0]? = some (a, .inl (cA, n, .inr (.inr (.inr (.inr f)))))) (ht : tys[t0]? = some (cA, .object Cn)) {i : Int32} (hin : ¬ (i < 0 ∨ n ≤ i.toNatClampNeg)) (hf : f i.toNatClampNeg = some b) (hdg : decode cc pc = .ok (.aaload, 1)) (k : xV p l e R s m args below meth c D cl w A nL cells slots Q g (pc + 1) lv (.ref b :: stk)) : xV p l e R s m args below meth c D cl w A nL cells slots Q g pc lv (.int i :: .ref a :: stk) := fun H locs ls hP hS hl => va_aldq C.1 C.2.1 C.2.2.2.2.2.1 hP q0 t0 ha ht hin hdg (by rw [hf]; exact k H locs ls hP hS hl)
theorem v_iast (C : xC p s m args c cc own Ts nL D cl w tys A) (q0 t0 : Nat) {a : Nat} {cA : ClassId} {n : Nat} {f : Nat → Int32} (ha : (w g)[q0]? = some (a, .inl (cA, n, .inl f))) (ht : tys[t0]? = some (cA, .int)) {i x : Int32} (hin : ¬ (i < 0 ∨ n ≤ i.toNatClampNeg)) {g' : xSt} (hw : (w g).set q0 (a, .inl (cA, n, .inl (upd f i.toNatClampNeg x))) = w g') (hdg : decode cc pc = .ok (.iastore, 1)) (k : xV p l e R s m args below meth c D cl w A nL cells slots Q g' (pc + 1) lv stk) : xV p l e R s m args below meth c D cl w A nL cells slots Q g pc lv (.int x :: .int i :: .ref a :: stk) := fun H locs ls hP hS hl => va_iast C.1 C.2.1 C.2.2.2.2.2.1 hP (C.2.2.2.2.2.2.1 g) hS q0 t0 ha ht hin hdg (fun H1 locs1 hP1 _ hS1 => k H1 locs1 ls (by rw [← hw]; exact hP1) hS1 hl)
theorem v_zast (C : xC p s m args c cc own Ts nL D cl w tys A) (q0 t0 : Nat) {a : Nat} {cA : ClassId} {n : Nat} {f : Nat → Int32} (ha : (w g)[q0]? = some (a, .inl (cA, n, .inl f))) (ht : tys[t0]? = some (cA, .boolean)) {i x : Int32} (hin : ¬ (i < 0 ∨ n ≤ i.toNatClampNeg)) {g' : xSt} (hw : (w g).set q0 (a, .inl (cA, n, .inl (upd f i.toNatClampNeg (vp_nar .boolean x)))) = w g') (hdg : decode cc pc = .ok (.bastore, 1)) (k : xV p l e R s m args below meth c D cl w A nL cells slots Q g' (pc + 1) lv stk) : xV p l e R s m args below meth c D cl w A nL cells slots Q g pc lv (.int x :: .int i :: .ref a :: stk) := fun H locs ls hP hS hl => va_zast C.1 C.2.1 C.2.2.2.2.2.1 hP (C.2.2.2.2.2.2.1 g) hS q0 t0 ha ht hin hdg (fun H1 locs1 hP1 _ hS1 => k H1 locs1 ls (by rw [← hw]; exact hP1) hS1 hl)
theorem v_lv (h : lv = lv') (k : xV p l e R s m args below meth c D cl w A nL cells slots Q g pc lv' stk) : xV p l e R s m args below meth c D cl w A nL cells slots Q g pc lv stk := h ▸ k
theorem v_g {g' : xSt} (h : g' = g) (k : xV p l e R s m args below meth c D cl w A nL cells slots Q g' pc lv stk) : xV p l e R s m args below meth c D cl w A nL cells slots Q g pc lv stk := h ▸ k
theorem v_sub (ks : List Nat) (h : lv_pick lv ks = lv') (k : xV p l e R s m args below meth c D cl w A nL cells slots Q g pc lv' stk) : xV p l e R s m args below meth c D cl w A nL cells slots Q g pc lv stk := fun H locs ls hP hS hl => k H locs ls hP hS (lv_sub hl ks h)
end XR
/-! calls -/
def xTh (E : String) (t : State) (a : Addr) : Prop := ∃ ce : Cell, t.heap[a]? = some ce ∧ t.vm.findClass E = some ce.cls ∧ ce.vm = .none
def xA (w : xSt → va_W) (sz : Nat) : Nat → Prop := va_A (w (fun _ _ => 0)) sz
def xP (TB : State → Prop) (D : va_G) (cl : List vw_C) (w : xSt → va_W) (tys : List (ClassId × FieldType)) (sz : Nat) (As : List Value) (g : xSt) : Array Value → State → Prop :=
  va_Pc As (fun U => U.heap.size = sz ∧ va_P D cl (w g) U.heap ∧ va_K D cl tys U ∧ va_D (fun _ => True) (w g) ∧ TB U)
def xQ (D : va_G) (cl : List vw_C) (w : xSt → va_W) (A : Nat → Prop) (ov : Option Value ⊕ String) (g' : xSt) : Array Value → State → Outcome → State → Prop := fun _ st oc t =>
  (match ov with | .inl v => oc = .returned v | .inr E => ∃ a : Addr, oc = .threw a ∧ st.heap.size ≤ a ∧ xTh E t a) ∧ va_P D cl (w g') t.heap ∧ va_F A st t
section XCALL
variable {p : Program} {l : Launch} {e : Env} {R : Room} {s : State} {m : MethodId} {args : Array Value} {below : List Frame} {meth : Method} {c : Code} {T : State} {H : Heap} {locs : List Loc} {cells slots : Nat}
variable {y : MethodName} {ws ws' : List Cond} {rm : Room} {Pc : Array Value → State → Prop} {Qc : Array Value → State → Outcome → State → Prop} {mc ms : Nat} {free : Addr → Prop} {cc bytes : ByteArray} {maxL : Nat} {ret : Option FieldType}
/-- what a call does to the caller's walk -/
def xRun (p : Program) (l : Launch) (e : Env) (R : Room) (s : State) (m : MethodId) (args : Array Value) (below : List Frame) (meth : Method) (c : Code) (T : State) (locs : List Loc) (cells slots mc ms : Nat) (g : JFrame) (rest : List Value) (Qa : State → Outcome → State → Prop) (free : Addr → Prop) : Prop :=
  ∃ (o : Outcome) (st₀ t T' : State) (L : List Loc), st₀.heap = T.heap ∧ Stand p l e R s m args below meth c T' (locs ++ L) (cells + mc) (slots + ms) ∧ (∀ q ∈ L, free q.base) ∧ T'.heap = t.heap ∧ T'.vm = t.vm ∧ Qa st₀ o t ∧
    ((∃ v, o = .returned v ∧ ∀ tg, Steps p.tables e below (T'.setTop { g with pc := g.pc + 3, stack := v.toList ++ rest }) tg → Steps p.tables e below (T.setTop g) tg) ∨
     (∃ x, o = .threw x ∧ ∀ tg, Steps p.tables e below ((T'.setTop { g with stack := rest }).pushFrame (.throwing x)) tg → Steps p.tables e below (T.setTop g) tg))
/-- what is asked of a callee's words and room -/
def xCB (R : Room) (s : State) (y : MethodName) (bytes : ByteArray) (maxL : Nat) (ret : Option FieldType) (ws : List Cond) (rm : Room) (mc ms : Nat) : Prop :=
  (rm.cells = mc ∧ rm.slots = ms ∧ rm.frames + 1 ≤ R.frames ∧ 8 + (maxL + 11) + rm.locals ≤ R.locals ∧ (∀ w ∈ ws, ∀ (a' : Array Value) (U : State), s.WarmedH U.vm → w.before a' U = true) ∧ Cond.code y bytes maxL ret ∈ ws) ∧
  (∀ (a' : Array Value) (U : State), s.WarmedH U.vm → (Cond.initialized y.cls).before a' U = true)
theorem xcallS (X : Stand p l e R s m args below meth c T locs cells slots) (hexec : p.tables.exec = Jvm.exec) (hM : xMet l y ws rm Pc Qc mc ms free) (hbl : FrameBlind Pc) (cb : xCB R s y bytes maxL ret ws rm mc ms)
    {own : String} {index : Nat} (hown : s.vm.findClass own = some m.cls) (hlink : (Cond.methodLink own index y).before args s = true) (hstat : (Cond.static y).before args s = true)
    (hy : y.cls ≠ "java/lang/invoke/MethodHandle" ∧ y.cls ≠ "java/lang/invoke/VarHandle")
    {g : JFrame} (hg : g.method = m) (hsize : g.locals.size = c.maxLocals) {argsL rest : List Value} (hlen : ∀ sig, parseMethodDescriptor y.desc = some sig → argsL.length = sig.parameters.length)
    (hstack : g.stack = argsL.reverse ++ rest) (hW : 2 * g.monitorRoom + (rest.map fun v => v.category).sum ≤ 8) (hdg : decode c.code g.pc = .ok (.invokestatic index, 3)) (hc : cells + mc ≤ R.cells) (hs : slots + ms ≤ R.slots)
    (hP : ∀ U : State, U.heap = T.heap → s.WarmedH U.vm → Pc argsL.toArray U) : xRun p l e R s m args below meth c T locs cells slots mc ms g rest (Qc argsL.toArray) free := by
  have hcode : (Cond.code y bytes maxL ret).before args s = true := cb.1.2.2.2.2.1 _ cb.1.2.2.2.2.2 args s (State.WarmedH.refl s)
  have hinit : (Cond.initialized y.cls).before args s = true := cb.2 args s (State.WarmedH.refl s)
  obtain ⟨mk, hnamed⟩ := Cond.code_named hcode
  obtain ⟨methM, cM, hmethM, -, -, -, -, -, -, hsigM⟩ := Cond.code_spec hnamed hcode
  have hstatic : methM.isStatic = true := Cond.static_spec hnamed hmethM hstat
  obtain ⟨kP, hkP, -⟩ := className_of_methodNamed hnamed
  have hinitP : kP.init = .initialized := Cond.initialized_spec (findClass_of_methodNamed hnamed) hkP hinit
  obtain ⟨vm₁, X₁, hstep₁⟩ := X.invokestatic hexec hown hlink hnamed hmethM hstatic hkP hinitP hy (g := g) hg (argsL := argsL) (rest := rest) (hlen _ hsigM) hstack hdg
  obtain ⟨o, t, T', L, X', hL, e1, e2, hq, hst⟩ := xBack hM hbl cb.1 cb.2 X₁ (g := { g with stack := rest }) hg hsize hdg hW (X₁.named hnamed) hc hs (hP (T.setVm vm₁) rfl X₁.warmed)
  refine ⟨o, (T.setVm vm₁).calling { g with stack := rest } mk _, t, T', L, rfl, X', hL, e1, e2, hq, ?_⟩
  rcases hst with ⟨v, hv, h⟩ | ⟨x, hx, h⟩
  · exact Or.inl ⟨v, hv, fun tg ht => hstep₁ _ fun acts => by rw [doInvoke_state]; exact h.trans ht⟩
  · exact Or.inr ⟨x, hx, fun tg ht => hstep₁ _ fun acts => by rw [doInvoke_state]; exact h.trans ht⟩
theorem xcallV (X : Stand p l e R s m args below meth c T locs cells slots) (hexec : p.tables.exec = Jvm.exec) (hM : xMet l y ws rm Pc Qc mc ms free) (hbl : FrameBlind Pc) (cb : xCB R s y bytes maxL ret ws rm mc ms)
    {own C : String} {index : Nat} (hown : s.vm.findClass own = some m.cls) (hlink : (Cond.methodLink own index y).before args s = true) (hinst : (Cond.instanceMethod y).before args s = true) (hsel : (Cond.selects C y y).before args s = true)
    (hy : y.cls ≠ "java/lang/invoke/MethodHandle" ∧ y.cls ≠ "java/lang/invoke/VarHandle")
    {b : Addr} {cellB : Cell} (hcell : T.heap[b]? = some cellB) (hobj : cellB.vm.isStatics = false) (hcls : s.vm.findClass C = some cellB.cls)
    {g : JFrame} (hg : g.method = m) (hsize : g.locals.size = c.maxLocals) {argsL rest : List Value} (hlen : ∀ sig, parseMethodDescriptor y.desc = some sig → argsL.length = sig.parameters.length)
    (hstack : g.stack = argsL.reverse ++ .ref b :: rest) (hW : 2 * g.monitorRoom + (rest.map fun v => v.category).sum ≤ 8) (hdg : decode c.code g.pc = .ok (.invokevirtual index, 3)) (hc : cells + mc ≤ R.cells) (hs : slots + ms ≤ R.slots)
    (hP : ∀ U : State, U.heap = T.heap → s.WarmedH U.vm → Pc (Value.ref b :: argsL).toArray U) : xRun p l e R s m args below meth c T locs cells slots mc ms g rest (Qc (Value.ref b :: argsL).toArray) free := by
  have hcode : (Cond.code y bytes maxL ret).before args s = true := cb.1.2.2.2.2.1 _ cb.1.2.2.2.2.2 args s (State.WarmedH.refl s)
  obtain ⟨mk, methM, hnamed, hmethM, hstM, habM⟩ := Cond.instanceMethod_spec hinst
  obtain ⟨methM', cM, hmethM', -, -, -, -, -, -, hsigM⟩ := Cond.code_spec hnamed hcode
  cases hmethM.symm.trans hmethM'
  obtain ⟨c2, r2, m2, q1, q2, q3, q4, kP, hkP, hkPi⟩ := Cond.selects_spec hsel
  cases hcls.symm.trans q1
  cases (State.methodFound?_of_named hnamed hy).symm.trans q2
  cases hnamed.symm.trans q3
  have hselP : selectMethod e.platform s.vm cellB.cls mk = .method mk := by rw [Launch.admits_selectMethod X.admits]; exact q4
  obtain ⟨vm₁, X₁, hstep₁⟩ := X.invokevirtual hexec hown hlink hnamed hmethM hstM hkP hkPi hy (a := b) (cell := cellB) hcell
    (fun z h => by rw [h] at hobj; cases hobj) hselP hmethM habM hkP hkPi (g := g) hg (argsL := argsL) (rest := rest) (hlen _ hsigM) hstack hdg
  obtain ⟨o, t, T', L, X', hL, e1, e2, hq, hst⟩ := xBack hM hbl cb.1 cb.2 X₁ (g := { g with stack := rest }) hg hsize hdg hW (X₁.named hnamed) hc hs (hP (T.setVm vm₁) rfl X₁.warmed)
  refine ⟨o, (T.setVm vm₁).calling { g with stack := rest } mk _, t, T', L, rfl, X', hL, e1, e2, hq, ?_⟩
  rcases hst with ⟨v, hv, h⟩ | ⟨x, hx, h⟩
  · exact Or.inl ⟨v, hv, fun tg ht => hstep₁ _ fun acts => by rw [doInvoke_state]; exact h.trans ht⟩
  · exact Or.inr ⟨x, hx, fun tg ht => hstep₁ _ fun acts => by rw [doInvoke_state]; exact h.trans ht⟩
theorem xcallVN (X : Stand p l e R s m args below meth c T locs cells slots) (hexec : p.tables.exec = Jvm.exec) (hM : xMet l y ws rm Pc Qc mc ms free) (hbl : FrameBlind Pc) (cb : xCB R s y bytes maxL ret ws rm mc ms)
    {own C host : String} {index : Nat} (hown : s.vm.findClass own = some m.cls) (hlink : (Cond.methodLinkNest own index y host).before args s = true) (hinst : (Cond.instanceMethod y).before args s = true) (hsel : (Cond.selects C y y).before args s = true)
    (hy : y.cls ≠ "java/lang/invoke/MethodHandle" ∧ y.cls ≠ "java/lang/invoke/VarHandle")
    {b : Addr} {cellB : Cell} (hcell : T.heap[b]? = some cellB) (hobj : cellB.vm.isStatics = false) (hcls : s.vm.findClass C = some cellB.cls)
    {g : JFrame} (hg : g.method = m) (hsize : g.locals.size = c.maxLocals) {argsL rest : List Value} (hlen : ∀ sig, parseMethodDescriptor y.desc = some sig → argsL.length = sig.parameters.length)
    (hstack : g.stack = argsL.reverse ++ .ref b :: rest) (hW : 2 * g.monitorRoom + (rest.map fun v => v.category).sum ≤ 8) (hdg : decode c.code g.pc = .ok (.invokevirtual index, 3)) (hc : cells + mc ≤ R.cells) (hs : slots + ms ≤ R.slots)
    (hP : ∀ U : State, U.heap = T.heap → s.WarmedH U.vm → Pc (Value.ref b :: argsL).toArray U) : xRun p l e R s m args below meth c T locs cells slots mc ms g rest (Qc (Value.ref b :: argsL).toArray) free := by
  have hcode : (Cond.code y bytes maxL ret).before args s = true := cb.1.2.2.2.2.1 _ cb.1.2.2.2.2.2 args s (State.WarmedH.refl s)
  obtain ⟨mk, methM, hnamed, hmethM, hstM, habM⟩ := Cond.instanceMethod_spec hinst
  obtain ⟨methM', cM, hmethM', -, -, -, -, -, -, hsigM⟩ := Cond.code_spec hnamed hcode
  cases hmethM.symm.trans hmethM'
  obtain ⟨c2, r2, m2, q1, q2, q3, q4, kP, hkP, hkPi⟩ := Cond.selects_spec hsel
  cases hcls.symm.trans q1
  cases (State.methodFound?_of_named hnamed hy).symm.trans q2
  cases hnamed.symm.trans q3
  have hselP : selectMethod e.platform s.vm cellB.cls mk = .method mk := by rw [Launch.admits_selectMethod X.admits]; exact q4
  obtain ⟨vm₁, X₁, hstep₁⟩ := X.invokevirtualNest hexec hown hlink hnamed hmethM hstM hkP hkPi hy (a := b) (cell := cellB) hcell
    (fun z h => by rw [h] at hobj; cases hobj) hselP hmethM habM hkP hkPi (g := g) hg (argsL := argsL) (rest := rest) (hlen _ hsigM) hstack hdg
  obtain ⟨o, t, T', L, X', hL, e1, e2, hq, hst⟩ := xBack hM hbl cb.1 cb.2 X₁ (g := { g with stack := rest }) hg hsize hdg hW (X₁.named hnamed) hc hs (hP (T.setVm vm₁) rfl X₁.warmed)
  refine ⟨o, (T.setVm vm₁).calling { g with stack := rest } mk _, t, T', L, rfl, X', hL, e1, e2, hq, ?_⟩
  rcases hst with ⟨v, hv, h⟩ | ⟨x, hx, h⟩
  · exact Or.inl ⟨v, hv, fun tg ht => hstep₁ _ fun acts => by rw [doInvoke_state]; exact h.trans ht⟩
  · exact Or.inr ⟨x, hx, fun tg ht => hstep₁ _ fun acts => by rw [doInvoke_state]; exact h.trans ht⟩
end XCALL
/-! calls, returns, throws and the entry, in the calculus -/
section XVC
variable {p : Program} {l : Launch} {e : Env} {R : Room} {s : State} {m : MethodId} {args : Array Value} {below : List Frame} {meth : Method} {c : Code} {D : va_G} {cl : List vw_C} {w : xSt → va_W} {A : Nat → Prop} {nL cells slots : Nat} {Q : State → Prop}
variable {cc : ByteArray} {own : String} {Ts : List Cond} {tys : List (ClassId × FieldType)} {g g' : xSt} {pc mc ms : Nat} {lv lv' : List (Nat × Value)} {stk rest : List Value} {v : Option Value} {E : String} {a : Array Value}
theorem xA_sub (C : xC p s m args c cc own Ts nL D cl w tys A) {sz q : Nat} (hz : s.heap.size ≤ sz) (h : xA w sz q) : A q := by
  rcases h with ⟨k, e, h⟩ | h
  · exact (C.2.2.2.2.2.2.1 _).2 k _ h
  · exact C.2.2.2.2.2.2.2 q (Nat.le_trans hz h)
theorem xS_call (C : xC p s m args c cc own Ts nL D cl w tys A) {H : Heap} {t st₀ : State} {locs L : List Loc} (hS : va_S A s.heap H locs) (h0 : st₀.heap = H) (hF : va_F (xA w H.size) st₀ t) (hL : ∀ q ∈ L, xA w H.size q.base) : va_S A s.heap t.heap (locs ++ L) := by
  obtain ⟨hz, hk⟩ := hF
  rw [h0] at hz hk
  refine ⟨Nat.le_trans hS.1 hz, fun q h1 h2 => ?_, fun q hq => ?_⟩
  · rw [hk q (Nat.lt_of_lt_of_le h1 hS.1) (fun z => h2 (xA_sub C hS.1 z))]
    exact hS.2.1 q h1 h2
  · rcases List.mem_append.mp hq with h | h
    · exact hS.2.2 q h
    · exact xA_sub C hS.1 (hL q h)
theorem v_back (C : xC p s m args c cc own Ts nL D cl w tys A)
    (run : ∀ (T : State) (locs : List Loc) (ls : Array Slot), va_P D cl (w g) T.heap → ls.size = nL → Stand p l e R s m args below meth c T locs cells slots → xRun p l e R s m args below meth c T locs cells slots mc ms (F0 m pc ls stk) rest (xQ D cl w (xA w T.heap.size) (.inl v) g' a) (xA w T.heap.size))
    (k : xV p l e R s m args below meth c D cl w A nL (cells + mc) (slots + ms) Q g' (pc + 3) lv (v.toList ++ rest)) : xV p l e R s m args below meth c D cl w A nL cells slots Q g pc lv stk := by
  intro H locs ls hP hS hl T hT X
  subst hT
  obtain ⟨o, st₀, t, T', L, h0, X', hL, e1, e2, ⟨ho, hP', hF⟩, hst⟩ := run T locs ls hP hl.1 X
  have ho : o = .returned v := ho
  rcases hst with ⟨v', hv', h⟩ | ⟨x, hx, h⟩
  · have hvv : v' = v := by have := hv'.symm.trans ho; cases this; rfl
    subst hvv
    obtain ⟨t2, a1, b1⟩ := k T'.heap (locs ++ L) ls (by rw [e1]; exact hP') (by rw [e1]; exact xS_call C hS h0 hF hL) hl T' rfl X'
    exact ⟨t2, h t2 a1, b1⟩
  · have := hx.symm.trans ho
    cases this
/-- a call that throws out of this method -/
theorem v_out (C : xC p s m args c cc own Ts nL D cl w tys A)
    (run : ∀ (T : State) (locs : List Loc) (ls : Array Slot), va_P D cl (w g) T.heap → ls.size = nL → Stand p l e R s m args below meth c T locs cells slots → xRun p l e R s m args below meth c T locs cells slots mc ms (F0 m pc ls stk) rest (xQ D cl w (xA w T.heap.size) (.inr E) g' a) (xA w T.heap.size))
    (hout : ∀ x ∈ c.exceptionTable.toList, covers x pc = false) (hlocks : meth.locks = false) {mc' ms' : Nat} (h1 : cells + mc ≤ mc') (h2 : slots + ms ≤ ms') :
    xV p l e R s m args below meth c D cl w A nL cells slots (xMQ below (xQ D cl w A (.inr E) g') args s mc' ms' A) g pc lv stk := by
  intro H locs ls hP hS hl T hT X
  subst hT
  obtain ⟨o, st₀, t, T', L, h0, X', hL, e1, e2, ⟨ho, hP', hF⟩, hst⟩ := run T locs ls hP hl.1 X
  obtain ⟨x, ho, hx, hth⟩ : ∃ x : Addr, o = .threw x ∧ st₀.heap.size ≤ x ∧ xTh E t x := ho
  rcases hst with ⟨v', hv', h⟩ | ⟨x', hx', h⟩
  · have := hv'.symm.trans ho
    cases this
  · have hxx : x' = x := by have := hx'.symm.trans ho; cases this; rfl
    subst hxx
    have X'' := stand_widen X' h1 h2
    obtain ⟨q1, q2, q3, q4, q5⟩ := X''.leaveThrown x' (g := { F0 m pc ls stk with stack := rest }) rfl rfl rfl hout hlocks
    have hS' := xS_call C hS h0 hF hL
    refine ⟨_, h _ q1, .threw x', q2, q3, ⟨⟨x', rfl, by rw [h0] at hx; exact Nat.le_trans hS.1 hx, ?_⟩, ?_, ?_⟩, locs ++ L, ⟨q4, q5⟩, hS'.2.2⟩
    · obtain ⟨ce, c1, c2, c3⟩ := hth
      exact ⟨ce, by show T'.heap[x']? = _; rw [e1]; exact c1, by show T'.vm.findClass E = _; rw [e2]; exact c2, c3⟩
    · show va_P D cl (w g') T'.heap
      rw [e1]; exact hP'
    · rw [← e1] at hS'
      exact hS'.F rfl
theorem v_iret (C : xC p s m args c cc own Ts nL D cl w tys A) {r : Int32} {ty : FieldType} (hr : meth.sig.returnType = some ty) (hn : narrow ty (.int r) = .int r) (hdg : decode cc pc = .ok (.ireturn, 1)) (hlocks : meth.locks = false) {mc' ms' : Nat} (h1 : cells ≤ mc') (h2 : slots ≤ ms') :
    xV p l e R s m args below meth c D cl w A nL cells slots (xMQ below (xQ D cl w A (.inl (some (.int r))) g) args s mc' ms' A) g pc lv [.int r] :=
  fun H locs ls hP hS hl => W.widen h1 h2 (xiret C.1 C.2.1 hr hn (fun t ht hW => ⟨rfl, by rw [ht]; exact hP, hS.F ht⟩) hS.2.2 hdg hlocks)
theorem v_vret (C : xC p s m args c cc own Ts nL D cl w tys A) (hr : meth.sig.returnType = none) (hdg : decode cc pc = .ok (.return_, 1)) (hlocks : meth.locks = false) {mc' ms' : Nat} (h1 : cells ≤ mc') (h2 : slots ≤ ms') :
    xV p l e R s m args below meth c D cl w A nL cells slots (xMQ below (xQ D cl w A (.inl none) g) args s mc' ms' A) g pc lv [] :=
  fun H locs ls hP hS hl => W.widen h1 h2 (xvret C.1 C.2.1 hr (fun t ht hW => ⟨rfl, by rw [ht]; exact hP, hS.F ht⟩) hS.2.2 hdg hlocks)
theorem x_start {As : List Value} (hV : xV p l e R s m args below meth c D cl w A nL cells slots Q g 0 (lv_args 0 As) []) (hP : va_P D cl (w g) s.heap) (hn : (lg_sl As).length ≤ nL) : W p l e R s m args below meth c s.heap [] cells slots Q (entryFrame m As.toArray nL) := by
  rw [lg_entry_eq]
  exact hV s.heap [] _ hP va_S.rf (lv_entry As hn)
end XVC
end
