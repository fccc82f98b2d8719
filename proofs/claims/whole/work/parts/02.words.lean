/-! words of the tables by their places (printed) -/
set_option maxRecDepth 100000 in
theorem tw_0 : lw_tbl[0]? = some (.selects "CrossDock" ⟨"CrossDock", "arrivalsFor", "(I)I"⟩ ⟨"CrossDock", "arrivalsFor", "(I)I"⟩) := by decide +kernel
set_option maxRecDepth 100000 in
theorem tw_1 : lw_tbl[1]? = some (.selects "CrossDock" ⟨"CrossDock", "mayServe", "(II)Z"⟩ ⟨"CrossDock", "mayServe", "(II)Z"⟩) := by decide +kernel
set_option maxRecDepth 100000 in
theorem tw_2 : lw_tbl[2]? = some (.selects "CrossDock" ⟨"CrossDock", "obstacle", "(II)I"⟩ ⟨"CrossDock", "obstacle", "(II)I"⟩) := by decide +kernel
set_option maxRecDepth 100000 in
theorem tw_3 : lw_tbl[3]? = some (.selects "CrossDock$Order" ⟨"CrossDock$Order", "takesLot", "(I)Z"⟩ ⟨"CrossDock$Order", "takesLot", "(I)Z"⟩) := by decide +kernel
set_option maxRecDepth 100000 in
theorem tw_4 : lw_tbl[4]? = some (.selects "CrossDock$Arrival" ⟨"CrossDock$Arrival", "isBarredFor", "(I)Z"⟩ ⟨"CrossDock$Arrival", "isBarredFor", "(I)Z"⟩) := by decide +kernel
set_option maxRecDepth 100000 in
theorem tw_5 : lw_tbl[5]? = some (.selects "CrossDock" ⟨"CrossDock", "ordersFor", "(I)I"⟩ ⟨"CrossDock", "ordersFor", "(I)I"⟩) := by decide +kernel
set_option maxRecDepth 100000 in
theorem tw_6 : lw_tbl[6]? = some (.selects "CrossDock" ⟨"CrossDock", "touchesSaved", "()I"⟩ ⟨"CrossDock", "touchesSaved", "()I"⟩) := by decide +kernel
set_option maxRecDepth 100000 in
theorem tw_7 : lw_tbl[7]? = some (.selects "CrossDock$Pairs" ⟨"CrossDock$Pairs", "palletsInAll", "()I"⟩ ⟨"CrossDock$Pairs", "palletsInAll", "()I"⟩) := by decide +kernel
set_option maxRecDepth 100000 in
theorem tw_8 : lw_tbl[8]? = some (.selects "CrossDock$Pairs" ⟨"CrossDock$Pairs", "palletsFor", "(I)I"⟩ ⟨"CrossDock$Pairs", "palletsFor", "(I)I"⟩) := by decide +kernel
set_option maxRecDepth 100000 in
theorem tw_9 : lw_tbl[9]? = some (.selects "CrossDock$Arrival" ⟨"CrossDock$Arrival", "toGive", "()I"⟩ ⟨"CrossDock$Arrival", "toGive", "()I"⟩) := by decide +kernel
set_option maxRecDepth 100000 in
theorem tw_10 : lw_tbl[10]? = some (.selects "CrossDock" ⟨"CrossDock", "fullLanes", "()I"⟩ ⟨"CrossDock", "fullLanes", "()I"⟩) := by decide +kernel
set_option maxRecDepth 100000 in
theorem tw_11 : lw_tbl[11]? = some (.selects "java/lang/Throwable" ⟨"java/lang/Throwable", "fillInStackTrace", "(I)Ljava/lang/Throwable;"⟩ ⟨"java/lang/Throwable", "fillInStackTrace", "(I)Ljava/lang/Throwable;"⟩) := by decide +kernel
set_option maxRecDepth 100000 in
theorem tw_12 : lw_tbl[12]? = some (.selects "CrossDock$Pairs" ⟨"CrossDock$Pairs", "palletsOf", "(I)I"⟩ ⟨"CrossDock$Pairs", "palletsOf", "(I)I"⟩) := by decide +kernel
set_option maxRecDepth 100000 in
theorem tw_13 : lw_tbl[13]? = some (.selects "CrossDock$Arrival" ⟨"CrossDock$Arrival", "setBarred", "(IZ)V"⟩ ⟨"CrossDock$Arrival", "setBarred", "(IZ)V"⟩) := by decide +kernel
set_option maxRecDepth 100000 in
theorem tw_14 : lw_tbl[14]? = some (.selects "CrossDock" ⟨"CrossDock", "layOutPairs", "()V"⟩ ⟨"CrossDock", "layOutPairs", "()V"⟩) := by decide +kernel
set_option maxRecDepth 100000 in
theorem tw_15 : lw_tbl[15]? = some (.selects "CrossDock" ⟨"CrossDock", "sortOrders", "()V"⟩ ⟨"CrossDock", "sortOrders", "()V"⟩) := by decide +kernel
set_option maxRecDepth 100000 in
theorem tw_16 : lw_tbl[16]? = some (.selects "CrossDock" ⟨"CrossDock", "sortArrivals", "()V"⟩ ⟨"CrossDock", "sortArrivals", "()V"⟩) := by decide +kernel
set_option maxRecDepth 100000 in
theorem tw_17 : lw_tbl[17]? = some (.selects "CrossDock$Search" ⟨"CrossDock$Search", "addPair", "(II)V"⟩ ⟨"CrossDock$Search", "addPair", "(II)V"⟩) := by decide +kernel
set_option maxRecDepth 100000 in
theorem tw_18 : lw_tbl[18]? = some (.selects "CrossDock$Search" ⟨"CrossDock$Search", "lookAtAll", "(I)Z"⟩ ⟨"CrossDock$Search", "lookAtAll", "(I)Z"⟩) := by decide +kernel
set_option maxRecDepth 100000 in
theorem tw_19 : lw_tbl[19]? = some (.selects "CrossDock$Search" ⟨"CrossDock$Search", "putAllBack", "()V"⟩ ⟨"CrossDock$Search", "putAllBack", "()V"⟩) := by decide +kernel
set_option maxRecDepth 100000 in
theorem tw_20 : lw_tbl[20]? = some (.selects "CrossDock$Search" ⟨"CrossDock$Search", "greatest", "(I)I"⟩ ⟨"CrossDock$Search", "greatest", "(I)I"⟩) := by decide +kernel
set_option maxRecDepth 100000 in
theorem tw_21 : lw_tbl[21]? = some (.selects "CrossDock$Search" ⟨"CrossDock$Search", "backToUntried", "(I)I"⟩ ⟨"CrossDock$Search", "backToUntried", "(I)I"⟩) := by decide +kernel
set_option maxRecDepth 100000 in
theorem tw_22 : lw_tbl[22]? = some (.selects "CrossDock$Search" ⟨"CrossDock$Search", "putBack", "(I)V"⟩ ⟨"CrossDock$Search", "putBack", "(I)V"⟩) := by decide +kernel
set_option maxRecDepth 100000 in
theorem tw_23 : lw_tbl[23]? = some (.selects "CrossDock$Search" ⟨"CrossDock$Search", "touchesBy", "(I)I"⟩ ⟨"CrossDock$Search", "touchesBy", "(I)I"⟩) := by decide +kernel
set_option maxRecDepth 100000 in
theorem tw_24 : lw_tbl[24]? = some (.selects "CrossDock$Search" ⟨"CrossDock$Search", "take", "(II)V"⟩ ⟨"CrossDock$Search", "take", "(II)V"⟩) := by decide +kernel
set_option maxRecDepth 100000 in
theorem tw_25 : lw_tbl[25]? = some (.selects "CrossDock$Search" ⟨"CrossDock$Search", "chooseIfBetter", "()V"⟩ ⟨"CrossDock$Search", "chooseIfBetter", "()V"⟩) := by decide +kernel
set_option maxRecDepth 100000 in
theorem tw_26 : lw_tbl[26]? = some (.selects "CrossDock$Search" ⟨"CrossDock$Search", "chooseByRule", "()V"⟩ ⟨"CrossDock$Search", "chooseByRule", "()V"⟩) := by decide +kernel
set_option maxRecDepth 100000 in
theorem tw_27 : lw_tbl[27]? = some (.selects "CrossDock$Pairs" ⟨"CrossDock$Pairs", "replaceBy", "(LCrossDock$Search;)V"⟩ ⟨"CrossDock$Pairs", "replaceBy", "(LCrossDock$Search;)V"⟩) := by decide +kernel
set_option maxRecDepth 100000 in
theorem tw_28 : lw_tbl[28]? = some (.selects "CrossDock$Pairs" ⟨"CrossDock$Pairs", "removeAt", "(I)V"⟩ ⟨"CrossDock$Pairs", "removeAt", "(I)V"⟩) := by decide +kernel
set_option maxRecDepth 100000 in
theorem tw_29 : lw_tbl[29]? = some (.selects "CrossDock$Arrival" ⟨"CrossDock$Arrival", "moveTo", "(LCrossDock$Arrival;I)V"⟩ ⟨"CrossDock$Arrival", "moveTo", "(LCrossDock$Arrival;I)V"⟩) := by decide +kernel
set_option maxRecDepth 100000 in
theorem tw_30 : lw_tbl[30]? = some (.selects "CrossDock" ⟨"CrossDock", "isUnfit", "(II)Z"⟩ ⟨"CrossDock", "isUnfit", "(II)Z"⟩) := by decide +kernel
set_option maxRecDepth 100000 in
theorem tw_31 : lw_tbl[31]? = some (.selects "CrossDock" ⟨"CrossDock", "whatBarsAll", "(I)I"⟩ ⟨"CrossDock", "whatBarsAll", "(I)I"⟩) := by decide +kernel
set_option maxRecDepth 100000 in
theorem tw_32 : lw_tbl[32]? = some (.selects "CrossDockModel" ⟨"CrossDockModel", "isOrder", "(I)Z"⟩ ⟨"CrossDockModel", "isOrder", "(I)Z"⟩) := by decide +kernel
set_option maxRecDepth 100000 in
theorem tw_33 : lw_tbl[33]? = some (.selects "CrossDockModel" ⟨"CrossDockModel", "isArrival", "(I)Z"⟩ ⟨"CrossDockModel", "isArrival", "(I)Z"⟩) := by decide +kernel
set_option maxRecDepth 100000 in
theorem tw_34 : lw_tbl[34]? = some (.selects "CrossDockModel" ⟨"CrossDockModel", "held", "(I)I"⟩ ⟨"CrossDockModel", "held", "(I)I"⟩) := by decide +kernel
set_option maxRecDepth 100000 in
theorem tw_35 : lw_tbl[35]? = some (.selects "CrossDockModel" ⟨"CrossDockModel", "mayServe", "(II)Z"⟩ ⟨"CrossDockModel", "mayServe", "(II)Z"⟩) := by decide +kernel
set_option maxRecDepth 100000 in
theorem tw_36 : lw_tbl[36]? = some (.selects "CrossDockModel" ⟨"CrossDockModel", "passes", "(III)Z"⟩ ⟨"CrossDockModel", "passes", "(III)Z"⟩) := by decide +kernel
set_option maxRecDepth 100000 in
theorem tw_37 : lw_tbl[37]? = some (.selects "CrossDockModel" ⟨"CrossDockModel", "layOut", "()V"⟩ ⟨"CrossDockModel", "layOut", "()V"⟩) := by decide +kernel
set_option maxRecDepth 100000 in
theorem tw_38 : lw_tbl[38]? = some (.selects "CrossDockModel" ⟨"CrossDockModel", "orderAt", "(I)I"⟩ ⟨"CrossDockModel", "orderAt", "(I)I"⟩) := by decide +kernel
set_option maxRecDepth 100000 in
theorem tw_39 : lw_tbl[39]? = some (.selects "CrossDockModel" ⟨"CrossDockModel", "isOrderBefore", "(II)Z"⟩ ⟨"CrossDockModel", "isOrderBefore", "(II)Z"⟩) := by decide +kernel
set_option maxRecDepth 100000 in
theorem tw_40 : lw_tbl[40]? = some (.selects "CrossDockModel" ⟨"CrossDockModel", "arrivalAt", "(I)I"⟩ ⟨"CrossDockModel", "arrivalAt", "(I)I"⟩) := by decide +kernel
set_option maxRecDepth 100000 in
theorem tw_41 : lw_tbl[41]? = some (.selects "CrossDockModel" ⟨"CrossDockModel", "isArrivalBefore", "(II)Z"⟩ ⟨"CrossDockModel", "isArrivalBefore", "(II)Z"⟩) := by decide +kernel
set_option maxRecDepth 100000 in
theorem tw_42 : lw_tbl[42]? = some (.selects "CrossDockModel" ⟨"CrossDockModel", "lookAtAll", "(I)Z"⟩ ⟨"CrossDockModel", "lookAtAll", "(I)Z"⟩) := by decide +kernel
set_option maxRecDepth 100000 in
theorem tw_43 : lw_tbl[43]? = some (.selects "CrossDockModel" ⟨"CrossDockModel", "greatest", "(I)I"⟩ ⟨"CrossDockModel", "greatest", "(I)I"⟩) := by decide +kernel
set_option maxRecDepth 100000 in
theorem tw_44 : lw_tbl[44]? = some (.selects "CrossDockModel" ⟨"CrossDockModel", "has", "(I)I"⟩ ⟨"CrossDockModel", "has", "(I)I"⟩) := by decide +kernel
set_option maxRecDepth 100000 in
theorem tw_45 : lw_tbl[45]? = some (.selects "CrossDockModel" ⟨"CrossDockModel", "worth", "()I"⟩ ⟨"CrossDockModel", "worth", "()I"⟩) := by decide +kernel
set_option maxRecDepth 100000 in
theorem tw_46 : lw_tbl[46]? = some (.selects "CrossDockModel" ⟨"CrossDockModel", "byRule", "()V"⟩ ⟨"CrossDockModel", "byRule", "()V"⟩) := by decide +kernel
set_option maxRecDepth 100000 in
theorem tw_47 : lw_tbl[47]? = some (.selects "CrossDockModel" ⟨"CrossDockModel", "savedNow", "()I"⟩ ⟨"CrossDockModel", "savedNow", "()I"⟩) := by decide +kernel
set_option maxRecDepth 100000 in
theorem tw_48 : lw_tbl[48]? = some (.selects "CrossDockModel" ⟨"CrossDockModel", "hasGot", "(I)I"⟩ ⟨"CrossDockModel", "hasGot", "(I)I"⟩) := by decide +kernel
set_option maxRecDepth 100000 in
theorem tw_49 : lw_tbl[49]? = some (.selects "CrossDockModel" ⟨"CrossDockModel", "drop", "(I)V"⟩ ⟨"CrossDockModel", "drop", "(I)V"⟩) := by decide +kernel
set_option maxRecDepth 100000 in
theorem tw_50 : lw_tbl[50]? = some (.selects "CrossDockModel" ⟨"CrossDockModel", "passing", "(II)I"⟩ ⟨"CrossDockModel", "passing", "(II)I"⟩) := by decide +kernel
set_option maxRecDepth 100000 in
theorem tw_51 : lw_tbl[51]? = some (.initialized "CrossDockLaw") := by decide +kernel
set_option maxRecDepth 100000 in
theorem tw_52 : lw_tbl[52]? = some (.initialized "CrossDock") := by decide +kernel
set_option maxRecDepth 100000 in
theorem tw_53 : lw_tbl[53]? = some (.initialized "CrossDock$Arrival") := by decide +kernel
set_option maxRecDepth 100000 in
theorem tw_54 : lw_tbl[54]? = some (.initialized "CrossDock$Order") := by decide +kernel
set_option maxRecDepth 100000 in
theorem tw_55 : lw_tbl[55]? = some (.initialized "CrossDock$Search") := by decide +kernel
set_option maxRecDepth 100000 in
theorem tw_56 : lw_tbl[56]? = some (.initialized "CrossDock$Pairs") := by decide +kernel
set_option maxRecDepth 100000 in
theorem tw_57 : lw_tbl[57]? = some (.initialized "CrossDockModel") := by decide +kernel
set_option maxRecDepth 100000 in
theorem tw_58 : lw_tbl[58]? = some (.initialized "java/lang/Throwable") := by decide +kernel
set_option maxRecDepth 100000 in
theorem tw_59 : lw_tbl[59]? = some (.initialized "java/lang/Exception") := by decide +kernel
set_option maxRecDepth 100000 in
theorem tw_60 : lw_tbl[60]? = some (.initialized "java/lang/RuntimeException") := by decide +kernel
set_option maxRecDepth 100000 in
theorem tw_61 : lw_tbl[61]? = some (.initialized "java/lang/IllegalArgumentException") := by decide +kernel
set_option maxRecDepth 100000 in
theorem tw_62 : lw_tbl[62]? = some (.initialized "java/lang/UnsupportedOperationException") := by decide +kernel
set_option maxRecDepth 100000 in
theorem tw_63 : lw_tbl[63]? = some (.initialized "java/util/NoSuchElementException") := by decide +kernel
set_option maxRecDepth 100000 in
theorem tw_64 : lw_tbl[64]? = some (.initialized "java/lang/IllegalStateException") := by decide +kernel
set_option maxRecDepth 100000 in
theorem tw_65 : lw_tbl[65]? = some (.initialized "java/lang/System") := by decide +kernel
set_option maxRecDepth 100000 in
theorem tw_66 : lw_tbl[66]? = some (.initialized "java/lang/Math") := by decide +kernel
set_option maxRecDepth 100000 in
theorem tw_67 : lw_tbl[67]? = some (.classLink "CrossDockLaw" 8 "CrossDock") := by decide +kernel
set_option maxRecDepth 100000 in
theorem tw_68 : lw_tbl[68]? = some (.instantiable "CrossDock" 11) := by decide +kernel
set_option maxRecDepth 100000 in
theorem tw_69 : lw_tbl[69]? = some (.methodLink "CrossDockLaw" 63 ⟨"CrossDock", "<init>", "()V"⟩) := by decide +kernel
set_option maxRecDepth 100000 in
theorem tw_70 : lw_tbl[70]? = some (.instanceMethod ⟨"CrossDock", "<init>", "()V"⟩) := by decide +kernel
set_option maxRecDepth 100000 in
theorem tw_71 : lw_tbl[71]? = some (.code ⟨"CrossDock", "<init>", "()V"⟩ prog_1_method_1_code 2 none) := by decide +kernel
set_option maxRecDepth 100000 in
theorem tw_72 : lw_tbl[72]? = some (.methodLink "CrossDock" 3 ⟨"java/lang/Object", "<init>", "()V"⟩) := by decide +kernel
set_option maxRecDepth 100000 in
theorem tw_73 : lw_tbl[73]? = some (.instanceMethod ⟨"java/lang/Object", "<init>", "()V"⟩) := by decide +kernel
set_option maxRecDepth 100000 in
theorem tw_74 : lw_tbl[74]? = some (.code ⟨"java/lang/Object", "<init>", "()V"⟩ object_method_1_code 1 none) := by decide +kernel
set_option maxRecDepth 100000 in
theorem tw_75 : lw_tbl[75]? = some (.classLink "CrossDock" 9 "CrossDock$Arrival") := by decide +kernel
set_option maxRecDepth 100000 in
theorem tw_76 : lw_tbl[76]? = some (.arrayOver (.object "CrossDock$Arrival")) := by decide +kernel
set_option maxRecDepth 100000 in
theorem tw_77 : lw_tbl[77]? = some (.instantiable "CrossDock$Arrival" 6) := by decide +kernel
set_option maxRecDepth 100000 in
theorem tw_78 : lw_tbl[78]? = some (.methodLinkNest "CrossDock" 15 ⟨"CrossDock$Arrival", "<init>", "()V"⟩ "CrossDock") := by decide +kernel
set_option maxRecDepth 100000 in
theorem tw_79 : lw_tbl[79]? = some (.instanceMethod ⟨"CrossDock$Arrival", "<init>", "()V"⟩) := by decide +kernel
set_option maxRecDepth 100000 in
theorem tw_80 : lw_tbl[80]? = some (.code ⟨"CrossDock$Arrival", "<init>", "()V"⟩ prog_2_method_1_code 1 none) := by decide +kernel
set_option maxRecDepth 100000 in
theorem tw_81 : lw_tbl[81]? = some (.methodLink "CrossDock$Arrival" 1 ⟨"java/lang/Object", "<init>", "()V"⟩) := by decide +kernel
set_option maxRecDepth 100000 in
theorem tw_82 : lw_tbl[82]? = some (.fieldLinkNest "CrossDock" 70 "CrossDock$Arrival" "good" "I" "CrossDock") := by decide +kernel
set_option maxRecDepth 100000 in
theorem tw_83 : lw_tbl[83]? = some (.fieldLink "CrossDock$Arrival" 25 "CrossDock$Arrival" "good" "I") := by decide +kernel
set_option maxRecDepth 100000 in
theorem tw_84 : lw_tbl[84]? = some (.fieldLinkNest "CrossDock" 73 "CrossDock$Arrival" "lot" "I" "CrossDock") := by decide +kernel
set_option maxRecDepth 100000 in
theorem tw_85 : lw_tbl[85]? = some (.fieldLink "CrossDock$Arrival" 28 "CrossDock$Arrival" "lot" "I") := by decide +kernel
set_option maxRecDepth 100000 in
theorem tw_86 : lw_tbl[86]? = some (.fieldLinkNest "CrossDock" 76 "CrossDock$Arrival" "time" "I" "CrossDock") := by decide +kernel
set_option maxRecDepth 100000 in
theorem tw_87 : lw_tbl[87]? = some (.fieldLink "CrossDock$Arrival" 31 "CrossDock$Arrival" "time" "I") := by decide +kernel
set_option maxRecDepth 100000 in
theorem tw_88 : lw_tbl[88]? = some (.fieldLink "CrossDock$Arrival" 7 "CrossDock$Arrival" "pallets" "I") := by decide +kernel
set_option maxRecDepth 100000 in
theorem tw_89 : lw_tbl[89]? = some (.fieldLinkNest "CrossDock" 79 "CrossDock$Arrival" "pallets" "I" "CrossDock") := by decide +kernel
set_option maxRecDepth 100000 in
theorem tw_90 : lw_tbl[90]? = some (.fieldLink "CrossDock$Arrival" 13 "CrossDock$Arrival" "kept" "I") := by decide +kernel
set_option maxRecDepth 100000 in
theorem tw_91 : lw_tbl[91]? = some (.fieldLinkNest "CrossDock" 110 "CrossDock$Arrival" "kept" "I" "CrossDock") := by decide +kernel
set_option maxRecDepth 100000 in
theorem tw_92 : lw_tbl[92]? = some (.fieldLink "CrossDock$Arrival" 16 "CrossDock$Arrival" "barredOrders" "I") := by decide +kernel
set_option maxRecDepth 100000 in
theorem tw_93 : lw_tbl[93]? = some (.lays "CrossDock$Arrival" "CrossDock$Arrival" "good" "I") := by decide +kernel
set_option maxRecDepth 100000 in
theorem tw_94 : lw_tbl[94]? = some (.soleField "CrossDock$Arrival" "good") := by decide +kernel
set_option maxRecDepth 100000 in
theorem tw_95 : lw_tbl[95]? = some (.lays "CrossDock$Arrival" "CrossDock$Arrival" "lot" "I") := by decide +kernel
set_option maxRecDepth 100000 in
theorem tw_96 : lw_tbl[96]? = some (.soleField "CrossDock$Arrival" "lot") := by decide +kernel
set_option maxRecDepth 100000 in
theorem tw_97 : lw_tbl[97]? = some (.lays "CrossDock$Arrival" "CrossDock$Arrival" "time" "I") := by decide +kernel
set_option maxRecDepth 100000 in
theorem tw_98 : lw_tbl[98]? = some (.soleField "CrossDock$Arrival" "time") := by decide +kernel
set_option maxRecDepth 100000 in
theorem tw_99 : lw_tbl[99]? = some (.lays "CrossDock$Arrival" "CrossDock$Arrival" "pallets" "I") := by decide +kernel
set_option maxRecDepth 100000 in
theorem tw_100 : lw_tbl[100]? = some (.soleField "CrossDock$Arrival" "pallets") := by decide +kernel
set_option maxRecDepth 100000 in
theorem tw_101 : lw_tbl[101]? = some (.lays "CrossDock$Arrival" "CrossDock$Arrival" "kept" "I") := by decide +kernel
set_option maxRecDepth 100000 in
theorem tw_102 : lw_tbl[102]? = some (.soleField "CrossDock$Arrival" "kept") := by decide +kernel
set_option maxRecDepth 100000 in
theorem tw_103 : lw_tbl[103]? = some (.lays "CrossDock$Arrival" "CrossDock$Arrival" "barredOrders" "I") := by decide +kernel
set_option maxRecDepth 100000 in
theorem tw_104 : lw_tbl[104]? = some (.soleField "CrossDock$Arrival" "barredOrders") := by decide +kernel
set_option maxRecDepth 100000 in
theorem tw_105 : lw_tbl[105]? = some (.superclass "CrossDock$Arrival" "java/lang/Object") := by decide +kernel
set_option maxRecDepth 100000 in
theorem tw_106 : lw_tbl[106]? = some (.classLink "CrossDock" 16 "CrossDock$Order") := by decide +kernel
set_option maxRecDepth 100000 in
theorem tw_107 : lw_tbl[107]? = some (.arrayOver (.object "CrossDock$Order")) := by decide +kernel
set_option maxRecDepth 100000 in
theorem tw_108 : lw_tbl[108]? = some (.instantiable "CrossDock$Order" 6) := by decide +kernel
set_option maxRecDepth 100000 in
theorem tw_109 : lw_tbl[109]? = some (.methodLinkNest "CrossDock" 22 ⟨"CrossDock$Order", "<init>", "()V"⟩ "CrossDock") := by decide +kernel
set_option maxRecDepth 100000 in
theorem tw_110 : lw_tbl[110]? = some (.instanceMethod ⟨"CrossDock$Order", "<init>", "()V"⟩) := by decide +kernel
set_option maxRecDepth 100000 in
theorem tw_111 : lw_tbl[111]? = some (.code ⟨"CrossDock$Order", "<init>", "()V"⟩ prog_3_method_1_code 1 none) := by decide +kernel
set_option maxRecDepth 100000 in
theorem tw_112 : lw_tbl[112]? = some (.methodLink "CrossDock$Order" 1 ⟨"java/lang/Object", "<init>", "()V"⟩) := by decide +kernel
set_option maxRecDepth 100000 in
theorem tw_113 : lw_tbl[113]? = some (.fieldLinkNest "CrossDock" 82 "CrossDock$Order" "good" "I" "CrossDock") := by decide +kernel
set_option maxRecDepth 100000 in
theorem tw_114 : lw_tbl[114]? = some (.fieldLinkNest "CrossDock" 83 "CrossDock$Order" "pallets" "I" "CrossDock") := by decide +kernel
set_option maxRecDepth 100000 in
theorem tw_115 : lw_tbl[115]? = some (.fieldLinkNest "CrossDock" 84 "CrossDock$Order" "rank" "I" "CrossDock") := by decide +kernel
set_option maxRecDepth 100000 in
theorem tw_116 : lw_tbl[116]? = some (.fieldLinkNest "CrossDock" 87 "CrossDock$Order" "lane" "I" "CrossDock") := by decide +kernel
set_option maxRecDepth 100000 in
theorem tw_117 : lw_tbl[117]? = some (.fieldLinkNest "CrossDock" 90 "CrossDock$Order" "due" "I" "CrossDock") := by decide +kernel
set_option maxRecDepth 100000 in
theorem tw_118 : lw_tbl[118]? = some (.fieldLink "CrossDock$Order" 7 "CrossDock$Order" "lots" "I") := by decide +kernel
set_option maxRecDepth 100000 in
theorem tw_119 : lw_tbl[119]? = some (.fieldLinkNest "CrossDock" 93 "CrossDock$Order" "lots" "I" "CrossDock") := by decide +kernel
set_option maxRecDepth 100000 in
theorem tw_120 : lw_tbl[120]? = some (.lays "CrossDock$Order" "CrossDock$Order" "good" "I") := by decide +kernel
set_option maxRecDepth 100000 in
theorem tw_121 : lw_tbl[121]? = some (.soleField "CrossDock$Order" "good") := by decide +kernel
set_option maxRecDepth 100000 in
theorem tw_122 : lw_tbl[122]? = some (.lays "CrossDock$Order" "CrossDock$Order" "pallets" "I") := by decide +kernel
set_option maxRecDepth 100000 in
theorem tw_123 : lw_tbl[123]? = some (.soleField "CrossDock$Order" "pallets") := by decide +kernel
set_option maxRecDepth 100000 in
theorem tw_124 : lw_tbl[124]? = some (.lays "CrossDock$Order" "CrossDock$Order" "rank" "I") := by decide +kernel
set_option maxRecDepth 100000 in
theorem tw_125 : lw_tbl[125]? = some (.soleField "CrossDock$Order" "rank") := by decide +kernel
set_option maxRecDepth 100000 in
theorem tw_126 : lw_tbl[126]? = some (.lays "CrossDock$Order" "CrossDock$Order" "lane" "I") := by decide +kernel
set_option maxRecDepth 100000 in
theorem tw_127 : lw_tbl[127]? = some (.soleField "CrossDock$Order" "lane") := by decide +kernel
set_option maxRecDepth 100000 in
theorem tw_128 : lw_tbl[128]? = some (.lays "CrossDock$Order" "CrossDock$Order" "due" "I") := by decide +kernel
set_option maxRecDepth 100000 in
theorem tw_129 : lw_tbl[129]? = some (.soleField "CrossDock$Order" "due") := by decide +kernel
set_option maxRecDepth 100000 in
theorem tw_130 : lw_tbl[130]? = some (.lays "CrossDock$Order" "CrossDock$Order" "lots" "I") := by decide +kernel
set_option maxRecDepth 100000 in
theorem tw_131 : lw_tbl[131]? = some (.soleField "CrossDock$Order" "lots") := by decide +kernel
set_option maxRecDepth 100000 in
theorem tw_132 : lw_tbl[132]? = some (.superclass "CrossDock$Order" "java/lang/Object") := by decide +kernel
set_option maxRecDepth 100000 in
theorem tw_133 : lw_tbl[133]? = some (.classLink "CrossDock" 34 "CrossDock$Search") := by decide +kernel
set_option maxRecDepth 100000 in
theorem tw_134 : lw_tbl[134]? = some (.instantiable "CrossDock$Search" 13) := by decide +kernel
set_option maxRecDepth 100000 in
theorem tw_135 : lw_tbl[135]? = some (.methodLinkNest "CrossDock" 36 ⟨"CrossDock$Search", "<init>", "()V"⟩ "CrossDock") := by decide +kernel
set_option maxRecDepth 100000 in
theorem tw_136 : lw_tbl[136]? = some (.instanceMethod ⟨"CrossDock$Search", "<init>", "()V"⟩) := by decide +kernel
set_option maxRecDepth 100000 in
theorem tw_137 : lw_tbl[137]? = some (.code ⟨"CrossDock$Search", "<init>", "()V"⟩ prog_5_method_1_code 1 none) := by decide +kernel
set_option maxRecDepth 100000 in
theorem tw_138 : lw_tbl[138]? = some (.methodLink "CrossDock$Search" 3 ⟨"java/lang/Object", "<init>", "()V"⟩) := by decide +kernel
set_option maxRecDepth 100000 in
theorem tw_139 : lw_tbl[139]? = some (.fieldLink "CrossDock$Search" 9 "CrossDock$Search" "arrivalOf" "[I") := by decide +kernel
set_option maxRecDepth 100000 in
theorem tw_140 : lw_tbl[140]? = some (.fieldLinkNest "CrossDock$Pairs" 31 "CrossDock$Search" "arrivalOf" "[I" "CrossDock") := by decide +kernel
set_option maxRecDepth 100000 in
theorem tw_141 : lw_tbl[141]? = some (.fieldLink "CrossDock$Search" 15 "CrossDock$Search" "orderOf" "[I") := by decide +kernel
set_option maxRecDepth 100000 in
theorem tw_142 : lw_tbl[142]? = some (.fieldLinkNest "CrossDock$Pairs" 32 "CrossDock$Search" "orderOf" "[I" "CrossDock") := by decide +kernel
set_option maxRecDepth 100000 in
theorem tw_143 : lw_tbl[143]? = some (.fieldLink "CrossDock$Search" 18 "CrossDock$Search" "give" "[I") := by decide +kernel
set_option maxRecDepth 100000 in
theorem tw_144 : lw_tbl[144]? = some (.fieldLinkNest "CrossDock" 225 "CrossDock$Search" "give" "[I" "CrossDock") := by decide +kernel
set_option maxRecDepth 100000 in
theorem tw_145 : lw_tbl[145]? = some (.fieldLink "CrossDock$Search" 21 "CrossDock$Search" "want" "[I") := by decide +kernel
set_option maxRecDepth 100000 in
theorem tw_146 : lw_tbl[146]? = some (.fieldLinkNest "CrossDock" 228 "CrossDock$Search" "want" "[I" "CrossDock") := by decide +kernel
set_option maxRecDepth 100000 in
theorem tw_147 : lw_tbl[147]? = some (.fieldLink "CrossDock$Search" 24 "CrossDock$Search" "giveLeft" "[I") := by decide +kernel
set_option maxRecDepth 100000 in
theorem tw_148 : lw_tbl[148]? = some (.fieldLink "CrossDock$Search" 27 "CrossDock$Search" "wantLeft" "[I") := by decide +kernel
set_option maxRecDepth 100000 in
theorem tw_149 : lw_tbl[149]? = some (.fieldLink "CrossDock$Search" 30 "CrossDock$Search" "taken" "[I") := by decide +kernel
set_option maxRecDepth 100000 in
theorem tw_150 : lw_tbl[150]? = some (.fieldLink "CrossDock$Search" 33 "CrossDock$Search" "untried" "[I") := by decide +kernel
set_option maxRecDepth 100000 in
theorem tw_151 : lw_tbl[151]? = some (.fieldLink "CrossDock$Search" 36 "CrossDock$Search" "chosen" "[I") := by decide +kernel
set_option maxRecDepth 100000 in
theorem tw_152 : lw_tbl[152]? = some (.fieldLinkNest "CrossDock$Pairs" 28 "CrossDock$Search" "chosen" "[I" "CrossDock") := by decide +kernel
set_option maxRecDepth 100000 in
theorem tw_153 : lw_tbl[153]? = some (.fieldLink "CrossDock$Search" 39 "CrossDock$Search" "size" "I") := by decide +kernel
set_option maxRecDepth 100000 in
theorem tw_154 : lw_tbl[154]? = some (.fieldLinkNest "CrossDock$Pairs" 25 "CrossDock$Search" "size" "I" "CrossDock") := by decide +kernel
set_option maxRecDepth 100000 in
theorem tw_155 : lw_tbl[155]? = some (.fieldLinkNest "CrossDock" 224 "CrossDock$Search" "size" "I" "CrossDock") := by decide +kernel
set_option maxRecDepth 100000 in
theorem tw_156 : lw_tbl[156]? = some (.fieldLink "CrossDock$Search" 72 "CrossDock$Search" "touches" "I") := by decide +kernel
set_option maxRecDepth 100000 in
theorem tw_157 : lw_tbl[157]? = some (.fieldLink "CrossDock$Search" 46 "CrossDock$Search" "mostTouches" "I") := by decide +kernel
set_option maxRecDepth 100000 in
theorem tw_158 : lw_tbl[158]? = some (.fieldLink "CrossDock$Search" 53 "CrossDock$Search" "used" "I") := by decide +kernel
set_option maxRecDepth 100000 in
theorem tw_159 : lw_tbl[159]? = some (.fieldLinkNest "CrossDock" 128 "CrossDock$Search" "used" "I" "CrossDock") := by decide +kernel
set_option maxRecDepth 100000 in
theorem tw_160 : lw_tbl[160]? = some (.laysFinal "CrossDock$Search" "CrossDock$Search" "arrivalOf" "[I") := by decide +kernel
set_option maxRecDepth 100000 in
theorem tw_161 : lw_tbl[161]? = some (.soleField "CrossDock$Search" "arrivalOf") := by decide +kernel
set_option maxRecDepth 100000 in
theorem tw_162 : lw_tbl[162]? = some (.laysFinal "CrossDock$Search" "CrossDock$Search" "orderOf" "[I") := by decide +kernel
set_option maxRecDepth 100000 in
theorem tw_163 : lw_tbl[163]? = some (.soleField "CrossDock$Search" "orderOf") := by decide +kernel
set_option maxRecDepth 100000 in
theorem tw_164 : lw_tbl[164]? = some (.laysFinal "CrossDock$Search" "CrossDock$Search" "give" "[I") := by decide +kernel
set_option maxRecDepth 100000 in
theorem tw_165 : lw_tbl[165]? = some (.soleField "CrossDock$Search" "give") := by decide +kernel
set_option maxRecDepth 100000 in
theorem tw_166 : lw_tbl[166]? = some (.laysFinal "CrossDock$Search" "CrossDock$Search" "want" "[I") := by decide +kernel
set_option maxRecDepth 100000 in
theorem tw_167 : lw_tbl[167]? = some (.soleField "CrossDock$Search" "want") := by decide +kernel
set_option maxRecDepth 100000 in
theorem tw_168 : lw_tbl[168]? = some (.laysFinal "CrossDock$Search" "CrossDock$Search" "giveLeft" "[I") := by decide +kernel
set_option maxRecDepth 100000 in
theorem tw_169 : lw_tbl[169]? = some (.soleField "CrossDock$Search" "giveLeft") := by decide +kernel
set_option maxRecDepth 100000 in
theorem tw_170 : lw_tbl[170]? = some (.laysFinal "CrossDock$Search" "CrossDock$Search" "wantLeft" "[I") := by decide +kernel
set_option maxRecDepth 100000 in
theorem tw_171 : lw_tbl[171]? = some (.soleField "CrossDock$Search" "wantLeft") := by decide +kernel
set_option maxRecDepth 100000 in
theorem tw_172 : lw_tbl[172]? = some (.laysFinal "CrossDock$Search" "CrossDock$Search" "taken" "[I") := by decide +kernel
set_option maxRecDepth 100000 in
theorem tw_173 : lw_tbl[173]? = some (.soleField "CrossDock$Search" "taken") := by decide +kernel
set_option maxRecDepth 100000 in
theorem tw_174 : lw_tbl[174]? = some (.laysFinal "CrossDock$Search" "CrossDock$Search" "untried" "[I") := by decide +kernel
set_option maxRecDepth 100000 in
theorem tw_175 : lw_tbl[175]? = some (.soleField "CrossDock$Search" "untried") := by decide +kernel
set_option maxRecDepth 100000 in
theorem tw_176 : lw_tbl[176]? = some (.laysFinal "CrossDock$Search" "CrossDock$Search" "chosen" "[I") := by decide +kernel
set_option maxRecDepth 100000 in
theorem tw_177 : lw_tbl[177]? = some (.soleField "CrossDock$Search" "chosen") := by decide +kernel
set_option maxRecDepth 100000 in
theorem tw_178 : lw_tbl[178]? = some (.lays "CrossDock$Search" "CrossDock$Search" "size" "I") := by decide +kernel
set_option maxRecDepth 100000 in
theorem tw_179 : lw_tbl[179]? = some (.soleField "CrossDock$Search" "size") := by decide +kernel
set_option maxRecDepth 100000 in
theorem tw_180 : lw_tbl[180]? = some (.lays "CrossDock$Search" "CrossDock$Search" "touches" "I") := by decide +kernel
set_option maxRecDepth 100000 in
theorem tw_181 : lw_tbl[181]? = some (.soleField "CrossDock$Search" "touches") := by decide +kernel
set_option maxRecDepth 100000 in
theorem tw_182 : lw_tbl[182]? = some (.lays "CrossDock$Search" "CrossDock$Search" "mostTouches" "I") := by decide +kernel
set_option maxRecDepth 100000 in
theorem tw_183 : lw_tbl[183]? = some (.soleField "CrossDock$Search" "mostTouches") := by decide +kernel
set_option maxRecDepth 100000 in
theorem tw_184 : lw_tbl[184]? = some (.lays "CrossDock$Search" "CrossDock$Search" "used" "I") := by decide +kernel
set_option maxRecDepth 100000 in
theorem tw_185 : lw_tbl[185]? = some (.soleField "CrossDock$Search" "used") := by decide +kernel
set_option maxRecDepth 100000 in
theorem tw_186 : lw_tbl[186]? = some (.superclass "CrossDock$Search" "java/lang/Object") := by decide +kernel
set_option maxRecDepth 100000 in
theorem tw_187 : lw_tbl[187]? = some (.arrayClass .boolean) := by decide +kernel
set_option maxRecDepth 100000 in
theorem tw_188 : lw_tbl[188]? = some (.arrayClass .int) := by decide +kernel
set_option maxRecDepth 100000 in
theorem tw_189 : lw_tbl[189]? = some (.classLink "CrossDock" 41 "CrossDock$Pairs") := by decide +kernel
set_option maxRecDepth 100000 in
theorem tw_190 : lw_tbl[190]? = some (.instantiable "CrossDock$Pairs" 4) := by decide +kernel
set_option maxRecDepth 100000 in
theorem tw_191 : lw_tbl[191]? = some (.methodLinkNest "CrossDock" 43 ⟨"CrossDock$Pairs", "<init>", "()V"⟩ "CrossDock") := by decide +kernel
set_option maxRecDepth 100000 in
theorem tw_192 : lw_tbl[192]? = some (.instanceMethod ⟨"CrossDock$Pairs", "<init>", "()V"⟩) := by decide +kernel
set_option maxRecDepth 100000 in
theorem tw_193 : lw_tbl[193]? = some (.code ⟨"CrossDock$Pairs", "<init>", "()V"⟩ prog_4_method_1_code 1 none) := by decide +kernel
set_option maxRecDepth 100000 in
theorem tw_194 : lw_tbl[194]? = some (.methodLink "CrossDock$Pairs" 3 ⟨"java/lang/Object", "<init>", "()V"⟩) := by decide +kernel
set_option maxRecDepth 100000 in
theorem tw_195 : lw_tbl[195]? = some (.fieldLink "CrossDock$Pairs" 9 "CrossDock$Pairs" "arrivalOf" "[I") := by decide +kernel
set_option maxRecDepth 100000 in
theorem tw_196 : lw_tbl[196]? = some (.fieldLinkNest "CrossDock" 151 "CrossDock$Pairs" "arrivalOf" "[I" "CrossDock") := by decide +kernel
set_option maxRecDepth 100000 in
theorem tw_197 : lw_tbl[197]? = some (.fieldLink "CrossDock$Pairs" 15 "CrossDock$Pairs" "orderOf" "[I") := by decide +kernel
set_option maxRecDepth 100000 in
theorem tw_198 : lw_tbl[198]? = some (.fieldLinkNest "CrossDock" 154 "CrossDock$Pairs" "orderOf" "[I" "CrossDock") := by decide +kernel
set_option maxRecDepth 100000 in
theorem tw_199 : lw_tbl[199]? = some (.fieldLink "CrossDock$Pairs" 18 "CrossDock$Pairs" "palletsIn" "[I") := by decide +kernel
set_option maxRecDepth 100000 in
theorem tw_200 : lw_tbl[200]? = some (.fieldLinkNest "CrossDock" 157 "CrossDock$Pairs" "palletsIn" "[I" "CrossDock") := by decide +kernel
set_option maxRecDepth 100000 in
theorem tw_201 : lw_tbl[201]? = some (.fieldLink "CrossDock$Pairs" 21 "CrossDock$Pairs" "size" "I") := by decide +kernel
set_option maxRecDepth 100000 in
theorem tw_202 : lw_tbl[202]? = some (.fieldLinkNest "CrossDock" 148 "CrossDock$Pairs" "size" "I" "CrossDock") := by decide +kernel
set_option maxRecDepth 100000 in
theorem tw_203 : lw_tbl[203]? = some (.laysFinal "CrossDock$Pairs" "CrossDock$Pairs" "arrivalOf" "[I") := by decide +kernel
set_option maxRecDepth 100000 in
theorem tw_204 : lw_tbl[204]? = some (.soleField "CrossDock$Pairs" "arrivalOf") := by decide +kernel
set_option maxRecDepth 100000 in
theorem tw_205 : lw_tbl[205]? = some (.laysFinal "CrossDock$Pairs" "CrossDock$Pairs" "orderOf" "[I") := by decide +kernel
set_option maxRecDepth 100000 in
theorem tw_206 : lw_tbl[206]? = some (.soleField "CrossDock$Pairs" "orderOf") := by decide +kernel
set_option maxRecDepth 100000 in
theorem tw_207 : lw_tbl[207]? = some (.laysFinal "CrossDock$Pairs" "CrossDock$Pairs" "palletsIn" "[I") := by decide +kernel
set_option maxRecDepth 100000 in
theorem tw_208 : lw_tbl[208]? = some (.soleField "CrossDock$Pairs" "palletsIn") := by decide +kernel
set_option maxRecDepth 100000 in
theorem tw_209 : lw_tbl[209]? = some (.lays "CrossDock$Pairs" "CrossDock$Pairs" "size" "I") := by decide +kernel
set_option maxRecDepth 100000 in
theorem tw_210 : lw_tbl[210]? = some (.soleField "CrossDock$Pairs" "size") := by decide +kernel
set_option maxRecDepth 100000 in
theorem tw_211 : lw_tbl[211]? = some (.superclass "CrossDock$Pairs" "java/lang/Object") := by decide +kernel
set_option maxRecDepth 100000 in
theorem tw_212 : lw_tbl[212]? = some (.fieldLink "CrossDock" 11 "CrossDock" "arrivals" "[LCrossDock$Arrival;") := by decide +kernel
set_option maxRecDepth 100000 in
theorem tw_213 : lw_tbl[213]? = some (.fieldLink "CrossDock" 18 "CrossDock" "orders" "[LCrossDock$Order;") := by decide +kernel
set_option maxRecDepth 100000 in
theorem tw_214 : lw_tbl[214]? = some (.fieldLink "CrossDock" 23 "CrossDock" "laneFull" "[Z") := by decide +kernel
set_option maxRecDepth 100000 in
theorem tw_215 : lw_tbl[215]? = some (.fieldLink "CrossDock" 27 "CrossDock" "ordersByRank" "[I") := by decide +kernel
set_option maxRecDepth 100000 in
theorem tw_216 : lw_tbl[216]? = some (.fieldLink "CrossDock" 31 "CrossDock" "arrivalsByTime" "[I") := by decide +kernel
set_option maxRecDepth 100000 in
theorem tw_217 : lw_tbl[217]? = some (.fieldLink "CrossDock" 37 "CrossDock" "search" "LCrossDock$Search;") := by decide +kernel
set_option maxRecDepth 100000 in
theorem tw_218 : lw_tbl[218]? = some (.fieldLink "CrossDock" 44 "CrossDock" "pairs" "LCrossDock$Pairs;") := by decide +kernel
set_option maxRecDepth 100000 in
theorem tw_219 : lw_tbl[219]? = some (.fieldLink "CrossDock" 48 "CrossDock" "arrivalCount" "I") := by decide +kernel
set_option maxRecDepth 100000 in
theorem tw_220 : lw_tbl[220]? = some (.fieldLink "CrossDock" 52 "CrossDock" "orderCount" "I") := by decide +kernel
set_option maxRecDepth 100000 in
theorem tw_221 : lw_tbl[221]? = some (.fieldLink "CrossDock" 55 "CrossDock" "latestExact" "Z") := by decide +kernel
set_option maxRecDepth 100000 in
theorem tw_222 : lw_tbl[222]? = some (.fieldLink "CrossDock" 59 "CrossDock" "latestSteps" "I") := by decide +kernel
set_option maxRecDepth 100000 in
theorem tw_223 : lw_tbl[223]? = some (.laysFinal "CrossDock" "CrossDock" "arrivals" "[LCrossDock$Arrival;") := by decide +kernel
set_option maxRecDepth 100000 in
theorem tw_224 : lw_tbl[224]? = some (.soleField "CrossDock" "arrivals") := by decide +kernel
set_option maxRecDepth 100000 in
theorem tw_225 : lw_tbl[225]? = some (.laysFinal "CrossDock" "CrossDock" "orders" "[LCrossDock$Order;") := by decide +kernel
set_option maxRecDepth 100000 in
theorem tw_226 : lw_tbl[226]? = some (.soleField "CrossDock" "orders") := by decide +kernel
set_option maxRecDepth 100000 in
theorem tw_227 : lw_tbl[227]? = some (.laysFinal "CrossDock" "CrossDock" "laneFull" "[Z") := by decide +kernel
set_option maxRecDepth 100000 in
theorem tw_228 : lw_tbl[228]? = some (.soleField "CrossDock" "laneFull") := by decide +kernel
set_option maxRecDepth 100000 in
theorem tw_229 : lw_tbl[229]? = some (.laysFinal "CrossDock" "CrossDock" "ordersByRank" "[I") := by decide +kernel
set_option maxRecDepth 100000 in
theorem tw_230 : lw_tbl[230]? = some (.soleField "CrossDock" "ordersByRank") := by decide +kernel
set_option maxRecDepth 100000 in
theorem tw_231 : lw_tbl[231]? = some (.laysFinal "CrossDock" "CrossDock" "arrivalsByTime" "[I") := by decide +kernel
set_option maxRecDepth 100000 in
theorem tw_232 : lw_tbl[232]? = some (.soleField "CrossDock" "arrivalsByTime") := by decide +kernel
set_option maxRecDepth 100000 in
theorem tw_233 : lw_tbl[233]? = some (.laysFinal "CrossDock" "CrossDock" "search" "LCrossDock$Search;") := by decide +kernel
set_option maxRecDepth 100000 in
theorem tw_234 : lw_tbl[234]? = some (.soleField "CrossDock" "search") := by decide +kernel
set_option maxRecDepth 100000 in
theorem tw_235 : lw_tbl[235]? = some (.laysFinal "CrossDock" "CrossDock" "pairs" "LCrossDock$Pairs;") := by decide +kernel
set_option maxRecDepth 100000 in
theorem tw_236 : lw_tbl[236]? = some (.soleField "CrossDock" "pairs") := by decide +kernel
set_option maxRecDepth 100000 in
theorem tw_237 : lw_tbl[237]? = some (.lays "CrossDock" "CrossDock" "arrivalCount" "I") := by decide +kernel
set_option maxRecDepth 100000 in
theorem tw_238 : lw_tbl[238]? = some (.soleField "CrossDock" "arrivalCount") := by decide +kernel
set_option maxRecDepth 100000 in
theorem tw_239 : lw_tbl[239]? = some (.lays "CrossDock" "CrossDock" "orderCount" "I") := by decide +kernel
set_option maxRecDepth 100000 in
theorem tw_240 : lw_tbl[240]? = some (.soleField "CrossDock" "orderCount") := by decide +kernel
set_option maxRecDepth 100000 in
theorem tw_241 : lw_tbl[241]? = some (.lays "CrossDock" "CrossDock" "latestExact" "Z") := by decide +kernel
set_option maxRecDepth 100000 in
theorem tw_242 : lw_tbl[242]? = some (.soleField "CrossDock" "latestExact") := by decide +kernel
set_option maxRecDepth 100000 in
theorem tw_243 : lw_tbl[243]? = some (.lays "CrossDock" "CrossDock" "latestSteps" "I") := by decide +kernel
set_option maxRecDepth 100000 in
theorem tw_244 : lw_tbl[244]? = some (.soleField "CrossDock" "latestSteps") := by decide +kernel
set_option maxRecDepth 100000 in
theorem tw_245 : lw_tbl[245]? = some (.superclass "CrossDock" "java/lang/Object") := by decide +kernel
set_option maxRecDepth 100000 in
theorem tw_246 : lw_tbl[246]? = some (.methodLink "CrossDockLaw" 100 ⟨"CrossDock", "exact", "()Z"⟩) := by decide +kernel
set_option maxRecDepth 100000 in
theorem tw_247 : lw_tbl[247]? = some (.instanceMethod ⟨"CrossDock", "exact", "()Z"⟩) := by decide +kernel
set_option maxRecDepth 100000 in
theorem tw_248 : lw_tbl[248]? = some (.selects "CrossDock" ⟨"CrossDock", "exact", "()Z"⟩ ⟨"CrossDock", "exact", "()Z"⟩) := by decide +kernel
set_option maxRecDepth 100000 in
theorem tw_249 : lw_tbl[249]? = some (.code ⟨"CrossDock", "exact", "()Z"⟩ prog_1_method_9_code 1 (some .boolean)) := by decide +kernel
set_option maxRecDepth 100000 in
theorem tw_250 : lw_tbl[250]? = some (.methodLink "CrossDockLaw" 105 ⟨"CrossDock", "bound", "()I"⟩) := by decide +kernel
set_option maxRecDepth 100000 in
theorem tw_251 : lw_tbl[251]? = some (.instanceMethod ⟨"CrossDock", "bound", "()I"⟩) := by decide +kernel
set_option maxRecDepth 100000 in
theorem tw_252 : lw_tbl[252]? = some (.selects "CrossDock" ⟨"CrossDock", "bound", "()I"⟩ ⟨"CrossDock", "bound", "()I"⟩) := by decide +kernel
set_option maxRecDepth 100000 in
theorem tw_253 : lw_tbl[253]? = some (.code ⟨"CrossDock", "bound", "()I"⟩ prog_1_method_10_code 3 (some .int)) := by decide +kernel
set_option maxRecDepth 100000 in
theorem tw_254 : lw_tbl[254]? = some (.methodLink "CrossDock" 142 ⟨"CrossDock", "arrivalsFor", "(I)I"⟩) := by decide +kernel
set_option maxRecDepth 100000 in
theorem tw_255 : lw_tbl[255]? = some (.privateMethod ⟨"CrossDock", "arrivalsFor", "(I)I"⟩) := by decide +kernel
set_option maxRecDepth 100000 in
theorem tw_256 : lw_tbl[256]? = some (.instanceMethod ⟨"CrossDock", "arrivalsFor", "(I)I"⟩) := by decide +kernel
set_option maxRecDepth 100000 in
theorem tw_257 : lw_tbl[257]? = some (.code ⟨"CrossDock", "arrivalsFor", "(I)I"⟩ prog_1_method_28_code 4 (some .int)) := by decide +kernel
set_option maxRecDepth 100000 in
theorem tw_258 : lw_tbl[258]? = some (.methodLink "CrossDock" 117 ⟨"CrossDock", "mayServe", "(II)Z"⟩) := by decide +kernel
set_option maxRecDepth 100000 in
theorem tw_259 : lw_tbl[259]? = some (.privateMethod ⟨"CrossDock", "mayServe", "(II)Z"⟩) := by decide +kernel
set_option maxRecDepth 100000 in
theorem tw_260 : lw_tbl[260]? = some (.instanceMethod ⟨"CrossDock", "mayServe", "(II)Z"⟩) := by decide +kernel
set_option maxRecDepth 100000 in
theorem tw_261 : lw_tbl[261]? = some (.code ⟨"CrossDock", "mayServe", "(II)Z"⟩ prog_1_method_24_code 3 (some .boolean)) := by decide +kernel
set_option maxRecDepth 100000 in
theorem tw_262 : lw_tbl[262]? = some (.methodLink "CrossDock" 209 ⟨"CrossDock", "obstacle", "(II)I"⟩) := by decide +kernel
set_option maxRecDepth 100000 in
theorem tw_263 : lw_tbl[263]? = some (.privateMethod ⟨"CrossDock", "obstacle", "(II)I"⟩) := by decide +kernel
set_option maxRecDepth 100000 in
theorem tw_264 : lw_tbl[264]? = some (.instanceMethod ⟨"CrossDock", "obstacle", "(II)I"⟩) := by decide +kernel
set_option maxRecDepth 100000 in
theorem tw_265 : lw_tbl[265]? = some (.code ⟨"CrossDock", "obstacle", "(II)I"⟩ prog_1_method_23_code 5 (some .int)) := by decide +kernel
set_option maxRecDepth 100000 in
theorem tw_266 : lw_tbl[266]? = some (.methodLinkNest "CrossDock" 203 ⟨"CrossDock$Order", "takesLot", "(I)Z"⟩ "CrossDock") := by decide +kernel
set_option maxRecDepth 100000 in
theorem tw_267 : lw_tbl[267]? = some (.privateMethod ⟨"CrossDock$Order", "takesLot", "(I)Z"⟩) := by decide +kernel
set_option maxRecDepth 100000 in
theorem tw_268 : lw_tbl[268]? = some (.instanceMethod ⟨"CrossDock$Order", "takesLot", "(I)Z"⟩) := by decide +kernel
set_option maxRecDepth 100000 in
theorem tw_269 : lw_tbl[269]? = some (.code ⟨"CrossDock$Order", "takesLot", "(I)Z"⟩ prog_3_method_2_code 2 (some .boolean)) := by decide +kernel
set_option maxRecDepth 100000 in
theorem tw_270 : lw_tbl[270]? = some (.methodLinkNest "CrossDock" 206 ⟨"CrossDock$Arrival", "isBarredFor", "(I)Z"⟩ "CrossDock") := by decide +kernel
set_option maxRecDepth 100000 in
theorem tw_271 : lw_tbl[271]? = some (.privateMethod ⟨"CrossDock$Arrival", "isBarredFor", "(I)Z"⟩) := by decide +kernel
set_option maxRecDepth 100000 in
theorem tw_272 : lw_tbl[272]? = some (.instanceMethod ⟨"CrossDock$Arrival", "isBarredFor", "(I)Z"⟩) := by decide +kernel
set_option maxRecDepth 100000 in
theorem tw_273 : lw_tbl[273]? = some (.code ⟨"CrossDock$Arrival", "isBarredFor", "(I)Z"⟩ prog_2_method_3_code 2 (some .boolean)) := by decide +kernel
set_option maxRecDepth 100000 in
theorem tw_274 : lw_tbl[274]? = some (.methodLink "CrossDock" 145 ⟨"CrossDock", "ordersFor", "(I)I"⟩) := by decide +kernel
set_option maxRecDepth 100000 in
theorem tw_275 : lw_tbl[275]? = some (.privateMethod ⟨"CrossDock", "ordersFor", "(I)I"⟩) := by decide +kernel
set_option maxRecDepth 100000 in
theorem tw_276 : lw_tbl[276]? = some (.instanceMethod ⟨"CrossDock", "ordersFor", "(I)I"⟩) := by decide +kernel
set_option maxRecDepth 100000 in
theorem tw_277 : lw_tbl[277]? = some (.code ⟨"CrossDock", "ordersFor", "(I)I"⟩ prog_1_method_27_code 4 (some .int)) := by decide +kernel
set_option maxRecDepth 100000 in
theorem tw_278 : lw_tbl[278]? = some (.methodLink "CrossDockLaw" 109 ⟨"CrossDock", "steps", "()I"⟩) := by decide +kernel
set_option maxRecDepth 100000 in
theorem tw_279 : lw_tbl[279]? = some (.instanceMethod ⟨"CrossDock", "steps", "()I"⟩) := by decide +kernel
set_option maxRecDepth 100000 in
theorem tw_280 : lw_tbl[280]? = some (.selects "CrossDock" ⟨"CrossDock", "steps", "()I"⟩ ⟨"CrossDock", "steps", "()I"⟩) := by decide +kernel
set_option maxRecDepth 100000 in
theorem tw_281 : lw_tbl[281]? = some (.code ⟨"CrossDock", "steps", "()I"⟩ prog_1_method_11_code 1 (some .int)) := by decide +kernel
set_option maxRecDepth 100000 in
theorem tw_282 : lw_tbl[282]? = some (.methodLink "CrossDockLaw" 132 ⟨"CrossDock", "saved", "()I"⟩) := by decide +kernel
set_option maxRecDepth 100000 in
theorem tw_283 : lw_tbl[283]? = some (.instanceMethod ⟨"CrossDock", "saved", "()I"⟩) := by decide +kernel
set_option maxRecDepth 100000 in
theorem tw_284 : lw_tbl[284]? = some (.selects "CrossDock" ⟨"CrossDock", "saved", "()I"⟩ ⟨"CrossDock", "saved", "()I"⟩) := by decide +kernel
set_option maxRecDepth 100000 in
theorem tw_285 : lw_tbl[285]? = some (.code ⟨"CrossDock", "saved", "()I"⟩ prog_1_method_18_code 1 (some .int)) := by decide +kernel
set_option maxRecDepth 100000 in
theorem tw_286 : lw_tbl[286]? = some (.methodLink "CrossDock" 138 ⟨"CrossDock", "touchesSaved", "()I"⟩) := by decide +kernel
set_option maxRecDepth 100000 in
theorem tw_287 : lw_tbl[287]? = some (.privateMethod ⟨"CrossDock", "touchesSaved", "()I"⟩) := by decide +kernel
set_option maxRecDepth 100000 in
theorem tw_288 : lw_tbl[288]? = some (.instanceMethod ⟨"CrossDock", "touchesSaved", "()I"⟩) := by decide +kernel
set_option maxRecDepth 100000 in
theorem tw_289 : lw_tbl[289]? = some (.code ⟨"CrossDock", "touchesSaved", "()I"⟩ prog_1_method_30_code 3 (some .int)) := by decide +kernel
set_option maxRecDepth 100000 in
theorem tw_290 : lw_tbl[290]? = some (.methodLinkNest "CrossDock" 182 ⟨"CrossDock$Pairs", "palletsInAll", "()I"⟩ "CrossDock") := by decide +kernel
set_option maxRecDepth 100000 in
theorem tw_291 : lw_tbl[291]? = some (.privateMethod ⟨"CrossDock$Pairs", "palletsInAll", "()I"⟩) := by decide +kernel
set_option maxRecDepth 100000 in
theorem tw_292 : lw_tbl[292]? = some (.instanceMethod ⟨"CrossDock$Pairs", "palletsInAll", "()I"⟩) := by decide +kernel
set_option maxRecDepth 100000 in
theorem tw_293 : lw_tbl[293]? = some (.code ⟨"CrossDock$Pairs", "palletsInAll", "()I"⟩ prog_4_method_6_code 3 (some .int)) := by decide +kernel
set_option maxRecDepth 100000 in
theorem tw_294 : lw_tbl[294]? = some (.methodLinkNest "CrossDock" 176 ⟨"CrossDock$Pairs", "palletsFor", "(I)I"⟩ "CrossDock") := by decide +kernel
set_option maxRecDepth 100000 in
theorem tw_295 : lw_tbl[295]? = some (.privateMethod ⟨"CrossDock$Pairs", "palletsFor", "(I)I"⟩) := by decide +kernel
set_option maxRecDepth 100000 in
theorem tw_296 : lw_tbl[296]? = some (.instanceMethod ⟨"CrossDock$Pairs", "palletsFor", "(I)I"⟩) := by decide +kernel
set_option maxRecDepth 100000 in
theorem tw_297 : lw_tbl[297]? = some (.code ⟨"CrossDock$Pairs", "palletsFor", "(I)I"⟩ prog_4_method_5_code 4 (some .int)) := by decide +kernel
set_option maxRecDepth 100000 in
theorem tw_298 : lw_tbl[298]? = some (.methodLinkNest "CrossDock" 173 ⟨"CrossDock$Arrival", "toGive", "()I"⟩ "CrossDock") := by decide +kernel
set_option maxRecDepth 100000 in
theorem tw_299 : lw_tbl[299]? = some (.privateMethod ⟨"CrossDock$Arrival", "toGive", "()I"⟩) := by decide +kernel
set_option maxRecDepth 100000 in
theorem tw_300 : lw_tbl[300]? = some (.instanceMethod ⟨"CrossDock$Arrival", "toGive", "()I"⟩) := by decide +kernel
set_option maxRecDepth 100000 in
theorem tw_301 : lw_tbl[301]? = some (.code ⟨"CrossDock$Arrival", "toGive", "()I"⟩ prog_2_method_2_code 1 (some .int)) := by decide +kernel
set_option maxRecDepth 100000 in
theorem tw_302 : lw_tbl[302]? = some (.methodLink "CrossDockLaw" 136 ⟨"CrossDock", "count", "(I)I"⟩) := by decide +kernel
set_option maxRecDepth 100000 in
theorem tw_303 : lw_tbl[303]? = some (.instanceMethod ⟨"CrossDock", "count", "(I)I"⟩) := by decide +kernel
set_option maxRecDepth 100000 in
theorem tw_304 : lw_tbl[304]? = some (.selects "CrossDock" ⟨"CrossDock", "count", "(I)I"⟩ ⟨"CrossDock", "count", "(I)I"⟩) := by decide +kernel
set_option maxRecDepth 100000 in
theorem tw_305 : lw_tbl[305]? = some (.code ⟨"CrossDock", "count", "(I)I"⟩ prog_1_method_19_code 2 (some .int)) := by decide +kernel
set_option maxRecDepth 100000 in
theorem tw_306 : lw_tbl[306]? = some (.methodLink "CrossDock" 185 ⟨"CrossDock", "fullLanes", "()I"⟩) := by decide +kernel
set_option maxRecDepth 100000 in
theorem tw_307 : lw_tbl[307]? = some (.privateMethod ⟨"CrossDock", "fullLanes", "()I"⟩) := by decide +kernel
set_option maxRecDepth 100000 in
theorem tw_308 : lw_tbl[308]? = some (.instanceMethod ⟨"CrossDock", "fullLanes", "()I"⟩) := by decide +kernel
set_option maxRecDepth 100000 in
theorem tw_309 : lw_tbl[309]? = some (.code ⟨"CrossDock", "fullLanes", "()I"⟩ prog_1_method_29_code 3 (some .int)) := by decide +kernel
set_option maxRecDepth 100000 in
theorem tw_310 : lw_tbl[310]? = some (.methodLink "CrossDockLaw" 67 ⟨"CrossDockLaw", "arrive", "(LCrossDock;IIII[J)I"⟩) := by decide +kernel
set_option maxRecDepth 100000 in
theorem tw_311 : lw_tbl[311]? = some (.static ⟨"CrossDockLaw", "arrive", "(LCrossDock;IIII[J)I"⟩) := by decide +kernel
set_option maxRecDepth 100000 in
theorem tw_312 : lw_tbl[312]? = some (.codeWith ⟨"CrossDockLaw", "arrive", "(LCrossDock;IIII[J)I"⟩ method_3_code 7 (some .int) [(0, 14, 17, 13), (0, 14, 21, 15)]) := by decide +kernel
set_option maxRecDepth 100000 in
theorem tw_313 : lw_tbl[313]? = some (.classLink "CrossDockLaw" 13 "java/lang/IllegalArgumentException") := by decide +kernel
set_option maxRecDepth 100000 in
theorem tw_314 : lw_tbl[314]? = some (.classLink "CrossDockLaw" 15 "java/lang/UnsupportedOperationException") := by decide +kernel
set_option maxRecDepth 100000 in
theorem tw_315 : lw_tbl[315]? = some (.methodLink "CrossDockLaw" 7 ⟨"CrossDock", "arrive", "(IIII)I"⟩) := by decide +kernel
set_option maxRecDepth 100000 in
theorem tw_316 : lw_tbl[316]? = some (.instanceMethod ⟨"CrossDock", "arrive", "(IIII)I"⟩) := by decide +kernel
set_option maxRecDepth 100000 in
theorem tw_317 : lw_tbl[317]? = some (.selects "CrossDock" ⟨"CrossDock", "arrive", "(IIII)I"⟩ ⟨"CrossDock", "arrive", "(IIII)I"⟩) := by decide +kernel
set_option maxRecDepth 100000 in
theorem tw_318 : lw_tbl[318]? = some (.code ⟨"CrossDock", "arrive", "(IIII)I"⟩ prog_1_method_2_code 6 (some .int)) := by decide +kernel
set_option maxRecDepth 100000 in
theorem tw_319 : lw_tbl[319]? = some (.methodLink "CrossDock" 62 ⟨"CrossDock", "checkRange", "(III)V"⟩) := by decide +kernel
set_option maxRecDepth 100000 in
theorem tw_320 : lw_tbl[320]? = some (.static ⟨"CrossDock", "checkRange", "(III)V"⟩) := by decide +kernel
set_option maxRecDepth 100000 in
theorem tw_321 : lw_tbl[321]? = some (.code ⟨"CrossDock", "checkRange", "(III)V"⟩ prog_1_method_21_code 3 none) := by decide +kernel
set_option maxRecDepth 100000 in
theorem tw_322 : lw_tbl[322]? = some (.classLink "CrossDock" 193 "java/lang/IllegalArgumentException") := by decide +kernel
set_option maxRecDepth 100000 in
theorem tw_323 : lw_tbl[323]? = some (.instantiable "java/lang/IllegalArgumentException" 6) := by decide +kernel
set_option maxRecDepth 100000 in
theorem tw_324 : lw_tbl[324]? = some (.castable "java/lang/IllegalArgumentException" "java/lang/IllegalArgumentException") := by decide +kernel
set_option maxRecDepth 100000 in
theorem tw_325 : lw_tbl[325]? = some (.declares ⟨"java/lang/RuntimeException", "<init>", "()V"⟩) := by decide +kernel
set_option maxRecDepth 100000 in
theorem tw_326 : lw_tbl[326]? = some (.declares ⟨"java/lang/RuntimeException", "<init>", "(Ljava/lang/String;)V"⟩) := by decide +kernel
set_option maxRecDepth 100000 in
theorem tw_327 : lw_tbl[327]? = some (.declares ⟨"java/lang/Exception", "<init>", "()V"⟩) := by decide +kernel
set_option maxRecDepth 100000 in
theorem tw_328 : lw_tbl[328]? = some (.declares ⟨"java/lang/Exception", "<init>", "(Ljava/lang/String;)V"⟩) := by decide +kernel
set_option maxRecDepth 100000 in
theorem tw_329 : lw_tbl[329]? = some (.declares ⟨"java/lang/Throwable", "<init>", "()V"⟩) := by decide +kernel
set_option maxRecDepth 100000 in
theorem tw_330 : lw_tbl[330]? = some (.declares ⟨"java/lang/Throwable", "<init>", "(Ljava/lang/String;)V"⟩) := by decide +kernel
set_option maxRecDepth 100000 in
theorem tw_331 : lw_tbl[331]? = some (.selects "java/lang/IllegalArgumentException" ⟨"java/lang/Throwable", "fillInStackTrace", "(I)Ljava/lang/Throwable;"⟩ ⟨"java/lang/Throwable", "fillInStackTrace", "(I)Ljava/lang/Throwable;"⟩) := by decide +kernel
set_option maxRecDepth 100000 in
theorem tw_332 : lw_tbl[332]? = some (.selects "java/lang/IllegalArgumentException" ⟨"java/lang/Throwable", "fillInStackTrace", "()Ljava/lang/Throwable;"⟩ ⟨"java/lang/Throwable", "fillInStackTrace", "()Ljava/lang/Throwable;"⟩) := by decide +kernel
set_option maxRecDepth 100000 in
theorem tw_333 : lw_tbl[333]? = some (.lays "java/lang/IllegalArgumentException" "java/lang/Throwable" "cause" "Ljava/lang/Throwable;") := by decide +kernel
set_option maxRecDepth 100000 in
theorem tw_334 : lw_tbl[334]? = some (.lays "java/lang/Throwable" "java/lang/Throwable" "cause" "Ljava/lang/Throwable;") := by decide +kernel
set_option maxRecDepth 100000 in
theorem tw_335 : lw_tbl[335]? = some (.lays "java/lang/IllegalArgumentException" "java/lang/Throwable" "stackTrace" "[Ljava/lang/StackTraceElement;") := by decide +kernel
set_option maxRecDepth 100000 in
theorem tw_336 : lw_tbl[336]? = some (.lays "java/lang/Throwable" "java/lang/Throwable" "stackTrace" "[Ljava/lang/StackTraceElement;") := by decide +kernel
set_option maxRecDepth 100000 in
theorem tw_337 : lw_tbl[337]? = some (.lays "java/lang/IllegalArgumentException" "java/lang/Throwable" "suppressedExceptions" "Ljava/util/List;") := by decide +kernel
set_option maxRecDepth 100000 in
theorem tw_338 : lw_tbl[338]? = some (.lays "java/lang/Throwable" "java/lang/Throwable" "suppressedExceptions" "Ljava/util/List;") := by decide +kernel
set_option maxRecDepth 100000 in
theorem tw_339 : lw_tbl[339]? = some (.lays "java/lang/IllegalArgumentException" "java/lang/Throwable" "detailMessage" "Ljava/lang/String;") := by decide +kernel
set_option maxRecDepth 100000 in
theorem tw_340 : lw_tbl[340]? = some (.lays "java/lang/Throwable" "java/lang/Throwable" "detailMessage" "Ljava/lang/String;") := by decide +kernel
set_option maxRecDepth 100000 in
theorem tw_341 : lw_tbl[341]? = some (.lays "java/lang/IllegalArgumentException" "java/lang/Throwable" "backtrace" "Ljava/lang/Object;") := by decide +kernel
set_option maxRecDepth 100000 in
theorem tw_342 : lw_tbl[342]? = some (.lays "java/lang/Throwable" "java/lang/Throwable" "backtrace" "Ljava/lang/Object;") := by decide +kernel
set_option maxRecDepth 100000 in
theorem tw_343 : lw_tbl[343]? = some (.fieldLink "java/lang/Throwable" 198 "java/lang/Throwable" "backtrace" "Ljava/lang/Object;") := by decide +kernel
set_option maxRecDepth 100000 in
theorem tw_344 : lw_tbl[344]? = some (.superclass "java/lang/Throwable" "java/lang/Object") := by decide +kernel
set_option maxRecDepth 100000 in
theorem tw_345 : lw_tbl[345]? = some (.instanceMethod ⟨"java/lang/Throwable", "<init>", "()V"⟩) := by decide +kernel
set_option maxRecDepth 100000 in
theorem tw_346 : lw_tbl[346]? = some (.code ⟨"java/lang/Throwable", "<init>", "()V"⟩ prog_15_method_1_code 1 none) := by decide +kernel
set_option maxRecDepth 100000 in
theorem tw_347 : lw_tbl[347]? = some (.methodLink "java/lang/Throwable" 1 ⟨"java/lang/Object", "<init>", "()V"⟩) := by decide +kernel
set_option maxRecDepth 100000 in
theorem tw_348 : lw_tbl[348]? = some (.fieldLink "java/lang/Throwable" 13 "java/lang/Throwable" "UNASSIGNED_STACK" "[Ljava/lang/StackTraceElement;") := by decide +kernel
set_option maxRecDepth 100000 in
theorem tw_349 : lw_tbl[349]? = some (.laysStatic "java/lang/Throwable" "UNASSIGNED_STACK" "[Ljava/lang/StackTraceElement;") := by decide +kernel
set_option maxRecDepth 100000 in
theorem tw_350 : lw_tbl[350]? = some (.fieldLink "java/lang/Throwable" 20 "java/lang/Throwable" "SUPPRESSED_SENTINEL" "Ljava/util/List;") := by decide +kernel
set_option maxRecDepth 100000 in
theorem tw_351 : lw_tbl[351]? = some (.laysStatic "java/lang/Throwable" "SUPPRESSED_SENTINEL" "Ljava/util/List;") := by decide +kernel
set_option maxRecDepth 100000 in
theorem tw_352 : lw_tbl[352]? = some (.methodLink "java/lang/Throwable" 27 ⟨"java/lang/Throwable", "fillInStackTrace", "()Ljava/lang/Throwable;"⟩) := by decide +kernel
set_option maxRecDepth 100000 in
theorem tw_353 : lw_tbl[353]? = some (.instanceMethod ⟨"java/lang/Throwable", "fillInStackTrace", "()Ljava/lang/Throwable;"⟩) := by decide +kernel
set_option maxRecDepth 100000 in
theorem tw_354 : lw_tbl[354]? = some (.sameMethod "java/lang/Throwable" "java/lang/Throwable" "fillInStackTrace" "()Ljava/lang/Throwable;") := by decide +kernel
set_option maxRecDepth 100000 in
theorem tw_355 : lw_tbl[355]? = some (.selects "java/lang/IllegalStateException" ⟨"java/lang/Throwable", "fillInStackTrace", "()Ljava/lang/Throwable;"⟩ ⟨"java/lang/Throwable", "fillInStackTrace", "()Ljava/lang/Throwable;"⟩) := by decide +kernel
set_option maxRecDepth 100000 in
theorem tw_356 : lw_tbl[356]? = some (.selects "java/lang/UnsupportedOperationException" ⟨"java/lang/Throwable", "fillInStackTrace", "()Ljava/lang/Throwable;"⟩ ⟨"java/lang/Throwable", "fillInStackTrace", "()Ljava/lang/Throwable;"⟩) := by decide +kernel
set_option maxRecDepth 100000 in
theorem tw_357 : lw_tbl[357]? = some (.selects "java/util/NoSuchElementException" ⟨"java/lang/Throwable", "fillInStackTrace", "()Ljava/lang/Throwable;"⟩ ⟨"java/lang/Throwable", "fillInStackTrace", "()Ljava/lang/Throwable;"⟩) := by decide +kernel
set_option maxRecDepth 100000 in
theorem tw_358 : lw_tbl[358]? = some (.codeSync ⟨"java/lang/Throwable", "fillInStackTrace", "()Ljava/lang/Throwable;"⟩ prog_15_method_18_code 1 (some (.object "java/lang/Throwable"))) := by decide +kernel
set_option maxRecDepth 100000 in
theorem tw_359 : lw_tbl[359]? = some (.methodLink "java/lang/Throwable" 202 ⟨"java/lang/Throwable", "fillInStackTrace", "(I)Ljava/lang/Throwable;"⟩) := by decide +kernel
set_option maxRecDepth 100000 in
theorem tw_360 : lw_tbl[360]? = some (.privateMethod ⟨"java/lang/Throwable", "fillInStackTrace", "(I)Ljava/lang/Throwable;"⟩) := by decide +kernel
set_option maxRecDepth 100000 in
theorem tw_361 : lw_tbl[361]? = some (.instanceMethod ⟨"java/lang/Throwable", "fillInStackTrace", "(I)Ljava/lang/Throwable;"⟩) := by decide +kernel
set_option maxRecDepth 100000 in
theorem tw_362 : lw_tbl[362]? = some (.instantiable "java/lang/Throwable" 6) := by decide +kernel
set_option maxRecDepth 100000 in
theorem tw_363 : lw_tbl[363]? = some (.native ⟨"java/lang/Throwable", "fillInStackTrace", "(I)Ljava/lang/Throwable;"⟩) := by decide +kernel
set_option maxRecDepth 100000 in
theorem tw_364 : lw_tbl[364]? = some (.stringRef "CrossDock" 195 "a number is outside its range") := by decide +kernel
set_option maxRecDepth 100000 in
theorem tw_365 : lw_tbl[365]? = some (.methodLink "CrossDock" 197 ⟨"java/lang/IllegalArgumentException", "<init>", "(Ljava/lang/String;)V"⟩) := by decide +kernel
set_option maxRecDepth 100000 in
theorem tw_366 : lw_tbl[366]? = some (.instanceMethod ⟨"java/lang/IllegalArgumentException", "<init>", "(Ljava/lang/String;)V"⟩) := by decide +kernel
set_option maxRecDepth 100000 in
theorem tw_367 : lw_tbl[367]? = some (.code ⟨"java/lang/IllegalArgumentException", "<init>", "(Ljava/lang/String;)V"⟩ prog_9_method_2_code 2 none) := by decide +kernel
set_option maxRecDepth 100000 in
theorem tw_368 : lw_tbl[368]? = some (.methodLink "java/lang/IllegalArgumentException" 7 ⟨"java/lang/RuntimeException", "<init>", "(Ljava/lang/String;)V"⟩) := by decide +kernel
set_option maxRecDepth 100000 in
theorem tw_369 : lw_tbl[369]? = some (.instanceMethod ⟨"java/lang/RuntimeException", "<init>", "(Ljava/lang/String;)V"⟩) := by decide +kernel
set_option maxRecDepth 100000 in
theorem tw_370 : lw_tbl[370]? = some (.code ⟨"java/lang/RuntimeException", "<init>", "(Ljava/lang/String;)V"⟩ prog_12_method_2_code 2 none) := by decide +kernel
set_option maxRecDepth 100000 in
theorem tw_371 : lw_tbl[371]? = some (.methodLink "java/lang/RuntimeException" 7 ⟨"java/lang/Exception", "<init>", "(Ljava/lang/String;)V"⟩) := by decide +kernel
set_option maxRecDepth 100000 in
theorem tw_372 : lw_tbl[372]? = some (.instanceMethod ⟨"java/lang/Exception", "<init>", "(Ljava/lang/String;)V"⟩) := by decide +kernel
set_option maxRecDepth 100000 in
theorem tw_373 : lw_tbl[373]? = some (.code ⟨"java/lang/Exception", "<init>", "(Ljava/lang/String;)V"⟩ prog_8_method_2_code 2 none) := by decide +kernel
set_option maxRecDepth 100000 in
theorem tw_374 : lw_tbl[374]? = some (.methodLink "java/lang/Exception" 7 ⟨"java/lang/Throwable", "<init>", "(Ljava/lang/String;)V"⟩) := by decide +kernel
set_option maxRecDepth 100000 in
theorem tw_375 : lw_tbl[375]? = some (.instanceMethod ⟨"java/lang/Throwable", "<init>", "(Ljava/lang/String;)V"⟩) := by decide +kernel
set_option maxRecDepth 100000 in
theorem tw_376 : lw_tbl[376]? = some (.code ⟨"java/lang/Throwable", "<init>", "(Ljava/lang/String;)V"⟩ prog_15_method_2_code 2 none) := by decide +kernel
set_option maxRecDepth 100000 in
theorem tw_378 : lw_tbl[378]? = some (.fieldLink "java/lang/Throwable" 31 "java/lang/Throwable" "detailMessage" "Ljava/lang/String;") := by decide +kernel
set_option maxRecDepth 100000 in
theorem tw_379 : lw_tbl[379]? = some (.fieldLink "java/lang/Throwable" 7 "java/lang/Throwable" "cause" "Ljava/lang/Throwable;") := by decide +kernel
set_option maxRecDepth 100000 in
theorem tw_380 : lw_tbl[380]? = some (.fieldLink "java/lang/Throwable" 17 "java/lang/Throwable" "stackTrace" "[Ljava/lang/StackTraceElement;") := by decide +kernel
set_option maxRecDepth 100000 in
theorem tw_381 : lw_tbl[381]? = some (.fieldLink "java/lang/Throwable" 24 "java/lang/Throwable" "suppressedExceptions" "Ljava/util/List;") := by decide +kernel
set_option maxRecDepth 100000 in
theorem tw_382 : lw_tbl[382]? = some (.soleField "java/lang/Throwable" "backtrace") := by decide +kernel
set_option maxRecDepth 100000 in
theorem tw_383 : lw_tbl[383]? = some (.soleField "java/lang/Throwable" "detailMessage") := by decide +kernel
set_option maxRecDepth 100000 in
theorem tw_384 : lw_tbl[384]? = some (.soleField "java/lang/Throwable" "cause") := by decide +kernel
set_option maxRecDepth 100000 in
theorem tw_385 : lw_tbl[385]? = some (.soleField "java/lang/Throwable" "stackTrace") := by decide +kernel
set_option maxRecDepth 100000 in
theorem tw_386 : lw_tbl[386]? = some (.lays "java/lang/IllegalArgumentException" "java/lang/Throwable" "depth" "I") := by decide +kernel
set_option maxRecDepth 100000 in
theorem tw_387 : lw_tbl[387]? = some (.soleField "java/lang/Throwable" "depth") := by decide +kernel
set_option maxRecDepth 100000 in
theorem tw_388 : lw_tbl[388]? = some (.soleField "java/lang/Throwable" "suppressedExceptions") := by decide +kernel
set_option maxRecDepth 100000 in
theorem tw_389 : lw_tbl[389]? = some (.superclass "java/lang/IllegalArgumentException" "java/lang/RuntimeException") := by decide +kernel
set_option maxRecDepth 100000 in
theorem tw_390 : lw_tbl[390]? = some (.arrayClass .byte) := by decide +kernel
set_option maxRecDepth 100000 in
theorem tw_391 : lw_tbl[391]? = some (.methodLink "CrossDock" 66 ⟨"CrossDock", "checkRoom", "(II)V"⟩) := by decide +kernel
set_option maxRecDepth 100000 in
theorem tw_392 : lw_tbl[392]? = some (.static ⟨"CrossDock", "checkRoom", "(II)V"⟩) := by decide +kernel
set_option maxRecDepth 100000 in
theorem tw_393 : lw_tbl[393]? = some (.code ⟨"CrossDock", "checkRoom", "(II)V"⟩ prog_1_method_22_code 2 none) := by decide +kernel
set_option maxRecDepth 100000 in
theorem tw_394 : lw_tbl[394]? = some (.classLink "CrossDock" 198 "java/lang/UnsupportedOperationException") := by decide +kernel
set_option maxRecDepth 100000 in
theorem tw_395 : lw_tbl[395]? = some (.instantiable "java/lang/UnsupportedOperationException" 6) := by decide +kernel
set_option maxRecDepth 100000 in
theorem tw_396 : lw_tbl[396]? = some (.castable "java/lang/UnsupportedOperationException" "java/lang/UnsupportedOperationException") := by decide +kernel
set_option maxRecDepth 100000 in
theorem tw_397 : lw_tbl[397]? = some (.selects "java/lang/UnsupportedOperationException" ⟨"java/lang/Throwable", "fillInStackTrace", "(I)Ljava/lang/Throwable;"⟩ ⟨"java/lang/Throwable", "fillInStackTrace", "(I)Ljava/lang/Throwable;"⟩) := by decide +kernel
set_option maxRecDepth 100000 in
theorem tw_398 : lw_tbl[398]? = some (.lays "java/lang/UnsupportedOperationException" "java/lang/Throwable" "cause" "Ljava/lang/Throwable;") := by decide +kernel
set_option maxRecDepth 100000 in
theorem tw_399 : lw_tbl[399]? = some (.lays "java/lang/UnsupportedOperationException" "java/lang/Throwable" "stackTrace" "[Ljava/lang/StackTraceElement;") := by decide +kernel
set_option maxRecDepth 100000 in
theorem tw_400 : lw_tbl[400]? = some (.lays "java/lang/UnsupportedOperationException" "java/lang/Throwable" "suppressedExceptions" "Ljava/util/List;") := by decide +kernel
set_option maxRecDepth 100000 in
theorem tw_401 : lw_tbl[401]? = some (.lays "java/lang/UnsupportedOperationException" "java/lang/Throwable" "detailMessage" "Ljava/lang/String;") := by decide +kernel
set_option maxRecDepth 100000 in
theorem tw_402 : lw_tbl[402]? = some (.lays "java/lang/UnsupportedOperationException" "java/lang/Throwable" "backtrace" "Ljava/lang/Object;") := by decide +kernel
set_option maxRecDepth 100000 in
theorem tw_403 : lw_tbl[403]? = some (.stringRef "CrossDock" 200 "there is no room") := by decide +kernel
set_option maxRecDepth 100000 in
theorem tw_404 : lw_tbl[404]? = some (.methodLink "CrossDock" 202 ⟨"java/lang/UnsupportedOperationException", "<init>", "(Ljava/lang/String;)V"⟩) := by decide +kernel
set_option maxRecDepth 100000 in
theorem tw_405 : lw_tbl[405]? = some (.instanceMethod ⟨"java/lang/UnsupportedOperationException", "<init>", "(Ljava/lang/String;)V"⟩) := by decide +kernel
set_option maxRecDepth 100000 in
theorem tw_406 : lw_tbl[406]? = some (.code ⟨"java/lang/UnsupportedOperationException", "<init>", "(Ljava/lang/String;)V"⟩ prog_16_method_2_code 2 none) := by decide +kernel
set_option maxRecDepth 100000 in
theorem tw_407 : lw_tbl[407]? = some (.methodLink "java/lang/UnsupportedOperationException" 7 ⟨"java/lang/RuntimeException", "<init>", "(Ljava/lang/String;)V"⟩) := by decide +kernel
set_option maxRecDepth 100000 in
theorem tw_408 : lw_tbl[408]? = some (.lays "java/lang/UnsupportedOperationException" "java/lang/Throwable" "depth" "I") := by decide +kernel
set_option maxRecDepth 100000 in
theorem tw_409 : lw_tbl[409]? = some (.superclass "java/lang/UnsupportedOperationException" "java/lang/RuntimeException") := by decide +kernel
set_option maxRecDepth 100000 in
theorem tw_410 : lw_tbl[410]? = some (.methodLink "CrossDockLaw" 77 ⟨"CrossDockLaw", "order", "(LCrossDock;IIII[J)I"⟩) := by decide +kernel
set_option maxRecDepth 100000 in
theorem tw_411 : lw_tbl[411]? = some (.static ⟨"CrossDockLaw", "order", "(LCrossDock;IIII[J)I"⟩) := by decide +kernel
set_option maxRecDepth 100000 in
theorem tw_412 : lw_tbl[412]? = some (.codeWith ⟨"CrossDockLaw", "order", "(LCrossDock;IIII[J)I"⟩ method_4_code 7 (some .int) [(0, 14, 17, 13), (0, 14, 21, 15)]) := by decide +kernel
set_option maxRecDepth 100000 in
theorem tw_413 : lw_tbl[413]? = some (.methodLink "CrossDockLaw" 17 ⟨"CrossDock", "order", "(IIII)I"⟩) := by decide +kernel
set_option maxRecDepth 100000 in
theorem tw_414 : lw_tbl[414]? = some (.instanceMethod ⟨"CrossDock", "order", "(IIII)I"⟩) := by decide +kernel
set_option maxRecDepth 100000 in
theorem tw_415 : lw_tbl[415]? = some (.selects "CrossDock" ⟨"CrossDock", "order", "(IIII)I"⟩ ⟨"CrossDock", "order", "(IIII)I"⟩) := by decide +kernel
set_option maxRecDepth 100000 in
theorem tw_416 : lw_tbl[416]? = some (.code ⟨"CrossDock", "order", "(IIII)I"⟩ prog_1_method_3_code 6 (some .int)) := by decide +kernel
set_option maxRecDepth 100000 in
theorem tw_417 : lw_tbl[417]? = some (.methodLink "CrossDockLaw" 80 ⟨"CrossDockLaw", "wants", "(LCrossDock;III)I"⟩) := by decide +kernel
set_option maxRecDepth 100000 in
theorem tw_418 : lw_tbl[418]? = some (.static ⟨"CrossDockLaw", "wants", "(LCrossDock;III)I"⟩) := by decide +kernel
set_option maxRecDepth 100000 in
theorem tw_419 : lw_tbl[419]? = some (.codeWith ⟨"CrossDockLaw", "wants", "(LCrossDock;III)I"⟩ method_5_code 5 (some .int) [(0, 7, 10, 24), (0, 7, 14, 13)]) := by decide +kernel
set_option maxRecDepth 100000 in
theorem tw_420 : lw_tbl[420]? = some (.classLink "CrossDockLaw" 24 "java/util/NoSuchElementException") := by decide +kernel
set_option maxRecDepth 100000 in
theorem tw_421 : lw_tbl[421]? = some (.methodLink "CrossDockLaw" 20 ⟨"CrossDock", "wants", "(III)V"⟩) := by decide +kernel
set_option maxRecDepth 100000 in
theorem tw_422 : lw_tbl[422]? = some (.instanceMethod ⟨"CrossDock", "wants", "(III)V"⟩) := by decide +kernel
set_option maxRecDepth 100000 in
theorem tw_423 : lw_tbl[423]? = some (.selects "CrossDock" ⟨"CrossDock", "wants", "(III)V"⟩ ⟨"CrossDock", "wants", "(III)V"⟩) := by decide +kernel
set_option maxRecDepth 100000 in
theorem tw_424 : lw_tbl[424]? = some (.code ⟨"CrossDock", "wants", "(III)V"⟩ prog_1_method_4_code 4 none) := by decide +kernel
set_option maxRecDepth 100000 in
theorem tw_425 : lw_tbl[425]? = some (.methodLink "CrossDock" 96 ⟨"CrossDock", "checkThere", "(II)V"⟩) := by decide +kernel
set_option maxRecDepth 100000 in
theorem tw_426 : lw_tbl[426]? = some (.static ⟨"CrossDock", "checkThere", "(II)V"⟩) := by decide +kernel
set_option maxRecDepth 100000 in
theorem tw_427 : lw_tbl[427]? = some (.code ⟨"CrossDock", "checkThere", "(II)V"⟩ prog_1_method_20_code 2 none) := by decide +kernel
set_option maxRecDepth 100000 in
theorem tw_428 : lw_tbl[428]? = some (.classLink "CrossDock" 188 "java/util/NoSuchElementException") := by decide +kernel
set_option maxRecDepth 100000 in
theorem tw_429 : lw_tbl[429]? = some (.instantiable "java/util/NoSuchElementException" 6) := by decide +kernel
set_option maxRecDepth 100000 in
theorem tw_430 : lw_tbl[430]? = some (.castable "java/util/NoSuchElementException" "java/util/NoSuchElementException") := by decide +kernel
set_option maxRecDepth 100000 in
theorem tw_431 : lw_tbl[431]? = some (.selects "java/util/NoSuchElementException" ⟨"java/lang/Throwable", "fillInStackTrace", "(I)Ljava/lang/Throwable;"⟩ ⟨"java/lang/Throwable", "fillInStackTrace", "(I)Ljava/lang/Throwable;"⟩) := by decide +kernel
set_option maxRecDepth 100000 in
theorem tw_432 : lw_tbl[432]? = some (.lays "java/util/NoSuchElementException" "java/lang/Throwable" "cause" "Ljava/lang/Throwable;") := by decide +kernel
set_option maxRecDepth 100000 in
theorem tw_433 : lw_tbl[433]? = some (.lays "java/util/NoSuchElementException" "java/lang/Throwable" "stackTrace" "[Ljava/lang/StackTraceElement;") := by decide +kernel
set_option maxRecDepth 100000 in
theorem tw_434 : lw_tbl[434]? = some (.lays "java/util/NoSuchElementException" "java/lang/Throwable" "suppressedExceptions" "Ljava/util/List;") := by decide +kernel
set_option maxRecDepth 100000 in
theorem tw_435 : lw_tbl[435]? = some (.lays "java/util/NoSuchElementException" "java/lang/Throwable" "detailMessage" "Ljava/lang/String;") := by decide +kernel
set_option maxRecDepth 100000 in
theorem tw_436 : lw_tbl[436]? = some (.lays "java/util/NoSuchElementException" "java/lang/Throwable" "backtrace" "Ljava/lang/Object;") := by decide +kernel
set_option maxRecDepth 100000 in
theorem tw_437 : lw_tbl[437]? = some (.stringRef "CrossDock" 190 "there is none of this number") := by decide +kernel
set_option maxRecDepth 100000 in
theorem tw_438 : lw_tbl[438]? = some (.methodLink "CrossDock" 192 ⟨"java/util/NoSuchElementException", "<init>", "(Ljava/lang/String;)V"⟩) := by decide +kernel
set_option maxRecDepth 100000 in
theorem tw_439 : lw_tbl[439]? = some (.instanceMethod ⟨"java/util/NoSuchElementException", "<init>", "(Ljava/lang/String;)V"⟩) := by decide +kernel
set_option maxRecDepth 100000 in
theorem tw_440 : lw_tbl[440]? = some (.code ⟨"java/util/NoSuchElementException", "<init>", "(Ljava/lang/String;)V"⟩ prog_17_method_4_code 2 none) := by decide +kernel
set_option maxRecDepth 100000 in
theorem tw_441 : lw_tbl[441]? = some (.methodLink "java/util/NoSuchElementException" 13 ⟨"java/lang/RuntimeException", "<init>", "(Ljava/lang/String;)V"⟩) := by decide +kernel
set_option maxRecDepth 100000 in
theorem tw_442 : lw_tbl[442]? = some (.lays "java/util/NoSuchElementException" "java/lang/Throwable" "depth" "I") := by decide +kernel
set_option maxRecDepth 100000 in
theorem tw_443 : lw_tbl[443]? = some (.superclass "java/util/NoSuchElementException" "java/lang/RuntimeException") := by decide +kernel
set_option maxRecDepth 100000 in
theorem tw_444 : lw_tbl[444]? = some (.methodLink "CrossDockLaw" 84 ⟨"CrossDockLaw", "promised", "(LCrossDock;II)I"⟩) := by decide +kernel
set_option maxRecDepth 100000 in
theorem tw_445 : lw_tbl[445]? = some (.static ⟨"CrossDockLaw", "promised", "(LCrossDock;II)I"⟩) := by decide +kernel
set_option maxRecDepth 100000 in
theorem tw_446 : lw_tbl[446]? = some (.codeWith ⟨"CrossDockLaw", "promised", "(LCrossDock;II)I"⟩ method_6_code 4 (some .int) [(0, 6, 9, 24), (0, 6, 12, 13), (0, 6, 15, 30)]) := by decide +kernel
set_option maxRecDepth 100000 in
theorem tw_447 : lw_tbl[447]? = some (.classLink "CrossDockLaw" 30 "java/lang/IllegalStateException") := by decide +kernel
set_option maxRecDepth 100000 in
theorem tw_448 : lw_tbl[448]? = some (.methodLink "CrossDockLaw" 26 ⟨"CrossDock", "promised", "(II)V"⟩) := by decide +kernel
set_option maxRecDepth 100000 in
theorem tw_449 : lw_tbl[449]? = some (.instanceMethod ⟨"CrossDock", "promised", "(II)V"⟩) := by decide +kernel
set_option maxRecDepth 100000 in
theorem tw_450 : lw_tbl[450]? = some (.selects "CrossDock" ⟨"CrossDock", "promised", "(II)V"⟩ ⟨"CrossDock", "promised", "(II)V"⟩) := by decide +kernel
set_option maxRecDepth 100000 in
theorem tw_451 : lw_tbl[451]? = some (.code ⟨"CrossDock", "promised", "(II)V"⟩ prog_1_method_5_code 4 none) := by decide +kernel
set_option maxRecDepth 100000 in
theorem tw_452 : lw_tbl[452]? = some (.methodLinkNest "CrossDock" 99 ⟨"CrossDock$Pairs", "palletsOf", "(I)I"⟩ "CrossDock") := by decide +kernel
set_option maxRecDepth 100000 in
theorem tw_453 : lw_tbl[453]? = some (.privateMethod ⟨"CrossDock$Pairs", "palletsOf", "(I)I"⟩) := by decide +kernel
set_option maxRecDepth 100000 in
theorem tw_454 : lw_tbl[454]? = some (.instanceMethod ⟨"CrossDock$Pairs", "palletsOf", "(I)I"⟩) := by decide +kernel
set_option maxRecDepth 100000 in
theorem tw_455 : lw_tbl[455]? = some (.code ⟨"CrossDock$Pairs", "palletsOf", "(I)I"⟩ prog_4_method_4_code 4 (some .int)) := by decide +kernel
set_option maxRecDepth 100000 in
theorem tw_456 : lw_tbl[456]? = some (.classLink "CrossDock" 103 "java/lang/IllegalStateException") := by decide +kernel
set_option maxRecDepth 100000 in
theorem tw_457 : lw_tbl[457]? = some (.instantiable "java/lang/IllegalStateException" 6) := by decide +kernel
set_option maxRecDepth 100000 in
theorem tw_458 : lw_tbl[458]? = some (.castable "java/lang/IllegalStateException" "java/lang/IllegalStateException") := by decide +kernel
set_option maxRecDepth 100000 in
theorem tw_459 : lw_tbl[459]? = some (.selects "java/lang/IllegalStateException" ⟨"java/lang/Throwable", "fillInStackTrace", "(I)Ljava/lang/Throwable;"⟩ ⟨"java/lang/Throwable", "fillInStackTrace", "(I)Ljava/lang/Throwable;"⟩) := by decide +kernel
set_option maxRecDepth 100000 in
theorem tw_460 : lw_tbl[460]? = some (.lays "java/lang/IllegalStateException" "java/lang/Throwable" "cause" "Ljava/lang/Throwable;") := by decide +kernel
set_option maxRecDepth 100000 in
theorem tw_461 : lw_tbl[461]? = some (.lays "java/lang/IllegalStateException" "java/lang/Throwable" "stackTrace" "[Ljava/lang/StackTraceElement;") := by decide +kernel
set_option maxRecDepth 100000 in
theorem tw_462 : lw_tbl[462]? = some (.lays "java/lang/IllegalStateException" "java/lang/Throwable" "suppressedExceptions" "Ljava/util/List;") := by decide +kernel
set_option maxRecDepth 100000 in
theorem tw_463 : lw_tbl[463]? = some (.lays "java/lang/IllegalStateException" "java/lang/Throwable" "detailMessage" "Ljava/lang/String;") := by decide +kernel
set_option maxRecDepth 100000 in
theorem tw_464 : lw_tbl[464]? = some (.lays "java/lang/IllegalStateException" "java/lang/Throwable" "backtrace" "Ljava/lang/Object;") := by decide +kernel
set_option maxRecDepth 100000 in
theorem tw_465 : lw_tbl[465]? = some (.stringRef "CrossDock" 105 "matches that stand hold too many pallets") := by decide +kernel
set_option maxRecDepth 100000 in
theorem tw_466 : lw_tbl[466]? = some (.methodLink "CrossDock" 107 ⟨"java/lang/IllegalStateException", "<init>", "(Ljava/lang/String;)V"⟩) := by decide +kernel
set_option maxRecDepth 100000 in
theorem tw_467 : lw_tbl[467]? = some (.instanceMethod ⟨"java/lang/IllegalStateException", "<init>", "(Ljava/lang/String;)V"⟩) := by decide +kernel
set_option maxRecDepth 100000 in
theorem tw_468 : lw_tbl[468]? = some (.code ⟨"java/lang/IllegalStateException", "<init>", "(Ljava/lang/String;)V"⟩ prog_10_method_2_code 2 none) := by decide +kernel
set_option maxRecDepth 100000 in
theorem tw_469 : lw_tbl[469]? = some (.methodLink "java/lang/IllegalStateException" 7 ⟨"java/lang/RuntimeException", "<init>", "(Ljava/lang/String;)V"⟩) := by decide +kernel
set_option maxRecDepth 100000 in
theorem tw_470 : lw_tbl[470]? = some (.lays "java/lang/IllegalStateException" "java/lang/Throwable" "depth" "I") := by decide +kernel
set_option maxRecDepth 100000 in
theorem tw_471 : lw_tbl[471]? = some (.superclass "java/lang/IllegalStateException" "java/lang/RuntimeException") := by decide +kernel
set_option maxRecDepth 100000 in
theorem tw_472 : lw_tbl[472]? = some (.methodLink "CrossDockLaw" 88 ⟨"CrossDockLaw", "rule", "(LCrossDock;IIZ[J)I"⟩) := by decide +kernel
set_option maxRecDepth 100000 in
theorem tw_473 : lw_tbl[473]? = some (.static ⟨"CrossDockLaw", "rule", "(LCrossDock;IIZ[J)I"⟩) := by decide +kernel
set_option maxRecDepth 100000 in
theorem tw_474 : lw_tbl[474]? = some (.codeWith ⟨"CrossDockLaw", "rule", "(LCrossDock;IIZ[J)I"⟩ method_7_code 6 (some .int) [(0, 19, 22, 24)]) := by decide +kernel
set_option maxRecDepth 100000 in
theorem tw_475 : lw_tbl[475]? = some (.methodLink "CrossDockLaw" 32 ⟨"CrossDock", "rule", "(IIZ)Z"⟩) := by decide +kernel
set_option maxRecDepth 100000 in
theorem tw_476 : lw_tbl[476]? = some (.instanceMethod ⟨"CrossDock", "rule", "(IIZ)Z"⟩) := by decide +kernel
set_option maxRecDepth 100000 in
theorem tw_477 : lw_tbl[477]? = some (.selects "CrossDock" ⟨"CrossDock", "rule", "(IIZ)Z"⟩ ⟨"CrossDock", "rule", "(IIZ)Z"⟩) := by decide +kernel
set_option maxRecDepth 100000 in
theorem tw_478 : lw_tbl[478]? = some (.code ⟨"CrossDock", "rule", "(IIZ)Z"⟩ prog_1_method_6_code 4 (some .boolean)) := by decide +kernel
set_option maxRecDepth 100000 in
theorem tw_479 : lw_tbl[479]? = some (.methodLinkNest "CrossDock" 113 ⟨"CrossDock$Arrival", "setBarred", "(IZ)V"⟩ "CrossDock") := by decide +kernel
set_option maxRecDepth 100000 in
theorem tw_480 : lw_tbl[480]? = some (.privateMethod ⟨"CrossDock$Arrival", "setBarred", "(IZ)V"⟩) := by decide +kernel
set_option maxRecDepth 100000 in
theorem tw_481 : lw_tbl[481]? = some (.instanceMethod ⟨"CrossDock$Arrival", "setBarred", "(IZ)V"⟩) := by decide +kernel
set_option maxRecDepth 100000 in
theorem tw_482 : lw_tbl[482]? = some (.code ⟨"CrossDock$Arrival", "setBarred", "(IZ)V"⟩ prog_2_method_4_code 3 none) := by decide +kernel
set_option maxRecDepth 100000 in
theorem tw_483 : lw_tbl[483]? = some (.methodLink "CrossDockLaw" 92 ⟨"CrossDockLaw", "full", "(LCrossDock;IZ[J)I"⟩) := by decide +kernel
set_option maxRecDepth 100000 in
theorem tw_484 : lw_tbl[484]? = some (.static ⟨"CrossDockLaw", "full", "(LCrossDock;IZ[J)I"⟩) := by decide +kernel
set_option maxRecDepth 100000 in
theorem tw_485 : lw_tbl[485]? = some (.codeWith ⟨"CrossDockLaw", "full", "(LCrossDock;IZ[J)I"⟩ method_8_code 5 (some .int) [(0, 10, 13, 13)]) := by decide +kernel
set_option maxRecDepth 100000 in
theorem tw_486 : lw_tbl[486]? = some (.methodLink "CrossDockLaw" 36 ⟨"CrossDock", "full", "(IZ)I"⟩) := by decide +kernel
set_option maxRecDepth 100000 in
theorem tw_487 : lw_tbl[487]? = some (.instanceMethod ⟨"CrossDock", "full", "(IZ)I"⟩) := by decide +kernel
set_option maxRecDepth 100000 in
theorem tw_488 : lw_tbl[488]? = some (.selects "CrossDock" ⟨"CrossDock", "full", "(IZ)I"⟩ ⟨"CrossDock", "full", "(IZ)I"⟩) := by decide +kernel
set_option maxRecDepth 100000 in
theorem tw_489 : lw_tbl[489]? = some (.code ⟨"CrossDock", "full", "(IZ)I"⟩ prog_1_method_7_code 5 (some .int)) := by decide +kernel
set_option maxRecDepth 100000 in
theorem tw_490 : lw_tbl[490]? = some (.methodLink "CrossDockLaw" 96 ⟨"CrossDockLaw", "match", "(LCrossDock;I[J)I"⟩) := by decide +kernel
set_option maxRecDepth 100000 in
theorem tw_491 : lw_tbl[491]? = some (.static ⟨"CrossDockLaw", "match", "(LCrossDock;I[J)I"⟩) := by decide +kernel
set_option maxRecDepth 100000 in
theorem tw_492 : lw_tbl[492]? = some (.codeWith ⟨"CrossDockLaw", "match", "(LCrossDock;I[J)I"⟩ method_9_code 4 (some .int) [(0, 9, 12, 13)]) := by decide +kernel
set_option maxRecDepth 100000 in
theorem tw_493 : lw_tbl[493]? = some (.methodLink "CrossDockLaw" 40 ⟨"CrossDock", "match", "(I)I"⟩) := by decide +kernel
set_option maxRecDepth 100000 in
theorem tw_494 : lw_tbl[494]? = some (.instanceMethod ⟨"CrossDock", "match", "(I)I"⟩) := by decide +kernel
set_option maxRecDepth 100000 in
theorem tw_495 : lw_tbl[495]? = some (.selects "CrossDock" ⟨"CrossDock", "match", "(I)I"⟩ ⟨"CrossDock", "match", "(I)I"⟩) := by decide +kernel
set_option maxRecDepth 100000 in
theorem tw_496 : lw_tbl[496]? = some (.code ⟨"CrossDock", "match", "(I)I"⟩ prog_1_method_8_code 2 (some .int)) := by decide +kernel
set_option maxRecDepth 100000 in
theorem tw_497 : lw_tbl[497]? = some (.methodLink "CrossDock" 121 ⟨"CrossDock", "layOutPairs", "()V"⟩) := by decide +kernel
set_option maxRecDepth 100000 in
theorem tw_498 : lw_tbl[498]? = some (.privateMethod ⟨"CrossDock", "layOutPairs", "()V"⟩) := by decide +kernel
set_option maxRecDepth 100000 in
theorem tw_499 : lw_tbl[499]? = some (.instanceMethod ⟨"CrossDock", "layOutPairs", "()V"⟩) := by decide +kernel
set_option maxRecDepth 100000 in
theorem tw_500 : lw_tbl[500]? = some (.code ⟨"CrossDock", "layOutPairs", "()V"⟩ prog_1_method_31_code 4 none) := by decide +kernel
set_option maxRecDepth 100000 in
theorem tw_501 : lw_tbl[501]? = some (.methodLink "CrossDock" 218 ⟨"CrossDock", "sortOrders", "()V"⟩) := by decide +kernel
set_option maxRecDepth 100000 in
theorem tw_502 : lw_tbl[502]? = some (.privateMethod ⟨"CrossDock", "sortOrders", "()V"⟩) := by decide +kernel
set_option maxRecDepth 100000 in
theorem tw_503 : lw_tbl[503]? = some (.instanceMethod ⟨"CrossDock", "sortOrders", "()V"⟩) := by decide +kernel
set_option maxRecDepth 100000 in
theorem tw_504 : lw_tbl[504]? = some (.code ⟨"CrossDock", "sortOrders", "()V"⟩ prog_1_method_32_code 3 none) := by decide +kernel
set_option maxRecDepth 100000 in
theorem tw_505 : lw_tbl[505]? = some (.methodLink "CrossDock" 221 ⟨"CrossDock", "sortArrivals", "()V"⟩) := by decide +kernel
set_option maxRecDepth 100000 in
theorem tw_506 : lw_tbl[506]? = some (.privateMethod ⟨"CrossDock", "sortArrivals", "()V"⟩) := by decide +kernel
set_option maxRecDepth 100000 in
theorem tw_507 : lw_tbl[507]? = some (.instanceMethod ⟨"CrossDock", "sortArrivals", "()V"⟩) := by decide +kernel
set_option maxRecDepth 100000 in
theorem tw_508 : lw_tbl[508]? = some (.code ⟨"CrossDock", "sortArrivals", "()V"⟩ prog_1_method_33_code 3 none) := by decide +kernel
set_option maxRecDepth 100000 in
theorem tw_509 : lw_tbl[509]? = some (.methodLinkNest "CrossDock" 231 ⟨"CrossDock$Search", "addPair", "(II)V"⟩ "CrossDock") := by decide +kernel
set_option maxRecDepth 100000 in
theorem tw_510 : lw_tbl[510]? = some (.privateMethod ⟨"CrossDock$Search", "addPair", "(II)V"⟩) := by decide +kernel
set_option maxRecDepth 100000 in
theorem tw_511 : lw_tbl[511]? = some (.instanceMethod ⟨"CrossDock$Search", "addPair", "(II)V"⟩) := by decide +kernel
set_option maxRecDepth 100000 in
theorem tw_512 : lw_tbl[512]? = some (.code ⟨"CrossDock$Search", "addPair", "(II)V"⟩ prog_5_method_2_code 3 none) := by decide +kernel
set_option maxRecDepth 100000 in
theorem tw_513 : lw_tbl[513]? = some (.methodLinkNest "CrossDock" 124 ⟨"CrossDock$Search", "lookAtAll", "(I)Z"⟩ "CrossDock") := by decide +kernel
set_option maxRecDepth 100000 in
theorem tw_514 : lw_tbl[514]? = some (.privateMethod ⟨"CrossDock$Search", "lookAtAll", "(I)Z"⟩) := by decide +kernel
set_option maxRecDepth 100000 in
theorem tw_515 : lw_tbl[515]? = some (.instanceMethod ⟨"CrossDock$Search", "lookAtAll", "(I)Z"⟩) := by decide +kernel
set_option maxRecDepth 100000 in
theorem tw_516 : lw_tbl[516]? = some (.code ⟨"CrossDock$Search", "lookAtAll", "(I)Z"⟩ prog_5_method_3_code 3 (some .boolean)) := by decide +kernel
set_option maxRecDepth 100000 in
theorem tw_517 : lw_tbl[517]? = some (.methodLink "CrossDock$Search" 43 ⟨"CrossDock$Search", "putAllBack", "()V"⟩) := by decide +kernel
set_option maxRecDepth 100000 in
theorem tw_518 : lw_tbl[518]? = some (.privateMethod ⟨"CrossDock$Search", "putAllBack", "()V"⟩) := by decide +kernel
set_option maxRecDepth 100000 in
theorem tw_519 : lw_tbl[519]? = some (.instanceMethod ⟨"CrossDock$Search", "putAllBack", "()V"⟩) := by decide +kernel
set_option maxRecDepth 100000 in
theorem tw_520 : lw_tbl[520]? = some (.code ⟨"CrossDock$Search", "putAllBack", "()V"⟩ prog_5_method_5_code 2 none) := by decide +kernel
set_option maxRecDepth 100000 in
theorem tw_521 : lw_tbl[521]? = some (.methodLink "CrossDock$Search" 66 ⟨"java/lang/System", "arraycopy", "(Ljava/lang/Object;ILjava/lang/Object;II)V"⟩) := by decide +kernel
set_option maxRecDepth 100000 in
theorem tw_522 : lw_tbl[522]? = some (.static ⟨"java/lang/System", "arraycopy", "(Ljava/lang/Object;ILjava/lang/Object;II)V"⟩) := by decide +kernel
set_option maxRecDepth 100000 in
theorem tw_523 : lw_tbl[523]? = some (.native ⟨"java/lang/System", "arraycopy", "(Ljava/lang/Object;ILjava/lang/Object;II)V"⟩) := by decide +kernel
set_option maxRecDepth 100000 in
theorem tw_524 : lw_tbl[524]? = some (.methodLink "CrossDock$Search" 49 ⟨"CrossDock$Search", "greatest", "(I)I"⟩) := by decide +kernel
set_option maxRecDepth 100000 in
theorem tw_525 : lw_tbl[525]? = some (.privateMethod ⟨"CrossDock$Search", "greatest", "(I)I"⟩) := by decide +kernel
set_option maxRecDepth 100000 in
theorem tw_526 : lw_tbl[526]? = some (.instanceMethod ⟨"CrossDock$Search", "greatest", "(I)I"⟩) := by decide +kernel
set_option maxRecDepth 100000 in
theorem tw_527 : lw_tbl[527]? = some (.code ⟨"CrossDock$Search", "greatest", "(I)I"⟩ prog_5_method_6_code 2 (some .int)) := by decide +kernel
set_option maxRecDepth 100000 in
theorem tw_528 : lw_tbl[528]? = some (.methodLink "CrossDock$Search" 75 ⟨"java/lang/Math", "min", "(II)I"⟩) := by decide +kernel
set_option maxRecDepth 100000 in
theorem tw_529 : lw_tbl[529]? = some (.static ⟨"java/lang/Math", "min", "(II)I"⟩) := by decide +kernel
set_option maxRecDepth 100000 in
theorem tw_530 : lw_tbl[530]? = some (.code ⟨"java/lang/Math", "min", "(II)I"⟩ prog_11_method_69_code 2 (some .int)) := by decide +kernel
set_option maxRecDepth 100000 in
theorem tw_531 : lw_tbl[531]? = some (.methodLink "CrossDock$Search" 56 ⟨"CrossDock$Search", "backToUntried", "(I)I"⟩) := by decide +kernel
set_option maxRecDepth 100000 in
theorem tw_532 : lw_tbl[532]? = some (.privateMethod ⟨"CrossDock$Search", "backToUntried", "(I)I"⟩) := by decide +kernel
set_option maxRecDepth 100000 in
theorem tw_533 : lw_tbl[533]? = some (.instanceMethod ⟨"CrossDock$Search", "backToUntried", "(I)I"⟩) := by decide +kernel
set_option maxRecDepth 100000 in
theorem tw_534 : lw_tbl[534]? = some (.code ⟨"CrossDock$Search", "backToUntried", "(I)I"⟩ prog_5_method_7_code 3 (some .int)) := by decide +kernel
set_option maxRecDepth 100000 in
theorem tw_535 : lw_tbl[535]? = some (.methodLink "CrossDock$Search" 81 ⟨"CrossDock$Search", "putBack", "(I)V"⟩) := by decide +kernel
set_option maxRecDepth 100000 in
theorem tw_536 : lw_tbl[536]? = some (.privateMethod ⟨"CrossDock$Search", "putBack", "(I)V"⟩) := by decide +kernel
set_option maxRecDepth 100000 in
theorem tw_537 : lw_tbl[537]? = some (.instanceMethod ⟨"CrossDock$Search", "putBack", "(I)V"⟩) := by decide +kernel
set_option maxRecDepth 100000 in
theorem tw_538 : lw_tbl[538]? = some (.code ⟨"CrossDock$Search", "putBack", "(I)V"⟩ prog_5_method_9_code 2 none) := by decide +kernel
set_option maxRecDepth 100000 in
theorem tw_539 : lw_tbl[539]? = some (.methodLink "CrossDock$Search" 85 ⟨"CrossDock$Search", "touchesBy", "(I)I"⟩) := by decide +kernel
set_option maxRecDepth 100000 in
theorem tw_540 : lw_tbl[540]? = some (.privateMethod ⟨"CrossDock$Search", "touchesBy", "(I)I"⟩) := by decide +kernel
set_option maxRecDepth 100000 in
theorem tw_541 : lw_tbl[541]? = some (.instanceMethod ⟨"CrossDock$Search", "touchesBy", "(I)I"⟩) := by decide +kernel
set_option maxRecDepth 100000 in
theorem tw_542 : lw_tbl[542]? = some (.code ⟨"CrossDock$Search", "touchesBy", "(I)I"⟩ prog_5_method_10_code 4 (some .int)) := by decide +kernel
set_option maxRecDepth 100000 in
theorem tw_543 : lw_tbl[543]? = some (.methodLink "CrossDock$Search" 59 ⟨"CrossDock$Search", "take", "(II)V"⟩) := by decide +kernel
set_option maxRecDepth 100000 in
theorem tw_544 : lw_tbl[544]? = some (.privateMethod ⟨"CrossDock$Search", "take", "(II)V"⟩) := by decide +kernel
set_option maxRecDepth 100000 in
theorem tw_545 : lw_tbl[545]? = some (.instanceMethod ⟨"CrossDock$Search", "take", "(II)V"⟩) := by decide +kernel
set_option maxRecDepth 100000 in
theorem tw_546 : lw_tbl[546]? = some (.code ⟨"CrossDock$Search", "take", "(II)V"⟩ prog_5_method_8_code 3 none) := by decide +kernel
set_option maxRecDepth 100000 in
theorem tw_547 : lw_tbl[547]? = some (.methodLink "CrossDock$Search" 63 ⟨"CrossDock$Search", "chooseIfBetter", "()V"⟩) := by decide +kernel
set_option maxRecDepth 100000 in
theorem tw_548 : lw_tbl[548]? = some (.privateMethod ⟨"CrossDock$Search", "chooseIfBetter", "()V"⟩) := by decide +kernel
set_option maxRecDepth 100000 in
theorem tw_549 : lw_tbl[549]? = some (.instanceMethod ⟨"CrossDock$Search", "chooseIfBetter", "()V"⟩) := by decide +kernel
set_option maxRecDepth 100000 in
theorem tw_550 : lw_tbl[550]? = some (.code ⟨"CrossDock$Search", "chooseIfBetter", "()V"⟩ prog_5_method_11_code 1 none) := by decide +kernel
set_option maxRecDepth 100000 in
theorem tw_551 : lw_tbl[551]? = some (.methodLinkNest "CrossDock" 131 ⟨"CrossDock$Search", "chooseByRule", "()V"⟩ "CrossDock") := by decide +kernel
set_option maxRecDepth 100000 in
theorem tw_552 : lw_tbl[552]? = some (.privateMethod ⟨"CrossDock$Search", "chooseByRule", "()V"⟩) := by decide +kernel
set_option maxRecDepth 100000 in
theorem tw_553 : lw_tbl[553]? = some (.instanceMethod ⟨"CrossDock$Search", "chooseByRule", "()V"⟩) := by decide +kernel
set_option maxRecDepth 100000 in
theorem tw_554 : lw_tbl[554]? = some (.code ⟨"CrossDock$Search", "chooseByRule", "()V"⟩ prog_5_method_4_code 2 none) := by decide +kernel
set_option maxRecDepth 100000 in
theorem tw_555 : lw_tbl[555]? = some (.methodLinkNest "CrossDock" 134 ⟨"CrossDock$Pairs", "replaceBy", "(LCrossDock$Search;)V"⟩ "CrossDock") := by decide +kernel
set_option maxRecDepth 100000 in
theorem tw_556 : lw_tbl[556]? = some (.privateMethod ⟨"CrossDock$Pairs", "replaceBy", "(LCrossDock$Search;)V"⟩) := by decide +kernel
set_option maxRecDepth 100000 in
theorem tw_557 : lw_tbl[557]? = some (.instanceMethod ⟨"CrossDock$Pairs", "replaceBy", "(LCrossDock$Search;)V"⟩) := by decide +kernel
set_option maxRecDepth 100000 in
theorem tw_558 : lw_tbl[558]? = some (.code ⟨"CrossDock$Pairs", "replaceBy", "(LCrossDock$Search;)V"⟩ prog_4_method_2_code 3 none) := by decide +kernel
set_option maxRecDepth 100000 in
theorem tw_559 : lw_tbl[559]? = some (.methodLink "CrossDockLaw" 113 ⟨"CrossDockLaw", "pair", "(LCrossDock;II[J)I"⟩) := by decide +kernel
set_option maxRecDepth 100000 in
theorem tw_560 : lw_tbl[560]? = some (.static ⟨"CrossDockLaw", "pair", "(LCrossDock;II[J)I"⟩) := by decide +kernel
set_option maxRecDepth 100000 in
theorem tw_561 : lw_tbl[561]? = some (.codeWith ⟨"CrossDockLaw", "pair", "(LCrossDock;II[J)I"⟩ method_10_code 5 (some .int) [(0, 10, 13, 24), (0, 10, 17, 13)]) := by decide +kernel
set_option maxRecDepth 100000 in
theorem tw_562 : lw_tbl[562]? = some (.methodLink "CrossDockLaw" 44 ⟨"CrossDock", "pair", "(II)I"⟩) := by decide +kernel
set_option maxRecDepth 100000 in
theorem tw_563 : lw_tbl[563]? = some (.instanceMethod ⟨"CrossDock", "pair", "(II)I"⟩) := by decide +kernel
set_option maxRecDepth 100000 in
theorem tw_564 : lw_tbl[564]? = some (.selects "CrossDock" ⟨"CrossDock", "pair", "(II)I"⟩ ⟨"CrossDock", "pair", "(II)I"⟩) := by decide +kernel
set_option maxRecDepth 100000 in
theorem tw_565 : lw_tbl[565]? = some (.code ⟨"CrossDock", "pair", "(II)I"⟩ prog_1_method_12_code 3 (some .int)) := by decide +kernel
set_option maxRecDepth 100000 in
theorem tw_566 : lw_tbl[566]? = some (.methodLink "CrossDockLaw" 117 ⟨"CrossDockLaw", "undo", "(LCrossDock;I[J)I"⟩) := by decide +kernel
set_option maxRecDepth 100000 in
theorem tw_567 : lw_tbl[567]? = some (.static ⟨"CrossDockLaw", "undo", "(LCrossDock;I[J)I"⟩) := by decide +kernel
set_option maxRecDepth 100000 in
theorem tw_568 : lw_tbl[568]? = some (.codeWith ⟨"CrossDockLaw", "undo", "(LCrossDock;I[J)I"⟩ method_11_code 4 (some .int) [(0, 9, 12, 24)]) := by decide +kernel
set_option maxRecDepth 100000 in
theorem tw_569 : lw_tbl[569]? = some (.methodLink "CrossDockLaw" 48 ⟨"CrossDock", "undo", "(I)I"⟩) := by decide +kernel
set_option maxRecDepth 100000 in
theorem tw_570 : lw_tbl[570]? = some (.instanceMethod ⟨"CrossDock", "undo", "(I)I"⟩) := by decide +kernel
set_option maxRecDepth 100000 in
theorem tw_571 : lw_tbl[571]? = some (.selects "CrossDock" ⟨"CrossDock", "undo", "(I)I"⟩ ⟨"CrossDock", "undo", "(I)I"⟩) := by decide +kernel
set_option maxRecDepth 100000 in
theorem tw_572 : lw_tbl[572]? = some (.code ⟨"CrossDock", "undo", "(I)I"⟩ prog_1_method_13_code 3 (some .int)) := by decide +kernel
set_option maxRecDepth 100000 in
theorem tw_573 : lw_tbl[573]? = some (.methodLinkNest "CrossDock" 160 ⟨"CrossDock$Pairs", "removeAt", "(I)V"⟩ "CrossDock") := by decide +kernel
set_option maxRecDepth 100000 in
theorem tw_574 : lw_tbl[574]? = some (.privateMethod ⟨"CrossDock$Pairs", "removeAt", "(I)V"⟩) := by decide +kernel
set_option maxRecDepth 100000 in
theorem tw_575 : lw_tbl[575]? = some (.instanceMethod ⟨"CrossDock$Pairs", "removeAt", "(I)V"⟩) := by decide +kernel
set_option maxRecDepth 100000 in
theorem tw_576 : lw_tbl[576]? = some (.code ⟨"CrossDock$Pairs", "removeAt", "(I)V"⟩ prog_4_method_3_code 3 none) := by decide +kernel
set_option maxRecDepth 100000 in
theorem tw_577 : lw_tbl[577]? = some (.methodLink "CrossDockLaw" 120 ⟨"CrossDockLaw", "split", "(LCrossDock;II[J)I"⟩) := by decide +kernel
set_option maxRecDepth 100000 in
theorem tw_578 : lw_tbl[578]? = some (.static ⟨"CrossDockLaw", "split", "(LCrossDock;II[J)I"⟩) := by decide +kernel
set_option maxRecDepth 100000 in
theorem tw_579 : lw_tbl[579]? = some (.codeWith ⟨"CrossDockLaw", "split", "(LCrossDock;II[J)I"⟩ method_12_code 5 (some .int) [(0, 10, 13, 24), (0, 10, 17, 13), (0, 10, 21, 30), (0, 10, 25, 15)]) := by decide +kernel
set_option maxRecDepth 100000 in
theorem tw_580 : lw_tbl[580]? = some (.methodLink "CrossDockLaw" 51 ⟨"CrossDock", "split", "(II)I"⟩) := by decide +kernel
set_option maxRecDepth 100000 in
theorem tw_581 : lw_tbl[581]? = some (.instanceMethod ⟨"CrossDock", "split", "(II)I"⟩) := by decide +kernel
set_option maxRecDepth 100000 in
theorem tw_582 : lw_tbl[582]? = some (.selects "CrossDock" ⟨"CrossDock", "split", "(II)I"⟩ ⟨"CrossDock", "split", "(II)I"⟩) := by decide +kernel
set_option maxRecDepth 100000 in
theorem tw_583 : lw_tbl[583]? = some (.code ⟨"CrossDock", "split", "(II)I"⟩ prog_1_method_14_code 4 (some .int)) := by decide +kernel
set_option maxRecDepth 100000 in
theorem tw_584 : lw_tbl[584]? = some (.stringRef "CrossDock" 164 "the arrival is in a pair") := by decide +kernel
set_option maxRecDepth 100000 in
theorem tw_585 : lw_tbl[585]? = some (.methodLinkNest "CrossDock" 166 ⟨"CrossDock$Arrival", "moveTo", "(LCrossDock$Arrival;I)V"⟩ "CrossDock") := by decide +kernel
set_option maxRecDepth 100000 in
theorem tw_586 : lw_tbl[586]? = some (.privateMethod ⟨"CrossDock$Arrival", "moveTo", "(LCrossDock$Arrival;I)V"⟩) := by decide +kernel
set_option maxRecDepth 100000 in
theorem tw_587 : lw_tbl[587]? = some (.instanceMethod ⟨"CrossDock$Arrival", "moveTo", "(LCrossDock$Arrival;I)V"⟩) := by decide +kernel
set_option maxRecDepth 100000 in
theorem tw_588 : lw_tbl[588]? = some (.code ⟨"CrossDock$Arrival", "moveTo", "(LCrossDock$Arrival;I)V"⟩ prog_2_method_5_code 4 none) := by decide +kernel
set_option maxRecDepth 100000 in
theorem tw_589 : lw_tbl[589]? = some (.methodLink "CrossDock$Arrival" 19 ⟨"java/lang/Math", "min", "(II)I"⟩) := by decide +kernel
set_option maxRecDepth 100000 in
theorem tw_590 : lw_tbl[590]? = some (.methodLink "CrossDockLaw" 123 ⟨"CrossDockLaw", "late", "(LCrossDock;II[J)I"⟩) := by decide +kernel
set_option maxRecDepth 100000 in
theorem tw_591 : lw_tbl[591]? = some (.static ⟨"CrossDockLaw", "late", "(LCrossDock;II[J)I"⟩) := by decide +kernel
set_option maxRecDepth 100000 in
theorem tw_592 : lw_tbl[592]? = some (.codeWith ⟨"CrossDockLaw", "late", "(LCrossDock;II[J)I"⟩ method_13_code 5 (some .int) [(0, 10, 13, 24), (0, 10, 17, 13)]) := by decide +kernel
set_option maxRecDepth 100000 in
theorem tw_593 : lw_tbl[593]? = some (.methodLink "CrossDockLaw" 54 ⟨"CrossDock", "late", "(II)I"⟩) := by decide +kernel
set_option maxRecDepth 100000 in
theorem tw_594 : lw_tbl[594]? = some (.instanceMethod ⟨"CrossDock", "late", "(II)I"⟩) := by decide +kernel
set_option maxRecDepth 100000 in
theorem tw_595 : lw_tbl[595]? = some (.selects "CrossDock" ⟨"CrossDock", "late", "(II)I"⟩ ⟨"CrossDock", "late", "(II)I"⟩) := by decide +kernel
set_option maxRecDepth 100000 in
theorem tw_596 : lw_tbl[596]? = some (.code ⟨"CrossDock", "late", "(II)I"⟩ prog_1_method_15_code 5 (some .int)) := by decide +kernel
set_option maxRecDepth 100000 in
theorem tw_597 : lw_tbl[597]? = some (.methodLink "CrossDock" 170 ⟨"CrossDock", "isUnfit", "(II)Z"⟩) := by decide +kernel
set_option maxRecDepth 100000 in
theorem tw_598 : lw_tbl[598]? = some (.privateMethod ⟨"CrossDock", "isUnfit", "(II)Z"⟩) := by decide +kernel
set_option maxRecDepth 100000 in
theorem tw_599 : lw_tbl[599]? = some (.instanceMethod ⟨"CrossDock", "isUnfit", "(II)Z"⟩) := by decide +kernel
set_option maxRecDepth 100000 in
theorem tw_600 : lw_tbl[600]? = some (.code ⟨"CrossDock", "isUnfit", "(II)Z"⟩ prog_1_method_25_code 4 (some .boolean)) := by decide +kernel
set_option maxRecDepth 100000 in
theorem tw_601 : lw_tbl[601]? = some (.methodLink "CrossDockLaw" 126 ⟨"CrossDockLaw", "arrival", "(LCrossDock;II[J)I"⟩) := by decide +kernel
set_option maxRecDepth 100000 in
theorem tw_602 : lw_tbl[602]? = some (.static ⟨"CrossDockLaw", "arrival", "(LCrossDock;II[J)I"⟩) := by decide +kernel
set_option maxRecDepth 100000 in
theorem tw_603 : lw_tbl[603]? = some (.codeWith ⟨"CrossDockLaw", "arrival", "(LCrossDock;II[J)I"⟩ method_14_code 5 (some .int) [(0, 10, 13, 24), (0, 10, 17, 13)]) := by decide +kernel
set_option maxRecDepth 100000 in
theorem tw_604 : lw_tbl[604]? = some (.methodLink "CrossDockLaw" 57 ⟨"CrossDock", "arrival", "(II)I"⟩) := by decide +kernel
set_option maxRecDepth 100000 in
theorem tw_605 : lw_tbl[605]? = some (.instanceMethod ⟨"CrossDock", "arrival", "(II)I"⟩) := by decide +kernel
set_option maxRecDepth 100000 in
theorem tw_606 : lw_tbl[606]? = some (.selects "CrossDock" ⟨"CrossDock", "arrival", "(II)I"⟩ ⟨"CrossDock", "arrival", "(II)I"⟩) := by decide +kernel
set_option maxRecDepth 100000 in
theorem tw_607 : lw_tbl[607]? = some (.code ⟨"CrossDock", "arrival", "(II)I"⟩ prog_1_method_16_code 3 (some .int)) := by decide +kernel
set_option maxRecDepth 100000 in
theorem tw_608 : lw_tbl[608]? = some (.methodLink "CrossDockLaw" 129 ⟨"CrossDockLaw", "wanted", "(LCrossDock;II[J)I"⟩) := by decide +kernel
set_option maxRecDepth 100000 in
theorem tw_609 : lw_tbl[609]? = some (.static ⟨"CrossDockLaw", "wanted", "(LCrossDock;II[J)I"⟩) := by decide +kernel
set_option maxRecDepth 100000 in
theorem tw_610 : lw_tbl[610]? = some (.codeWith ⟨"CrossDockLaw", "wanted", "(LCrossDock;II[J)I"⟩ method_15_code 5 (some .int) [(0, 10, 13, 24), (0, 10, 17, 13)]) := by decide +kernel
set_option maxRecDepth 100000 in
theorem tw_611 : lw_tbl[611]? = some (.methodLink "CrossDockLaw" 60 ⟨"CrossDock", "wanted", "(II)I"⟩) := by decide +kernel
set_option maxRecDepth 100000 in
theorem tw_612 : lw_tbl[612]? = some (.instanceMethod ⟨"CrossDock", "wanted", "(II)I"⟩) := by decide +kernel
set_option maxRecDepth 100000 in
theorem tw_613 : lw_tbl[613]? = some (.selects "CrossDock" ⟨"CrossDock", "wanted", "(II)I"⟩ ⟨"CrossDock", "wanted", "(II)I"⟩) := by decide +kernel
set_option maxRecDepth 100000 in
theorem tw_614 : lw_tbl[614]? = some (.code ⟨"CrossDock", "wanted", "(II)I"⟩ prog_1_method_17_code 3 (some .int)) := by decide +kernel
set_option maxRecDepth 100000 in
theorem tw_615 : lw_tbl[615]? = some (.methodLink "CrossDock" 179 ⟨"CrossDock", "whatBarsAll", "(I)I"⟩) := by decide +kernel
set_option maxRecDepth 100000 in
theorem tw_616 : lw_tbl[616]? = some (.privateMethod ⟨"CrossDock", "whatBarsAll", "(I)I"⟩) := by decide +kernel
set_option maxRecDepth 100000 in
theorem tw_617 : lw_tbl[617]? = some (.instanceMethod ⟨"CrossDock", "whatBarsAll", "(I)I"⟩) := by decide +kernel
set_option maxRecDepth 100000 in
theorem tw_618 : lw_tbl[618]? = some (.code ⟨"CrossDock", "whatBarsAll", "(I)I"⟩ prog_1_method_26_code 5 (some .int)) := by decide +kernel
set_option maxRecDepth 100000 in
theorem tw_619 : lw_tbl[619]? = some (.methodLink "CrossDock" 213 ⟨"java/lang/Math", "max", "(II)I"⟩) := by decide +kernel
set_option maxRecDepth 100000 in
theorem tw_620 : lw_tbl[620]? = some (.static ⟨"java/lang/Math", "max", "(II)I"⟩) := by decide +kernel
set_option maxRecDepth 100000 in
theorem tw_621 : lw_tbl[621]? = some (.code ⟨"java/lang/Math", "max", "(II)I"⟩ prog_11_method_65_code 2 (some .int)) := by decide +kernel
set_option maxRecDepth 100000 in
theorem tw_622 : lw_tbl[622]? = some (.classLink "CrossDockLaw" 64 "CrossDockModel") := by decide +kernel
set_option maxRecDepth 100000 in
theorem tw_623 : lw_tbl[623]? = some (.instantiable "CrossDockModel" 28) := by decide +kernel
set_option maxRecDepth 100000 in
theorem tw_624 : lw_tbl[624]? = some (.methodLink "CrossDockLaw" 66 ⟨"CrossDockModel", "<init>", "()V"⟩) := by decide +kernel
set_option maxRecDepth 100000 in
theorem tw_625 : lw_tbl[625]? = some (.instanceMethod ⟨"CrossDockModel", "<init>", "()V"⟩) := by decide +kernel
set_option maxRecDepth 100000 in
theorem tw_626 : lw_tbl[626]? = some (.code ⟨"CrossDockModel", "<init>", "()V"⟩ prog_7_method_1_code 1 none) := by decide +kernel
set_option maxRecDepth 100000 in
theorem tw_627 : lw_tbl[627]? = some (.methodLink "CrossDockModel" 1 ⟨"java/lang/Object", "<init>", "()V"⟩) := by decide +kernel
set_option maxRecDepth 100000 in
theorem tw_628 : lw_tbl[628]? = some (.fieldLink "CrossDockModel" 74 "CrossDockModel" "code" "I") := by decide +kernel
set_option maxRecDepth 100000 in
theorem tw_629 : lw_tbl[629]? = some (.fieldLink "CrossDockModel" 78 "CrossDockModel" "arrivals" "I") := by decide +kernel
set_option maxRecDepth 100000 in
theorem tw_630 : lw_tbl[630]? = some (.fieldLink "CrossDockModel" 7 "CrossDockModel" "good" "[I") := by decide +kernel
set_option maxRecDepth 100000 in
theorem tw_631 : lw_tbl[631]? = some (.fieldLink "CrossDockModel" 13 "CrossDockModel" "lot" "[I") := by decide +kernel
set_option maxRecDepth 100000 in
theorem tw_632 : lw_tbl[632]? = some (.fieldLink "CrossDockModel" 16 "CrossDockModel" "time" "[I") := by decide +kernel
set_option maxRecDepth 100000 in
theorem tw_633 : lw_tbl[633]? = some (.fieldLink "CrossDockModel" 19 "CrossDockModel" "pallets" "[I") := by decide +kernel
set_option maxRecDepth 100000 in
theorem tw_634 : lw_tbl[634]? = some (.fieldLink "CrossDockModel" 22 "CrossDockModel" "promise" "[I") := by decide +kernel
set_option maxRecDepth 100000 in
theorem tw_635 : lw_tbl[635]? = some (.fieldLink "CrossDockModel" 85 "CrossDockModel" "orders" "I") := by decide +kernel
set_option maxRecDepth 100000 in
theorem tw_636 : lw_tbl[636]? = some (.fieldLink "CrossDockModel" 25 "CrossDockModel" "wish" "[I") := by decide +kernel
set_option maxRecDepth 100000 in
theorem tw_637 : lw_tbl[637]? = some (.fieldLink "CrossDockModel" 28 "CrossDockModel" "many" "[I") := by decide +kernel
set_option maxRecDepth 100000 in
theorem tw_638 : lw_tbl[638]? = some (.fieldLink "CrossDockModel" 31 "CrossDockModel" "rank" "[I") := by decide +kernel
set_option maxRecDepth 100000 in
theorem tw_639 : lw_tbl[639]? = some (.fieldLink "CrossDockModel" 34 "CrossDockModel" "lane" "[I") := by decide +kernel
set_option maxRecDepth 100000 in
theorem tw_640 : lw_tbl[640]? = some (.fieldLink "CrossDockModel" 37 "CrossDockModel" "due" "[I") := by decide +kernel
set_option maxRecDepth 100000 in
theorem tw_641 : lw_tbl[641]? = some (.fieldLink "CrossDockModel" 40 "CrossDockModel" "lots" "[I") := by decide +kernel
set_option maxRecDepth 100000 in
theorem tw_642 : lw_tbl[642]? = some (.fieldLink "CrossDockModel" 43 "CrossDockModel" "bars" "[Z") := by decide +kernel
set_option maxRecDepth 100000 in
theorem tw_643 : lw_tbl[643]? = some (.fieldLink "CrossDockModel" 47 "CrossDockModel" "isFull" "[Z") := by decide +kernel
set_option maxRecDepth 100000 in
theorem tw_644 : lw_tbl[644]? = some (.fieldLink "CrossDockModel" 92 "CrossDockModel" "pairs" "I") := by decide +kernel
set_option maxRecDepth 100000 in
theorem tw_645 : lw_tbl[645]? = some (.fieldLink "CrossDockModel" 50 "CrossDockModel" "pairArrival" "[I") := by decide +kernel
set_option maxRecDepth 100000 in
theorem tw_646 : lw_tbl[646]? = some (.fieldLink "CrossDockModel" 53 "CrossDockModel" "pairOrder" "[I") := by decide +kernel
set_option maxRecDepth 100000 in
theorem tw_647 : lw_tbl[647]? = some (.fieldLink "CrossDockModel" 56 "CrossDockModel" "pairMany" "[I") := by decide +kernel
set_option maxRecDepth 100000 in
theorem tw_648 : lw_tbl[648]? = some (.fieldLink "CrossDockModel" 143 "CrossDockModel" "exact" "Z") := by decide +kernel
set_option maxRecDepth 100000 in
theorem tw_649 : lw_tbl[649]? = some (.fieldLink "CrossDockModel" 127 "CrossDockModel" "steps" "I") := by decide +kernel
set_option maxRecDepth 100000 in
theorem tw_650 : lw_tbl[650]? = some (.fieldLink "CrossDockModel" 115 "CrossDockModel" "places" "I") := by decide +kernel
set_option maxRecDepth 100000 in
theorem tw_651 : lw_tbl[651]? = some (.fieldLink "CrossDockModel" 59 "CrossDockModel" "from" "[I") := by decide +kernel
set_option maxRecDepth 100000 in
theorem tw_652 : lw_tbl[652]? = some (.fieldLink "CrossDockModel" 62 "CrossDockModel" "to" "[I") := by decide +kernel
set_option maxRecDepth 100000 in
theorem tw_653 : lw_tbl[653]? = some (.fieldLink "CrossDockModel" 65 "CrossDockModel" "plan" "[I") := by decide +kernel
set_option maxRecDepth 100000 in
theorem tw_654 : lw_tbl[654]? = some (.fieldLink "CrossDockModel" 68 "CrossDockModel" "best" "[I") := by decide +kernel
set_option maxRecDepth 100000 in
theorem tw_655 : lw_tbl[655]? = some (.fieldLink "CrossDockModel" 71 "CrossDockModel" "got" "[I") := by decide +kernel
set_option maxRecDepth 100000 in
theorem tw_656 : lw_tbl[656]? = some (.lays "CrossDockModel" "CrossDockModel" "code" "I") := by decide +kernel
set_option maxRecDepth 100000 in
theorem tw_657 : lw_tbl[657]? = some (.soleField "CrossDockModel" "code") := by decide +kernel
set_option maxRecDepth 100000 in
theorem tw_658 : lw_tbl[658]? = some (.lays "CrossDockModel" "CrossDockModel" "arrivals" "I") := by decide +kernel
set_option maxRecDepth 100000 in
theorem tw_659 : lw_tbl[659]? = some (.soleField "CrossDockModel" "arrivals") := by decide +kernel
set_option maxRecDepth 100000 in
theorem tw_660 : lw_tbl[660]? = some (.laysFinal "CrossDockModel" "CrossDockModel" "good" "[I") := by decide +kernel
set_option maxRecDepth 100000 in
theorem tw_661 : lw_tbl[661]? = some (.soleField "CrossDockModel" "good") := by decide +kernel
set_option maxRecDepth 100000 in
theorem tw_662 : lw_tbl[662]? = some (.laysFinal "CrossDockModel" "CrossDockModel" "lot" "[I") := by decide +kernel
set_option maxRecDepth 100000 in
theorem tw_663 : lw_tbl[663]? = some (.soleField "CrossDockModel" "lot") := by decide +kernel
set_option maxRecDepth 100000 in
theorem tw_664 : lw_tbl[664]? = some (.laysFinal "CrossDockModel" "CrossDockModel" "time" "[I") := by decide +kernel
set_option maxRecDepth 100000 in
theorem tw_665 : lw_tbl[665]? = some (.soleField "CrossDockModel" "time") := by decide +kernel
set_option maxRecDepth 100000 in
theorem tw_666 : lw_tbl[666]? = some (.laysFinal "CrossDockModel" "CrossDockModel" "pallets" "[I") := by decide +kernel
set_option maxRecDepth 100000 in
theorem tw_667 : lw_tbl[667]? = some (.soleField "CrossDockModel" "pallets") := by decide +kernel
set_option maxRecDepth 100000 in
theorem tw_668 : lw_tbl[668]? = some (.laysFinal "CrossDockModel" "CrossDockModel" "promise" "[I") := by decide +kernel
set_option maxRecDepth 100000 in
theorem tw_669 : lw_tbl[669]? = some (.soleField "CrossDockModel" "promise") := by decide +kernel
set_option maxRecDepth 100000 in
theorem tw_670 : lw_tbl[670]? = some (.lays "CrossDockModel" "CrossDockModel" "orders" "I") := by decide +kernel
set_option maxRecDepth 100000 in
theorem tw_671 : lw_tbl[671]? = some (.soleField "CrossDockModel" "orders") := by decide +kernel
set_option maxRecDepth 100000 in
theorem tw_672 : lw_tbl[672]? = some (.laysFinal "CrossDockModel" "CrossDockModel" "wish" "[I") := by decide +kernel
set_option maxRecDepth 100000 in
theorem tw_673 : lw_tbl[673]? = some (.soleField "CrossDockModel" "wish") := by decide +kernel
set_option maxRecDepth 100000 in
theorem tw_674 : lw_tbl[674]? = some (.laysFinal "CrossDockModel" "CrossDockModel" "many" "[I") := by decide +kernel
set_option maxRecDepth 100000 in
theorem tw_675 : lw_tbl[675]? = some (.soleField "CrossDockModel" "many") := by decide +kernel
set_option maxRecDepth 100000 in
theorem tw_676 : lw_tbl[676]? = some (.laysFinal "CrossDockModel" "CrossDockModel" "rank" "[I") := by decide +kernel
set_option maxRecDepth 100000 in
theorem tw_677 : lw_tbl[677]? = some (.soleField "CrossDockModel" "rank") := by decide +kernel
set_option maxRecDepth 100000 in
theorem tw_678 : lw_tbl[678]? = some (.laysFinal "CrossDockModel" "CrossDockModel" "lane" "[I") := by decide +kernel
set_option maxRecDepth 100000 in
theorem tw_679 : lw_tbl[679]? = some (.soleField "CrossDockModel" "lane") := by decide +kernel
set_option maxRecDepth 100000 in
theorem tw_680 : lw_tbl[680]? = some (.laysFinal "CrossDockModel" "CrossDockModel" "due" "[I") := by decide +kernel
set_option maxRecDepth 100000 in
theorem tw_681 : lw_tbl[681]? = some (.soleField "CrossDockModel" "due") := by decide +kernel
set_option maxRecDepth 100000 in
theorem tw_682 : lw_tbl[682]? = some (.laysFinal "CrossDockModel" "CrossDockModel" "lots" "[I") := by decide +kernel
set_option maxRecDepth 100000 in
theorem tw_683 : lw_tbl[683]? = some (.soleField "CrossDockModel" "lots") := by decide +kernel
set_option maxRecDepth 100000 in
theorem tw_684 : lw_tbl[684]? = some (.laysFinal "CrossDockModel" "CrossDockModel" "bars" "[Z") := by decide +kernel
set_option maxRecDepth 100000 in
theorem tw_685 : lw_tbl[685]? = some (.soleField "CrossDockModel" "bars") := by decide +kernel
set_option maxRecDepth 100000 in
theorem tw_686 : lw_tbl[686]? = some (.laysFinal "CrossDockModel" "CrossDockModel" "isFull" "[Z") := by decide +kernel
set_option maxRecDepth 100000 in
theorem tw_687 : lw_tbl[687]? = some (.soleField "CrossDockModel" "isFull") := by decide +kernel
set_option maxRecDepth 100000 in
theorem tw_688 : lw_tbl[688]? = some (.lays "CrossDockModel" "CrossDockModel" "pairs" "I") := by decide +kernel
set_option maxRecDepth 100000 in
theorem tw_689 : lw_tbl[689]? = some (.soleField "CrossDockModel" "pairs") := by decide +kernel
set_option maxRecDepth 100000 in
theorem tw_690 : lw_tbl[690]? = some (.laysFinal "CrossDockModel" "CrossDockModel" "pairArrival" "[I") := by decide +kernel
set_option maxRecDepth 100000 in
theorem tw_691 : lw_tbl[691]? = some (.soleField "CrossDockModel" "pairArrival") := by decide +kernel
set_option maxRecDepth 100000 in
theorem tw_692 : lw_tbl[692]? = some (.laysFinal "CrossDockModel" "CrossDockModel" "pairOrder" "[I") := by decide +kernel
set_option maxRecDepth 100000 in
theorem tw_693 : lw_tbl[693]? = some (.soleField "CrossDockModel" "pairOrder") := by decide +kernel
set_option maxRecDepth 100000 in
theorem tw_694 : lw_tbl[694]? = some (.laysFinal "CrossDockModel" "CrossDockModel" "pairMany" "[I") := by decide +kernel
set_option maxRecDepth 100000 in
theorem tw_695 : lw_tbl[695]? = some (.soleField "CrossDockModel" "pairMany") := by decide +kernel
set_option maxRecDepth 100000 in
theorem tw_696 : lw_tbl[696]? = some (.lays "CrossDockModel" "CrossDockModel" "exact" "Z") := by decide +kernel
set_option maxRecDepth 100000 in
theorem tw_697 : lw_tbl[697]? = some (.soleField "CrossDockModel" "exact") := by decide +kernel
set_option maxRecDepth 100000 in
theorem tw_698 : lw_tbl[698]? = some (.lays "CrossDockModel" "CrossDockModel" "steps" "I") := by decide +kernel
set_option maxRecDepth 100000 in
theorem tw_699 : lw_tbl[699]? = some (.soleField "CrossDockModel" "steps") := by decide +kernel
set_option maxRecDepth 100000 in
theorem tw_700 : lw_tbl[700]? = some (.lays "CrossDockModel" "CrossDockModel" "places" "I") := by decide +kernel
set_option maxRecDepth 100000 in
theorem tw_701 : lw_tbl[701]? = some (.soleField "CrossDockModel" "places") := by decide +kernel
set_option maxRecDepth 100000 in
theorem tw_702 : lw_tbl[702]? = some (.laysFinal "CrossDockModel" "CrossDockModel" "from" "[I") := by decide +kernel
set_option maxRecDepth 100000 in
theorem tw_703 : lw_tbl[703]? = some (.soleField "CrossDockModel" "from") := by decide +kernel
set_option maxRecDepth 100000 in
theorem tw_704 : lw_tbl[704]? = some (.laysFinal "CrossDockModel" "CrossDockModel" "to" "[I") := by decide +kernel
set_option maxRecDepth 100000 in
theorem tw_705 : lw_tbl[705]? = some (.soleField "CrossDockModel" "to") := by decide +kernel
set_option maxRecDepth 100000 in
theorem tw_706 : lw_tbl[706]? = some (.laysFinal "CrossDockModel" "CrossDockModel" "plan" "[I") := by decide +kernel
set_option maxRecDepth 100000 in
theorem tw_707 : lw_tbl[707]? = some (.soleField "CrossDockModel" "plan") := by decide +kernel
set_option maxRecDepth 100000 in
theorem tw_708 : lw_tbl[708]? = some (.laysFinal "CrossDockModel" "CrossDockModel" "best" "[I") := by decide +kernel
set_option maxRecDepth 100000 in
theorem tw_709 : lw_tbl[709]? = some (.soleField "CrossDockModel" "best") := by decide +kernel
set_option maxRecDepth 100000 in
theorem tw_710 : lw_tbl[710]? = some (.laysFinal "CrossDockModel" "CrossDockModel" "got" "[I") := by decide +kernel
set_option maxRecDepth 100000 in
theorem tw_711 : lw_tbl[711]? = some (.soleField "CrossDockModel" "got") := by decide +kernel
set_option maxRecDepth 100000 in
theorem tw_712 : lw_tbl[712]? = some (.superclass "CrossDockModel" "java/lang/Object") := by decide +kernel
set_option maxRecDepth 100000 in
theorem tw_713 : lw_tbl[713]? = some (.methodLink "CrossDockLaw" 73 ⟨"CrossDockModel", "thrown", "()I"⟩) := by decide +kernel
set_option maxRecDepth 100000 in
theorem tw_714 : lw_tbl[714]? = some (.instanceMethod ⟨"CrossDockModel", "thrown", "()I"⟩) := by decide +kernel
set_option maxRecDepth 100000 in
theorem tw_715 : lw_tbl[715]? = some (.selects "CrossDockModel" ⟨"CrossDockModel", "thrown", "()I"⟩ ⟨"CrossDockModel", "thrown", "()I"⟩) := by decide +kernel
set_option maxRecDepth 100000 in
theorem tw_716 : lw_tbl[716]? = some (.code ⟨"CrossDockModel", "thrown", "()I"⟩ prog_7_method_2_code 1 (some .int)) := by decide +kernel
set_option maxRecDepth 100000 in
theorem tw_717 : lw_tbl[717]? = some (.methodLink "CrossDockLaw" 72 ⟨"CrossDockModel", "arrive", "(IIII)I"⟩) := by decide +kernel
set_option maxRecDepth 100000 in
theorem tw_718 : lw_tbl[718]? = some (.instanceMethod ⟨"CrossDockModel", "arrive", "(IIII)I"⟩) := by decide +kernel
set_option maxRecDepth 100000 in
theorem tw_719 : lw_tbl[719]? = some (.selects "CrossDockModel" ⟨"CrossDockModel", "arrive", "(IIII)I"⟩ ⟨"CrossDockModel", "arrive", "(IIII)I"⟩) := by decide +kernel
set_option maxRecDepth 100000 in
theorem tw_720 : lw_tbl[720]? = some (.code ⟨"CrossDockModel", "arrive", "(IIII)I"⟩ prog_7_method_6_code 5 (some .int)) := by decide +kernel
set_option maxRecDepth 100000 in
theorem tw_721 : lw_tbl[721]? = some (.methodLink "CrossDockModel" 81 ⟨"CrossDockModel", "in", "(III)Z"⟩) := by decide +kernel
set_option maxRecDepth 100000 in
theorem tw_722 : lw_tbl[722]? = some (.static ⟨"CrossDockModel", "in", "(III)Z"⟩) := by decide +kernel
set_option maxRecDepth 100000 in
theorem tw_723 : lw_tbl[723]? = some (.code ⟨"CrossDockModel", "in", "(III)Z"⟩ prog_7_method_3_code 3 (some .boolean)) := by decide +kernel
set_option maxRecDepth 100000 in
theorem tw_724 : lw_tbl[724]? = some (.methodLink "CrossDockLaw" 79 ⟨"CrossDockModel", "order", "(IIII)I"⟩) := by decide +kernel
set_option maxRecDepth 100000 in
theorem tw_725 : lw_tbl[725]? = some (.instanceMethod ⟨"CrossDockModel", "order", "(IIII)I"⟩) := by decide +kernel
set_option maxRecDepth 100000 in
theorem tw_726 : lw_tbl[726]? = some (.selects "CrossDockModel" ⟨"CrossDockModel", "order", "(IIII)I"⟩ ⟨"CrossDockModel", "order", "(IIII)I"⟩) := by decide +kernel
set_option maxRecDepth 100000 in
theorem tw_727 : lw_tbl[727]? = some (.code ⟨"CrossDockModel", "order", "(IIII)I"⟩ prog_7_method_7_code 5 (some .int)) := by decide +kernel
set_option maxRecDepth 100000 in
theorem tw_728 : lw_tbl[728]? = some (.methodLink "CrossDockLaw" 83 ⟨"CrossDockModel", "wants", "(III)V"⟩) := by decide +kernel
set_option maxRecDepth 100000 in
theorem tw_729 : lw_tbl[729]? = some (.instanceMethod ⟨"CrossDockModel", "wants", "(III)V"⟩) := by decide +kernel
set_option maxRecDepth 100000 in
theorem tw_730 : lw_tbl[730]? = some (.selects "CrossDockModel" ⟨"CrossDockModel", "wants", "(III)V"⟩ ⟨"CrossDockModel", "wants", "(III)V"⟩) := by decide +kernel
set_option maxRecDepth 100000 in
theorem tw_731 : lw_tbl[731]? = some (.code ⟨"CrossDockModel", "wants", "(III)V"⟩ prog_7_method_8_code 4 none) := by decide +kernel
set_option maxRecDepth 100000 in
theorem tw_732 : lw_tbl[732]? = some (.methodLink "CrossDockModel" 88 ⟨"CrossDockModel", "isOrder", "(I)Z"⟩) := by decide +kernel
set_option maxRecDepth 100000 in
theorem tw_733 : lw_tbl[733]? = some (.privateMethod ⟨"CrossDockModel", "isOrder", "(I)Z"⟩) := by decide +kernel
set_option maxRecDepth 100000 in
theorem tw_734 : lw_tbl[734]? = some (.instanceMethod ⟨"CrossDockModel", "isOrder", "(I)Z"⟩) := by decide +kernel
set_option maxRecDepth 100000 in
theorem tw_735 : lw_tbl[735]? = some (.code ⟨"CrossDockModel", "isOrder", "(I)Z"⟩ prog_7_method_5_code 2 (some .boolean)) := by decide +kernel
set_option maxRecDepth 100000 in
theorem tw_736 : lw_tbl[736]? = some (.methodLink "CrossDockLaw" 87 ⟨"CrossDockModel", "promised", "(II)V"⟩) := by decide +kernel
set_option maxRecDepth 100000 in
theorem tw_737 : lw_tbl[737]? = some (.instanceMethod ⟨"CrossDockModel", "promised", "(II)V"⟩) := by decide +kernel
set_option maxRecDepth 100000 in
theorem tw_738 : lw_tbl[738]? = some (.selects "CrossDockModel" ⟨"CrossDockModel", "promised", "(II)V"⟩ ⟨"CrossDockModel", "promised", "(II)V"⟩) := by decide +kernel
set_option maxRecDepth 100000 in
theorem tw_739 : lw_tbl[739]? = some (.code ⟨"CrossDockModel", "promised", "(II)V"⟩ prog_7_method_11_code 3 none) := by decide +kernel
set_option maxRecDepth 100000 in
theorem tw_740 : lw_tbl[740]? = some (.methodLink "CrossDockModel" 95 ⟨"CrossDockModel", "isArrival", "(I)Z"⟩) := by decide +kernel
set_option maxRecDepth 100000 in
theorem tw_741 : lw_tbl[741]? = some (.privateMethod ⟨"CrossDockModel", "isArrival", "(I)Z"⟩) := by decide +kernel
set_option maxRecDepth 100000 in
theorem tw_742 : lw_tbl[742]? = some (.instanceMethod ⟨"CrossDockModel", "isArrival", "(I)Z"⟩) := by decide +kernel
set_option maxRecDepth 100000 in
theorem tw_743 : lw_tbl[743]? = some (.code ⟨"CrossDockModel", "isArrival", "(I)Z"⟩ prog_7_method_4_code 2 (some .boolean)) := by decide +kernel
set_option maxRecDepth 100000 in
theorem tw_744 : lw_tbl[744]? = some (.methodLink "CrossDockModel" 98 ⟨"CrossDockModel", "held", "(I)I"⟩) := by decide +kernel
set_option maxRecDepth 100000 in
theorem tw_745 : lw_tbl[745]? = some (.privateMethod ⟨"CrossDockModel", "held", "(I)I"⟩) := by decide +kernel
set_option maxRecDepth 100000 in
theorem tw_746 : lw_tbl[746]? = some (.instanceMethod ⟨"CrossDockModel", "held", "(I)I"⟩) := by decide +kernel
set_option maxRecDepth 100000 in
theorem tw_747 : lw_tbl[747]? = some (.code ⟨"CrossDockModel", "held", "(I)I"⟩ prog_7_method_9_code 4 (some .int)) := by decide +kernel
set_option maxRecDepth 100000 in
theorem tw_748 : lw_tbl[748]? = some (.methodLink "CrossDockLaw" 91 ⟨"CrossDockModel", "rule", "(IIZ)Z"⟩) := by decide +kernel
set_option maxRecDepth 100000 in
theorem tw_749 : lw_tbl[749]? = some (.instanceMethod ⟨"CrossDockModel", "rule", "(IIZ)Z"⟩) := by decide +kernel
set_option maxRecDepth 100000 in
theorem tw_750 : lw_tbl[750]? = some (.selects "CrossDockModel" ⟨"CrossDockModel", "rule", "(IIZ)Z"⟩ ⟨"CrossDockModel", "rule", "(IIZ)Z"⟩) := by decide +kernel
set_option maxRecDepth 100000 in
theorem tw_751 : lw_tbl[751]? = some (.code ⟨"CrossDockModel", "rule", "(IIZ)Z"⟩ prog_7_method_14_code 4 (some .boolean)) := by decide +kernel
set_option maxRecDepth 100000 in
theorem tw_752 : lw_tbl[752]? = some (.methodLink "CrossDockModel" 105 ⟨"CrossDockModel", "mayServe", "(II)Z"⟩) := by decide +kernel
set_option maxRecDepth 100000 in
theorem tw_753 : lw_tbl[753]? = some (.privateMethod ⟨"CrossDockModel", "mayServe", "(II)Z"⟩) := by decide +kernel
set_option maxRecDepth 100000 in
theorem tw_754 : lw_tbl[754]? = some (.instanceMethod ⟨"CrossDockModel", "mayServe", "(II)Z"⟩) := by decide +kernel
set_option maxRecDepth 100000 in
theorem tw_755 : lw_tbl[755]? = some (.code ⟨"CrossDockModel", "mayServe", "(II)Z"⟩ prog_7_method_13_code 3 (some .boolean)) := by decide +kernel
set_option maxRecDepth 100000 in
theorem tw_756 : lw_tbl[756]? = some (.methodLink "CrossDockModel" 102 ⟨"CrossDockModel", "passes", "(III)Z"⟩) := by decide +kernel
set_option maxRecDepth 100000 in
theorem tw_757 : lw_tbl[757]? = some (.privateMethod ⟨"CrossDockModel", "passes", "(III)Z"⟩) := by decide +kernel
set_option maxRecDepth 100000 in
theorem tw_758 : lw_tbl[758]? = some (.instanceMethod ⟨"CrossDockModel", "passes", "(III)Z"⟩) := by decide +kernel
set_option maxRecDepth 100000 in
theorem tw_759 : lw_tbl[759]? = some (.code ⟨"CrossDockModel", "passes", "(III)Z"⟩ prog_7_method_12_code 4 (some .boolean)) := by decide +kernel
set_option maxRecDepth 100000 in
theorem tw_760 : lw_tbl[760]? = some (.methodLink "CrossDockLaw" 95 ⟨"CrossDockModel", "full", "(IZ)I"⟩) := by decide +kernel
set_option maxRecDepth 100000 in
theorem tw_761 : lw_tbl[761]? = some (.instanceMethod ⟨"CrossDockModel", "full", "(IZ)I"⟩) := by decide +kernel
set_option maxRecDepth 100000 in
theorem tw_762 : lw_tbl[762]? = some (.selects "CrossDockModel" ⟨"CrossDockModel", "full", "(IZ)I"⟩ ⟨"CrossDockModel", "full", "(IZ)I"⟩) := by decide +kernel
set_option maxRecDepth 100000 in
theorem tw_763 : lw_tbl[763]? = some (.code ⟨"CrossDockModel", "full", "(IZ)I"⟩ prog_7_method_15_code 5 (some .int)) := by decide +kernel
set_option maxRecDepth 100000 in
theorem tw_764 : lw_tbl[764]? = some (.methodLink "CrossDockLaw" 99 ⟨"CrossDockModel", "match", "(I)I"⟩) := by decide +kernel
set_option maxRecDepth 100000 in
theorem tw_765 : lw_tbl[765]? = some (.instanceMethod ⟨"CrossDockModel", "match", "(I)I"⟩) := by decide +kernel
set_option maxRecDepth 100000 in
theorem tw_766 : lw_tbl[766]? = some (.selects "CrossDockModel" ⟨"CrossDockModel", "match", "(I)I"⟩ ⟨"CrossDockModel", "match", "(I)I"⟩) := by decide +kernel
set_option maxRecDepth 100000 in
theorem tw_767 : lw_tbl[767]? = some (.code ⟨"CrossDockModel", "match", "(I)I"⟩ prog_7_method_26_code 3 (some .int)) := by decide +kernel
set_option maxRecDepth 100000 in
theorem tw_768 : lw_tbl[768]? = some (.methodLink "CrossDockModel" 137 ⟨"CrossDockModel", "layOut", "()V"⟩) := by decide +kernel
set_option maxRecDepth 100000 in
theorem tw_769 : lw_tbl[769]? = some (.privateMethod ⟨"CrossDockModel", "layOut", "()V"⟩) := by decide +kernel
set_option maxRecDepth 100000 in
theorem tw_770 : lw_tbl[770]? = some (.instanceMethod ⟨"CrossDockModel", "layOut", "()V"⟩) := by decide +kernel
set_option maxRecDepth 100000 in
theorem tw_771 : lw_tbl[771]? = some (.code ⟨"CrossDockModel", "layOut", "()V"⟩ prog_7_method_20_code 5 none) := by decide +kernel
set_option maxRecDepth 100000 in
theorem tw_772 : lw_tbl[772]? = some (.methodLink "CrossDockModel" 118 ⟨"CrossDockModel", "orderAt", "(I)I"⟩) := by decide +kernel
set_option maxRecDepth 100000 in
theorem tw_773 : lw_tbl[773]? = some (.privateMethod ⟨"CrossDockModel", "orderAt", "(I)I"⟩) := by decide +kernel
set_option maxRecDepth 100000 in
theorem tw_774 : lw_tbl[774]? = some (.instanceMethod ⟨"CrossDockModel", "orderAt", "(I)I"⟩) := by decide +kernel
set_option maxRecDepth 100000 in
theorem tw_775 : lw_tbl[775]? = some (.code ⟨"CrossDockModel", "orderAt", "(I)I"⟩ prog_7_method_18_code 5 (some .int)) := by decide +kernel
set_option maxRecDepth 100000 in
theorem tw_776 : lw_tbl[776]? = some (.methodLink "CrossDockModel" 109 ⟨"CrossDockModel", "isOrderBefore", "(II)Z"⟩) := by decide +kernel
set_option maxRecDepth 100000 in
theorem tw_777 : lw_tbl[777]? = some (.privateMethod ⟨"CrossDockModel", "isOrderBefore", "(II)Z"⟩) := by decide +kernel
set_option maxRecDepth 100000 in
theorem tw_778 : lw_tbl[778]? = some (.instanceMethod ⟨"CrossDockModel", "isOrderBefore", "(II)Z"⟩) := by decide +kernel
set_option maxRecDepth 100000 in
theorem tw_779 : lw_tbl[779]? = some (.code ⟨"CrossDockModel", "isOrderBefore", "(II)Z"⟩ prog_7_method_16_code 3 (some .boolean)) := by decide +kernel
set_option maxRecDepth 100000 in
theorem tw_780 : lw_tbl[780]? = some (.methodLink "CrossDockModel" 121 ⟨"CrossDockModel", "arrivalAt", "(I)I"⟩) := by decide +kernel
set_option maxRecDepth 100000 in
theorem tw_781 : lw_tbl[781]? = some (.privateMethod ⟨"CrossDockModel", "arrivalAt", "(I)I"⟩) := by decide +kernel
set_option maxRecDepth 100000 in
theorem tw_782 : lw_tbl[782]? = some (.instanceMethod ⟨"CrossDockModel", "arrivalAt", "(I)I"⟩) := by decide +kernel
set_option maxRecDepth 100000 in
theorem tw_783 : lw_tbl[783]? = some (.code ⟨"CrossDockModel", "arrivalAt", "(I)I"⟩ prog_7_method_19_code 5 (some .int)) := by decide +kernel
set_option maxRecDepth 100000 in
theorem tw_784 : lw_tbl[784]? = some (.methodLink "CrossDockModel" 112 ⟨"CrossDockModel", "isArrivalBefore", "(II)Z"⟩) := by decide +kernel
set_option maxRecDepth 100000 in
theorem tw_785 : lw_tbl[785]? = some (.privateMethod ⟨"CrossDockModel", "isArrivalBefore", "(II)Z"⟩) := by decide +kernel
set_option maxRecDepth 100000 in
theorem tw_786 : lw_tbl[786]? = some (.instanceMethod ⟨"CrossDockModel", "isArrivalBefore", "(II)Z"⟩) := by decide +kernel
set_option maxRecDepth 100000 in
theorem tw_787 : lw_tbl[787]? = some (.code ⟨"CrossDockModel", "isArrivalBefore", "(II)Z"⟩ prog_7_method_17_code 3 (some .boolean)) := by decide +kernel
set_option maxRecDepth 100000 in
theorem tw_788 : lw_tbl[788]? = some (.methodLink "CrossDockModel" 140 ⟨"CrossDockModel", "lookAtAll", "(I)Z"⟩) := by decide +kernel
set_option maxRecDepth 100000 in
theorem tw_789 : lw_tbl[789]? = some (.privateMethod ⟨"CrossDockModel", "lookAtAll", "(I)Z"⟩) := by decide +kernel
set_option maxRecDepth 100000 in
theorem tw_790 : lw_tbl[790]? = some (.instanceMethod ⟨"CrossDockModel", "lookAtAll", "(I)Z"⟩) := by decide +kernel
set_option maxRecDepth 100000 in
theorem tw_791 : lw_tbl[791]? = some (.code ⟨"CrossDockModel", "lookAtAll", "(I)Z"⟩ prog_7_method_24_code 6 (some .boolean)) := by decide +kernel
set_option maxRecDepth 100000 in
theorem tw_792 : lw_tbl[792]? = some (.methodLink "CrossDockModel" 130 ⟨"CrossDockModel", "greatest", "(I)I"⟩) := by decide +kernel
set_option maxRecDepth 100000 in
theorem tw_793 : lw_tbl[793]? = some (.privateMethod ⟨"CrossDockModel", "greatest", "(I)I"⟩) := by decide +kernel
set_option maxRecDepth 100000 in
theorem tw_794 : lw_tbl[794]? = some (.instanceMethod ⟨"CrossDockModel", "greatest", "(I)I"⟩) := by decide +kernel
set_option maxRecDepth 100000 in
theorem tw_795 : lw_tbl[795]? = some (.code ⟨"CrossDockModel", "greatest", "(I)I"⟩ prog_7_method_22_code 5 (some .int)) := by decide +kernel
set_option maxRecDepth 100000 in
theorem tw_796 : lw_tbl[796]? = some (.methodLink "CrossDockModel" 124 ⟨"CrossDockModel", "has", "(I)I"⟩) := by decide +kernel
set_option maxRecDepth 100000 in
theorem tw_797 : lw_tbl[797]? = some (.privateMethod ⟨"CrossDockModel", "has", "(I)I"⟩) := by decide +kernel
set_option maxRecDepth 100000 in
theorem tw_798 : lw_tbl[798]? = some (.instanceMethod ⟨"CrossDockModel", "has", "(I)I"⟩) := by decide +kernel
set_option maxRecDepth 100000 in
theorem tw_799 : lw_tbl[799]? = some (.code ⟨"CrossDockModel", "has", "(I)I"⟩ prog_7_method_21_code 2 (some .int)) := by decide +kernel
set_option maxRecDepth 100000 in
theorem tw_800 : lw_tbl[800]? = some (.methodLink "CrossDockModel" 133 ⟨"CrossDockModel", "worth", "()I"⟩) := by decide +kernel
set_option maxRecDepth 100000 in
theorem tw_801 : lw_tbl[801]? = some (.privateMethod ⟨"CrossDockModel", "worth", "()I"⟩) := by decide +kernel
set_option maxRecDepth 100000 in
theorem tw_802 : lw_tbl[802]? = some (.instanceMethod ⟨"CrossDockModel", "worth", "()I"⟩) := by decide +kernel
set_option maxRecDepth 100000 in
theorem tw_803 : lw_tbl[803]? = some (.code ⟨"CrossDockModel", "worth", "()I"⟩ prog_7_method_23_code 3 (some .int)) := by decide +kernel
set_option maxRecDepth 100000 in
theorem tw_804 : lw_tbl[804]? = some (.methodLink "CrossDockModel" 147 ⟨"CrossDockModel", "byRule", "()V"⟩) := by decide +kernel
set_option maxRecDepth 100000 in
theorem tw_805 : lw_tbl[805]? = some (.privateMethod ⟨"CrossDockModel", "byRule", "()V"⟩) := by decide +kernel
set_option maxRecDepth 100000 in
theorem tw_806 : lw_tbl[806]? = some (.instanceMethod ⟨"CrossDockModel", "byRule", "()V"⟩) := by decide +kernel
set_option maxRecDepth 100000 in
theorem tw_807 : lw_tbl[807]? = some (.code ⟨"CrossDockModel", "byRule", "()V"⟩ prog_7_method_25_code 2 none) := by decide +kernel
set_option maxRecDepth 100000 in
theorem tw_808 : lw_tbl[808]? = some (.methodLink "CrossDockModel" 150 ⟨"CrossDockModel", "savedNow", "()I"⟩) := by decide +kernel
set_option maxRecDepth 100000 in
theorem tw_809 : lw_tbl[809]? = some (.privateMethod ⟨"CrossDockModel", "savedNow", "()I"⟩) := by decide +kernel
set_option maxRecDepth 100000 in
theorem tw_810 : lw_tbl[810]? = some (.instanceMethod ⟨"CrossDockModel", "savedNow", "()I"⟩) := by decide +kernel
set_option maxRecDepth 100000 in
theorem tw_811 : lw_tbl[811]? = some (.code ⟨"CrossDockModel", "savedNow", "()I"⟩ prog_7_method_30_code 3 (some .int)) := by decide +kernel
set_option maxRecDepth 100000 in
theorem tw_812 : lw_tbl[812]? = some (.methodLink "CrossDockModel" 153 ⟨"CrossDockModel", "hasGot", "(I)I"⟩) := by decide +kernel
set_option maxRecDepth 100000 in
theorem tw_813 : lw_tbl[813]? = some (.privateMethod ⟨"CrossDockModel", "hasGot", "(I)I"⟩) := by decide +kernel
set_option maxRecDepth 100000 in
theorem tw_814 : lw_tbl[814]? = some (.instanceMethod ⟨"CrossDockModel", "hasGot", "(I)I"⟩) := by decide +kernel
set_option maxRecDepth 100000 in
theorem tw_815 : lw_tbl[815]? = some (.code ⟨"CrossDockModel", "hasGot", "(I)I"⟩ prog_7_method_10_code 4 (some .int)) := by decide +kernel
set_option maxRecDepth 100000 in
theorem tw_816 : lw_tbl[816]? = some (.methodLink "CrossDockLaw" 104 ⟨"CrossDockModel", "exact", "()Z"⟩) := by decide +kernel
set_option maxRecDepth 100000 in
theorem tw_817 : lw_tbl[817]? = some (.instanceMethod ⟨"CrossDockModel", "exact", "()Z"⟩) := by decide +kernel
set_option maxRecDepth 100000 in
theorem tw_818 : lw_tbl[818]? = some (.selects "CrossDockModel" ⟨"CrossDockModel", "exact", "()Z"⟩ ⟨"CrossDockModel", "exact", "()Z"⟩) := by decide +kernel
set_option maxRecDepth 100000 in
theorem tw_819 : lw_tbl[819]? = some (.code ⟨"CrossDockModel", "exact", "()Z"⟩ prog_7_method_27_code 1 (some .boolean)) := by decide +kernel
set_option maxRecDepth 100000 in
theorem tw_820 : lw_tbl[820]? = some (.methodLink "CrossDockLaw" 108 ⟨"CrossDockModel", "bound", "()I"⟩) := by decide +kernel
set_option maxRecDepth 100000 in
theorem tw_821 : lw_tbl[821]? = some (.instanceMethod ⟨"CrossDockModel", "bound", "()I"⟩) := by decide +kernel
set_option maxRecDepth 100000 in
theorem tw_822 : lw_tbl[822]? = some (.selects "CrossDockModel" ⟨"CrossDockModel", "bound", "()I"⟩ ⟨"CrossDockModel", "bound", "()I"⟩) := by decide +kernel
set_option maxRecDepth 100000 in
theorem tw_823 : lw_tbl[823]? = some (.code ⟨"CrossDockModel", "bound", "()I"⟩ prog_7_method_28_code 5 (some .int)) := by decide +kernel
set_option maxRecDepth 100000 in
theorem tw_824 : lw_tbl[824]? = some (.methodLink "CrossDockLaw" 112 ⟨"CrossDockModel", "steps", "()I"⟩) := by decide +kernel
set_option maxRecDepth 100000 in
theorem tw_825 : lw_tbl[825]? = some (.instanceMethod ⟨"CrossDockModel", "steps", "()I"⟩) := by decide +kernel
set_option maxRecDepth 100000 in
theorem tw_826 : lw_tbl[826]? = some (.selects "CrossDockModel" ⟨"CrossDockModel", "steps", "()I"⟩ ⟨"CrossDockModel", "steps", "()I"⟩) := by decide +kernel
set_option maxRecDepth 100000 in
theorem tw_827 : lw_tbl[827]? = some (.code ⟨"CrossDockModel", "steps", "()I"⟩ prog_7_method_29_code 1 (some .int)) := by decide +kernel
set_option maxRecDepth 100000 in
theorem tw_828 : lw_tbl[828]? = some (.methodLink "CrossDockLaw" 116 ⟨"CrossDockModel", "pair", "(II)I"⟩) := by decide +kernel
set_option maxRecDepth 100000 in
theorem tw_829 : lw_tbl[829]? = some (.instanceMethod ⟨"CrossDockModel", "pair", "(II)I"⟩) := by decide +kernel
set_option maxRecDepth 100000 in
theorem tw_830 : lw_tbl[830]? = some (.selects "CrossDockModel" ⟨"CrossDockModel", "pair", "(II)I"⟩ ⟨"CrossDockModel", "pair", "(II)I"⟩) := by decide +kernel
set_option maxRecDepth 100000 in
theorem tw_831 : lw_tbl[831]? = some (.code ⟨"CrossDockModel", "pair", "(II)I"⟩ prog_7_method_31_code 3 (some .int)) := by decide +kernel
set_option maxRecDepth 100000 in
theorem tw_832 : lw_tbl[832]? = some (.methodLink "CrossDockLaw" 119 ⟨"CrossDockModel", "undo", "(I)I"⟩) := by decide +kernel
set_option maxRecDepth 100000 in
theorem tw_833 : lw_tbl[833]? = some (.instanceMethod ⟨"CrossDockModel", "undo", "(I)I"⟩) := by decide +kernel
set_option maxRecDepth 100000 in
theorem tw_834 : lw_tbl[834]? = some (.selects "CrossDockModel" ⟨"CrossDockModel", "undo", "(I)I"⟩ ⟨"CrossDockModel", "undo", "(I)I"⟩) := by decide +kernel
set_option maxRecDepth 100000 in
theorem tw_835 : lw_tbl[835]? = some (.code ⟨"CrossDockModel", "undo", "(I)I"⟩ prog_7_method_33_code 3 (some .int)) := by decide +kernel
set_option maxRecDepth 100000 in
theorem tw_836 : lw_tbl[836]? = some (.methodLink "CrossDockModel" 156 ⟨"CrossDockModel", "drop", "(I)V"⟩) := by decide +kernel
set_option maxRecDepth 100000 in
theorem tw_837 : lw_tbl[837]? = some (.privateMethod ⟨"CrossDockModel", "drop", "(I)V"⟩) := by decide +kernel
set_option maxRecDepth 100000 in
theorem tw_838 : lw_tbl[838]? = some (.instanceMethod ⟨"CrossDockModel", "drop", "(I)V"⟩) := by decide +kernel
set_option maxRecDepth 100000 in
theorem tw_839 : lw_tbl[839]? = some (.code ⟨"CrossDockModel", "drop", "(I)V"⟩ prog_7_method_32_code 3 none) := by decide +kernel
set_option maxRecDepth 100000 in
theorem tw_840 : lw_tbl[840]? = some (.methodLink "CrossDockLaw" 122 ⟨"CrossDockModel", "split", "(II)I"⟩) := by decide +kernel
set_option maxRecDepth 100000 in
theorem tw_841 : lw_tbl[841]? = some (.instanceMethod ⟨"CrossDockModel", "split", "(II)I"⟩) := by decide +kernel
set_option maxRecDepth 100000 in
theorem tw_842 : lw_tbl[842]? = some (.selects "CrossDockModel" ⟨"CrossDockModel", "split", "(II)I"⟩ ⟨"CrossDockModel", "split", "(II)I"⟩) := by decide +kernel
set_option maxRecDepth 100000 in
theorem tw_843 : lw_tbl[843]? = some (.code ⟨"CrossDockModel", "split", "(II)I"⟩ prog_7_method_34_code 6 (some .int)) := by decide +kernel
set_option maxRecDepth 100000 in
theorem tw_844 : lw_tbl[844]? = some (.methodLink "CrossDockLaw" 125 ⟨"CrossDockModel", "late", "(II)I"⟩) := by decide +kernel
set_option maxRecDepth 100000 in
theorem tw_845 : lw_tbl[845]? = some (.instanceMethod ⟨"CrossDockModel", "late", "(II)I"⟩) := by decide +kernel
set_option maxRecDepth 100000 in
theorem tw_846 : lw_tbl[846]? = some (.selects "CrossDockModel" ⟨"CrossDockModel", "late", "(II)I"⟩ ⟨"CrossDockModel", "late", "(II)I"⟩) := by decide +kernel
set_option maxRecDepth 100000 in
theorem tw_847 : lw_tbl[847]? = some (.code ⟨"CrossDockModel", "late", "(II)I"⟩ prog_7_method_35_code 5 (some .int)) := by decide +kernel
set_option maxRecDepth 100000 in
theorem tw_848 : lw_tbl[848]? = some (.methodLink "CrossDockLaw" 128 ⟨"CrossDockModel", "arrival", "(II)I"⟩) := by decide +kernel
set_option maxRecDepth 100000 in
theorem tw_849 : lw_tbl[849]? = some (.instanceMethod ⟨"CrossDockModel", "arrival", "(II)I"⟩) := by decide +kernel
set_option maxRecDepth 100000 in
theorem tw_850 : lw_tbl[850]? = some (.selects "CrossDockModel" ⟨"CrossDockModel", "arrival", "(II)I"⟩ ⟨"CrossDockModel", "arrival", "(II)I"⟩) := by decide +kernel
set_option maxRecDepth 100000 in
theorem tw_851 : lw_tbl[851]? = some (.code ⟨"CrossDockModel", "arrival", "(II)I"⟩ prog_7_method_36_code 5 (some .int)) := by decide +kernel
set_option maxRecDepth 100000 in
theorem tw_852 : lw_tbl[852]? = some (.methodLink "CrossDockLaw" 131 ⟨"CrossDockModel", "wanted", "(II)I"⟩) := by decide +kernel
set_option maxRecDepth 100000 in
theorem tw_853 : lw_tbl[853]? = some (.instanceMethod ⟨"CrossDockModel", "wanted", "(II)I"⟩) := by decide +kernel
set_option maxRecDepth 100000 in
theorem tw_854 : lw_tbl[854]? = some (.selects "CrossDockModel" ⟨"CrossDockModel", "wanted", "(II)I"⟩ ⟨"CrossDockModel", "wanted", "(II)I"⟩) := by decide +kernel
set_option maxRecDepth 100000 in
theorem tw_855 : lw_tbl[855]? = some (.code ⟨"CrossDockModel", "wanted", "(II)I"⟩ prog_7_method_38_code 4 (some .int)) := by decide +kernel
set_option maxRecDepth 100000 in
theorem tw_856 : lw_tbl[856]? = some (.methodLink "CrossDockModel" 160 ⟨"CrossDockModel", "passing", "(II)I"⟩) := by decide +kernel
set_option maxRecDepth 100000 in
theorem tw_857 : lw_tbl[857]? = some (.privateMethod ⟨"CrossDockModel", "passing", "(II)I"⟩) := by decide +kernel
set_option maxRecDepth 100000 in
theorem tw_858 : lw_tbl[858]? = some (.instanceMethod ⟨"CrossDockModel", "passing", "(II)I"⟩) := by decide +kernel
set_option maxRecDepth 100000 in
theorem tw_859 : lw_tbl[859]? = some (.code ⟨"CrossDockModel", "passing", "(II)I"⟩ prog_7_method_37_code 5 (some .int)) := by decide +kernel
set_option maxRecDepth 100000 in
theorem tw_860 : lw_tbl[860]? = some (.methodLink "CrossDockLaw" 135 ⟨"CrossDockModel", "saved", "()I"⟩) := by decide +kernel
set_option maxRecDepth 100000 in
theorem tw_861 : lw_tbl[861]? = some (.instanceMethod ⟨"CrossDockModel", "saved", "()I"⟩) := by decide +kernel
set_option maxRecDepth 100000 in
theorem tw_862 : lw_tbl[862]? = some (.selects "CrossDockModel" ⟨"CrossDockModel", "saved", "()I"⟩ ⟨"CrossDockModel", "saved", "()I"⟩) := by decide +kernel
set_option maxRecDepth 100000 in
theorem tw_863 : lw_tbl[863]? = some (.code ⟨"CrossDockModel", "saved", "()I"⟩ prog_7_method_39_code 1 (some .int)) := by decide +kernel
set_option maxRecDepth 100000 in
theorem tw_864 : lw_tbl[864]? = some (.methodLink "CrossDockLaw" 139 ⟨"CrossDockModel", "count", "(I)I"⟩) := by decide +kernel
set_option maxRecDepth 100000 in
theorem tw_865 : lw_tbl[865]? = some (.instanceMethod ⟨"CrossDockModel", "count", "(I)I"⟩) := by decide +kernel
set_option maxRecDepth 100000 in
theorem tw_866 : lw_tbl[866]? = some (.selects "CrossDockModel" ⟨"CrossDockModel", "count", "(I)I"⟩ ⟨"CrossDockModel", "count", "(I)I"⟩) := by decide +kernel
set_option maxRecDepth 100000 in
theorem tw_867 : lw_tbl[867]? = some (.code ⟨"CrossDockModel", "count", "(I)I"⟩ prog_7_method_40_code 4 (some .int)) := by decide +kernel
set_option maxRecDepth 100000 in
theorem tw_868 : lw_tbl[868]? = some (.arrayClass .long) := by decide +kernel
set_option maxRecDepth 100000 in
theorem tw_869 : lw_tbl[869]? = some (.sameMethod "java/lang/Throwable" "java/lang/Throwable" "fillInStackTrace" "(I)Ljava/lang/Throwable;") := by decide +kernel
