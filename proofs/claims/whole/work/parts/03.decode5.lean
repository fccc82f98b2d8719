theorem d_M_match_13 : decode b_M_match 13 = .ok (.goto 4, 3) := by decide +kernel
theorem d_M_match_16 : decode b_M_match 16 = .ok (.iconst 1, 1) := by decide +kernel
theorem d_M_match_17 : decode b_M_match 17 = .ok (.putfield 74, 3) := by decide +kernel
theorem d_M_match_20 : decode b_M_match 20 = .ok (.aload_n 0, 1) := by decide +kernel
theorem d_M_match_21 : decode b_M_match 21 = .ok (.getfield 74, 3) := by decide +kernel
theorem d_M_match_24 : decode b_M_match 24 = .ok (.ifCond .le 5, 3) := by decide +kernel
theorem d_M_match_27 : decode b_M_match 27 = .ok (.iconst 0, 1) := by decide +kernel
theorem d_M_match_28 : decode b_M_match 28 = .ok (.ireturn, 1) := by decide +kernel
theorem d_M_match_29 : decode b_M_match 29 = .ok (.aload_n 0, 1) := by decide +kernel
theorem d_M_match_30 : decode b_M_match 30 = .ok (.invokevirtual 137, 3) := by decide +kernel
theorem d_M_match_33 : decode b_M_match 33 = .ok (.aload_n 0, 1) := by decide +kernel
theorem d_M_match_34 : decode b_M_match 34 = .ok (.aload_n 0, 1) := by decide +kernel
theorem d_M_match_35 : decode b_M_match 35 = .ok (.iload_n 1, 1) := by decide +kernel
theorem d_M_match_36 : decode b_M_match 36 = .ok (.invokevirtual 140, 3) := by decide +kernel
theorem d_M_match_39 : decode b_M_match 39 = .ok (.putfield 143, 3) := by decide +kernel
theorem d_M_match_42 : decode b_M_match 42 = .ok (.aload_n 0, 1) := by decide +kernel
theorem d_M_match_43 : decode b_M_match 43 = .ok (.getfield 143, 3) := by decide +kernel
theorem d_M_match_46 : decode b_M_match 46 = .ok (.ifCond .ne 7, 3) := by decide +kernel
theorem d_M_match_49 : decode b_M_match 49 = .ok (.aload_n 0, 1) := by decide +kernel
theorem d_M_match_50 : decode b_M_match 50 = .ok (.invokevirtual 147, 3) := by decide +kernel
theorem d_M_match_53 : decode b_M_match 53 = .ok (.aload_n 0, 1) := by decide +kernel
theorem d_M_match_54 : decode b_M_match 54 = .ok (.iconst 0, 1) := by decide +kernel
theorem d_M_match_55 : decode b_M_match 55 = .ok (.putfield 92, 3) := by decide +kernel
theorem d_M_match_58 : decode b_M_match 58 = .ok (.iconst 0, 1) := by decide +kernel
theorem d_M_match_59 : decode b_M_match 59 = .ok (.istore_n 2, 1) := by decide +kernel
theorem d_M_match_60 : decode b_M_match 60 = .ok (.iload_n 2, 1) := by decide +kernel
theorem d_M_match_61 : decode b_M_match 61 = .ok (.aload_n 0, 1) := by decide +kernel
theorem d_M_match_62 : decode b_M_match 62 = .ok (.getfield 115, 3) := by decide +kernel
theorem d_M_match_65 : decode b_M_match 65 = .ok (.if_icmp .ge 76, 3) := by decide +kernel
theorem d_M_match_68 : decode b_M_match 68 = .ok (.aload_n 0, 1) := by decide +kernel
theorem d_M_match_69 : decode b_M_match 69 = .ok (.getfield 68, 3) := by decide +kernel
theorem d_M_match_72 : decode b_M_match 72 = .ok (.iload_n 2, 1) := by decide +kernel
theorem d_M_match_73 : decode b_M_match 73 = .ok (.iaload, 1) := by decide +kernel
theorem d_M_match_74 : decode b_M_match 74 = .ok (.ifCond .ne 6, 3) := by decide +kernel
theorem d_M_match_77 : decode b_M_match 77 = .ok (.goto 58, 3) := by decide +kernel
theorem d_M_match_80 : decode b_M_match 80 = .ok (.aload_n 0, 1) := by decide +kernel
theorem d_M_match_81 : decode b_M_match 81 = .ok (.getfield 50, 3) := by decide +kernel
theorem d_M_match_84 : decode b_M_match 84 = .ok (.aload_n 0, 1) := by decide +kernel
theorem d_M_match_85 : decode b_M_match 85 = .ok (.getfield 92, 3) := by decide +kernel
theorem d_M_match_88 : decode b_M_match 88 = .ok (.aload_n 0, 1) := by decide +kernel
theorem d_M_match_89 : decode b_M_match 89 = .ok (.getfield 59, 3) := by decide +kernel
theorem d_M_match_92 : decode b_M_match 92 = .ok (.iload_n 2, 1) := by decide +kernel
theorem d_M_match_93 : decode b_M_match 93 = .ok (.iaload, 1) := by decide +kernel
theorem d_M_match_94 : decode b_M_match 94 = .ok (.iastore, 1) := by decide +kernel
theorem d_M_match_95 : decode b_M_match 95 = .ok (.aload_n 0, 1) := by decide +kernel
theorem d_M_match_96 : decode b_M_match 96 = .ok (.getfield 53, 3) := by decide +kernel
theorem d_M_match_99 : decode b_M_match 99 = .ok (.aload_n 0, 1) := by decide +kernel
theorem d_M_match_100 : decode b_M_match 100 = .ok (.getfield 92, 3) := by decide +kernel
theorem d_M_match_103 : decode b_M_match 103 = .ok (.aload_n 0, 1) := by decide +kernel
theorem d_M_match_104 : decode b_M_match 104 = .ok (.getfield 62, 3) := by decide +kernel
theorem d_M_match_107 : decode b_M_match 107 = .ok (.iload_n 2, 1) := by decide +kernel
theorem d_M_match_108 : decode b_M_match 108 = .ok (.iaload, 1) := by decide +kernel
theorem d_M_match_109 : decode b_M_match 109 = .ok (.iastore, 1) := by decide +kernel
theorem d_M_match_110 : decode b_M_match 110 = .ok (.aload_n 0, 1) := by decide +kernel
theorem d_M_match_111 : decode b_M_match 111 = .ok (.getfield 56, 3) := by decide +kernel
theorem d_M_match_114 : decode b_M_match 114 = .ok (.aload_n 0, 1) := by decide +kernel
theorem d_M_match_115 : decode b_M_match 115 = .ok (.getfield 92, 3) := by decide +kernel
theorem d_M_match_118 : decode b_M_match 118 = .ok (.aload_n 0, 1) := by decide +kernel
theorem d_M_match_119 : decode b_M_match 119 = .ok (.getfield 68, 3) := by decide +kernel
theorem d_M_match_122 : decode b_M_match 122 = .ok (.iload_n 2, 1) := by decide +kernel
theorem d_M_match_123 : decode b_M_match 123 = .ok (.iaload, 1) := by decide +kernel
theorem d_M_match_124 : decode b_M_match 124 = .ok (.iastore, 1) := by decide +kernel
theorem d_M_match_125 : decode b_M_match 125 = .ok (.aload_n 0, 1) := by decide +kernel
theorem d_M_match_126 : decode b_M_match 126 = .ok (.dup, 1) := by decide +kernel
theorem d_M_match_127 : decode b_M_match 127 = .ok (.getfield 92, 3) := by decide +kernel
theorem d_M_match_130 : decode b_M_match 130 = .ok (.iconst 1, 1) := by decide +kernel
theorem d_M_match_131 : decode b_M_match 131 = .ok (.iadd, 1) := by decide +kernel
theorem d_M_match_132 : decode b_M_match 132 = .ok (.putfield 92, 3) := by decide +kernel
theorem d_M_match_135 : decode b_M_match 135 = .ok (.iinc 2 1, 3) := by decide +kernel
theorem d_M_match_138 : decode b_M_match 138 = .ok (.goto (-78), 3) := by decide +kernel
theorem d_M_match_141 : decode b_M_match 141 = .ok (.aload_n 0, 1) := by decide +kernel
theorem d_M_match_142 : decode b_M_match 142 = .ok (.invokevirtual 150, 3) := by decide +kernel
theorem d_M_match_145 : decode b_M_match 145 = .ok (.ireturn, 1) := by decide +kernel
theorem d_M_layOut_0 : decode b_M_layOut 0 = .ok (.aload_n 0, 1) := by decide +kernel
theorem d_M_layOut_1 : decode b_M_layOut 1 = .ok (.iconst 0, 1) := by decide +kernel
theorem d_M_layOut_2 : decode b_M_layOut 2 = .ok (.putfield 115, 3) := by decide +kernel
theorem d_M_layOut_5 : decode b_M_layOut 5 = .ok (.iconst 0, 1) := by decide +kernel
theorem d_M_layOut_6 : decode b_M_layOut 6 = .ok (.istore_n 1, 1) := by decide +kernel
theorem d_M_layOut_7 : decode b_M_layOut 7 = .ok (.iload_n 1, 1) := by decide +kernel
theorem d_M_layOut_8 : decode b_M_layOut 8 = .ok (.aload_n 0, 1) := by decide +kernel
theorem d_M_layOut_9 : decode b_M_layOut 9 = .ok (.getfield 85, 3) := by decide +kernel
theorem d_M_layOut_12 : decode b_M_layOut 12 = .ok (.if_icmp .ge 82, 3) := by decide +kernel
theorem d_M_layOut_15 : decode b_M_layOut 15 = .ok (.aload_n 0, 1) := by decide +kernel
theorem d_M_layOut_16 : decode b_M_layOut 16 = .ok (.iload_n 1, 1) := by decide +kernel
theorem d_M_layOut_17 : decode b_M_layOut 17 = .ok (.invokevirtual 118, 3) := by decide +kernel
theorem d_M_layOut_20 : decode b_M_layOut 20 = .ok (.istore_n 2, 1) := by decide +kernel
theorem d_M_layOut_21 : decode b_M_layOut 21 = .ok (.iconst 0, 1) := by decide +kernel
theorem d_M_layOut_22 : decode b_M_layOut 22 = .ok (.istore_n 3, 1) := by decide +kernel
theorem d_M_layOut_23 : decode b_M_layOut 23 = .ok (.iload_n 3, 1) := by decide +kernel
theorem d_M_layOut_24 : decode b_M_layOut 24 = .ok (.aload_n 0, 1) := by decide +kernel
theorem d_M_layOut_25 : decode b_M_layOut 25 = .ok (.getfield 78, 3) := by decide +kernel
theorem d_M_layOut_28 : decode b_M_layOut 28 = .ok (.if_icmp .ge 60, 3) := by decide +kernel
theorem d_M_layOut_31 : decode b_M_layOut 31 = .ok (.aload_n 0, 1) := by decide +kernel
theorem d_M_layOut_32 : decode b_M_layOut 32 = .ok (.iload_n 3, 1) := by decide +kernel
theorem d_M_layOut_33 : decode b_M_layOut 33 = .ok (.invokevirtual 121, 3) := by decide +kernel
theorem d_M_layOut_36 : decode b_M_layOut 36 = .ok (.istore 4, 2) := by decide +kernel
theorem d_M_layOut_38 : decode b_M_layOut 38 = .ok (.aload_n 0, 1) := by decide +kernel
theorem d_M_layOut_39 : decode b_M_layOut 39 = .ok (.iload 4, 2) := by decide +kernel
theorem d_M_layOut_41 : decode b_M_layOut 41 = .ok (.iload_n 2, 1) := by decide +kernel
theorem d_M_layOut_42 : decode b_M_layOut 42 = .ok (.invokevirtual 105, 3) := by decide +kernel
theorem d_M_layOut_45 : decode b_M_layOut 45 = .ok (.ifCond .ne 6, 3) := by decide +kernel
theorem d_M_layOut_48 : decode b_M_layOut 48 = .ok (.goto 34, 3) := by decide +kernel
theorem d_M_layOut_51 : decode b_M_layOut 51 = .ok (.aload_n 0, 1) := by decide +kernel
theorem d_M_layOut_52 : decode b_M_layOut 52 = .ok (.getfield 59, 3) := by decide +kernel
theorem d_M_layOut_55 : decode b_M_layOut 55 = .ok (.aload_n 0, 1) := by decide +kernel
theorem d_M_layOut_56 : decode b_M_layOut 56 = .ok (.getfield 115, 3) := by decide +kernel
theorem d_M_layOut_59 : decode b_M_layOut 59 = .ok (.iload 4, 2) := by decide +kernel
theorem d_M_layOut_61 : decode b_M_layOut 61 = .ok (.iastore, 1) := by decide +kernel
theorem d_M_layOut_62 : decode b_M_layOut 62 = .ok (.aload_n 0, 1) := by decide +kernel
theorem d_M_layOut_63 : decode b_M_layOut 63 = .ok (.getfield 62, 3) := by decide +kernel
theorem d_M_layOut_66 : decode b_M_layOut 66 = .ok (.aload_n 0, 1) := by decide +kernel
theorem d_M_layOut_67 : decode b_M_layOut 67 = .ok (.getfield 115, 3) := by decide +kernel
theorem d_M_layOut_70 : decode b_M_layOut 70 = .ok (.iload_n 2, 1) := by decide +kernel
theorem d_M_layOut_71 : decode b_M_layOut 71 = .ok (.iastore, 1) := by decide +kernel
theorem d_M_layOut_72 : decode b_M_layOut 72 = .ok (.aload_n 0, 1) := by decide +kernel
theorem d_M_layOut_73 : decode b_M_layOut 73 = .ok (.dup, 1) := by decide +kernel
theorem d_M_layOut_74 : decode b_M_layOut 74 = .ok (.getfield 115, 3) := by decide +kernel
theorem d_M_layOut_77 : decode b_M_layOut 77 = .ok (.iconst 1, 1) := by decide +kernel
theorem d_M_layOut_78 : decode b_M_layOut 78 = .ok (.iadd, 1) := by decide +kernel
theorem d_M_layOut_79 : decode b_M_layOut 79 = .ok (.putfield 115, 3) := by decide +kernel
theorem d_M_layOut_82 : decode b_M_layOut 82 = .ok (.iinc 3 1, 3) := by decide +kernel
theorem d_M_layOut_85 : decode b_M_layOut 85 = .ok (.goto (-62), 3) := by decide +kernel
theorem d_M_layOut_88 : decode b_M_layOut 88 = .ok (.iinc 1 1, 3) := by decide +kernel
theorem d_M_layOut_91 : decode b_M_layOut 91 = .ok (.goto (-84), 3) := by decide +kernel
theorem d_M_layOut_94 : decode b_M_layOut 94 = .ok (.return_, 1) := by decide +kernel
theorem d_M_orderAt_0 : decode b_M_orderAt 0 = .ok (.iconst 0, 1) := by decide +kernel
theorem d_M_orderAt_1 : decode b_M_orderAt 1 = .ok (.istore_n 2, 1) := by decide +kernel
theorem d_M_orderAt_2 : decode b_M_orderAt 2 = .ok (.iload_n 2, 1) := by decide +kernel
theorem d_M_orderAt_3 : decode b_M_orderAt 3 = .ok (.aload_n 0, 1) := by decide +kernel
theorem d_M_orderAt_4 : decode b_M_orderAt 4 = .ok (.getfield 85, 3) := by decide +kernel
theorem d_M_orderAt_7 : decode b_M_orderAt 7 = .ok (.if_icmp .ge 54, 3) := by decide +kernel
theorem d_M_orderAt_10 : decode b_M_orderAt 10 = .ok (.iconst 0, 1) := by decide +kernel
theorem d_M_orderAt_11 : decode b_M_orderAt 11 = .ok (.istore_n 3, 1) := by decide +kernel
theorem d_M_orderAt_12 : decode b_M_orderAt 12 = .ok (.iconst 0, 1) := by decide +kernel
theorem d_M_orderAt_13 : decode b_M_orderAt 13 = .ok (.istore 4, 2) := by decide +kernel
theorem d_M_orderAt_15 : decode b_M_orderAt 15 = .ok (.iload 4, 2) := by decide +kernel
theorem d_M_orderAt_17 : decode b_M_orderAt 17 = .ok (.aload_n 0, 1) := by decide +kernel
theorem d_M_orderAt_18 : decode b_M_orderAt 18 = .ok (.getfield 85, 3) := by decide +kernel
theorem d_M_orderAt_21 : decode b_M_orderAt 21 = .ok (.if_icmp .ge 27, 3) := by decide +kernel
theorem d_M_orderAt_24 : decode b_M_orderAt 24 = .ok (.iload_n 3, 1) := by decide +kernel
theorem d_M_orderAt_25 : decode b_M_orderAt 25 = .ok (.aload_n 0, 1) := by decide +kernel
theorem d_M_orderAt_26 : decode b_M_orderAt 26 = .ok (.iload 4, 2) := by decide +kernel
theorem d_M_orderAt_28 : decode b_M_orderAt 28 = .ok (.iload_n 2, 1) := by decide +kernel
theorem d_M_orderAt_29 : decode b_M_orderAt 29 = .ok (.invokevirtual 109, 3) := by decide +kernel
theorem d_M_orderAt_32 : decode b_M_orderAt 32 = .ok (.ifCond .eq 7, 3) := by decide +kernel
theorem d_M_orderAt_35 : decode b_M_orderAt 35 = .ok (.iconst 1, 1) := by decide +kernel
theorem d_M_orderAt_36 : decode b_M_orderAt 36 = .ok (.goto 4, 3) := by decide +kernel
theorem d_M_orderAt_39 : decode b_M_orderAt 39 = .ok (.iconst 0, 1) := by decide +kernel
theorem d_M_orderAt_40 : decode b_M_orderAt 40 = .ok (.iadd, 1) := by decide +kernel
theorem d_M_orderAt_41 : decode b_M_orderAt 41 = .ok (.istore_n 3, 1) := by decide +kernel
theorem d_M_orderAt_42 : decode b_M_orderAt 42 = .ok (.iinc 4 1, 3) := by decide +kernel
theorem d_M_orderAt_45 : decode b_M_orderAt 45 = .ok (.goto (-30), 3) := by decide +kernel
theorem d_M_orderAt_48 : decode b_M_orderAt 48 = .ok (.iload_n 3, 1) := by decide +kernel
theorem d_M_orderAt_49 : decode b_M_orderAt 49 = .ok (.iload_n 1, 1) := by decide +kernel
theorem d_M_orderAt_50 : decode b_M_orderAt 50 = .ok (.if_icmp .ne 5, 3) := by decide +kernel
theorem d_M_orderAt_53 : decode b_M_orderAt 53 = .ok (.iload_n 2, 1) := by decide +kernel
theorem d_M_orderAt_54 : decode b_M_orderAt 54 = .ok (.ireturn, 1) := by decide +kernel
theorem d_M_orderAt_55 : decode b_M_orderAt 55 = .ok (.iinc 2 1, 3) := by decide +kernel
theorem d_M_orderAt_58 : decode b_M_orderAt 58 = .ok (.goto (-56), 3) := by decide +kernel
theorem d_M_orderAt_61 : decode b_M_orderAt 61 = .ok (.iconst (-1), 1) := by decide +kernel
theorem d_M_orderAt_62 : decode b_M_orderAt 62 = .ok (.ireturn, 1) := by decide +kernel
theorem d_M_isOrderBefore_0 : decode b_M_isOrderBefore 0 = .ok (.aload_n 0, 1) := by decide +kernel
theorem d_M_isOrderBefore_1 : decode b_M_isOrderBefore 1 = .ok (.getfield 31, 3) := by decide +kernel
theorem d_M_isOrderBefore_4 : decode b_M_isOrderBefore 4 = .ok (.iload_n 1, 1) := by decide +kernel
theorem d_M_isOrderBefore_5 : decode b_M_isOrderBefore 5 = .ok (.iaload, 1) := by decide +kernel
theorem d_M_isOrderBefore_6 : decode b_M_isOrderBefore 6 = .ok (.aload_n 0, 1) := by decide +kernel
theorem d_M_isOrderBefore_7 : decode b_M_isOrderBefore 7 = .ok (.getfield 31, 3) := by decide +kernel
theorem d_M_isOrderBefore_10 : decode b_M_isOrderBefore 10 = .ok (.iload_n 2, 1) := by decide +kernel
theorem d_M_isOrderBefore_11 : decode b_M_isOrderBefore 11 = .ok (.iaload, 1) := by decide +kernel
theorem d_M_isOrderBefore_12 : decode b_M_isOrderBefore 12 = .ok (.if_icmp .eq 26, 3) := by decide +kernel
theorem d_M_isOrderBefore_15 : decode b_M_isOrderBefore 15 = .ok (.aload_n 0, 1) := by decide +kernel
theorem d_M_isOrderBefore_16 : decode b_M_isOrderBefore 16 = .ok (.getfield 31, 3) := by decide +kernel
theorem d_M_isOrderBefore_19 : decode b_M_isOrderBefore 19 = .ok (.iload_n 1, 1) := by decide +kernel
theorem d_M_isOrderBefore_20 : decode b_M_isOrderBefore 20 = .ok (.iaload, 1) := by decide +kernel
theorem d_M_isOrderBefore_21 : decode b_M_isOrderBefore 21 = .ok (.aload_n 0, 1) := by decide +kernel
theorem d_M_isOrderBefore_22 : decode b_M_isOrderBefore 22 = .ok (.getfield 31, 3) := by decide +kernel
theorem d_M_isOrderBefore_25 : decode b_M_isOrderBefore 25 = .ok (.iload_n 2, 1) := by decide +kernel
theorem d_M_isOrderBefore_26 : decode b_M_isOrderBefore 26 = .ok (.iaload, 1) := by decide +kernel
theorem d_M_isOrderBefore_27 : decode b_M_isOrderBefore 27 = .ok (.if_icmp .ge 7, 3) := by decide +kernel
theorem d_M_isOrderBefore_30 : decode b_M_isOrderBefore 30 = .ok (.iconst 1, 1) := by decide +kernel
theorem d_M_isOrderBefore_31 : decode b_M_isOrderBefore 31 = .ok (.goto 17, 3) := by decide +kernel
theorem d_M_isOrderBefore_34 : decode b_M_isOrderBefore 34 = .ok (.iconst 0, 1) := by decide +kernel
theorem d_M_isOrderBefore_35 : decode b_M_isOrderBefore 35 = .ok (.goto 13, 3) := by decide +kernel
theorem d_M_isOrderBefore_38 : decode b_M_isOrderBefore 38 = .ok (.iload_n 1, 1) := by decide +kernel
theorem d_M_isOrderBefore_39 : decode b_M_isOrderBefore 39 = .ok (.iload_n 2, 1) := by decide +kernel
theorem d_M_isOrderBefore_40 : decode b_M_isOrderBefore 40 = .ok (.if_icmp .ge 7, 3) := by decide +kernel
theorem d_M_isOrderBefore_43 : decode b_M_isOrderBefore 43 = .ok (.iconst 1, 1) := by decide +kernel
theorem d_M_isOrderBefore_44 : decode b_M_isOrderBefore 44 = .ok (.goto 4, 3) := by decide +kernel
theorem d_M_isOrderBefore_47 : decode b_M_isOrderBefore 47 = .ok (.iconst 0, 1) := by decide +kernel
theorem d_M_isOrderBefore_48 : decode b_M_isOrderBefore 48 = .ok (.ireturn, 1) := by decide +kernel
theorem d_M_arrivalAt_0 : decode b_M_arrivalAt 0 = .ok (.iconst 0, 1) := by decide +kernel
theorem d_M_arrivalAt_1 : decode b_M_arrivalAt 1 = .ok (.istore_n 2, 1) := by decide +kernel
theorem d_M_arrivalAt_2 : decode b_M_arrivalAt 2 = .ok (.iload_n 2, 1) := by decide +kernel
theorem d_M_arrivalAt_3 : decode b_M_arrivalAt 3 = .ok (.aload_n 0, 1) := by decide +kernel
theorem d_M_arrivalAt_4 : decode b_M_arrivalAt 4 = .ok (.getfield 78, 3) := by decide +kernel
theorem d_M_arrivalAt_7 : decode b_M_arrivalAt 7 = .ok (.if_icmp .ge 54, 3) := by decide +kernel
theorem d_M_arrivalAt_10 : decode b_M_arrivalAt 10 = .ok (.iconst 0, 1) := by decide +kernel
theorem d_M_arrivalAt_11 : decode b_M_arrivalAt 11 = .ok (.istore_n 3, 1) := by decide +kernel
theorem d_M_arrivalAt_12 : decode b_M_arrivalAt 12 = .ok (.iconst 0, 1) := by decide +kernel
theorem d_M_arrivalAt_13 : decode b_M_arrivalAt 13 = .ok (.istore 4, 2) := by decide +kernel
theorem d_M_arrivalAt_15 : decode b_M_arrivalAt 15 = .ok (.iload 4, 2) := by decide +kernel
theorem d_M_arrivalAt_17 : decode b_M_arrivalAt 17 = .ok (.aload_n 0, 1) := by decide +kernel
theorem d_M_arrivalAt_18 : decode b_M_arrivalAt 18 = .ok (.getfield 78, 3) := by decide +kernel
theorem d_M_arrivalAt_21 : decode b_M_arrivalAt 21 = .ok (.if_icmp .ge 27, 3) := by decide +kernel
theorem d_M_arrivalAt_24 : decode b_M_arrivalAt 24 = .ok (.iload_n 3, 1) := by decide +kernel
theorem d_M_arrivalAt_25 : decode b_M_arrivalAt 25 = .ok (.aload_n 0, 1) := by decide +kernel
theorem d_M_arrivalAt_26 : decode b_M_arrivalAt 26 = .ok (.iload 4, 2) := by decide +kernel
theorem d_M_arrivalAt_28 : decode b_M_arrivalAt 28 = .ok (.iload_n 2, 1) := by decide +kernel
theorem d_M_arrivalAt_29 : decode b_M_arrivalAt 29 = .ok (.invokevirtual 112, 3) := by decide +kernel
theorem d_M_arrivalAt_32 : decode b_M_arrivalAt 32 = .ok (.ifCond .eq 7, 3) := by decide +kernel
theorem d_M_arrivalAt_35 : decode b_M_arrivalAt 35 = .ok (.iconst 1, 1) := by decide +kernel
theorem d_M_arrivalAt_36 : decode b_M_arrivalAt 36 = .ok (.goto 4, 3) := by decide +kernel
theorem d_M_arrivalAt_39 : decode b_M_arrivalAt 39 = .ok (.iconst 0, 1) := by decide +kernel
theorem d_M_arrivalAt_40 : decode b_M_arrivalAt 40 = .ok (.iadd, 1) := by decide +kernel
theorem d_M_arrivalAt_41 : decode b_M_arrivalAt 41 = .ok (.istore_n 3, 1) := by decide +kernel
theorem d_M_arrivalAt_42 : decode b_M_arrivalAt 42 = .ok (.iinc 4 1, 3) := by decide +kernel
theorem d_M_arrivalAt_45 : decode b_M_arrivalAt 45 = .ok (.goto (-30), 3) := by decide +kernel
theorem d_M_arrivalAt_48 : decode b_M_arrivalAt 48 = .ok (.iload_n 3, 1) := by decide +kernel
theorem d_M_arrivalAt_49 : decode b_M_arrivalAt 49 = .ok (.iload_n 1, 1) := by decide +kernel
theorem d_M_arrivalAt_50 : decode b_M_arrivalAt 50 = .ok (.if_icmp .ne 5, 3) := by decide +kernel
theorem d_M_arrivalAt_53 : decode b_M_arrivalAt 53 = .ok (.iload_n 2, 1) := by decide +kernel
theorem d_M_arrivalAt_54 : decode b_M_arrivalAt 54 = .ok (.ireturn, 1) := by decide +kernel
theorem d_M_arrivalAt_55 : decode b_M_arrivalAt 55 = .ok (.iinc 2 1, 3) := by decide +kernel
theorem d_M_arrivalAt_58 : decode b_M_arrivalAt 58 = .ok (.goto (-56), 3) := by decide +kernel
theorem d_M_arrivalAt_61 : decode b_M_arrivalAt 61 = .ok (.iconst (-1), 1) := by decide +kernel
theorem d_M_arrivalAt_62 : decode b_M_arrivalAt 62 = .ok (.ireturn, 1) := by decide +kernel
theorem d_M_isArrivalBefore_0 : decode b_M_isArrivalBefore 0 = .ok (.aload_n 0, 1) := by decide +kernel
theorem d_M_isArrivalBefore_1 : decode b_M_isArrivalBefore 1 = .ok (.getfield 16, 3) := by decide +kernel
theorem d_M_isArrivalBefore_4 : decode b_M_isArrivalBefore 4 = .ok (.iload_n 1, 1) := by decide +kernel
theorem d_M_isArrivalBefore_5 : decode b_M_isArrivalBefore 5 = .ok (.iaload, 1) := by decide +kernel
theorem d_M_isArrivalBefore_6 : decode b_M_isArrivalBefore 6 = .ok (.aload_n 0, 1) := by decide +kernel
theorem d_M_isArrivalBefore_7 : decode b_M_isArrivalBefore 7 = .ok (.getfield 16, 3) := by decide +kernel
theorem d_M_isArrivalBefore_10 : decode b_M_isArrivalBefore 10 = .ok (.iload_n 2, 1) := by decide +kernel
theorem d_M_isArrivalBefore_11 : decode b_M_isArrivalBefore 11 = .ok (.iaload, 1) := by decide +kernel
theorem d_M_isArrivalBefore_12 : decode b_M_isArrivalBefore 12 = .ok (.if_icmp .eq 26, 3) := by decide +kernel
theorem d_M_isArrivalBefore_15 : decode b_M_isArrivalBefore 15 = .ok (.aload_n 0, 1) := by decide +kernel
theorem d_M_isArrivalBefore_16 : decode b_M_isArrivalBefore 16 = .ok (.getfield 16, 3) := by decide +kernel
theorem d_M_isArrivalBefore_19 : decode b_M_isArrivalBefore 19 = .ok (.iload_n 1, 1) := by decide +kernel
theorem d_M_isArrivalBefore_20 : decode b_M_isArrivalBefore 20 = .ok (.iaload, 1) := by decide +kernel
theorem d_M_isArrivalBefore_21 : decode b_M_isArrivalBefore 21 = .ok (.aload_n 0, 1) := by decide +kernel
theorem d_M_isArrivalBefore_22 : decode b_M_isArrivalBefore 22 = .ok (.getfield 16, 3) := by decide +kernel
theorem d_M_isArrivalBefore_25 : decode b_M_isArrivalBefore 25 = .ok (.iload_n 2, 1) := by decide +kernel
theorem d_M_isArrivalBefore_26 : decode b_M_isArrivalBefore 26 = .ok (.iaload, 1) := by decide +kernel
theorem d_M_isArrivalBefore_27 : decode b_M_isArrivalBefore 27 = .ok (.if_icmp .ge 7, 3) := by decide +kernel
theorem d_M_isArrivalBefore_30 : decode b_M_isArrivalBefore 30 = .ok (.iconst 1, 1) := by decide +kernel
theorem d_M_isArrivalBefore_31 : decode b_M_isArrivalBefore 31 = .ok (.goto 17, 3) := by decide +kernel
theorem d_M_isArrivalBefore_34 : decode b_M_isArrivalBefore 34 = .ok (.iconst 0, 1) := by decide +kernel
theorem d_M_isArrivalBefore_35 : decode b_M_isArrivalBefore 35 = .ok (.goto 13, 3) := by decide +kernel
theorem d_M_isArrivalBefore_38 : decode b_M_isArrivalBefore 38 = .ok (.iload_n 1, 1) := by decide +kernel
theorem d_M_isArrivalBefore_39 : decode b_M_isArrivalBefore 39 = .ok (.iload_n 2, 1) := by decide +kernel
theorem d_M_isArrivalBefore_40 : decode b_M_isArrivalBefore 40 = .ok (.if_icmp .ge 7, 3) := by decide +kernel
theorem d_M_isArrivalBefore_43 : decode b_M_isArrivalBefore 43 = .ok (.iconst 1, 1) := by decide +kernel
theorem d_M_isArrivalBefore_44 : decode b_M_isArrivalBefore 44 = .ok (.goto 4, 3) := by decide +kernel
theorem d_M_isArrivalBefore_47 : decode b_M_isArrivalBefore 47 = .ok (.iconst 0, 1) := by decide +kernel
theorem d_M_isArrivalBefore_48 : decode b_M_isArrivalBefore 48 = .ok (.ireturn, 1) := by decide +kernel
theorem d_M_lookAtAll_0 : decode b_M_lookAtAll 0 = .ok (.iconst (-1), 1) := by decide +kernel
theorem d_M_lookAtAll_1 : decode b_M_lookAtAll 1 = .ok (.istore_n 2, 1) := by decide +kernel
theorem d_M_lookAtAll_2 : decode b_M_lookAtAll 2 = .ok (.aload_n 0, 1) := by decide +kernel
theorem d_M_lookAtAll_3 : decode b_M_lookAtAll 3 = .ok (.iconst 0, 1) := by decide +kernel
theorem d_M_lookAtAll_4 : decode b_M_lookAtAll 4 = .ok (.putfield 127, 3) := by decide +kernel
theorem d_M_lookAtAll_7 : decode b_M_lookAtAll 7 = .ok (.iconst 0, 1) := by decide +kernel
theorem d_M_lookAtAll_8 : decode b_M_lookAtAll 8 = .ok (.istore_n 3, 1) := by decide +kernel
theorem d_M_lookAtAll_9 : decode b_M_lookAtAll 9 = .ok (.aload_n 0, 1) := by decide +kernel
theorem d_M_lookAtAll_10 : decode b_M_lookAtAll 10 = .ok (.getfield 115, 3) := by decide +kernel
theorem d_M_lookAtAll_13 : decode b_M_lookAtAll 13 = .ok (.ifCond .le 16, 3) := by decide +kernel
theorem d_M_lookAtAll_16 : decode b_M_lookAtAll 16 = .ok (.aload_n 0, 1) := by decide +kernel
theorem d_M_lookAtAll_17 : decode b_M_lookAtAll 17 = .ok (.getfield 65, 3) := by decide +kernel
theorem d_M_lookAtAll_20 : decode b_M_lookAtAll 20 = .ok (.iconst 0, 1) := by decide +kernel
theorem d_M_lookAtAll_21 : decode b_M_lookAtAll 21 = .ok (.aload_n 0, 1) := by decide +kernel
theorem d_M_lookAtAll_22 : decode b_M_lookAtAll 22 = .ok (.iconst 0, 1) := by decide +kernel
theorem d_M_lookAtAll_23 : decode b_M_lookAtAll 23 = .ok (.invokevirtual 130, 3) := by decide +kernel
theorem d_M_lookAtAll_26 : decode b_M_lookAtAll 26 = .ok (.iconst 1, 1) := by decide +kernel
theorem d_M_lookAtAll_27 : decode b_M_lookAtAll 27 = .ok (.iadd, 1) := by decide +kernel
theorem d_M_lookAtAll_28 : decode b_M_lookAtAll 28 = .ok (.iastore, 1) := by decide +kernel
theorem d_M_lookAtAll_29 : decode b_M_lookAtAll 29 = .ok (.iload_n 3, 1) := by decide +kernel
theorem d_M_lookAtAll_30 : decode b_M_lookAtAll 30 = .ok (.ifCond .lt 136, 3) := by decide +kernel
theorem d_M_lookAtAll_33 : decode b_M_lookAtAll 33 = .ok (.iload_n 3, 1) := by decide +kernel
theorem d_M_lookAtAll_34 : decode b_M_lookAtAll 34 = .ok (.aload_n 0, 1) := by decide +kernel
theorem d_M_lookAtAll_35 : decode b_M_lookAtAll 35 = .ok (.getfield 115, 3) := by decide +kernel
theorem d_M_lookAtAll_38 : decode b_M_lookAtAll 38 = .ok (.if_icmp .ne 56, 3) := by decide +kernel
theorem d_M_lookAtAll_41 : decode b_M_lookAtAll 41 = .ok (.aload_n 0, 1) := by decide +kernel
theorem d_M_lookAtAll_42 : decode b_M_lookAtAll 42 = .ok (.invokevirtual 133, 3) := by decide +kernel
theorem d_M_lookAtAll_45 : decode b_M_lookAtAll 45 = .ok (.istore 4, 2) := by decide +kernel
theorem d_M_lookAtAll_47 : decode b_M_lookAtAll 47 = .ok (.iload 4, 2) := by decide +kernel
theorem d_M_lookAtAll_49 : decode b_M_lookAtAll 49 = .ok (.iload_n 2, 1) := by decide +kernel
theorem d_M_lookAtAll_50 : decode b_M_lookAtAll 50 = .ok (.if_icmp .le 38, 3) := by decide +kernel
theorem d_M_lookAtAll_53 : decode b_M_lookAtAll 53 = .ok (.iload 4, 2) := by decide +kernel
theorem d_M_lookAtAll_55 : decode b_M_lookAtAll 55 = .ok (.istore_n 2, 1) := by decide +kernel
theorem d_M_lookAtAll_56 : decode b_M_lookAtAll 56 = .ok (.iconst 0, 1) := by decide +kernel
theorem d_M_lookAtAll_57 : decode b_M_lookAtAll 57 = .ok (.istore 5, 2) := by decide +kernel
theorem d_M_lookAtAll_59 : decode b_M_lookAtAll 59 = .ok (.iload 5, 2) := by decide +kernel
theorem d_M_lookAtAll_61 : decode b_M_lookAtAll 61 = .ok (.aload_n 0, 1) := by decide +kernel
theorem d_M_lookAtAll_62 : decode b_M_lookAtAll 62 = .ok (.getfield 115, 3) := by decide +kernel
theorem d_M_lookAtAll_65 : decode b_M_lookAtAll 65 = .ok (.if_icmp .ge 23, 3) := by decide +kernel
theorem d_M_lookAtAll_68 : decode b_M_lookAtAll 68 = .ok (.aload_n 0, 1) := by decide +kernel
theorem d_M_lookAtAll_69 : decode b_M_lookAtAll 69 = .ok (.getfield 68, 3) := by decide +kernel
theorem d_M_lookAtAll_72 : decode b_M_lookAtAll 72 = .ok (.iload 5, 2) := by decide +kernel
theorem d_M_lookAtAll_74 : decode b_M_lookAtAll 74 = .ok (.aload_n 0, 1) := by decide +kernel
theorem d_M_lookAtAll_75 : decode b_M_lookAtAll 75 = .ok (.getfield 65, 3) := by decide +kernel
theorem d_M_lookAtAll_78 : decode b_M_lookAtAll 78 = .ok (.iload 5, 2) := by decide +kernel
theorem d_M_lookAtAll_80 : decode b_M_lookAtAll 80 = .ok (.iaload, 1) := by decide +kernel
theorem d_M_lookAtAll_81 : decode b_M_lookAtAll 81 = .ok (.iastore, 1) := by decide +kernel
theorem d_M_lookAtAll_82 : decode b_M_lookAtAll 82 = .ok (.iinc 5 1, 3) := by decide +kernel
theorem d_M_lookAtAll_85 : decode b_M_lookAtAll 85 = .ok (.goto (-26), 3) := by decide +kernel
theorem d_M_lookAtAll_88 : decode b_M_lookAtAll 88 = .ok (.iinc 3 (-1), 3) := by decide +kernel
theorem d_M_lookAtAll_91 : decode b_M_lookAtAll 91 = .ok (.goto (-62), 3) := by decide +kernel
theorem d_M_lookAtAll_94 : decode b_M_lookAtAll 94 = .ok (.aload_n 0, 1) := by decide +kernel
theorem d_M_lookAtAll_95 : decode b_M_lookAtAll 95 = .ok (.getfield 65, 3) := by decide +kernel
theorem d_M_lookAtAll_98 : decode b_M_lookAtAll 98 = .ok (.iload_n 3, 1) := by decide +kernel
theorem d_M_lookAtAll_99 : decode b_M_lookAtAll 99 = .ok (.iaload, 1) := by decide +kernel
theorem d_M_lookAtAll_100 : decode b_M_lookAtAll 100 = .ok (.ifCond .ne 9, 3) := by decide +kernel
theorem d_M_lookAtAll_103 : decode b_M_lookAtAll 103 = .ok (.iinc 3 (-1), 3) := by decide +kernel
theorem d_M_lookAtAll_106 : decode b_M_lookAtAll 106 = .ok (.goto (-77), 3) := by decide +kernel
theorem d_M_lookAtAll_109 : decode b_M_lookAtAll 109 = .ok (.aload_n 0, 1) := by decide +kernel
theorem d_M_lookAtAll_110 : decode b_M_lookAtAll 110 = .ok (.getfield 127, 3) := by decide +kernel
theorem d_M_lookAtAll_113 : decode b_M_lookAtAll 113 = .ok (.iload_n 1, 1) := by decide +kernel
theorem d_M_lookAtAll_114 : decode b_M_lookAtAll 114 = .ok (.if_icmp .ne 5, 3) := by decide +kernel
theorem d_M_lookAtAll_117 : decode b_M_lookAtAll 117 = .ok (.iconst 0, 1) := by decide +kernel
theorem d_M_lookAtAll_118 : decode b_M_lookAtAll 118 = .ok (.ireturn, 1) := by decide +kernel
theorem d_M_lookAtAll_119 : decode b_M_lookAtAll 119 = .ok (.aload_n 0, 1) := by decide +kernel
theorem d_M_lookAtAll_120 : decode b_M_lookAtAll 120 = .ok (.dup, 1) := by decide +kernel
theorem d_M_lookAtAll_121 : decode b_M_lookAtAll 121 = .ok (.getfield 127, 3) := by decide +kernel
theorem d_M_lookAtAll_124 : decode b_M_lookAtAll 124 = .ok (.iconst 1, 1) := by decide +kernel
theorem d_M_lookAtAll_125 : decode b_M_lookAtAll 125 = .ok (.iadd, 1) := by decide +kernel
theorem d_M_lookAtAll_126 : decode b_M_lookAtAll 126 = .ok (.putfield 127, 3) := by decide +kernel
theorem d_M_lookAtAll_129 : decode b_M_lookAtAll 129 = .ok (.aload_n 0, 1) := by decide +kernel
theorem d_M_lookAtAll_130 : decode b_M_lookAtAll 130 = .ok (.getfield 65, 3) := by decide +kernel
theorem d_M_lookAtAll_133 : decode b_M_lookAtAll 133 = .ok (.iload_n 3, 1) := by decide +kernel
theorem d_M_lookAtAll_134 : decode b_M_lookAtAll 134 = .ok (.dup2, 1) := by decide +kernel
theorem d_M_lookAtAll_135 : decode b_M_lookAtAll 135 = .ok (.iaload, 1) := by decide +kernel
theorem d_M_lookAtAll_136 : decode b_M_lookAtAll 136 = .ok (.iconst 1, 1) := by decide +kernel
theorem d_M_lookAtAll_137 : decode b_M_lookAtAll 137 = .ok (.isub, 1) := by decide +kernel
theorem d_M_lookAtAll_138 : decode b_M_lookAtAll 138 = .ok (.iastore, 1) := by decide +kernel
theorem d_M_lookAtAll_139 : decode b_M_lookAtAll 139 = .ok (.iinc 3 1, 3) := by decide +kernel
theorem d_M_lookAtAll_142 : decode b_M_lookAtAll 142 = .ok (.iload_n 3, 1) := by decide +kernel
theorem d_M_lookAtAll_143 : decode b_M_lookAtAll 143 = .ok (.aload_n 0, 1) := by decide +kernel
theorem d_M_lookAtAll_144 : decode b_M_lookAtAll 144 = .ok (.getfield 115, 3) := by decide +kernel
theorem d_M_lookAtAll_147 : decode b_M_lookAtAll 147 = .ok (.if_icmp .ge (-118), 3) := by decide +kernel
theorem d_M_lookAtAll_150 : decode b_M_lookAtAll 150 = .ok (.aload_n 0, 1) := by decide +kernel
theorem d_M_lookAtAll_151 : decode b_M_lookAtAll 151 = .ok (.getfield 65, 3) := by decide +kernel
theorem d_M_lookAtAll_154 : decode b_M_lookAtAll 154 = .ok (.iload_n 3, 1) := by decide +kernel
theorem d_M_lookAtAll_155 : decode b_M_lookAtAll 155 = .ok (.aload_n 0, 1) := by decide +kernel
theorem d_M_lookAtAll_156 : decode b_M_lookAtAll 156 = .ok (.iload_n 3, 1) := by decide +kernel
theorem d_M_lookAtAll_157 : decode b_M_lookAtAll 157 = .ok (.invokevirtual 130, 3) := by decide +kernel
theorem d_M_lookAtAll_160 : decode b_M_lookAtAll 160 = .ok (.iconst 1, 1) := by decide +kernel
theorem d_M_lookAtAll_161 : decode b_M_lookAtAll 161 = .ok (.iadd, 1) := by decide +kernel
theorem d_M_lookAtAll_162 : decode b_M_lookAtAll 162 = .ok (.iastore, 1) := by decide +kernel
theorem d_M_lookAtAll_163 : decode b_M_lookAtAll 163 = .ok (.goto (-134), 3) := by decide +kernel
theorem d_M_lookAtAll_166 : decode b_M_lookAtAll 166 = .ok (.iconst 1, 1) := by decide +kernel
theorem d_M_lookAtAll_167 : decode b_M_lookAtAll 167 = .ok (.ireturn, 1) := by decide +kernel
theorem d_M_greatest_0 : decode b_M_greatest 0 = .ok (.aload_n 0, 1) := by decide +kernel
theorem d_M_greatest_1 : decode b_M_greatest 1 = .ok (.aload_n 0, 1) := by decide +kernel
theorem d_M_greatest_2 : decode b_M_greatest 2 = .ok (.getfield 59, 3) := by decide +kernel
theorem d_M_greatest_5 : decode b_M_greatest 5 = .ok (.iload_n 1, 1) := by decide +kernel
theorem d_M_greatest_6 : decode b_M_greatest 6 = .ok (.iaload, 1) := by decide +kernel
theorem d_M_greatest_7 : decode b_M_greatest 7 = .ok (.invokevirtual 124, 3) := by decide +kernel
theorem d_M_greatest_10 : decode b_M_greatest 10 = .ok (.istore_n 2, 1) := by decide +kernel
theorem d_M_greatest_11 : decode b_M_greatest 11 = .ok (.aload_n 0, 1) := by decide +kernel
theorem d_M_greatest_12 : decode b_M_greatest 12 = .ok (.getfield 28, 3) := by decide +kernel
theorem d_M_greatest_15 : decode b_M_greatest 15 = .ok (.aload_n 0, 1) := by decide +kernel
theorem d_M_greatest_16 : decode b_M_greatest 16 = .ok (.getfield 62, 3) := by decide +kernel
theorem d_M_greatest_19 : decode b_M_greatest 19 = .ok (.iload_n 1, 1) := by decide +kernel
theorem d_M_greatest_20 : decode b_M_greatest 20 = .ok (.iaload, 1) := by decide +kernel
theorem d_M_greatest_21 : decode b_M_greatest 21 = .ok (.iaload, 1) := by decide +kernel
theorem d_M_greatest_22 : decode b_M_greatest 22 = .ok (.istore_n 3, 1) := by decide +kernel
theorem d_M_greatest_23 : decode b_M_greatest 23 = .ok (.iconst 0, 1) := by decide +kernel
theorem d_M_greatest_24 : decode b_M_greatest 24 = .ok (.istore 4, 2) := by decide +kernel
theorem d_M_greatest_26 : decode b_M_greatest 26 = .ok (.iload 4, 2) := by decide +kernel
theorem d_M_greatest_28 : decode b_M_greatest 28 = .ok (.iload_n 1, 1) := by decide +kernel
theorem d_M_greatest_29 : decode b_M_greatest 29 = .ok (.if_icmp .ge 69, 3) := by decide +kernel
theorem d_M_greatest_32 : decode b_M_greatest 32 = .ok (.iload_n 2, 1) := by decide +kernel
theorem d_M_greatest_33 : decode b_M_greatest 33 = .ok (.aload_n 0, 1) := by decide +kernel
theorem d_M_greatest_34 : decode b_M_greatest 34 = .ok (.getfield 59, 3) := by decide +kernel
theorem d_M_greatest_37 : decode b_M_greatest 37 = .ok (.iload 4, 2) := by decide +kernel
theorem d_M_greatest_39 : decode b_M_greatest 39 = .ok (.iaload, 1) := by decide +kernel
theorem d_M_greatest_40 : decode b_M_greatest 40 = .ok (.aload_n 0, 1) := by decide +kernel
theorem d_M_greatest_41 : decode b_M_greatest 41 = .ok (.getfield 59, 3) := by decide +kernel
theorem d_M_greatest_44 : decode b_M_greatest 44 = .ok (.iload_n 1, 1) := by decide +kernel
theorem d_M_greatest_45 : decode b_M_greatest 45 = .ok (.iaload, 1) := by decide +kernel
theorem d_M_greatest_46 : decode b_M_greatest 46 = .ok (.if_icmp .ne 13, 3) := by decide +kernel
theorem d_M_greatest_49 : decode b_M_greatest 49 = .ok (.aload_n 0, 1) := by decide +kernel
theorem d_M_greatest_50 : decode b_M_greatest 50 = .ok (.getfield 65, 3) := by decide +kernel
theorem d_M_greatest_53 : decode b_M_greatest 53 = .ok (.iload 4, 2) := by decide +kernel
theorem d_M_greatest_55 : decode b_M_greatest 55 = .ok (.iaload, 1) := by decide +kernel
theorem d_M_greatest_56 : decode b_M_greatest 56 = .ok (.goto 4, 3) := by decide +kernel
theorem d_M_greatest_59 : decode b_M_greatest 59 = .ok (.iconst 0, 1) := by decide +kernel
theorem d_M_greatest_60 : decode b_M_greatest 60 = .ok (.isub, 1) := by decide +kernel
theorem d_M_greatest_61 : decode b_M_greatest 61 = .ok (.istore_n 2, 1) := by decide +kernel
theorem d_M_greatest_62 : decode b_M_greatest 62 = .ok (.iload_n 3, 1) := by decide +kernel
theorem d_M_greatest_63 : decode b_M_greatest 63 = .ok (.aload_n 0, 1) := by decide +kernel
theorem d_M_greatest_64 : decode b_M_greatest 64 = .ok (.getfield 62, 3) := by decide +kernel
theorem d_M_greatest_67 : decode b_M_greatest 67 = .ok (.iload 4, 2) := by decide +kernel
theorem d_M_greatest_69 : decode b_M_greatest 69 = .ok (.iaload, 1) := by decide +kernel
theorem d_M_greatest_70 : decode b_M_greatest 70 = .ok (.aload_n 0, 1) := by decide +kernel
theorem d_M_greatest_71 : decode b_M_greatest 71 = .ok (.getfield 62, 3) := by decide +kernel
theorem d_M_greatest_74 : decode b_M_greatest 74 = .ok (.iload_n 1, 1) := by decide +kernel
theorem d_M_greatest_75 : decode b_M_greatest 75 = .ok (.iaload, 1) := by decide +kernel
theorem d_M_greatest_76 : decode b_M_greatest 76 = .ok (.if_icmp .ne 13, 3) := by decide +kernel
theorem d_M_greatest_79 : decode b_M_greatest 79 = .ok (.aload_n 0, 1) := by decide +kernel
theorem d_M_greatest_80 : decode b_M_greatest 80 = .ok (.getfield 65, 3) := by decide +kernel
theorem d_M_greatest_83 : decode b_M_greatest 83 = .ok (.iload 4, 2) := by decide +kernel
theorem d_M_greatest_85 : decode b_M_greatest 85 = .ok (.iaload, 1) := by decide +kernel
theorem d_M_greatest_86 : decode b_M_greatest 86 = .ok (.goto 4, 3) := by decide +kernel
theorem d_M_greatest_89 : decode b_M_greatest 89 = .ok (.iconst 0, 1) := by decide +kernel
theorem d_M_greatest_90 : decode b_M_greatest 90 = .ok (.isub, 1) := by decide +kernel
theorem d_M_greatest_91 : decode b_M_greatest 91 = .ok (.istore_n 3, 1) := by decide +kernel
theorem d_M_greatest_92 : decode b_M_greatest 92 = .ok (.iinc 4 1, 3) := by decide +kernel
theorem d_M_greatest_95 : decode b_M_greatest 95 = .ok (.goto (-69), 3) := by decide +kernel
theorem d_M_greatest_98 : decode b_M_greatest 98 = .ok (.iload_n 2, 1) := by decide +kernel
theorem d_M_greatest_99 : decode b_M_greatest 99 = .ok (.iload_n 3, 1) := by decide +kernel
theorem d_M_greatest_100 : decode b_M_greatest 100 = .ok (.if_icmp .ge 7, 3) := by decide +kernel
theorem d_M_greatest_103 : decode b_M_greatest 103 = .ok (.iload_n 2, 1) := by decide +kernel
theorem d_M_greatest_104 : decode b_M_greatest 104 = .ok (.goto 4, 3) := by decide +kernel
theorem d_M_greatest_107 : decode b_M_greatest 107 = .ok (.iload_n 3, 1) := by decide +kernel
theorem d_M_greatest_108 : decode b_M_greatest 108 = .ok (.ireturn, 1) := by decide +kernel
theorem d_M_has_0 : decode b_M_has 0 = .ok (.aload_n 0, 1) := by decide +kernel
theorem d_M_has_1 : decode b_M_has 1 = .ok (.getfield 19, 3) := by decide +kernel
theorem d_M_has_4 : decode b_M_has 4 = .ok (.iload_n 1, 1) := by decide +kernel
theorem d_M_has_5 : decode b_M_has 5 = .ok (.iaload, 1) := by decide +kernel
theorem d_M_has_6 : decode b_M_has 6 = .ok (.aload_n 0, 1) := by decide +kernel
theorem d_M_has_7 : decode b_M_has 7 = .ok (.getfield 22, 3) := by decide +kernel
theorem d_M_has_10 : decode b_M_has 10 = .ok (.iload_n 1, 1) := by decide +kernel
theorem d_M_has_11 : decode b_M_has 11 = .ok (.iaload, 1) := by decide +kernel
theorem d_M_has_12 : decode b_M_has 12 = .ok (.isub, 1) := by decide +kernel
theorem d_M_has_13 : decode b_M_has 13 = .ok (.ireturn, 1) := by decide +kernel
theorem d_M_worth_0 : decode b_M_worth 0 = .ok (.iconst 0, 1) := by decide +kernel
theorem d_M_worth_1 : decode b_M_worth 1 = .ok (.istore_n 1, 1) := by decide +kernel
theorem d_M_worth_2 : decode b_M_worth 2 = .ok (.iload_n 1, 1) := by decide +kernel
theorem d_M_worth_3 : decode b_M_worth 3 = .ok (.bipush 8, 2) := by decide +kernel
theorem d_M_worth_5 : decode b_M_worth 5 = .ok (.if_icmp .ge 16, 3) := by decide +kernel
theorem d_M_worth_8 : decode b_M_worth 8 = .ok (.aload_n 0, 1) := by decide +kernel
theorem d_M_worth_9 : decode b_M_worth 9 = .ok (.getfield 71, 3) := by decide +kernel
theorem d_M_worth_12 : decode b_M_worth 12 = .ok (.iload_n 1, 1) := by decide +kernel
theorem d_M_worth_13 : decode b_M_worth 13 = .ok (.iconst 0, 1) := by decide +kernel
theorem d_M_worth_14 : decode b_M_worth 14 = .ok (.iastore, 1) := by decide +kernel
theorem d_M_worth_15 : decode b_M_worth 15 = .ok (.iinc 1 1, 3) := by decide +kernel
theorem d_M_worth_18 : decode b_M_worth 18 = .ok (.goto (-16), 3) := by decide +kernel
theorem d_M_worth_21 : decode b_M_worth 21 = .ok (.iconst 0, 1) := by decide +kernel
theorem d_M_worth_22 : decode b_M_worth 22 = .ok (.istore_n 1, 1) := by decide +kernel
theorem d_M_worth_23 : decode b_M_worth 23 = .ok (.iconst 0, 1) := by decide +kernel
theorem d_M_worth_24 : decode b_M_worth 24 = .ok (.istore_n 2, 1) := by decide +kernel
theorem d_M_worth_25 : decode b_M_worth 25 = .ok (.iload_n 2, 1) := by decide +kernel
theorem d_M_worth_26 : decode b_M_worth 26 = .ok (.aload_n 0, 1) := by decide +kernel
theorem d_M_worth_27 : decode b_M_worth 27 = .ok (.getfield 115, 3) := by decide +kernel
theorem d_M_worth_30 : decode b_M_worth 30 = .ok (.if_icmp .ge 74, 3) := by decide +kernel
theorem d_M_worth_33 : decode b_M_worth 33 = .ok (.aload_n 0, 1) := by decide +kernel
theorem d_M_worth_34 : decode b_M_worth 34 = .ok (.getfield 71, 3) := by decide +kernel
theorem d_M_worth_37 : decode b_M_worth 37 = .ok (.aload_n 0, 1) := by decide +kernel
theorem d_M_worth_38 : decode b_M_worth 38 = .ok (.getfield 62, 3) := by decide +kernel
theorem d_M_worth_41 : decode b_M_worth 41 = .ok (.iload_n 2, 1) := by decide +kernel
theorem d_M_worth_42 : decode b_M_worth 42 = .ok (.iaload, 1) := by decide +kernel
theorem d_M_worth_43 : decode b_M_worth 43 = .ok (.dup2, 1) := by decide +kernel
theorem d_M_worth_44 : decode b_M_worth 44 = .ok (.iaload, 1) := by decide +kernel
theorem d_M_worth_45 : decode b_M_worth 45 = .ok (.aload_n 0, 1) := by decide +kernel
theorem d_M_worth_46 : decode b_M_worth 46 = .ok (.getfield 65, 3) := by decide +kernel
theorem d_M_worth_49 : decode b_M_worth 49 = .ok (.iload_n 2, 1) := by decide +kernel
theorem d_M_worth_50 : decode b_M_worth 50 = .ok (.iaload, 1) := by decide +kernel
theorem d_M_worth_51 : decode b_M_worth 51 = .ok (.iadd, 1) := by decide +kernel
theorem d_M_worth_52 : decode b_M_worth 52 = .ok (.iastore, 1) := by decide +kernel
theorem d_M_worth_53 : decode b_M_worth 53 = .ok (.iload_n 1, 1) := by decide +kernel
theorem d_M_worth_54 : decode b_M_worth 54 = .ok (.iconst 2, 1) := by decide +kernel
theorem d_M_worth_55 : decode b_M_worth 55 = .ok (.aload_n 0, 1) := by decide +kernel
theorem d_M_worth_56 : decode b_M_worth 56 = .ok (.getfield 65, 3) := by decide +kernel
theorem d_M_worth_59 : decode b_M_worth 59 = .ok (.iload_n 2, 1) := by decide +kernel
theorem d_M_worth_60 : decode b_M_worth 60 = .ok (.iaload, 1) := by decide +kernel
theorem d_M_worth_61 : decode b_M_worth 61 = .ok (.imul, 1) := by decide +kernel
theorem d_M_worth_62 : decode b_M_worth 62 = .ok (.aload_n 0, 1) := by decide +kernel
theorem d_M_worth_63 : decode b_M_worth 63 = .ok (.getfield 65, 3) := by decide +kernel
theorem d_M_worth_66 : decode b_M_worth 66 = .ok (.iload_n 2, 1) := by decide +kernel
theorem d_M_worth_67 : decode b_M_worth 67 = .ok (.iaload, 1) := by decide +kernel
theorem d_M_worth_68 : decode b_M_worth 68 = .ok (.ifCond .le 26, 3) := by decide +kernel
theorem d_M_worth_71 : decode b_M_worth 71 = .ok (.aload_n 0, 1) := by decide +kernel
theorem d_M_worth_72 : decode b_M_worth 72 = .ok (.getfield 65, 3) := by decide +kernel
theorem d_M_worth_75 : decode b_M_worth 75 = .ok (.iload_n 2, 1) := by decide +kernel
theorem d_M_worth_76 : decode b_M_worth 76 = .ok (.iaload, 1) := by decide +kernel
theorem d_M_worth_77 : decode b_M_worth 77 = .ok (.aload_n 0, 1) := by decide +kernel
theorem d_M_worth_78 : decode b_M_worth 78 = .ok (.aload_n 0, 1) := by decide +kernel
theorem d_M_worth_79 : decode b_M_worth 79 = .ok (.getfield 59, 3) := by decide +kernel
theorem d_M_worth_82 : decode b_M_worth 82 = .ok (.iload_n 2, 1) := by decide +kernel
theorem d_M_worth_83 : decode b_M_worth 83 = .ok (.iaload, 1) := by decide +kernel
theorem d_M_worth_84 : decode b_M_worth 84 = .ok (.invokevirtual 124, 3) := by decide +kernel
theorem d_M_worth_87 : decode b_M_worth 87 = .ok (.if_icmp .ne 7, 3) := by decide +kernel
theorem d_M_worth_90 : decode b_M_worth 90 = .ok (.iconst 1, 1) := by decide +kernel
theorem d_M_worth_91 : decode b_M_worth 91 = .ok (.goto 4, 3) := by decide +kernel
theorem d_M_worth_94 : decode b_M_worth 94 = .ok (.iconst 0, 1) := by decide +kernel
theorem d_M_worth_95 : decode b_M_worth 95 = .ok (.iadd, 1) := by decide +kernel
theorem d_M_worth_96 : decode b_M_worth 96 = .ok (.iadd, 1) := by decide +kernel
theorem d_M_worth_97 : decode b_M_worth 97 = .ok (.istore_n 1, 1) := by decide +kernel
theorem d_M_worth_98 : decode b_M_worth 98 = .ok (.iinc 2 1, 3) := by decide +kernel
theorem d_M_worth_101 : decode b_M_worth 101 = .ok (.goto (-76), 3) := by decide +kernel
theorem d_M_worth_104 : decode b_M_worth 104 = .ok (.iconst 0, 1) := by decide +kernel
theorem d_M_worth_105 : decode b_M_worth 105 = .ok (.istore_n 2, 1) := by decide +kernel
theorem d_M_worth_106 : decode b_M_worth 106 = .ok (.iload_n 2, 1) := by decide +kernel
theorem d_M_worth_107 : decode b_M_worth 107 = .ok (.aload_n 0, 1) := by decide +kernel
theorem d_M_worth_108 : decode b_M_worth 108 = .ok (.getfield 85, 3) := by decide +kernel
theorem d_M_worth_111 : decode b_M_worth 111 = .ok (.if_icmp .ge 32, 3) := by decide +kernel
theorem d_M_worth_114 : decode b_M_worth 114 = .ok (.iload_n 1, 1) := by decide +kernel
theorem d_M_worth_115 : decode b_M_worth 115 = .ok (.aload_n 0, 1) := by decide +kernel
theorem d_M_worth_116 : decode b_M_worth 116 = .ok (.getfield 71, 3) := by decide +kernel
theorem d_M_worth_119 : decode b_M_worth 119 = .ok (.iload_n 2, 1) := by decide +kernel
theorem d_M_worth_120 : decode b_M_worth 120 = .ok (.iaload, 1) := by decide +kernel
theorem d_M_worth_121 : decode b_M_worth 121 = .ok (.aload_n 0, 1) := by decide +kernel
theorem d_M_worth_122 : decode b_M_worth 122 = .ok (.getfield 28, 3) := by decide +kernel
theorem d_M_worth_125 : decode b_M_worth 125 = .ok (.iload_n 2, 1) := by decide +kernel
theorem d_M_worth_126 : decode b_M_worth 126 = .ok (.iaload, 1) := by decide +kernel
theorem d_M_worth_127 : decode b_M_worth 127 = .ok (.if_icmp .ne 7, 3) := by decide +kernel
theorem d_M_worth_130 : decode b_M_worth 130 = .ok (.iconst 3, 1) := by decide +kernel
theorem d_M_worth_131 : decode b_M_worth 131 = .ok (.goto 4, 3) := by decide +kernel
theorem d_M_worth_134 : decode b_M_worth 134 = .ok (.iconst 0, 1) := by decide +kernel
theorem d_M_worth_135 : decode b_M_worth 135 = .ok (.iadd, 1) := by decide +kernel
theorem d_M_worth_136 : decode b_M_worth 136 = .ok (.istore_n 1, 1) := by decide +kernel
theorem d_M_worth_137 : decode b_M_worth 137 = .ok (.iinc 2 1, 3) := by decide +kernel
theorem d_M_worth_140 : decode b_M_worth 140 = .ok (.goto (-34), 3) := by decide +kernel
theorem d_M_worth_143 : decode b_M_worth 143 = .ok (.iload_n 1, 1) := by decide +kernel
theorem d_M_worth_144 : decode b_M_worth 144 = .ok (.ireturn, 1) := by decide +kernel
theorem d_M_byRule_0 : decode b_M_byRule 0 = .ok (.iconst 0, 1) := by decide +kernel
theorem d_M_byRule_1 : decode b_M_byRule 1 = .ok (.istore_n 1, 1) := by decide +kernel
theorem d_M_byRule_2 : decode b_M_byRule 2 = .ok (.iload_n 1, 1) := by decide +kernel
theorem d_M_byRule_3 : decode b_M_byRule 3 = .ok (.aload_n 0, 1) := by decide +kernel
theorem d_M_byRule_4 : decode b_M_byRule 4 = .ok (.getfield 115, 3) := by decide +kernel
theorem d_M_byRule_7 : decode b_M_byRule 7 = .ok (.if_icmp .ge 32, 3) := by decide +kernel
theorem d_M_byRule_10 : decode b_M_byRule 10 = .ok (.aload_n 0, 1) := by decide +kernel
theorem d_M_byRule_11 : decode b_M_byRule 11 = .ok (.getfield 65, 3) := by decide +kernel
theorem d_M_byRule_14 : decode b_M_byRule 14 = .ok (.iload_n 1, 1) := by decide +kernel
theorem d_M_byRule_15 : decode b_M_byRule 15 = .ok (.aload_n 0, 1) := by decide +kernel
theorem d_M_byRule_16 : decode b_M_byRule 16 = .ok (.iload_n 1, 1) := by decide +kernel
theorem d_M_byRule_17 : decode b_M_byRule 17 = .ok (.invokevirtual 130, 3) := by decide +kernel
theorem d_M_byRule_20 : decode b_M_byRule 20 = .ok (.iastore, 1) := by decide +kernel
theorem d_M_byRule_21 : decode b_M_byRule 21 = .ok (.aload_n 0, 1) := by decide +kernel
theorem d_M_byRule_22 : decode b_M_byRule 22 = .ok (.getfield 68, 3) := by decide +kernel
theorem d_M_byRule_25 : decode b_M_byRule 25 = .ok (.iload_n 1, 1) := by decide +kernel
theorem d_M_byRule_26 : decode b_M_byRule 26 = .ok (.aload_n 0, 1) := by decide +kernel
theorem d_M_byRule_27 : decode b_M_byRule 27 = .ok (.getfield 65, 3) := by decide +kernel
theorem d_M_byRule_30 : decode b_M_byRule 30 = .ok (.iload_n 1, 1) := by decide +kernel
theorem d_M_byRule_31 : decode b_M_byRule 31 = .ok (.iaload, 1) := by decide +kernel
theorem d_M_byRule_32 : decode b_M_byRule 32 = .ok (.iastore, 1) := by decide +kernel
theorem d_M_byRule_33 : decode b_M_byRule 33 = .ok (.iinc 1 1, 3) := by decide +kernel
theorem d_M_byRule_36 : decode b_M_byRule 36 = .ok (.goto (-34), 3) := by decide +kernel
theorem d_M_byRule_39 : decode b_M_byRule 39 = .ok (.return_, 1) := by decide +kernel
theorem d_M_savedNow_0 : decode b_M_savedNow 0 = .ok (.iconst 0, 1) := by decide +kernel
theorem d_M_savedNow_1 : decode b_M_savedNow 1 = .ok (.istore_n 1, 1) := by decide +kernel
theorem d_M_savedNow_2 : decode b_M_savedNow 2 = .ok (.iconst 0, 1) := by decide +kernel
theorem d_M_savedNow_3 : decode b_M_savedNow 3 = .ok (.istore_n 2, 1) := by decide +kernel
theorem d_M_savedNow_4 : decode b_M_savedNow 4 = .ok (.iload_n 2, 1) := by decide +kernel
theorem d_M_savedNow_5 : decode b_M_savedNow 5 = .ok (.aload_n 0, 1) := by decide +kernel
theorem d_M_savedNow_6 : decode b_M_savedNow 6 = .ok (.getfield 92, 3) := by decide +kernel
theorem d_M_savedNow_9 : decode b_M_savedNow 9 = .ok (.if_icmp .ge 45, 3) := by decide +kernel
theorem d_M_savedNow_12 : decode b_M_savedNow 12 = .ok (.iload_n 1, 1) := by decide +kernel
theorem d_M_savedNow_13 : decode b_M_savedNow 13 = .ok (.iconst 2, 1) := by decide +kernel
theorem d_M_savedNow_14 : decode b_M_savedNow 14 = .ok (.aload_n 0, 1) := by decide +kernel
theorem d_M_savedNow_15 : decode b_M_savedNow 15 = .ok (.getfield 56, 3) := by decide +kernel
theorem d_M_savedNow_18 : decode b_M_savedNow 18 = .ok (.iload_n 2, 1) := by decide +kernel
theorem d_M_savedNow_19 : decode b_M_savedNow 19 = .ok (.iaload, 1) := by decide +kernel
theorem d_M_savedNow_20 : decode b_M_savedNow 20 = .ok (.imul, 1) := by decide +kernel
theorem d_M_savedNow_21 : decode b_M_savedNow 21 = .ok (.aload_n 0, 1) := by decide +kernel
theorem d_M_savedNow_22 : decode b_M_savedNow 22 = .ok (.getfield 56, 3) := by decide +kernel
theorem d_M_savedNow_25 : decode b_M_savedNow 25 = .ok (.iload_n 2, 1) := by decide +kernel
theorem d_M_savedNow_26 : decode b_M_savedNow 26 = .ok (.iaload, 1) := by decide +kernel
theorem d_M_savedNow_27 : decode b_M_savedNow 27 = .ok (.aload_n 0, 1) := by decide +kernel
theorem d_M_savedNow_28 : decode b_M_savedNow 28 = .ok (.aload_n 0, 1) := by decide +kernel
theorem d_M_savedNow_29 : decode b_M_savedNow 29 = .ok (.getfield 50, 3) := by decide +kernel
theorem d_M_savedNow_32 : decode b_M_savedNow 32 = .ok (.iload_n 2, 1) := by decide +kernel
theorem d_M_savedNow_33 : decode b_M_savedNow 33 = .ok (.iaload, 1) := by decide +kernel
theorem d_M_savedNow_34 : decode b_M_savedNow 34 = .ok (.invokevirtual 124, 3) := by decide +kernel
theorem d_M_savedNow_37 : decode b_M_savedNow 37 = .ok (.if_icmp .ne 7, 3) := by decide +kernel
theorem d_M_savedNow_40 : decode b_M_savedNow 40 = .ok (.iconst 1, 1) := by decide +kernel
theorem d_M_savedNow_41 : decode b_M_savedNow 41 = .ok (.goto 4, 3) := by decide +kernel
theorem d_M_savedNow_44 : decode b_M_savedNow 44 = .ok (.iconst 0, 1) := by decide +kernel
theorem d_M_savedNow_45 : decode b_M_savedNow 45 = .ok (.iadd, 1) := by decide +kernel
theorem d_M_savedNow_46 : decode b_M_savedNow 46 = .ok (.iadd, 1) := by decide +kernel
theorem d_M_savedNow_47 : decode b_M_savedNow 47 = .ok (.istore_n 1, 1) := by decide +kernel
theorem d_M_savedNow_48 : decode b_M_savedNow 48 = .ok (.iinc 2 1, 3) := by decide +kernel
theorem d_M_savedNow_51 : decode b_M_savedNow 51 = .ok (.goto (-47), 3) := by decide +kernel
theorem d_M_savedNow_54 : decode b_M_savedNow 54 = .ok (.iconst 0, 1) := by decide +kernel
theorem d_M_savedNow_55 : decode b_M_savedNow 55 = .ok (.istore_n 2, 1) := by decide +kernel
theorem d_M_savedNow_56 : decode b_M_savedNow 56 = .ok (.iload_n 2, 1) := by decide +kernel
theorem d_M_savedNow_57 : decode b_M_savedNow 57 = .ok (.aload_n 0, 1) := by decide +kernel
theorem d_M_savedNow_58 : decode b_M_savedNow 58 = .ok (.getfield 85, 3) := by decide +kernel
theorem d_M_savedNow_61 : decode b_M_savedNow 61 = .ok (.if_icmp .ge 31, 3) := by decide +kernel
theorem d_M_savedNow_64 : decode b_M_savedNow 64 = .ok (.iload_n 1, 1) := by decide +kernel
theorem d_M_savedNow_65 : decode b_M_savedNow 65 = .ok (.aload_n 0, 1) := by decide +kernel
theorem d_M_savedNow_66 : decode b_M_savedNow 66 = .ok (.iload_n 2, 1) := by decide +kernel
theorem d_M_savedNow_67 : decode b_M_savedNow 67 = .ok (.invokevirtual 153, 3) := by decide +kernel
theorem d_M_savedNow_70 : decode b_M_savedNow 70 = .ok (.aload_n 0, 1) := by decide +kernel
theorem d_M_savedNow_71 : decode b_M_savedNow 71 = .ok (.getfield 28, 3) := by decide +kernel
theorem d_M_savedNow_74 : decode b_M_savedNow 74 = .ok (.iload_n 2, 1) := by decide +kernel
theorem d_M_savedNow_75 : decode b_M_savedNow 75 = .ok (.iaload, 1) := by decide +kernel
theorem d_M_savedNow_76 : decode b_M_savedNow 76 = .ok (.if_icmp .ne 7, 3) := by decide +kernel
theorem d_M_savedNow_79 : decode b_M_savedNow 79 = .ok (.iconst 3, 1) := by decide +kernel
theorem d_M_savedNow_80 : decode b_M_savedNow 80 = .ok (.goto 4, 3) := by decide +kernel
theorem d_M_savedNow_83 : decode b_M_savedNow 83 = .ok (.iconst 0, 1) := by decide +kernel
theorem d_M_savedNow_84 : decode b_M_savedNow 84 = .ok (.iadd, 1) := by decide +kernel
theorem d_M_savedNow_85 : decode b_M_savedNow 85 = .ok (.istore_n 1, 1) := by decide +kernel
theorem d_M_savedNow_86 : decode b_M_savedNow 86 = .ok (.iinc 2 1, 3) := by decide +kernel
theorem d_M_savedNow_89 : decode b_M_savedNow 89 = .ok (.goto (-33), 3) := by decide +kernel
theorem d_M_savedNow_92 : decode b_M_savedNow 92 = .ok (.iload_n 1, 1) := by decide +kernel
theorem d_M_savedNow_93 : decode b_M_savedNow 93 = .ok (.ireturn, 1) := by decide +kernel
theorem d_M_hasGot_0 : decode b_M_hasGot 0 = .ok (.iconst 0, 1) := by decide +kernel
theorem d_M_hasGot_1 : decode b_M_hasGot 1 = .ok (.istore_n 2, 1) := by decide +kernel
theorem d_M_hasGot_2 : decode b_M_hasGot 2 = .ok (.iconst 0, 1) := by decide +kernel
