theorem d_D_init_0 : decode b_D_init 0 = .ok (.aload_n 0, 1) := by decide +kernel
theorem d_D_init_1 : decode b_D_init 1 = .ok (.invokespecial 3, 3) := by decide +kernel
theorem d_D_init_4 : decode b_D_init 4 = .ok (.aload_n 0, 1) := by decide +kernel
theorem d_D_init_5 : decode b_D_init 5 = .ok (.bipush 8, 2) := by decide +kernel
theorem d_D_init_7 : decode b_D_init 7 = .ok (.anewarray 9, 3) := by decide +kernel
theorem d_D_init_10 : decode b_D_init 10 = .ok (.putfield 11, 3) := by decide +kernel
theorem d_D_init_13 : decode b_D_init 13 = .ok (.iconst 0, 1) := by decide +kernel
theorem d_D_init_14 : decode b_D_init 14 = .ok (.istore_n 1, 1) := by decide +kernel
theorem d_D_init_15 : decode b_D_init 15 = .ok (.iload_n 1, 1) := by decide +kernel
theorem d_D_init_16 : decode b_D_init 16 = .ok (.bipush 8, 2) := by decide +kernel
theorem d_D_init_18 : decode b_D_init 18 = .ok (.if_icmp .ge 22, 3) := by decide +kernel
theorem d_D_init_21 : decode b_D_init 21 = .ok (.aload_n 0, 1) := by decide +kernel
theorem d_D_init_22 : decode b_D_init 22 = .ok (.getfield 11, 3) := by decide +kernel
theorem d_D_init_25 : decode b_D_init 25 = .ok (.iload_n 1, 1) := by decide +kernel
theorem d_D_init_26 : decode b_D_init 26 = .ok (.new 9, 3) := by decide +kernel
theorem d_D_init_29 : decode b_D_init 29 = .ok (.dup, 1) := by decide +kernel
theorem d_D_init_30 : decode b_D_init 30 = .ok (.invokespecial 15, 3) := by decide +kernel
theorem d_D_init_33 : decode b_D_init 33 = .ok (.aastore, 1) := by decide +kernel
theorem d_D_init_34 : decode b_D_init 34 = .ok (.iinc 1 1, 3) := by decide +kernel
theorem d_D_init_37 : decode b_D_init 37 = .ok (.goto (-22), 3) := by decide +kernel
theorem d_D_init_40 : decode b_D_init 40 = .ok (.aload_n 0, 1) := by decide +kernel
theorem d_D_init_41 : decode b_D_init 41 = .ok (.bipush 8, 2) := by decide +kernel
theorem d_D_init_43 : decode b_D_init 43 = .ok (.anewarray 16, 3) := by decide +kernel
theorem d_D_init_46 : decode b_D_init 46 = .ok (.putfield 18, 3) := by decide +kernel
theorem d_D_init_49 : decode b_D_init 49 = .ok (.iconst 0, 1) := by decide +kernel
theorem d_D_init_50 : decode b_D_init 50 = .ok (.istore_n 1, 1) := by decide +kernel
theorem d_D_init_51 : decode b_D_init 51 = .ok (.iload_n 1, 1) := by decide +kernel
theorem d_D_init_52 : decode b_D_init 52 = .ok (.bipush 8, 2) := by decide +kernel
theorem d_D_init_54 : decode b_D_init 54 = .ok (.if_icmp .ge 22, 3) := by decide +kernel
theorem d_D_init_57 : decode b_D_init 57 = .ok (.aload_n 0, 1) := by decide +kernel
theorem d_D_init_58 : decode b_D_init 58 = .ok (.getfield 18, 3) := by decide +kernel
theorem d_D_init_61 : decode b_D_init 61 = .ok (.iload_n 1, 1) := by decide +kernel
theorem d_D_init_62 : decode b_D_init 62 = .ok (.new 16, 3) := by decide +kernel
theorem d_D_init_65 : decode b_D_init 65 = .ok (.dup, 1) := by decide +kernel
theorem d_D_init_66 : decode b_D_init 66 = .ok (.invokespecial 22, 3) := by decide +kernel
theorem d_D_init_69 : decode b_D_init 69 = .ok (.aastore, 1) := by decide +kernel
theorem d_D_init_70 : decode b_D_init 70 = .ok (.iinc 1 1, 3) := by decide +kernel
theorem d_D_init_73 : decode b_D_init 73 = .ok (.goto (-22), 3) := by decide +kernel
theorem d_D_init_76 : decode b_D_init 76 = .ok (.aload_n 0, 1) := by decide +kernel
theorem d_D_init_77 : decode b_D_init 77 = .ok (.iconst 4, 1) := by decide +kernel
theorem d_D_init_78 : decode b_D_init 78 = .ok (.newarray .boolean, 2) := by decide +kernel
theorem d_D_init_80 : decode b_D_init 80 = .ok (.putfield 23, 3) := by decide +kernel
theorem d_D_init_83 : decode b_D_init 83 = .ok (.aload_n 0, 1) := by decide +kernel
theorem d_D_init_84 : decode b_D_init 84 = .ok (.bipush 8, 2) := by decide +kernel
theorem d_D_init_86 : decode b_D_init 86 = .ok (.newarray .int, 2) := by decide +kernel
theorem d_D_init_88 : decode b_D_init 88 = .ok (.putfield 27, 3) := by decide +kernel
theorem d_D_init_91 : decode b_D_init 91 = .ok (.aload_n 0, 1) := by decide +kernel
theorem d_D_init_92 : decode b_D_init 92 = .ok (.bipush 8, 2) := by decide +kernel
theorem d_D_init_94 : decode b_D_init 94 = .ok (.newarray .int, 2) := by decide +kernel
theorem d_D_init_96 : decode b_D_init 96 = .ok (.putfield 31, 3) := by decide +kernel
theorem d_D_init_99 : decode b_D_init 99 = .ok (.aload_n 0, 1) := by decide +kernel
theorem d_D_init_100 : decode b_D_init 100 = .ok (.new 34, 3) := by decide +kernel
theorem d_D_init_103 : decode b_D_init 103 = .ok (.dup, 1) := by decide +kernel
theorem d_D_init_104 : decode b_D_init 104 = .ok (.invokespecial 36, 3) := by decide +kernel
theorem d_D_init_107 : decode b_D_init 107 = .ok (.putfield 37, 3) := by decide +kernel
theorem d_D_init_110 : decode b_D_init 110 = .ok (.aload_n 0, 1) := by decide +kernel
theorem d_D_init_111 : decode b_D_init 111 = .ok (.new 41, 3) := by decide +kernel
theorem d_D_init_114 : decode b_D_init 114 = .ok (.dup, 1) := by decide +kernel
theorem d_D_init_115 : decode b_D_init 115 = .ok (.invokespecial 43, 3) := by decide +kernel
theorem d_D_init_118 : decode b_D_init 118 = .ok (.putfield 44, 3) := by decide +kernel
theorem d_D_init_121 : decode b_D_init 121 = .ok (.aload_n 0, 1) := by decide +kernel
theorem d_D_init_122 : decode b_D_init 122 = .ok (.iconst 0, 1) := by decide +kernel
theorem d_D_init_123 : decode b_D_init 123 = .ok (.putfield 48, 3) := by decide +kernel
theorem d_D_init_126 : decode b_D_init 126 = .ok (.aload_n 0, 1) := by decide +kernel
theorem d_D_init_127 : decode b_D_init 127 = .ok (.iconst 0, 1) := by decide +kernel
theorem d_D_init_128 : decode b_D_init 128 = .ok (.putfield 52, 3) := by decide +kernel
theorem d_D_init_131 : decode b_D_init 131 = .ok (.aload_n 0, 1) := by decide +kernel
theorem d_D_init_132 : decode b_D_init 132 = .ok (.iconst 0, 1) := by decide +kernel
theorem d_D_init_133 : decode b_D_init 133 = .ok (.putfield 55, 3) := by decide +kernel
theorem d_D_init_136 : decode b_D_init 136 = .ok (.aload_n 0, 1) := by decide +kernel
theorem d_D_init_137 : decode b_D_init 137 = .ok (.iconst 0, 1) := by decide +kernel
theorem d_D_init_138 : decode b_D_init 138 = .ok (.putfield 59, 3) := by decide +kernel
theorem d_D_init_141 : decode b_D_init 141 = .ok (.return_, 1) := by decide +kernel
theorem d_A_init_0 : decode b_A_init 0 = .ok (.aload_n 0, 1) := by decide +kernel
theorem d_A_init_1 : decode b_A_init 1 = .ok (.invokespecial 1, 3) := by decide +kernel
theorem d_A_init_4 : decode b_A_init 4 = .ok (.return_, 1) := by decide +kernel
theorem d_O_init_0 : decode b_O_init 0 = .ok (.aload_n 0, 1) := by decide +kernel
theorem d_O_init_1 : decode b_O_init 1 = .ok (.invokespecial 1, 3) := by decide +kernel
theorem d_O_init_4 : decode b_O_init 4 = .ok (.return_, 1) := by decide +kernel
theorem d_S_init_0 : decode b_S_init 0 = .ok (.aload_n 0, 1) := by decide +kernel
theorem d_S_init_1 : decode b_S_init 1 = .ok (.invokespecial 3, 3) := by decide +kernel
theorem d_S_init_4 : decode b_S_init 4 = .ok (.aload_n 0, 1) := by decide +kernel
theorem d_S_init_5 : decode b_S_init 5 = .ok (.bipush 64, 2) := by decide +kernel
theorem d_S_init_7 : decode b_S_init 7 = .ok (.newarray .int, 2) := by decide +kernel
theorem d_S_init_9 : decode b_S_init 9 = .ok (.putfield 9, 3) := by decide +kernel
theorem d_S_init_12 : decode b_S_init 12 = .ok (.aload_n 0, 1) := by decide +kernel
theorem d_S_init_13 : decode b_S_init 13 = .ok (.bipush 64, 2) := by decide +kernel
theorem d_S_init_15 : decode b_S_init 15 = .ok (.newarray .int, 2) := by decide +kernel
theorem d_S_init_17 : decode b_S_init 17 = .ok (.putfield 15, 3) := by decide +kernel
theorem d_S_init_20 : decode b_S_init 20 = .ok (.aload_n 0, 1) := by decide +kernel
theorem d_S_init_21 : decode b_S_init 21 = .ok (.bipush 8, 2) := by decide +kernel
theorem d_S_init_23 : decode b_S_init 23 = .ok (.newarray .int, 2) := by decide +kernel
theorem d_S_init_25 : decode b_S_init 25 = .ok (.putfield 18, 3) := by decide +kernel
theorem d_S_init_28 : decode b_S_init 28 = .ok (.aload_n 0, 1) := by decide +kernel
theorem d_S_init_29 : decode b_S_init 29 = .ok (.bipush 8, 2) := by decide +kernel
theorem d_S_init_31 : decode b_S_init 31 = .ok (.newarray .int, 2) := by decide +kernel
theorem d_S_init_33 : decode b_S_init 33 = .ok (.putfield 21, 3) := by decide +kernel
theorem d_S_init_36 : decode b_S_init 36 = .ok (.aload_n 0, 1) := by decide +kernel
theorem d_S_init_37 : decode b_S_init 37 = .ok (.bipush 8, 2) := by decide +kernel
theorem d_S_init_39 : decode b_S_init 39 = .ok (.newarray .int, 2) := by decide +kernel
theorem d_S_init_41 : decode b_S_init 41 = .ok (.putfield 24, 3) := by decide +kernel
theorem d_S_init_44 : decode b_S_init 44 = .ok (.aload_n 0, 1) := by decide +kernel
theorem d_S_init_45 : decode b_S_init 45 = .ok (.bipush 8, 2) := by decide +kernel
theorem d_S_init_47 : decode b_S_init 47 = .ok (.newarray .int, 2) := by decide +kernel
theorem d_S_init_49 : decode b_S_init 49 = .ok (.putfield 27, 3) := by decide +kernel
theorem d_S_init_52 : decode b_S_init 52 = .ok (.aload_n 0, 1) := by decide +kernel
theorem d_S_init_53 : decode b_S_init 53 = .ok (.bipush 64, 2) := by decide +kernel
theorem d_S_init_55 : decode b_S_init 55 = .ok (.newarray .int, 2) := by decide +kernel
theorem d_S_init_57 : decode b_S_init 57 = .ok (.putfield 30, 3) := by decide +kernel
theorem d_S_init_60 : decode b_S_init 60 = .ok (.aload_n 0, 1) := by decide +kernel
theorem d_S_init_61 : decode b_S_init 61 = .ok (.bipush 64, 2) := by decide +kernel
theorem d_S_init_63 : decode b_S_init 63 = .ok (.newarray .int, 2) := by decide +kernel
theorem d_S_init_65 : decode b_S_init 65 = .ok (.putfield 33, 3) := by decide +kernel
theorem d_S_init_68 : decode b_S_init 68 = .ok (.aload_n 0, 1) := by decide +kernel
theorem d_S_init_69 : decode b_S_init 69 = .ok (.bipush 64, 2) := by decide +kernel
theorem d_S_init_71 : decode b_S_init 71 = .ok (.newarray .int, 2) := by decide +kernel
theorem d_S_init_73 : decode b_S_init 73 = .ok (.putfield 36, 3) := by decide +kernel
theorem d_S_init_76 : decode b_S_init 76 = .ok (.return_, 1) := by decide +kernel
theorem d_P_init_0 : decode b_P_init 0 = .ok (.aload_n 0, 1) := by decide +kernel
theorem d_P_init_1 : decode b_P_init 1 = .ok (.invokespecial 3, 3) := by decide +kernel
theorem d_P_init_4 : decode b_P_init 4 = .ok (.aload_n 0, 1) := by decide +kernel
theorem d_P_init_5 : decode b_P_init 5 = .ok (.bipush 64, 2) := by decide +kernel
theorem d_P_init_7 : decode b_P_init 7 = .ok (.newarray .int, 2) := by decide +kernel
theorem d_P_init_9 : decode b_P_init 9 = .ok (.putfield 9, 3) := by decide +kernel
theorem d_P_init_12 : decode b_P_init 12 = .ok (.aload_n 0, 1) := by decide +kernel
theorem d_P_init_13 : decode b_P_init 13 = .ok (.bipush 64, 2) := by decide +kernel
theorem d_P_init_15 : decode b_P_init 15 = .ok (.newarray .int, 2) := by decide +kernel
theorem d_P_init_17 : decode b_P_init 17 = .ok (.putfield 15, 3) := by decide +kernel
theorem d_P_init_20 : decode b_P_init 20 = .ok (.aload_n 0, 1) := by decide +kernel
theorem d_P_init_21 : decode b_P_init 21 = .ok (.bipush 64, 2) := by decide +kernel
theorem d_P_init_23 : decode b_P_init 23 = .ok (.newarray .int, 2) := by decide +kernel
theorem d_P_init_25 : decode b_P_init 25 = .ok (.putfield 18, 3) := by decide +kernel
theorem d_P_init_28 : decode b_P_init 28 = .ok (.return_, 1) := by decide +kernel
theorem d_D_exact_0 : decode b_D_exact 0 = .ok (.aload_n 0, 1) := by decide +kernel
theorem d_D_exact_1 : decode b_D_exact 1 = .ok (.getfield 55, 3) := by decide +kernel
theorem d_D_exact_4 : decode b_D_exact 4 = .ok (.ireturn, 1) := by decide +kernel
theorem d_D_bound_0 : decode b_D_bound 0 = .ok (.iconst 0, 1) := by decide +kernel
theorem d_D_bound_1 : decode b_D_bound 1 = .ok (.istore_n 1, 1) := by decide +kernel
theorem d_D_bound_2 : decode b_D_bound 2 = .ok (.iconst 0, 1) := by decide +kernel
theorem d_D_bound_3 : decode b_D_bound 3 = .ok (.istore_n 2, 1) := by decide +kernel
theorem d_D_bound_4 : decode b_D_bound 4 = .ok (.iload_n 2, 1) := by decide +kernel
theorem d_D_bound_5 : decode b_D_bound 5 = .ok (.aload_n 0, 1) := by decide +kernel
theorem d_D_bound_6 : decode b_D_bound 6 = .ok (.getfield 52, 3) := by decide +kernel
theorem d_D_bound_9 : decode b_D_bound 9 = .ok (.if_icmp .ge 33, 3) := by decide +kernel
theorem d_D_bound_12 : decode b_D_bound 12 = .ok (.aload_n 0, 1) := by decide +kernel
theorem d_D_bound_13 : decode b_D_bound 13 = .ok (.iload_n 2, 1) := by decide +kernel
theorem d_D_bound_14 : decode b_D_bound 14 = .ok (.invokevirtual 142, 3) := by decide +kernel
theorem d_D_bound_17 : decode b_D_bound 17 = .ok (.ifCond .le 19, 3) := by decide +kernel
theorem d_D_bound_20 : decode b_D_bound 20 = .ok (.iload_n 1, 1) := by decide +kernel
theorem d_D_bound_21 : decode b_D_bound 21 = .ok (.iconst 2, 1) := by decide +kernel
theorem d_D_bound_22 : decode b_D_bound 22 = .ok (.aload_n 0, 1) := by decide +kernel
theorem d_D_bound_23 : decode b_D_bound 23 = .ok (.getfield 18, 3) := by decide +kernel
theorem d_D_bound_26 : decode b_D_bound 26 = .ok (.iload_n 2, 1) := by decide +kernel
theorem d_D_bound_27 : decode b_D_bound 27 = .ok (.aaload, 1) := by decide +kernel
theorem d_D_bound_28 : decode b_D_bound 28 = .ok (.getfield 83, 3) := by decide +kernel
theorem d_D_bound_31 : decode b_D_bound 31 = .ok (.imul, 1) := by decide +kernel
theorem d_D_bound_32 : decode b_D_bound 32 = .ok (.iconst 3, 1) := by decide +kernel
theorem d_D_bound_33 : decode b_D_bound 33 = .ok (.iadd, 1) := by decide +kernel
theorem d_D_bound_34 : decode b_D_bound 34 = .ok (.iadd, 1) := by decide +kernel
theorem d_D_bound_35 : decode b_D_bound 35 = .ok (.istore_n 1, 1) := by decide +kernel
theorem d_D_bound_36 : decode b_D_bound 36 = .ok (.iinc 2 1, 3) := by decide +kernel
theorem d_D_bound_39 : decode b_D_bound 39 = .ok (.goto (-35), 3) := by decide +kernel
theorem d_D_bound_42 : decode b_D_bound 42 = .ok (.iconst 0, 1) := by decide +kernel
theorem d_D_bound_43 : decode b_D_bound 43 = .ok (.istore_n 2, 1) := by decide +kernel
theorem d_D_bound_44 : decode b_D_bound 44 = .ok (.iload_n 2, 1) := by decide +kernel
theorem d_D_bound_45 : decode b_D_bound 45 = .ok (.aload_n 0, 1) := by decide +kernel
theorem d_D_bound_46 : decode b_D_bound 46 = .ok (.getfield 48, 3) := by decide +kernel
theorem d_D_bound_49 : decode b_D_bound 49 = .ok (.if_icmp .ge 20, 3) := by decide +kernel
theorem d_D_bound_52 : decode b_D_bound 52 = .ok (.aload_n 0, 1) := by decide +kernel
theorem d_D_bound_53 : decode b_D_bound 53 = .ok (.iload_n 2, 1) := by decide +kernel
theorem d_D_bound_54 : decode b_D_bound 54 = .ok (.invokevirtual 145, 3) := by decide +kernel
theorem d_D_bound_57 : decode b_D_bound 57 = .ok (.ifCond .le 6, 3) := by decide +kernel
theorem d_D_bound_60 : decode b_D_bound 60 = .ok (.iinc 1 1, 3) := by decide +kernel
theorem d_D_bound_63 : decode b_D_bound 63 = .ok (.iinc 2 1, 3) := by decide +kernel
theorem d_D_bound_66 : decode b_D_bound 66 = .ok (.goto (-22), 3) := by decide +kernel
theorem d_D_bound_69 : decode b_D_bound 69 = .ok (.iload_n 1, 1) := by decide +kernel
theorem d_D_bound_70 : decode b_D_bound 70 = .ok (.ireturn, 1) := by decide +kernel
theorem d_D_arrivalsFor_0 : decode b_D_arrivalsFor 0 = .ok (.iconst 0, 1) := by decide +kernel
theorem d_D_arrivalsFor_1 : decode b_D_arrivalsFor 1 = .ok (.istore_n 2, 1) := by decide +kernel
theorem d_D_arrivalsFor_2 : decode b_D_arrivalsFor 2 = .ok (.iconst 0, 1) := by decide +kernel
theorem d_D_arrivalsFor_3 : decode b_D_arrivalsFor 3 = .ok (.istore_n 3, 1) := by decide +kernel
theorem d_D_arrivalsFor_4 : decode b_D_arrivalsFor 4 = .ok (.iload_n 3, 1) := by decide +kernel
theorem d_D_arrivalsFor_5 : decode b_D_arrivalsFor 5 = .ok (.aload_n 0, 1) := by decide +kernel
theorem d_D_arrivalsFor_6 : decode b_D_arrivalsFor 6 = .ok (.getfield 48, 3) := by decide +kernel
theorem d_D_arrivalsFor_9 : decode b_D_arrivalsFor 9 = .ok (.if_icmp .ge 21, 3) := by decide +kernel
theorem d_D_arrivalsFor_12 : decode b_D_arrivalsFor 12 = .ok (.aload_n 0, 1) := by decide +kernel
theorem d_D_arrivalsFor_13 : decode b_D_arrivalsFor 13 = .ok (.iload_n 3, 1) := by decide +kernel
theorem d_D_arrivalsFor_14 : decode b_D_arrivalsFor 14 = .ok (.iload_n 1, 1) := by decide +kernel
theorem d_D_arrivalsFor_15 : decode b_D_arrivalsFor 15 = .ok (.invokevirtual 117, 3) := by decide +kernel
theorem d_D_arrivalsFor_18 : decode b_D_arrivalsFor 18 = .ok (.ifCond .eq 6, 3) := by decide +kernel
theorem d_D_arrivalsFor_21 : decode b_D_arrivalsFor 21 = .ok (.iinc 2 1, 3) := by decide +kernel
theorem d_D_arrivalsFor_24 : decode b_D_arrivalsFor 24 = .ok (.iinc 3 1, 3) := by decide +kernel
theorem d_D_arrivalsFor_27 : decode b_D_arrivalsFor 27 = .ok (.goto (-23), 3) := by decide +kernel
theorem d_D_arrivalsFor_30 : decode b_D_arrivalsFor 30 = .ok (.iload_n 2, 1) := by decide +kernel
theorem d_D_arrivalsFor_31 : decode b_D_arrivalsFor 31 = .ok (.ireturn, 1) := by decide +kernel
theorem d_D_mayServe_0 : decode b_D_mayServe 0 = .ok (.aload_n 0, 1) := by decide +kernel
theorem d_D_mayServe_1 : decode b_D_mayServe 1 = .ok (.iload_n 1, 1) := by decide +kernel
theorem d_D_mayServe_2 : decode b_D_mayServe 2 = .ok (.iload_n 2, 1) := by decide +kernel
theorem d_D_mayServe_3 : decode b_D_mayServe 3 = .ok (.invokevirtual 209, 3) := by decide +kernel
theorem d_D_mayServe_6 : decode b_D_mayServe 6 = .ok (.ifCond .ne 7, 3) := by decide +kernel
theorem d_D_mayServe_9 : decode b_D_mayServe 9 = .ok (.iconst 1, 1) := by decide +kernel
theorem d_D_mayServe_10 : decode b_D_mayServe 10 = .ok (.goto 4, 3) := by decide +kernel
theorem d_D_mayServe_13 : decode b_D_mayServe 13 = .ok (.iconst 0, 1) := by decide +kernel
theorem d_D_mayServe_14 : decode b_D_mayServe 14 = .ok (.ireturn, 1) := by decide +kernel
theorem d_D_obstacle_0 : decode b_D_obstacle 0 = .ok (.aload_n 0, 1) := by decide +kernel
theorem d_D_obstacle_1 : decode b_D_obstacle 1 = .ok (.getfield 11, 3) := by decide +kernel
theorem d_D_obstacle_4 : decode b_D_obstacle 4 = .ok (.iload_n 1, 1) := by decide +kernel
theorem d_D_obstacle_5 : decode b_D_obstacle 5 = .ok (.aaload, 1) := by decide +kernel
theorem d_D_obstacle_6 : decode b_D_obstacle 6 = .ok (.astore_n 3, 1) := by decide +kernel
theorem d_D_obstacle_7 : decode b_D_obstacle 7 = .ok (.aload_n 0, 1) := by decide +kernel
theorem d_D_obstacle_8 : decode b_D_obstacle 8 = .ok (.getfield 18, 3) := by decide +kernel
theorem d_D_obstacle_11 : decode b_D_obstacle 11 = .ok (.iload_n 2, 1) := by decide +kernel
theorem d_D_obstacle_12 : decode b_D_obstacle 12 = .ok (.aaload, 1) := by decide +kernel
theorem d_D_obstacle_13 : decode b_D_obstacle 13 = .ok (.astore 4, 2) := by decide +kernel
theorem d_D_obstacle_15 : decode b_D_obstacle 15 = .ok (.aload_n 3, 1) := by decide +kernel
theorem d_D_obstacle_16 : decode b_D_obstacle 16 = .ok (.getfield 70, 3) := by decide +kernel
theorem d_D_obstacle_19 : decode b_D_obstacle 19 = .ok (.aload 4, 2) := by decide +kernel
theorem d_D_obstacle_21 : decode b_D_obstacle 21 = .ok (.getfield 82, 3) := by decide +kernel
theorem d_D_obstacle_24 : decode b_D_obstacle 24 = .ok (.if_icmp .eq 5, 3) := by decide +kernel
theorem d_D_obstacle_27 : decode b_D_obstacle 27 = .ok (.iconst 1, 1) := by decide +kernel
theorem d_D_obstacle_28 : decode b_D_obstacle 28 = .ok (.ireturn, 1) := by decide +kernel
theorem d_D_obstacle_29 : decode b_D_obstacle 29 = .ok (.aload_n 3, 1) := by decide +kernel
theorem d_D_obstacle_30 : decode b_D_obstacle 30 = .ok (.getfield 76, 3) := by decide +kernel
theorem d_D_obstacle_33 : decode b_D_obstacle 33 = .ok (.aload 4, 2) := by decide +kernel
theorem d_D_obstacle_35 : decode b_D_obstacle 35 = .ok (.getfield 90, 3) := by decide +kernel
theorem d_D_obstacle_38 : decode b_D_obstacle 38 = .ok (.if_icmp .le 5, 3) := by decide +kernel
theorem d_D_obstacle_41 : decode b_D_obstacle 41 = .ok (.iconst 2, 1) := by decide +kernel
theorem d_D_obstacle_42 : decode b_D_obstacle 42 = .ok (.ireturn, 1) := by decide +kernel
theorem d_D_obstacle_43 : decode b_D_obstacle 43 = .ok (.aload 4, 2) := by decide +kernel
theorem d_D_obstacle_45 : decode b_D_obstacle 45 = .ok (.aload_n 3, 1) := by decide +kernel
theorem d_D_obstacle_46 : decode b_D_obstacle 46 = .ok (.getfield 73, 3) := by decide +kernel
theorem d_D_obstacle_49 : decode b_D_obstacle 49 = .ok (.invokevirtual 203, 3) := by decide +kernel
theorem d_D_obstacle_52 : decode b_D_obstacle 52 = .ok (.ifCond .ne 5, 3) := by decide +kernel
theorem d_D_obstacle_55 : decode b_D_obstacle 55 = .ok (.iconst 3, 1) := by decide +kernel
theorem d_D_obstacle_56 : decode b_D_obstacle 56 = .ok (.ireturn, 1) := by decide +kernel
theorem d_D_obstacle_57 : decode b_D_obstacle 57 = .ok (.aload_n 3, 1) := by decide +kernel
theorem d_D_obstacle_58 : decode b_D_obstacle 58 = .ok (.iload_n 2, 1) := by decide +kernel
theorem d_D_obstacle_59 : decode b_D_obstacle 59 = .ok (.invokevirtual 206, 3) := by decide +kernel
theorem d_D_obstacle_62 : decode b_D_obstacle 62 = .ok (.ifCond .eq 5, 3) := by decide +kernel
theorem d_D_obstacle_65 : decode b_D_obstacle 65 = .ok (.iconst 4, 1) := by decide +kernel
theorem d_D_obstacle_66 : decode b_D_obstacle 66 = .ok (.ireturn, 1) := by decide +kernel
theorem d_D_obstacle_67 : decode b_D_obstacle 67 = .ok (.aload_n 0, 1) := by decide +kernel
theorem d_D_obstacle_68 : decode b_D_obstacle 68 = .ok (.getfield 23, 3) := by decide +kernel
theorem d_D_obstacle_71 : decode b_D_obstacle 71 = .ok (.aload 4, 2) := by decide +kernel
theorem d_D_obstacle_73 : decode b_D_obstacle 73 = .ok (.getfield 87, 3) := by decide +kernel
theorem d_D_obstacle_76 : decode b_D_obstacle 76 = .ok (.baload, 1) := by decide +kernel
theorem d_D_obstacle_77 : decode b_D_obstacle 77 = .ok (.ifCond .eq 7, 3) := by decide +kernel
theorem d_D_obstacle_80 : decode b_D_obstacle 80 = .ok (.iconst 5, 1) := by decide +kernel
theorem d_D_obstacle_81 : decode b_D_obstacle 81 = .ok (.goto 4, 3) := by decide +kernel
theorem d_D_obstacle_84 : decode b_D_obstacle 84 = .ok (.iconst 0, 1) := by decide +kernel
theorem d_D_obstacle_85 : decode b_D_obstacle 85 = .ok (.ireturn, 1) := by decide +kernel
theorem d_O_takesLot_0 : decode b_O_takesLot 0 = .ok (.aload_n 0, 1) := by decide +kernel
theorem d_O_takesLot_1 : decode b_O_takesLot 1 = .ok (.getfield 7, 3) := by decide +kernel
theorem d_O_takesLot_4 : decode b_O_takesLot 4 = .ok (.iconst 1, 1) := by decide +kernel
theorem d_O_takesLot_5 : decode b_O_takesLot 5 = .ok (.iload_n 1, 1) := by decide +kernel
theorem d_O_takesLot_6 : decode b_O_takesLot 6 = .ok (.ishl, 1) := by decide +kernel
theorem d_O_takesLot_7 : decode b_O_takesLot 7 = .ok (.iand, 1) := by decide +kernel
theorem d_O_takesLot_8 : decode b_O_takesLot 8 = .ok (.ifCond .eq 7, 3) := by decide +kernel
theorem d_O_takesLot_11 : decode b_O_takesLot 11 = .ok (.iconst 1, 1) := by decide +kernel
theorem d_O_takesLot_12 : decode b_O_takesLot 12 = .ok (.goto 4, 3) := by decide +kernel
theorem d_O_takesLot_15 : decode b_O_takesLot 15 = .ok (.iconst 0, 1) := by decide +kernel
theorem d_O_takesLot_16 : decode b_O_takesLot 16 = .ok (.ireturn, 1) := by decide +kernel
theorem d_A_isBarredFor_0 : decode b_A_isBarredFor 0 = .ok (.aload_n 0, 1) := by decide +kernel
theorem d_A_isBarredFor_1 : decode b_A_isBarredFor 1 = .ok (.getfield 16, 3) := by decide +kernel
theorem d_A_isBarredFor_4 : decode b_A_isBarredFor 4 = .ok (.iconst 1, 1) := by decide +kernel
theorem d_A_isBarredFor_5 : decode b_A_isBarredFor 5 = .ok (.iload_n 1, 1) := by decide +kernel
theorem d_A_isBarredFor_6 : decode b_A_isBarredFor 6 = .ok (.ishl, 1) := by decide +kernel
theorem d_A_isBarredFor_7 : decode b_A_isBarredFor 7 = .ok (.iand, 1) := by decide +kernel
theorem d_A_isBarredFor_8 : decode b_A_isBarredFor 8 = .ok (.ifCond .eq 7, 3) := by decide +kernel
theorem d_A_isBarredFor_11 : decode b_A_isBarredFor 11 = .ok (.iconst 1, 1) := by decide +kernel
theorem d_A_isBarredFor_12 : decode b_A_isBarredFor 12 = .ok (.goto 4, 3) := by decide +kernel
theorem d_A_isBarredFor_15 : decode b_A_isBarredFor 15 = .ok (.iconst 0, 1) := by decide +kernel
theorem d_A_isBarredFor_16 : decode b_A_isBarredFor 16 = .ok (.ireturn, 1) := by decide +kernel
theorem d_D_ordersFor_0 : decode b_D_ordersFor 0 = .ok (.iconst 0, 1) := by decide +kernel
theorem d_D_ordersFor_1 : decode b_D_ordersFor 1 = .ok (.istore_n 2, 1) := by decide +kernel
theorem d_D_ordersFor_2 : decode b_D_ordersFor 2 = .ok (.iconst 0, 1) := by decide +kernel
theorem d_D_ordersFor_3 : decode b_D_ordersFor 3 = .ok (.istore_n 3, 1) := by decide +kernel
theorem d_D_ordersFor_4 : decode b_D_ordersFor 4 = .ok (.iload_n 3, 1) := by decide +kernel
theorem d_D_ordersFor_5 : decode b_D_ordersFor 5 = .ok (.aload_n 0, 1) := by decide +kernel
theorem d_D_ordersFor_6 : decode b_D_ordersFor 6 = .ok (.getfield 52, 3) := by decide +kernel
theorem d_D_ordersFor_9 : decode b_D_ordersFor 9 = .ok (.if_icmp .ge 21, 3) := by decide +kernel
theorem d_D_ordersFor_12 : decode b_D_ordersFor 12 = .ok (.aload_n 0, 1) := by decide +kernel
theorem d_D_ordersFor_13 : decode b_D_ordersFor 13 = .ok (.iload_n 1, 1) := by decide +kernel
theorem d_D_ordersFor_14 : decode b_D_ordersFor 14 = .ok (.iload_n 3, 1) := by decide +kernel
theorem d_D_ordersFor_15 : decode b_D_ordersFor 15 = .ok (.invokevirtual 117, 3) := by decide +kernel
theorem d_D_ordersFor_18 : decode b_D_ordersFor 18 = .ok (.ifCond .eq 6, 3) := by decide +kernel
theorem d_D_ordersFor_21 : decode b_D_ordersFor 21 = .ok (.iinc 2 1, 3) := by decide +kernel
theorem d_D_ordersFor_24 : decode b_D_ordersFor 24 = .ok (.iinc 3 1, 3) := by decide +kernel
theorem d_D_ordersFor_27 : decode b_D_ordersFor 27 = .ok (.goto (-23), 3) := by decide +kernel
theorem d_D_ordersFor_30 : decode b_D_ordersFor 30 = .ok (.iload_n 2, 1) := by decide +kernel
theorem d_D_ordersFor_31 : decode b_D_ordersFor 31 = .ok (.ireturn, 1) := by decide +kernel
theorem d_D_steps_0 : decode b_D_steps 0 = .ok (.aload_n 0, 1) := by decide +kernel
theorem d_D_steps_1 : decode b_D_steps 1 = .ok (.getfield 59, 3) := by decide +kernel
theorem d_D_steps_4 : decode b_D_steps 4 = .ok (.ireturn, 1) := by decide +kernel
theorem d_D_saved_0 : decode b_D_saved 0 = .ok (.aload_n 0, 1) := by decide +kernel
theorem d_D_saved_1 : decode b_D_saved 1 = .ok (.invokevirtual 138, 3) := by decide +kernel
theorem d_D_saved_4 : decode b_D_saved 4 = .ok (.ireturn, 1) := by decide +kernel
theorem d_D_touchesSaved_0 : decode b_D_touchesSaved 0 = .ok (.iconst 2, 1) := by decide +kernel
theorem d_D_touchesSaved_1 : decode b_D_touchesSaved 1 = .ok (.aload_n 0, 1) := by decide +kernel
theorem d_D_touchesSaved_2 : decode b_D_touchesSaved 2 = .ok (.getfield 44, 3) := by decide +kernel
theorem d_D_touchesSaved_5 : decode b_D_touchesSaved 5 = .ok (.invokevirtual 182, 3) := by decide +kernel
theorem d_D_touchesSaved_8 : decode b_D_touchesSaved 8 = .ok (.imul, 1) := by decide +kernel
theorem d_D_touchesSaved_9 : decode b_D_touchesSaved 9 = .ok (.istore_n 1, 1) := by decide +kernel
theorem d_D_touchesSaved_10 : decode b_D_touchesSaved 10 = .ok (.iconst 0, 1) := by decide +kernel
theorem d_D_touchesSaved_11 : decode b_D_touchesSaved 11 = .ok (.istore_n 2, 1) := by decide +kernel
theorem d_D_touchesSaved_12 : decode b_D_touchesSaved 12 = .ok (.iload_n 2, 1) := by decide +kernel
theorem d_D_touchesSaved_13 : decode b_D_touchesSaved 13 = .ok (.aload_n 0, 1) := by decide +kernel
theorem d_D_touchesSaved_14 : decode b_D_touchesSaved 14 = .ok (.getfield 52, 3) := by decide +kernel
theorem d_D_touchesSaved_17 : decode b_D_touchesSaved 17 = .ok (.if_icmp .ge 32, 3) := by decide +kernel
theorem d_D_touchesSaved_20 : decode b_D_touchesSaved 20 = .ok (.aload_n 0, 1) := by decide +kernel
theorem d_D_touchesSaved_21 : decode b_D_touchesSaved 21 = .ok (.getfield 44, 3) := by decide +kernel
theorem d_D_touchesSaved_24 : decode b_D_touchesSaved 24 = .ok (.iload_n 2, 1) := by decide +kernel
theorem d_D_touchesSaved_25 : decode b_D_touchesSaved 25 = .ok (.invokevirtual 176, 3) := by decide +kernel
theorem d_D_touchesSaved_28 : decode b_D_touchesSaved 28 = .ok (.aload_n 0, 1) := by decide +kernel
theorem d_D_touchesSaved_29 : decode b_D_touchesSaved 29 = .ok (.getfield 18, 3) := by decide +kernel
theorem d_D_touchesSaved_32 : decode b_D_touchesSaved 32 = .ok (.iload_n 2, 1) := by decide +kernel
theorem d_D_touchesSaved_33 : decode b_D_touchesSaved 33 = .ok (.aaload, 1) := by decide +kernel
theorem d_D_touchesSaved_34 : decode b_D_touchesSaved 34 = .ok (.getfield 83, 3) := by decide +kernel
theorem d_D_touchesSaved_37 : decode b_D_touchesSaved 37 = .ok (.if_icmp .ne 6, 3) := by decide +kernel
theorem d_D_touchesSaved_40 : decode b_D_touchesSaved 40 = .ok (.iinc 1 3, 3) := by decide +kernel
theorem d_D_touchesSaved_43 : decode b_D_touchesSaved 43 = .ok (.iinc 2 1, 3) := by decide +kernel
theorem d_D_touchesSaved_46 : decode b_D_touchesSaved 46 = .ok (.goto (-34), 3) := by decide +kernel
theorem d_D_touchesSaved_49 : decode b_D_touchesSaved 49 = .ok (.iconst 0, 1) := by decide +kernel
theorem d_D_touchesSaved_50 : decode b_D_touchesSaved 50 = .ok (.istore_n 2, 1) := by decide +kernel
theorem d_D_touchesSaved_51 : decode b_D_touchesSaved 51 = .ok (.iload_n 2, 1) := by decide +kernel
theorem d_D_touchesSaved_52 : decode b_D_touchesSaved 52 = .ok (.aload_n 0, 1) := by decide +kernel
theorem d_D_touchesSaved_53 : decode b_D_touchesSaved 53 = .ok (.getfield 44, 3) := by decide +kernel
theorem d_D_touchesSaved_56 : decode b_D_touchesSaved 56 = .ok (.getfield 148, 3) := by decide +kernel
theorem d_D_touchesSaved_59 : decode b_D_touchesSaved 59 = .ok (.if_icmp .ge 41, 3) := by decide +kernel
theorem d_D_touchesSaved_62 : decode b_D_touchesSaved 62 = .ok (.aload_n 0, 1) := by decide +kernel
theorem d_D_touchesSaved_63 : decode b_D_touchesSaved 63 = .ok (.getfield 44, 3) := by decide +kernel
theorem d_D_touchesSaved_66 : decode b_D_touchesSaved 66 = .ok (.getfield 157, 3) := by decide +kernel
theorem d_D_touchesSaved_69 : decode b_D_touchesSaved 69 = .ok (.iload_n 2, 1) := by decide +kernel
theorem d_D_touchesSaved_70 : decode b_D_touchesSaved 70 = .ok (.iaload, 1) := by decide +kernel
theorem d_D_touchesSaved_71 : decode b_D_touchesSaved 71 = .ok (.aload_n 0, 1) := by decide +kernel
theorem d_D_touchesSaved_72 : decode b_D_touchesSaved 72 = .ok (.getfield 11, 3) := by decide +kernel
theorem d_D_touchesSaved_75 : decode b_D_touchesSaved 75 = .ok (.aload_n 0, 1) := by decide +kernel
theorem d_D_touchesSaved_76 : decode b_D_touchesSaved 76 = .ok (.getfield 44, 3) := by decide +kernel
theorem d_D_touchesSaved_79 : decode b_D_touchesSaved 79 = .ok (.getfield 151, 3) := by decide +kernel
theorem d_D_touchesSaved_82 : decode b_D_touchesSaved 82 = .ok (.iload_n 2, 1) := by decide +kernel
theorem d_D_touchesSaved_83 : decode b_D_touchesSaved 83 = .ok (.iaload, 1) := by decide +kernel
theorem d_D_touchesSaved_84 : decode b_D_touchesSaved 84 = .ok (.aaload, 1) := by decide +kernel
theorem d_D_touchesSaved_85 : decode b_D_touchesSaved 85 = .ok (.invokevirtual 173, 3) := by decide +kernel
theorem d_D_touchesSaved_88 : decode b_D_touchesSaved 88 = .ok (.if_icmp .ne 6, 3) := by decide +kernel
theorem d_D_touchesSaved_91 : decode b_D_touchesSaved 91 = .ok (.iinc 1 1, 3) := by decide +kernel
theorem d_D_touchesSaved_94 : decode b_D_touchesSaved 94 = .ok (.iinc 2 1, 3) := by decide +kernel
theorem d_D_touchesSaved_97 : decode b_D_touchesSaved 97 = .ok (.goto (-46), 3) := by decide +kernel
theorem d_D_touchesSaved_100 : decode b_D_touchesSaved 100 = .ok (.iload_n 1, 1) := by decide +kernel
theorem d_D_touchesSaved_101 : decode b_D_touchesSaved 101 = .ok (.ireturn, 1) := by decide +kernel
theorem d_P_palletsInAll_0 : decode b_P_palletsInAll 0 = .ok (.iconst 0, 1) := by decide +kernel
theorem d_P_palletsInAll_1 : decode b_P_palletsInAll 1 = .ok (.istore_n 1, 1) := by decide +kernel
theorem d_P_palletsInAll_2 : decode b_P_palletsInAll 2 = .ok (.iconst 0, 1) := by decide +kernel
theorem d_P_palletsInAll_3 : decode b_P_palletsInAll 3 = .ok (.istore_n 2, 1) := by decide +kernel
theorem d_P_palletsInAll_4 : decode b_P_palletsInAll 4 = .ok (.iload_n 2, 1) := by decide +kernel
theorem d_P_palletsInAll_5 : decode b_P_palletsInAll 5 = .ok (.aload_n 0, 1) := by decide +kernel
theorem d_P_palletsInAll_6 : decode b_P_palletsInAll 6 = .ok (.getfield 21, 3) := by decide +kernel
theorem d_P_palletsInAll_9 : decode b_P_palletsInAll 9 = .ok (.if_icmp .ge 18, 3) := by decide +kernel
theorem d_P_palletsInAll_12 : decode b_P_palletsInAll 12 = .ok (.iload_n 1, 1) := by decide +kernel
theorem d_P_palletsInAll_13 : decode b_P_palletsInAll 13 = .ok (.aload_n 0, 1) := by decide +kernel
theorem d_P_palletsInAll_14 : decode b_P_palletsInAll 14 = .ok (.getfield 18, 3) := by decide +kernel
theorem d_P_palletsInAll_17 : decode b_P_palletsInAll 17 = .ok (.iload_n 2, 1) := by decide +kernel
theorem d_P_palletsInAll_18 : decode b_P_palletsInAll 18 = .ok (.iaload, 1) := by decide +kernel
theorem d_P_palletsInAll_19 : decode b_P_palletsInAll 19 = .ok (.iadd, 1) := by decide +kernel
theorem d_P_palletsInAll_20 : decode b_P_palletsInAll 20 = .ok (.istore_n 1, 1) := by decide +kernel
theorem d_P_palletsInAll_21 : decode b_P_palletsInAll 21 = .ok (.iinc 2 1, 3) := by decide +kernel
theorem d_P_palletsInAll_24 : decode b_P_palletsInAll 24 = .ok (.goto (-20), 3) := by decide +kernel
theorem d_P_palletsInAll_27 : decode b_P_palletsInAll 27 = .ok (.iload_n 1, 1) := by decide +kernel
theorem d_P_palletsInAll_28 : decode b_P_palletsInAll 28 = .ok (.ireturn, 1) := by decide +kernel
theorem d_P_palletsFor_0 : decode b_P_palletsFor 0 = .ok (.iconst 0, 1) := by decide +kernel
theorem d_P_palletsFor_1 : decode b_P_palletsFor 1 = .ok (.istore_n 2, 1) := by decide +kernel
theorem d_P_palletsFor_2 : decode b_P_palletsFor 2 = .ok (.iconst 0, 1) := by decide +kernel
theorem d_P_palletsFor_3 : decode b_P_palletsFor 3 = .ok (.istore_n 3, 1) := by decide +kernel
theorem d_P_palletsFor_4 : decode b_P_palletsFor 4 = .ok (.iload_n 3, 1) := by decide +kernel
theorem d_P_palletsFor_5 : decode b_P_palletsFor 5 = .ok (.aload_n 0, 1) := by decide +kernel
theorem d_P_palletsFor_6 : decode b_P_palletsFor 6 = .ok (.getfield 21, 3) := by decide +kernel
theorem d_P_palletsFor_9 : decode b_P_palletsFor 9 = .ok (.if_icmp .ge 28, 3) := by decide +kernel
theorem d_P_palletsFor_12 : decode b_P_palletsFor 12 = .ok (.aload_n 0, 1) := by decide +kernel
theorem d_P_palletsFor_13 : decode b_P_palletsFor 13 = .ok (.getfield 15, 3) := by decide +kernel
theorem d_P_palletsFor_16 : decode b_P_palletsFor 16 = .ok (.iload_n 3, 1) := by decide +kernel
theorem d_P_palletsFor_17 : decode b_P_palletsFor 17 = .ok (.iaload, 1) := by decide +kernel
theorem d_P_palletsFor_18 : decode b_P_palletsFor 18 = .ok (.iload_n 1, 1) := by decide +kernel
theorem d_P_palletsFor_19 : decode b_P_palletsFor 19 = .ok (.if_icmp .ne 12, 3) := by decide +kernel
theorem d_P_palletsFor_22 : decode b_P_palletsFor 22 = .ok (.iload_n 2, 1) := by decide +kernel
theorem d_P_palletsFor_23 : decode b_P_palletsFor 23 = .ok (.aload_n 0, 1) := by decide +kernel
theorem d_P_palletsFor_24 : decode b_P_palletsFor 24 = .ok (.getfield 18, 3) := by decide +kernel
theorem d_P_palletsFor_27 : decode b_P_palletsFor 27 = .ok (.iload_n 3, 1) := by decide +kernel
theorem d_P_palletsFor_28 : decode b_P_palletsFor 28 = .ok (.iaload, 1) := by decide +kernel
theorem d_P_palletsFor_29 : decode b_P_palletsFor 29 = .ok (.iadd, 1) := by decide +kernel
theorem d_P_palletsFor_30 : decode b_P_palletsFor 30 = .ok (.istore_n 2, 1) := by decide +kernel
theorem d_P_palletsFor_31 : decode b_P_palletsFor 31 = .ok (.iinc 3 1, 3) := by decide +kernel
theorem d_P_palletsFor_34 : decode b_P_palletsFor 34 = .ok (.goto (-30), 3) := by decide +kernel
theorem d_P_palletsFor_37 : decode b_P_palletsFor 37 = .ok (.iload_n 2, 1) := by decide +kernel
theorem d_P_palletsFor_38 : decode b_P_palletsFor 38 = .ok (.ireturn, 1) := by decide +kernel
theorem d_A_toGive_0 : decode b_A_toGive 0 = .ok (.aload_n 0, 1) := by decide +kernel
theorem d_A_toGive_1 : decode b_A_toGive 1 = .ok (.getfield 7, 3) := by decide +kernel
theorem d_A_toGive_4 : decode b_A_toGive 4 = .ok (.aload_n 0, 1) := by decide +kernel
theorem d_A_toGive_5 : decode b_A_toGive 5 = .ok (.getfield 13, 3) := by decide +kernel
theorem d_A_toGive_8 : decode b_A_toGive 8 = .ok (.isub, 1) := by decide +kernel
theorem d_A_toGive_9 : decode b_A_toGive 9 = .ok (.ireturn, 1) := by decide +kernel
theorem d_D_count_0 : decode b_D_count 0 = .ok (.iload_n 1, 1) := by decide +kernel
theorem d_D_count_1 : decode b_D_count 1 = .ok (.tableswitch 66 0 4 #[35, 40, 45, 53, 61], 35) := by decide +kernel
theorem d_D_count_36 : decode b_D_count 36 = .ok (.aload_n 0, 1) := by decide +kernel
theorem d_D_count_37 : decode b_D_count 37 = .ok (.getfield 48, 3) := by decide +kernel
theorem d_D_count_40 : decode b_D_count 40 = .ok (.ireturn, 1) := by decide +kernel
theorem d_D_count_41 : decode b_D_count 41 = .ok (.aload_n 0, 1) := by decide +kernel
theorem d_D_count_42 : decode b_D_count 42 = .ok (.getfield 52, 3) := by decide +kernel
theorem d_D_count_45 : decode b_D_count 45 = .ok (.ireturn, 1) := by decide +kernel
theorem d_D_count_46 : decode b_D_count 46 = .ok (.aload_n 0, 1) := by decide +kernel
theorem d_D_count_47 : decode b_D_count 47 = .ok (.getfield 44, 3) := by decide +kernel
theorem d_D_count_50 : decode b_D_count 50 = .ok (.getfield 148, 3) := by decide +kernel
theorem d_D_count_53 : decode b_D_count 53 = .ok (.ireturn, 1) := by decide +kernel
theorem d_D_count_54 : decode b_D_count 54 = .ok (.aload_n 0, 1) := by decide +kernel
theorem d_D_count_55 : decode b_D_count 55 = .ok (.getfield 44, 3) := by decide +kernel
theorem d_D_count_58 : decode b_D_count 58 = .ok (.invokevirtual 182, 3) := by decide +kernel
theorem d_D_count_61 : decode b_D_count 61 = .ok (.ireturn, 1) := by decide +kernel
theorem d_D_count_62 : decode b_D_count 62 = .ok (.aload_n 0, 1) := by decide +kernel
theorem d_D_count_63 : decode b_D_count 63 = .ok (.invokevirtual 185, 3) := by decide +kernel
theorem d_D_count_66 : decode b_D_count 66 = .ok (.ireturn, 1) := by decide +kernel
theorem d_D_count_67 : decode b_D_count 67 = .ok (.iconst (-1), 1) := by decide +kernel
theorem d_D_count_68 : decode b_D_count 68 = .ok (.ireturn, 1) := by decide +kernel
theorem d_D_fullLanes_0 : decode b_D_fullLanes 0 = .ok (.iconst 0, 1) := by decide +kernel
theorem d_D_fullLanes_1 : decode b_D_fullLanes 1 = .ok (.istore_n 1, 1) := by decide +kernel
theorem d_D_fullLanes_2 : decode b_D_fullLanes 2 = .ok (.iconst 0, 1) := by decide +kernel
theorem d_D_fullLanes_3 : decode b_D_fullLanes 3 = .ok (.istore_n 2, 1) := by decide +kernel
theorem d_D_fullLanes_4 : decode b_D_fullLanes 4 = .ok (.iload_n 2, 1) := by decide +kernel
theorem d_D_fullLanes_5 : decode b_D_fullLanes 5 = .ok (.iconst 4, 1) := by decide +kernel
theorem d_D_fullLanes_6 : decode b_D_fullLanes 6 = .ok (.if_icmp .ge 21, 3) := by decide +kernel
theorem d_D_fullLanes_9 : decode b_D_fullLanes 9 = .ok (.aload_n 0, 1) := by decide +kernel
theorem d_D_fullLanes_10 : decode b_D_fullLanes 10 = .ok (.getfield 23, 3) := by decide +kernel
theorem d_D_fullLanes_13 : decode b_D_fullLanes 13 = .ok (.iload_n 2, 1) := by decide +kernel
theorem d_D_fullLanes_14 : decode b_D_fullLanes 14 = .ok (.baload, 1) := by decide +kernel
theorem d_D_fullLanes_15 : decode b_D_fullLanes 15 = .ok (.ifCond .eq 6, 3) := by decide +kernel
theorem d_D_fullLanes_18 : decode b_D_fullLanes 18 = .ok (.iinc 1 1, 3) := by decide +kernel
theorem d_D_fullLanes_21 : decode b_D_fullLanes 21 = .ok (.iinc 2 1, 3) := by decide +kernel
theorem d_D_fullLanes_24 : decode b_D_fullLanes 24 = .ok (.goto (-20), 3) := by decide +kernel
theorem d_D_fullLanes_27 : decode b_D_fullLanes 27 = .ok (.iload_n 1, 1) := by decide +kernel
theorem d_D_fullLanes_28 : decode b_D_fullLanes 28 = .ok (.ireturn, 1) := by decide +kernel
theorem d_L_arrive_0 : decode b_L_arrive 0 = .ok (.aload 5, 2) := by decide +kernel
theorem d_L_arrive_2 : decode b_L_arrive 2 = .ok (.iconst 0, 1) := by decide +kernel
theorem d_L_arrive_3 : decode b_L_arrive 3 = .ok (.aload_n 0, 1) := by decide +kernel
theorem d_L_arrive_4 : decode b_L_arrive 4 = .ok (.iload_n 1, 1) := by decide +kernel
theorem d_L_arrive_5 : decode b_L_arrive 5 = .ok (.iload_n 2, 1) := by decide +kernel
theorem d_L_arrive_6 : decode b_L_arrive 6 = .ok (.iload_n 3, 1) := by decide +kernel
theorem d_L_arrive_7 : decode b_L_arrive 7 = .ok (.iload 4, 2) := by decide +kernel
theorem d_L_arrive_9 : decode b_L_arrive 9 = .ok (.invokevirtual 7, 3) := by decide +kernel
theorem d_L_arrive_12 : decode b_L_arrive 12 = .ok (.i2l, 1) := by decide +kernel
theorem d_L_arrive_13 : decode b_L_arrive 13 = .ok (.lastore, 1) := by decide +kernel
theorem d_L_arrive_14 : decode b_L_arrive 14 = .ok (.goto 11, 3) := by decide +kernel
theorem d_L_arrive_17 : decode b_L_arrive 17 = .ok (.astore 6, 2) := by decide +kernel
theorem d_L_arrive_19 : decode b_L_arrive 19 = .ok (.iconst 1, 1) := by decide +kernel
theorem d_L_arrive_20 : decode b_L_arrive 20 = .ok (.ireturn, 1) := by decide +kernel
theorem d_L_arrive_21 : decode b_L_arrive 21 = .ok (.astore 6, 2) := by decide +kernel
theorem d_L_arrive_23 : decode b_L_arrive 23 = .ok (.iconst 2, 1) := by decide +kernel
theorem d_L_arrive_24 : decode b_L_arrive 24 = .ok (.ireturn, 1) := by decide +kernel
theorem d_L_arrive_25 : decode b_L_arrive 25 = .ok (.iconst 0, 1) := by decide +kernel
theorem d_L_arrive_26 : decode b_L_arrive 26 = .ok (.ireturn, 1) := by decide +kernel
theorem d_D_arrive_0 : decode b_D_arrive 0 = .ok (.iload_n 1, 1) := by decide +kernel
theorem d_D_arrive_1 : decode b_D_arrive 1 = .ok (.iconst 0, 1) := by decide +kernel
theorem d_D_arrive_2 : decode b_D_arrive 2 = .ok (.bipush 7, 2) := by decide +kernel
theorem d_D_arrive_4 : decode b_D_arrive 4 = .ok (.invokestatic 62, 3) := by decide +kernel
theorem d_D_arrive_7 : decode b_D_arrive 7 = .ok (.iload_n 2, 1) := by decide +kernel
theorem d_D_arrive_8 : decode b_D_arrive 8 = .ok (.iconst 0, 1) := by decide +kernel
theorem d_D_arrive_9 : decode b_D_arrive 9 = .ok (.bipush 9, 2) := by decide +kernel
theorem d_D_arrive_11 : decode b_D_arrive 11 = .ok (.invokestatic 62, 3) := by decide +kernel
theorem d_D_arrive_14 : decode b_D_arrive 14 = .ok (.iload_n 3, 1) := by decide +kernel
theorem d_D_arrive_15 : decode b_D_arrive 15 = .ok (.iconst 0, 1) := by decide +kernel
theorem d_D_arrive_16 : decode b_D_arrive 16 = .ok (.sipush 1000, 3) := by decide +kernel
theorem d_D_arrive_19 : decode b_D_arrive 19 = .ok (.invokestatic 62, 3) := by decide +kernel
theorem d_D_arrive_22 : decode b_D_arrive 22 = .ok (.iload 4, 2) := by decide +kernel
theorem d_D_arrive_24 : decode b_D_arrive 24 = .ok (.iconst 1, 1) := by decide +kernel
theorem d_D_arrive_25 : decode b_D_arrive 25 = .ok (.bipush 6, 2) := by decide +kernel
theorem d_D_arrive_27 : decode b_D_arrive 27 = .ok (.invokestatic 62, 3) := by decide +kernel
theorem d_D_arrive_30 : decode b_D_arrive 30 = .ok (.aload_n 0, 1) := by decide +kernel
theorem d_D_arrive_31 : decode b_D_arrive 31 = .ok (.getfield 48, 3) := by decide +kernel
theorem d_D_arrive_34 : decode b_D_arrive 34 = .ok (.bipush 8, 2) := by decide +kernel
theorem d_D_arrive_36 : decode b_D_arrive 36 = .ok (.invokestatic 66, 3) := by decide +kernel
theorem d_D_arrive_39 : decode b_D_arrive 39 = .ok (.aload_n 0, 1) := by decide +kernel
theorem d_D_arrive_40 : decode b_D_arrive 40 = .ok (.getfield 11, 3) := by decide +kernel
theorem d_D_arrive_43 : decode b_D_arrive 43 = .ok (.aload_n 0, 1) := by decide +kernel
theorem d_D_arrive_44 : decode b_D_arrive 44 = .ok (.getfield 48, 3) := by decide +kernel
theorem d_D_arrive_47 : decode b_D_arrive 47 = .ok (.aaload, 1) := by decide +kernel
theorem d_D_arrive_48 : decode b_D_arrive 48 = .ok (.astore 5, 2) := by decide +kernel
theorem d_D_arrive_50 : decode b_D_arrive 50 = .ok (.aload 5, 2) := by decide +kernel
theorem d_D_arrive_52 : decode b_D_arrive 52 = .ok (.iload_n 1, 1) := by decide +kernel
theorem d_D_arrive_53 : decode b_D_arrive 53 = .ok (.putfield 70, 3) := by decide +kernel
theorem d_D_arrive_56 : decode b_D_arrive 56 = .ok (.aload 5, 2) := by decide +kernel
theorem d_D_arrive_58 : decode b_D_arrive 58 = .ok (.iload_n 2, 1) := by decide +kernel
theorem d_D_arrive_59 : decode b_D_arrive 59 = .ok (.putfield 73, 3) := by decide +kernel
theorem d_D_arrive_62 : decode b_D_arrive 62 = .ok (.aload 5, 2) := by decide +kernel
theorem d_D_arrive_64 : decode b_D_arrive 64 = .ok (.iload_n 3, 1) := by decide +kernel
theorem d_D_arrive_65 : decode b_D_arrive 65 = .ok (.putfield 76, 3) := by decide +kernel
theorem d_D_arrive_68 : decode b_D_arrive 68 = .ok (.aload 5, 2) := by decide +kernel
theorem d_D_arrive_70 : decode b_D_arrive 70 = .ok (.iload 4, 2) := by decide +kernel
theorem d_D_arrive_72 : decode b_D_arrive 72 = .ok (.putfield 79, 3) := by decide +kernel
theorem d_D_arrive_75 : decode b_D_arrive 75 = .ok (.aload_n 0, 1) := by decide +kernel
theorem d_D_arrive_76 : decode b_D_arrive 76 = .ok (.dup, 1) := by decide +kernel
theorem d_D_arrive_77 : decode b_D_arrive 77 = .ok (.getfield 48, 3) := by decide +kernel
theorem d_D_arrive_80 : decode b_D_arrive 80 = .ok (.iconst 1, 1) := by decide +kernel
theorem d_D_arrive_81 : decode b_D_arrive 81 = .ok (.iadd, 1) := by decide +kernel
theorem d_D_arrive_82 : decode b_D_arrive 82 = .ok (.putfield 48, 3) := by decide +kernel
theorem d_D_arrive_85 : decode b_D_arrive 85 = .ok (.aload_n 0, 1) := by decide +kernel
theorem d_D_arrive_86 : decode b_D_arrive 86 = .ok (.getfield 48, 3) := by decide +kernel
theorem d_D_arrive_89 : decode b_D_arrive 89 = .ok (.iconst 1, 1) := by decide +kernel
theorem d_D_arrive_90 : decode b_D_arrive 90 = .ok (.isub, 1) := by decide +kernel
theorem d_D_arrive_91 : decode b_D_arrive 91 = .ok (.ireturn, 1) := by decide +kernel
theorem d_D_checkRange_0 : decode b_D_checkRange 0 = .ok (.iload_n 0, 1) := by decide +kernel
theorem d_D_checkRange_1 : decode b_D_checkRange 1 = .ok (.iload_n 1, 1) := by decide +kernel
theorem d_D_checkRange_2 : decode b_D_checkRange 2 = .ok (.if_icmp .lt 8, 3) := by decide +kernel
theorem d_D_checkRange_5 : decode b_D_checkRange 5 = .ok (.iload_n 0, 1) := by decide +kernel
theorem d_D_checkRange_6 : decode b_D_checkRange 6 = .ok (.iload_n 2, 1) := by decide +kernel
theorem d_D_checkRange_7 : decode b_D_checkRange 7 = .ok (.if_icmp .le 13, 3) := by decide +kernel
theorem d_D_checkRange_10 : decode b_D_checkRange 10 = .ok (.new 193, 3) := by decide +kernel
theorem d_D_checkRange_13 : decode b_D_checkRange 13 = .ok (.dup, 1) := by decide +kernel
theorem d_D_checkRange_14 : decode b_D_checkRange 14 = .ok (.ldc 195, 2) := by decide +kernel
theorem d_D_checkRange_16 : decode b_D_checkRange 16 = .ok (.invokespecial 197, 3) := by decide +kernel
theorem d_D_checkRange_19 : decode b_D_checkRange 19 = .ok (.athrow, 1) := by decide +kernel
theorem d_D_checkRange_20 : decode b_D_checkRange 20 = .ok (.return_, 1) := by decide +kernel
theorem d_D_checkRoom_0 : decode b_D_checkRoom 0 = .ok (.iload_n 0, 1) := by decide +kernel
theorem d_D_checkRoom_1 : decode b_D_checkRoom 1 = .ok (.iload_n 1, 1) := by decide +kernel
theorem d_D_checkRoom_2 : decode b_D_checkRoom 2 = .ok (.if_icmp .lt 13, 3) := by decide +kernel
theorem d_D_checkRoom_5 : decode b_D_checkRoom 5 = .ok (.new 198, 3) := by decide +kernel
theorem d_D_checkRoom_8 : decode b_D_checkRoom 8 = .ok (.dup, 1) := by decide +kernel
theorem d_D_checkRoom_9 : decode b_D_checkRoom 9 = .ok (.ldc 200, 2) := by decide +kernel
theorem d_D_checkRoom_11 : decode b_D_checkRoom 11 = .ok (.invokespecial 202, 3) := by decide +kernel
theorem d_D_checkRoom_14 : decode b_D_checkRoom 14 = .ok (.athrow, 1) := by decide +kernel
theorem d_D_checkRoom_15 : decode b_D_checkRoom 15 = .ok (.return_, 1) := by decide +kernel
theorem d_L_order_0 : decode b_L_order 0 = .ok (.aload 5, 2) := by decide +kernel
theorem d_L_order_2 : decode b_L_order 2 = .ok (.iconst 0, 1) := by decide +kernel
theorem d_L_order_3 : decode b_L_order 3 = .ok (.aload_n 0, 1) := by decide +kernel
theorem d_L_order_4 : decode b_L_order 4 = .ok (.iload_n 1, 1) := by decide +kernel
theorem d_L_order_5 : decode b_L_order 5 = .ok (.iload_n 2, 1) := by decide +kernel
theorem d_L_order_6 : decode b_L_order 6 = .ok (.iload_n 3, 1) := by decide +kernel
theorem d_L_order_7 : decode b_L_order 7 = .ok (.iload 4, 2) := by decide +kernel
theorem d_L_order_9 : decode b_L_order 9 = .ok (.invokevirtual 17, 3) := by decide +kernel
theorem d_L_order_12 : decode b_L_order 12 = .ok (.i2l, 1) := by decide +kernel
theorem d_L_order_13 : decode b_L_order 13 = .ok (.lastore, 1) := by decide +kernel
theorem d_L_order_14 : decode b_L_order 14 = .ok (.goto 11, 3) := by decide +kernel
theorem d_L_order_17 : decode b_L_order 17 = .ok (.astore 6, 2) := by decide +kernel
theorem d_L_order_19 : decode b_L_order 19 = .ok (.iconst 1, 1) := by decide +kernel
theorem d_L_order_20 : decode b_L_order 20 = .ok (.ireturn, 1) := by decide +kernel
theorem d_L_order_21 : decode b_L_order 21 = .ok (.astore 6, 2) := by decide +kernel
theorem d_L_order_23 : decode b_L_order 23 = .ok (.iconst 2, 1) := by decide +kernel
theorem d_L_order_24 : decode b_L_order 24 = .ok (.ireturn, 1) := by decide +kernel
theorem d_L_order_25 : decode b_L_order 25 = .ok (.iconst 0, 1) := by decide +kernel
theorem d_L_order_26 : decode b_L_order 26 = .ok (.ireturn, 1) := by decide +kernel
theorem d_D_order_0 : decode b_D_order 0 = .ok (.iload_n 1, 1) := by decide +kernel
theorem d_D_order_1 : decode b_D_order 1 = .ok (.iconst 0, 1) := by decide +kernel
theorem d_D_order_2 : decode b_D_order 2 = .ok (.bipush 7, 2) := by decide +kernel
theorem d_D_order_4 : decode b_D_order 4 = .ok (.invokestatic 62, 3) := by decide +kernel
theorem d_D_order_7 : decode b_D_order 7 = .ok (.iload_n 2, 1) := by decide +kernel
theorem d_D_order_8 : decode b_D_order 8 = .ok (.iconst 1, 1) := by decide +kernel
theorem d_D_order_9 : decode b_D_order 9 = .ok (.bipush 6, 2) := by decide +kernel
theorem d_D_order_11 : decode b_D_order 11 = .ok (.invokestatic 62, 3) := by decide +kernel
theorem d_D_order_14 : decode b_D_order 14 = .ok (.iload_n 3, 1) := by decide +kernel
theorem d_D_order_15 : decode b_D_order 15 = .ok (.iconst 1, 1) := by decide +kernel
theorem d_D_order_16 : decode b_D_order 16 = .ok (.bipush 9, 2) := by decide +kernel
theorem d_D_order_18 : decode b_D_order 18 = .ok (.invokestatic 62, 3) := by decide +kernel
theorem d_D_order_21 : decode b_D_order 21 = .ok (.iload 4, 2) := by decide +kernel
theorem d_D_order_23 : decode b_D_order 23 = .ok (.iconst 0, 1) := by decide +kernel
theorem d_D_order_24 : decode b_D_order 24 = .ok (.iconst 3, 1) := by decide +kernel
theorem d_D_order_25 : decode b_D_order 25 = .ok (.invokestatic 62, 3) := by decide +kernel
theorem d_D_order_28 : decode b_D_order 28 = .ok (.aload_n 0, 1) := by decide +kernel
theorem d_D_order_29 : decode b_D_order 29 = .ok (.getfield 52, 3) := by decide +kernel
theorem d_D_order_32 : decode b_D_order 32 = .ok (.bipush 8, 2) := by decide +kernel
theorem d_D_order_34 : decode b_D_order 34 = .ok (.invokestatic 66, 3) := by decide +kernel
theorem d_D_order_37 : decode b_D_order 37 = .ok (.aload_n 0, 1) := by decide +kernel
theorem d_D_order_38 : decode b_D_order 38 = .ok (.getfield 18, 3) := by decide +kernel
theorem d_D_order_41 : decode b_D_order 41 = .ok (.aload_n 0, 1) := by decide +kernel
theorem d_D_order_42 : decode b_D_order 42 = .ok (.getfield 52, 3) := by decide +kernel
theorem d_D_order_45 : decode b_D_order 45 = .ok (.aaload, 1) := by decide +kernel
theorem d_D_order_46 : decode b_D_order 46 = .ok (.astore 5, 2) := by decide +kernel
theorem d_D_order_48 : decode b_D_order 48 = .ok (.aload 5, 2) := by decide +kernel
theorem d_D_order_50 : decode b_D_order 50 = .ok (.iload_n 1, 1) := by decide +kernel
theorem d_D_order_51 : decode b_D_order 51 = .ok (.putfield 82, 3) := by decide +kernel
theorem d_D_order_54 : decode b_D_order 54 = .ok (.aload 5, 2) := by decide +kernel
theorem d_D_order_56 : decode b_D_order 56 = .ok (.iload_n 2, 1) := by decide +kernel
theorem d_D_order_57 : decode b_D_order 57 = .ok (.putfield 83, 3) := by decide +kernel
theorem d_D_order_60 : decode b_D_order 60 = .ok (.aload 5, 2) := by decide +kernel
theorem d_D_order_62 : decode b_D_order 62 = .ok (.iload_n 3, 1) := by decide +kernel
theorem d_D_order_63 : decode b_D_order 63 = .ok (.putfield 84, 3) := by decide +kernel
theorem d_D_order_66 : decode b_D_order 66 = .ok (.aload 5, 2) := by decide +kernel
theorem d_D_order_68 : decode b_D_order 68 = .ok (.iload 4, 2) := by decide +kernel
theorem d_D_order_70 : decode b_D_order 70 = .ok (.putfield 87, 3) := by decide +kernel
theorem d_D_order_73 : decode b_D_order 73 = .ok (.aload 5, 2) := by decide +kernel
theorem d_D_order_75 : decode b_D_order 75 = .ok (.sipush 1000, 3) := by decide +kernel
theorem d_D_order_78 : decode b_D_order 78 = .ok (.putfield 90, 3) := by decide +kernel
theorem d_D_order_81 : decode b_D_order 81 = .ok (.aload 5, 2) := by decide +kernel
theorem d_D_order_83 : decode b_D_order 83 = .ok (.sipush 1023, 3) := by decide +kernel
theorem d_D_order_86 : decode b_D_order 86 = .ok (.putfield 93, 3) := by decide +kernel
theorem d_D_order_89 : decode b_D_order 89 = .ok (.aload_n 0, 1) := by decide +kernel
theorem d_D_order_90 : decode b_D_order 90 = .ok (.dup, 1) := by decide +kernel
theorem d_D_order_91 : decode b_D_order 91 = .ok (.getfield 52, 3) := by decide +kernel
theorem d_D_order_94 : decode b_D_order 94 = .ok (.iconst 1, 1) := by decide +kernel
theorem d_D_order_95 : decode b_D_order 95 = .ok (.iadd, 1) := by decide +kernel
theorem d_D_order_96 : decode b_D_order 96 = .ok (.putfield 52, 3) := by decide +kernel
theorem d_D_order_99 : decode b_D_order 99 = .ok (.aload_n 0, 1) := by decide +kernel
theorem d_D_order_100 : decode b_D_order 100 = .ok (.getfield 52, 3) := by decide +kernel
theorem d_D_order_103 : decode b_D_order 103 = .ok (.iconst 1, 1) := by decide +kernel
theorem d_D_order_104 : decode b_D_order 104 = .ok (.isub, 1) := by decide +kernel
theorem d_D_order_105 : decode b_D_order 105 = .ok (.ireturn, 1) := by decide +kernel
