theorem d_M_passing_39 : decode b_M_passing 39 = .ok (.iload_n 3, 1) := by decide +kernel
theorem d_M_passing_40 : decode b_M_passing 40 = .ok (.ireturn, 1) := by decide +kernel
theorem d_M_saved_0 : decode b_M_saved 0 = .ok (.aload_n 0, 1) := by decide +kernel
theorem d_M_saved_1 : decode b_M_saved 1 = .ok (.iconst 0, 1) := by decide +kernel
theorem d_M_saved_2 : decode b_M_saved 2 = .ok (.putfield 74, 3) := by decide +kernel
theorem d_M_saved_5 : decode b_M_saved 5 = .ok (.aload_n 0, 1) := by decide +kernel
theorem d_M_saved_6 : decode b_M_saved 6 = .ok (.invokevirtual 150, 3) := by decide +kernel
theorem d_M_saved_9 : decode b_M_saved 9 = .ok (.ireturn, 1) := by decide +kernel
theorem d_M_count_0 : decode b_M_count 0 = .ok (.aload_n 0, 1) := by decide +kernel
theorem d_M_count_1 : decode b_M_count 1 = .ok (.iconst 0, 1) := by decide +kernel
theorem d_M_count_2 : decode b_M_count 2 = .ok (.putfield 74, 3) := by decide +kernel
theorem d_M_count_5 : decode b_M_count 5 = .ok (.iload_n 1, 1) := by decide +kernel
theorem d_M_count_6 : decode b_M_count 6 = .ok (.ifCond .ne 8, 3) := by decide +kernel
theorem d_M_count_9 : decode b_M_count 9 = .ok (.aload_n 0, 1) := by decide +kernel
theorem d_M_count_10 : decode b_M_count 10 = .ok (.getfield 78, 3) := by decide +kernel
theorem d_M_count_13 : decode b_M_count 13 = .ok (.ireturn, 1) := by decide +kernel
theorem d_M_count_14 : decode b_M_count 14 = .ok (.iload_n 1, 1) := by decide +kernel
theorem d_M_count_15 : decode b_M_count 15 = .ok (.iconst 1, 1) := by decide +kernel
theorem d_M_count_16 : decode b_M_count 16 = .ok (.if_icmp .ne 8, 3) := by decide +kernel
theorem d_M_count_19 : decode b_M_count 19 = .ok (.aload_n 0, 1) := by decide +kernel
theorem d_M_count_20 : decode b_M_count 20 = .ok (.getfield 85, 3) := by decide +kernel
theorem d_M_count_23 : decode b_M_count 23 = .ok (.ireturn, 1) := by decide +kernel
theorem d_M_count_24 : decode b_M_count 24 = .ok (.iload_n 1, 1) := by decide +kernel
theorem d_M_count_25 : decode b_M_count 25 = .ok (.iconst 2, 1) := by decide +kernel
theorem d_M_count_26 : decode b_M_count 26 = .ok (.if_icmp .ne 8, 3) := by decide +kernel
theorem d_M_count_29 : decode b_M_count 29 = .ok (.aload_n 0, 1) := by decide +kernel
theorem d_M_count_30 : decode b_M_count 30 = .ok (.getfield 92, 3) := by decide +kernel
theorem d_M_count_33 : decode b_M_count 33 = .ok (.ireturn, 1) := by decide +kernel
theorem d_M_count_34 : decode b_M_count 34 = .ok (.iconst 0, 1) := by decide +kernel
theorem d_M_count_35 : decode b_M_count 35 = .ok (.istore_n 2, 1) := by decide +kernel
theorem d_M_count_36 : decode b_M_count 36 = .ok (.iconst 0, 1) := by decide +kernel
theorem d_M_count_37 : decode b_M_count 37 = .ok (.istore_n 3, 1) := by decide +kernel
theorem d_M_count_38 : decode b_M_count 38 = .ok (.iload_n 3, 1) := by decide +kernel
theorem d_M_count_39 : decode b_M_count 39 = .ok (.aload_n 0, 1) := by decide +kernel
theorem d_M_count_40 : decode b_M_count 40 = .ok (.getfield 92, 3) := by decide +kernel
theorem d_M_count_43 : decode b_M_count 43 = .ok (.if_icmp .ge 23, 3) := by decide +kernel
theorem d_M_count_46 : decode b_M_count 46 = .ok (.iload_n 1, 1) := by decide +kernel
theorem d_M_count_47 : decode b_M_count 47 = .ok (.iconst 3, 1) := by decide +kernel
theorem d_M_count_48 : decode b_M_count 48 = .ok (.if_icmp .ne 18, 3) := by decide +kernel
theorem d_M_count_51 : decode b_M_count 51 = .ok (.iload_n 2, 1) := by decide +kernel
theorem d_M_count_52 : decode b_M_count 52 = .ok (.aload_n 0, 1) := by decide +kernel
theorem d_M_count_53 : decode b_M_count 53 = .ok (.getfield 56, 3) := by decide +kernel
theorem d_M_count_56 : decode b_M_count 56 = .ok (.iload_n 3, 1) := by decide +kernel
theorem d_M_count_57 : decode b_M_count 57 = .ok (.iaload, 1) := by decide +kernel
theorem d_M_count_58 : decode b_M_count 58 = .ok (.iadd, 1) := by decide +kernel
theorem d_M_count_59 : decode b_M_count 59 = .ok (.istore_n 2, 1) := by decide +kernel
theorem d_M_count_60 : decode b_M_count 60 = .ok (.iinc 3 1, 3) := by decide +kernel
theorem d_M_count_63 : decode b_M_count 63 = .ok (.goto (-25), 3) := by decide +kernel
theorem d_M_count_66 : decode b_M_count 66 = .ok (.iconst 0, 1) := by decide +kernel
theorem d_M_count_67 : decode b_M_count 67 = .ok (.istore_n 3, 1) := by decide +kernel
theorem d_M_count_68 : decode b_M_count 68 = .ok (.iload_n 3, 1) := by decide +kernel
theorem d_M_count_69 : decode b_M_count 69 = .ok (.iconst 4, 1) := by decide +kernel
theorem d_M_count_70 : decode b_M_count 70 = .ok (.if_icmp .ge 31, 3) := by decide +kernel
theorem d_M_count_73 : decode b_M_count 73 = .ok (.iload_n 1, 1) := by decide +kernel
theorem d_M_count_74 : decode b_M_count 74 = .ok (.iconst 4, 1) := by decide +kernel
theorem d_M_count_75 : decode b_M_count 75 = .ok (.if_icmp .ne 26, 3) := by decide +kernel
theorem d_M_count_78 : decode b_M_count 78 = .ok (.iload_n 2, 1) := by decide +kernel
theorem d_M_count_79 : decode b_M_count 79 = .ok (.aload_n 0, 1) := by decide +kernel
theorem d_M_count_80 : decode b_M_count 80 = .ok (.getfield 47, 3) := by decide +kernel
theorem d_M_count_83 : decode b_M_count 83 = .ok (.iload_n 3, 1) := by decide +kernel
theorem d_M_count_84 : decode b_M_count 84 = .ok (.baload, 1) := by decide +kernel
theorem d_M_count_85 : decode b_M_count 85 = .ok (.ifCond .eq 7, 3) := by decide +kernel
theorem d_M_count_88 : decode b_M_count 88 = .ok (.iconst 1, 1) := by decide +kernel
theorem d_M_count_89 : decode b_M_count 89 = .ok (.goto 4, 3) := by decide +kernel
theorem d_M_count_92 : decode b_M_count 92 = .ok (.iconst 0, 1) := by decide +kernel
theorem d_M_count_93 : decode b_M_count 93 = .ok (.iadd, 1) := by decide +kernel
theorem d_M_count_94 : decode b_M_count 94 = .ok (.istore_n 2, 1) := by decide +kernel
theorem d_M_count_95 : decode b_M_count 95 = .ok (.iinc 3 1, 3) := by decide +kernel
theorem d_M_count_98 : decode b_M_count 98 = .ok (.goto (-30), 3) := by decide +kernel
theorem d_M_count_101 : decode b_M_count 101 = .ok (.iload_n 1, 1) := by decide +kernel
theorem d_M_count_102 : decode b_M_count 102 = .ok (.iconst 3, 1) := by decide +kernel
theorem d_M_count_103 : decode b_M_count 103 = .ok (.if_icmp .eq 8, 3) := by decide +kernel
theorem d_M_count_106 : decode b_M_count 106 = .ok (.iload_n 1, 1) := by decide +kernel
theorem d_M_count_107 : decode b_M_count 107 = .ok (.iconst 4, 1) := by decide +kernel
theorem d_M_count_108 : decode b_M_count 108 = .ok (.if_icmp .ne 7, 3) := by decide +kernel
theorem d_M_count_111 : decode b_M_count 111 = .ok (.iload_n 2, 1) := by decide +kernel
theorem d_M_count_112 : decode b_M_count 112 = .ok (.goto 4, 3) := by decide +kernel
theorem d_M_count_115 : decode b_M_count 115 = .ok (.iconst (-1), 1) := by decide +kernel
theorem d_M_count_116 : decode b_M_count 116 = .ok (.ireturn, 1) := by decide +kernel
