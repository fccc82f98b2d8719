theorem d_M_hasGot_3 : decode b_M_hasGot 3 = .ok (.istore_n 3, 1) := by decide +kernel
theorem d_M_hasGot_4 : decode b_M_hasGot 4 = .ok (.iload_n 3, 1) := by decide +kernel
theorem d_M_hasGot_5 : decode b_M_hasGot 5 = .ok (.aload_n 0, 1) := by decide +kernel
theorem d_M_hasGot_6 : decode b_M_hasGot 6 = .ok (.getfield 92, 3) := by decide +kernel
theorem d_M_hasGot_9 : decode b_M_hasGot 9 = .ok (.if_icmp .ge 32, 3) := by decide +kernel
theorem d_M_hasGot_12 : decode b_M_hasGot 12 = .ok (.iload_n 2, 1) := by decide +kernel
theorem d_M_hasGot_13 : decode b_M_hasGot 13 = .ok (.aload_n 0, 1) := by decide +kernel
theorem d_M_hasGot_14 : decode b_M_hasGot 14 = .ok (.getfield 53, 3) := by decide +kernel
theorem d_M_hasGot_17 : decode b_M_hasGot 17 = .ok (.iload_n 3, 1) := by decide +kernel
theorem d_M_hasGot_18 : decode b_M_hasGot 18 = .ok (.iaload, 1) := by decide +kernel
theorem d_M_hasGot_19 : decode b_M_hasGot 19 = .ok (.iload_n 1, 1) := by decide +kernel
theorem d_M_hasGot_20 : decode b_M_hasGot 20 = .ok (.if_icmp .ne 12, 3) := by decide +kernel
theorem d_M_hasGot_23 : decode b_M_hasGot 23 = .ok (.aload_n 0, 1) := by decide +kernel
theorem d_M_hasGot_24 : decode b_M_hasGot 24 = .ok (.getfield 56, 3) := by decide +kernel
theorem d_M_hasGot_27 : decode b_M_hasGot 27 = .ok (.iload_n 3, 1) := by decide +kernel
theorem d_M_hasGot_28 : decode b_M_hasGot 28 = .ok (.iaload, 1) := by decide +kernel
theorem d_M_hasGot_29 : decode b_M_hasGot 29 = .ok (.goto 4, 3) := by decide +kernel
theorem d_M_hasGot_32 : decode b_M_hasGot 32 = .ok (.iconst 0, 1) := by decide +kernel
theorem d_M_hasGot_33 : decode b_M_hasGot 33 = .ok (.iadd, 1) := by decide +kernel
theorem d_M_hasGot_34 : decode b_M_hasGot 34 = .ok (.istore_n 2, 1) := by decide +kernel
theorem d_M_hasGot_35 : decode b_M_hasGot 35 = .ok (.iinc 3 1, 3) := by decide +kernel
theorem d_M_hasGot_38 : decode b_M_hasGot 38 = .ok (.goto (-34), 3) := by decide +kernel
theorem d_M_hasGot_41 : decode b_M_hasGot 41 = .ok (.iload_n 2, 1) := by decide +kernel
theorem d_M_hasGot_42 : decode b_M_hasGot 42 = .ok (.ireturn, 1) := by decide +kernel
theorem d_M_exact_0 : decode b_M_exact 0 = .ok (.aload_n 0, 1) := by decide +kernel
theorem d_M_exact_1 : decode b_M_exact 1 = .ok (.iconst 0, 1) := by decide +kernel
theorem d_M_exact_2 : decode b_M_exact 2 = .ok (.putfield 74, 3) := by decide +kernel
theorem d_M_exact_5 : decode b_M_exact 5 = .ok (.aload_n 0, 1) := by decide +kernel
theorem d_M_exact_6 : decode b_M_exact 6 = .ok (.getfield 143, 3) := by decide +kernel
theorem d_M_exact_9 : decode b_M_exact 9 = .ok (.ireturn, 1) := by decide +kernel
theorem d_M_bound_0 : decode b_M_bound 0 = .ok (.aload_n 0, 1) := by decide +kernel
theorem d_M_bound_1 : decode b_M_bound 1 = .ok (.iconst 0, 1) := by decide +kernel
theorem d_M_bound_2 : decode b_M_bound 2 = .ok (.putfield 74, 3) := by decide +kernel
theorem d_M_bound_5 : decode b_M_bound 5 = .ok (.iconst 0, 1) := by decide +kernel
theorem d_M_bound_6 : decode b_M_bound 6 = .ok (.istore_n 1, 1) := by decide +kernel
theorem d_M_bound_7 : decode b_M_bound 7 = .ok (.iconst 0, 1) := by decide +kernel
theorem d_M_bound_8 : decode b_M_bound 8 = .ok (.istore_n 2, 1) := by decide +kernel
theorem d_M_bound_9 : decode b_M_bound 9 = .ok (.iload_n 2, 1) := by decide +kernel
theorem d_M_bound_10 : decode b_M_bound 10 = .ok (.aload_n 0, 1) := by decide +kernel
theorem d_M_bound_11 : decode b_M_bound 11 = .ok (.getfield 85, 3) := by decide +kernel
theorem d_M_bound_14 : decode b_M_bound 14 = .ok (.if_icmp .ge 70, 3) := by decide +kernel
theorem d_M_bound_17 : decode b_M_bound 17 = .ok (.iconst 0, 1) := by decide +kernel
theorem d_M_bound_18 : decode b_M_bound 18 = .ok (.istore_n 3, 1) := by decide +kernel
theorem d_M_bound_19 : decode b_M_bound 19 = .ok (.iconst 0, 1) := by decide +kernel
theorem d_M_bound_20 : decode b_M_bound 20 = .ok (.istore 4, 2) := by decide +kernel
theorem d_M_bound_22 : decode b_M_bound 22 = .ok (.iload 4, 2) := by decide +kernel
theorem d_M_bound_24 : decode b_M_bound 24 = .ok (.aload_n 0, 1) := by decide +kernel
theorem d_M_bound_25 : decode b_M_bound 25 = .ok (.getfield 78, 3) := by decide +kernel
theorem d_M_bound_28 : decode b_M_bound 28 = .ok (.if_icmp .ge 29, 3) := by decide +kernel
theorem d_M_bound_31 : decode b_M_bound 31 = .ok (.iload_n 3, 1) := by decide +kernel
theorem d_M_bound_32 : decode b_M_bound 32 = .ok (.ifCond .ne 13, 3) := by decide +kernel
theorem d_M_bound_35 : decode b_M_bound 35 = .ok (.aload_n 0, 1) := by decide +kernel
theorem d_M_bound_36 : decode b_M_bound 36 = .ok (.iload 4, 2) := by decide +kernel
theorem d_M_bound_38 : decode b_M_bound 38 = .ok (.iload_n 2, 1) := by decide +kernel
theorem d_M_bound_39 : decode b_M_bound 39 = .ok (.invokevirtual 105, 3) := by decide +kernel
theorem d_M_bound_42 : decode b_M_bound 42 = .ok (.ifCond .eq 7, 3) := by decide +kernel
theorem d_M_bound_45 : decode b_M_bound 45 = .ok (.iconst 1, 1) := by decide +kernel
theorem d_M_bound_46 : decode b_M_bound 46 = .ok (.goto 4, 3) := by decide +kernel
theorem d_M_bound_49 : decode b_M_bound 49 = .ok (.iconst 0, 1) := by decide +kernel
theorem d_M_bound_50 : decode b_M_bound 50 = .ok (.istore_n 3, 1) := by decide +kernel
theorem d_M_bound_51 : decode b_M_bound 51 = .ok (.iinc 4 1, 3) := by decide +kernel
theorem d_M_bound_54 : decode b_M_bound 54 = .ok (.goto (-32), 3) := by decide +kernel
theorem d_M_bound_57 : decode b_M_bound 57 = .ok (.iload_n 1, 1) := by decide +kernel
theorem d_M_bound_58 : decode b_M_bound 58 = .ok (.iload_n 3, 1) := by decide +kernel
theorem d_M_bound_59 : decode b_M_bound 59 = .ok (.ifCond .eq 16, 3) := by decide +kernel
theorem d_M_bound_62 : decode b_M_bound 62 = .ok (.iconst 2, 1) := by decide +kernel
theorem d_M_bound_63 : decode b_M_bound 63 = .ok (.aload_n 0, 1) := by decide +kernel
theorem d_M_bound_64 : decode b_M_bound 64 = .ok (.getfield 28, 3) := by decide +kernel
theorem d_M_bound_67 : decode b_M_bound 67 = .ok (.iload_n 2, 1) := by decide +kernel
theorem d_M_bound_68 : decode b_M_bound 68 = .ok (.iaload, 1) := by decide +kernel
theorem d_M_bound_69 : decode b_M_bound 69 = .ok (.imul, 1) := by decide +kernel
theorem d_M_bound_70 : decode b_M_bound 70 = .ok (.iconst 3, 1) := by decide +kernel
theorem d_M_bound_71 : decode b_M_bound 71 = .ok (.iadd, 1) := by decide +kernel
theorem d_M_bound_72 : decode b_M_bound 72 = .ok (.goto 4, 3) := by decide +kernel
theorem d_M_bound_75 : decode b_M_bound 75 = .ok (.iconst 0, 1) := by decide +kernel
theorem d_M_bound_76 : decode b_M_bound 76 = .ok (.iadd, 1) := by decide +kernel
theorem d_M_bound_77 : decode b_M_bound 77 = .ok (.istore_n 1, 1) := by decide +kernel
theorem d_M_bound_78 : decode b_M_bound 78 = .ok (.iinc 2 1, 3) := by decide +kernel
theorem d_M_bound_81 : decode b_M_bound 81 = .ok (.goto (-72), 3) := by decide +kernel
theorem d_M_bound_84 : decode b_M_bound 84 = .ok (.iconst 0, 1) := by decide +kernel
theorem d_M_bound_85 : decode b_M_bound 85 = .ok (.istore_n 2, 1) := by decide +kernel
theorem d_M_bound_86 : decode b_M_bound 86 = .ok (.iload_n 2, 1) := by decide +kernel
theorem d_M_bound_87 : decode b_M_bound 87 = .ok (.aload_n 0, 1) := by decide +kernel
theorem d_M_bound_88 : decode b_M_bound 88 = .ok (.getfield 78, 3) := by decide +kernel
theorem d_M_bound_91 : decode b_M_bound 91 = .ok (.if_icmp .ge 61, 3) := by decide +kernel
theorem d_M_bound_94 : decode b_M_bound 94 = .ok (.iconst 0, 1) := by decide +kernel
theorem d_M_bound_95 : decode b_M_bound 95 = .ok (.istore_n 3, 1) := by decide +kernel
theorem d_M_bound_96 : decode b_M_bound 96 = .ok (.iconst 0, 1) := by decide +kernel
theorem d_M_bound_97 : decode b_M_bound 97 = .ok (.istore 4, 2) := by decide +kernel
theorem d_M_bound_99 : decode b_M_bound 99 = .ok (.iload 4, 2) := by decide +kernel
theorem d_M_bound_101 : decode b_M_bound 101 = .ok (.aload_n 0, 1) := by decide +kernel
theorem d_M_bound_102 : decode b_M_bound 102 = .ok (.getfield 85, 3) := by decide +kernel
theorem d_M_bound_105 : decode b_M_bound 105 = .ok (.if_icmp .ge 29, 3) := by decide +kernel
theorem d_M_bound_108 : decode b_M_bound 108 = .ok (.iload_n 3, 1) := by decide +kernel
theorem d_M_bound_109 : decode b_M_bound 109 = .ok (.ifCond .ne 13, 3) := by decide +kernel
theorem d_M_bound_112 : decode b_M_bound 112 = .ok (.aload_n 0, 1) := by decide +kernel
theorem d_M_bound_113 : decode b_M_bound 113 = .ok (.iload_n 2, 1) := by decide +kernel
theorem d_M_bound_114 : decode b_M_bound 114 = .ok (.iload 4, 2) := by decide +kernel
theorem d_M_bound_116 : decode b_M_bound 116 = .ok (.invokevirtual 105, 3) := by decide +kernel
theorem d_M_bound_119 : decode b_M_bound 119 = .ok (.ifCond .eq 7, 3) := by decide +kernel
theorem d_M_bound_122 : decode b_M_bound 122 = .ok (.iconst 1, 1) := by decide +kernel
theorem d_M_bound_123 : decode b_M_bound 123 = .ok (.goto 4, 3) := by decide +kernel
theorem d_M_bound_126 : decode b_M_bound 126 = .ok (.iconst 0, 1) := by decide +kernel
theorem d_M_bound_127 : decode b_M_bound 127 = .ok (.istore_n 3, 1) := by decide +kernel
theorem d_M_bound_128 : decode b_M_bound 128 = .ok (.iinc 4 1, 3) := by decide +kernel
theorem d_M_bound_131 : decode b_M_bound 131 = .ok (.goto (-32), 3) := by decide +kernel
theorem d_M_bound_134 : decode b_M_bound 134 = .ok (.iload_n 1, 1) := by decide +kernel
theorem d_M_bound_135 : decode b_M_bound 135 = .ok (.iload_n 3, 1) := by decide +kernel
theorem d_M_bound_136 : decode b_M_bound 136 = .ok (.ifCond .eq 7, 3) := by decide +kernel
theorem d_M_bound_139 : decode b_M_bound 139 = .ok (.iconst 1, 1) := by decide +kernel
theorem d_M_bound_140 : decode b_M_bound 140 = .ok (.goto 4, 3) := by decide +kernel
theorem d_M_bound_143 : decode b_M_bound 143 = .ok (.iconst 0, 1) := by decide +kernel
theorem d_M_bound_144 : decode b_M_bound 144 = .ok (.iadd, 1) := by decide +kernel
theorem d_M_bound_145 : decode b_M_bound 145 = .ok (.istore_n 1, 1) := by decide +kernel
theorem d_M_bound_146 : decode b_M_bound 146 = .ok (.iinc 2 1, 3) := by decide +kernel
theorem d_M_bound_149 : decode b_M_bound 149 = .ok (.goto (-63), 3) := by decide +kernel
theorem d_M_bound_152 : decode b_M_bound 152 = .ok (.iload_n 1, 1) := by decide +kernel
theorem d_M_bound_153 : decode b_M_bound 153 = .ok (.ireturn, 1) := by decide +kernel
theorem d_M_steps_0 : decode b_M_steps 0 = .ok (.aload_n 0, 1) := by decide +kernel
theorem d_M_steps_1 : decode b_M_steps 1 = .ok (.iconst 0, 1) := by decide +kernel
theorem d_M_steps_2 : decode b_M_steps 2 = .ok (.putfield 74, 3) := by decide +kernel
theorem d_M_steps_5 : decode b_M_steps 5 = .ok (.aload_n 0, 1) := by decide +kernel
theorem d_M_steps_6 : decode b_M_steps 6 = .ok (.getfield 127, 3) := by decide +kernel
theorem d_M_steps_9 : decode b_M_steps 9 = .ok (.ireturn, 1) := by decide +kernel
theorem d_M_pair_0 : decode b_M_pair 0 = .ok (.aload_n 0, 1) := by decide +kernel
theorem d_M_pair_1 : decode b_M_pair 1 = .ok (.iload_n 1, 1) := by decide +kernel
theorem d_M_pair_2 : decode b_M_pair 2 = .ok (.iconst 0, 1) := by decide +kernel
theorem d_M_pair_3 : decode b_M_pair 3 = .ok (.aload_n 0, 1) := by decide +kernel
theorem d_M_pair_4 : decode b_M_pair 4 = .ok (.getfield 92, 3) := by decide +kernel
theorem d_M_pair_7 : decode b_M_pair 7 = .ok (.iconst 1, 1) := by decide +kernel
theorem d_M_pair_8 : decode b_M_pair 8 = .ok (.isub, 1) := by decide +kernel
theorem d_M_pair_9 : decode b_M_pair 9 = .ok (.invokestatic 81, 3) := by decide +kernel
theorem d_M_pair_12 : decode b_M_pair 12 = .ok (.ifCond .ne 7, 3) := by decide +kernel
theorem d_M_pair_15 : decode b_M_pair 15 = .ok (.iconst 1, 1) := by decide +kernel
theorem d_M_pair_16 : decode b_M_pair 16 = .ok (.goto 17, 3) := by decide +kernel
theorem d_M_pair_19 : decode b_M_pair 19 = .ok (.iload_n 2, 1) := by decide +kernel
theorem d_M_pair_20 : decode b_M_pair 20 = .ok (.iconst 0, 1) := by decide +kernel
theorem d_M_pair_21 : decode b_M_pair 21 = .ok (.iconst 2, 1) := by decide +kernel
theorem d_M_pair_22 : decode b_M_pair 22 = .ok (.invokestatic 81, 3) := by decide +kernel
theorem d_M_pair_25 : decode b_M_pair 25 = .ok (.ifCond .ne 7, 3) := by decide +kernel
theorem d_M_pair_28 : decode b_M_pair 28 = .ok (.iconst 2, 1) := by decide +kernel
theorem d_M_pair_29 : decode b_M_pair 29 = .ok (.goto 4, 3) := by decide +kernel
theorem d_M_pair_32 : decode b_M_pair 32 = .ok (.iconst 0, 1) := by decide +kernel
theorem d_M_pair_33 : decode b_M_pair 33 = .ok (.putfield 74, 3) := by decide +kernel
theorem d_M_pair_36 : decode b_M_pair 36 = .ok (.aload_n 0, 1) := by decide +kernel
theorem d_M_pair_37 : decode b_M_pair 37 = .ok (.getfield 74, 3) := by decide +kernel
theorem d_M_pair_40 : decode b_M_pair 40 = .ok (.ifCond .le 5, 3) := by decide +kernel
theorem d_M_pair_43 : decode b_M_pair 43 = .ok (.iconst 0, 1) := by decide +kernel
theorem d_M_pair_44 : decode b_M_pair 44 = .ok (.ireturn, 1) := by decide +kernel
theorem d_M_pair_45 : decode b_M_pair 45 = .ok (.iload_n 2, 1) := by decide +kernel
theorem d_M_pair_46 : decode b_M_pair 46 = .ok (.ifCond .ne 12, 3) := by decide +kernel
theorem d_M_pair_49 : decode b_M_pair 49 = .ok (.aload_n 0, 1) := by decide +kernel
theorem d_M_pair_50 : decode b_M_pair 50 = .ok (.getfield 50, 3) := by decide +kernel
theorem d_M_pair_53 : decode b_M_pair 53 = .ok (.iload_n 1, 1) := by decide +kernel
theorem d_M_pair_54 : decode b_M_pair 54 = .ok (.iaload, 1) := by decide +kernel
theorem d_M_pair_55 : decode b_M_pair 55 = .ok (.goto 23, 3) := by decide +kernel
theorem d_M_pair_58 : decode b_M_pair 58 = .ok (.iload_n 2, 1) := by decide +kernel
theorem d_M_pair_59 : decode b_M_pair 59 = .ok (.iconst 1, 1) := by decide +kernel
theorem d_M_pair_60 : decode b_M_pair 60 = .ok (.if_icmp .ne 12, 3) := by decide +kernel
theorem d_M_pair_63 : decode b_M_pair 63 = .ok (.aload_n 0, 1) := by decide +kernel
theorem d_M_pair_64 : decode b_M_pair 64 = .ok (.getfield 53, 3) := by decide +kernel
theorem d_M_pair_67 : decode b_M_pair 67 = .ok (.iload_n 1, 1) := by decide +kernel
theorem d_M_pair_68 : decode b_M_pair 68 = .ok (.iaload, 1) := by decide +kernel
theorem d_M_pair_69 : decode b_M_pair 69 = .ok (.goto 9, 3) := by decide +kernel
theorem d_M_pair_72 : decode b_M_pair 72 = .ok (.aload_n 0, 1) := by decide +kernel
theorem d_M_pair_73 : decode b_M_pair 73 = .ok (.getfield 56, 3) := by decide +kernel
theorem d_M_pair_76 : decode b_M_pair 76 = .ok (.iload_n 1, 1) := by decide +kernel
theorem d_M_pair_77 : decode b_M_pair 77 = .ok (.iaload, 1) := by decide +kernel
theorem d_M_pair_78 : decode b_M_pair 78 = .ok (.ireturn, 1) := by decide +kernel
theorem d_M_undo_0 : decode b_M_undo 0 = .ok (.aload_n 0, 1) := by decide +kernel
theorem d_M_undo_1 : decode b_M_undo 1 = .ok (.iload_n 1, 1) := by decide +kernel
theorem d_M_undo_2 : decode b_M_undo 2 = .ok (.iconst 0, 1) := by decide +kernel
theorem d_M_undo_3 : decode b_M_undo 3 = .ok (.aload_n 0, 1) := by decide +kernel
theorem d_M_undo_4 : decode b_M_undo 4 = .ok (.getfield 92, 3) := by decide +kernel
theorem d_M_undo_7 : decode b_M_undo 7 = .ok (.iconst 1, 1) := by decide +kernel
theorem d_M_undo_8 : decode b_M_undo 8 = .ok (.isub, 1) := by decide +kernel
theorem d_M_undo_9 : decode b_M_undo 9 = .ok (.invokestatic 81, 3) := by decide +kernel
theorem d_M_undo_12 : decode b_M_undo 12 = .ok (.ifCond .eq 7, 3) := by decide +kernel
theorem d_M_undo_15 : decode b_M_undo 15 = .ok (.iconst 0, 1) := by decide +kernel
theorem d_M_undo_16 : decode b_M_undo 16 = .ok (.goto 4, 3) := by decide +kernel
theorem d_M_undo_19 : decode b_M_undo 19 = .ok (.iconst 1, 1) := by decide +kernel
theorem d_M_undo_20 : decode b_M_undo 20 = .ok (.putfield 74, 3) := by decide +kernel
theorem d_M_undo_23 : decode b_M_undo 23 = .ok (.aload_n 0, 1) := by decide +kernel
theorem d_M_undo_24 : decode b_M_undo 24 = .ok (.getfield 74, 3) := by decide +kernel
theorem d_M_undo_27 : decode b_M_undo 27 = .ok (.ifCond .le 5, 3) := by decide +kernel
theorem d_M_undo_30 : decode b_M_undo 30 = .ok (.iconst 0, 1) := by decide +kernel
theorem d_M_undo_31 : decode b_M_undo 31 = .ok (.ireturn, 1) := by decide +kernel
theorem d_M_undo_32 : decode b_M_undo 32 = .ok (.aload_n 0, 1) := by decide +kernel
theorem d_M_undo_33 : decode b_M_undo 33 = .ok (.getfield 56, 3) := by decide +kernel
theorem d_M_undo_36 : decode b_M_undo 36 = .ok (.iload_n 1, 1) := by decide +kernel
theorem d_M_undo_37 : decode b_M_undo 37 = .ok (.iaload, 1) := by decide +kernel
theorem d_M_undo_38 : decode b_M_undo 38 = .ok (.istore_n 2, 1) := by decide +kernel
theorem d_M_undo_39 : decode b_M_undo 39 = .ok (.aload_n 0, 1) := by decide +kernel
theorem d_M_undo_40 : decode b_M_undo 40 = .ok (.iload_n 1, 1) := by decide +kernel
theorem d_M_undo_41 : decode b_M_undo 41 = .ok (.invokevirtual 156, 3) := by decide +kernel
theorem d_M_undo_44 : decode b_M_undo 44 = .ok (.iload_n 2, 1) := by decide +kernel
theorem d_M_undo_45 : decode b_M_undo 45 = .ok (.ireturn, 1) := by decide +kernel
theorem d_M_drop_0 : decode b_M_drop 0 = .ok (.aload_n 0, 1) := by decide +kernel
theorem d_M_drop_1 : decode b_M_drop 1 = .ok (.dup, 1) := by decide +kernel
theorem d_M_drop_2 : decode b_M_drop 2 = .ok (.getfield 92, 3) := by decide +kernel
theorem d_M_drop_5 : decode b_M_drop 5 = .ok (.iconst 1, 1) := by decide +kernel
theorem d_M_drop_6 : decode b_M_drop 6 = .ok (.isub, 1) := by decide +kernel
theorem d_M_drop_7 : decode b_M_drop 7 = .ok (.putfield 92, 3) := by decide +kernel
theorem d_M_drop_10 : decode b_M_drop 10 = .ok (.iload_n 1, 1) := by decide +kernel
theorem d_M_drop_11 : decode b_M_drop 11 = .ok (.istore_n 2, 1) := by decide +kernel
theorem d_M_drop_12 : decode b_M_drop 12 = .ok (.iload_n 2, 1) := by decide +kernel
theorem d_M_drop_13 : decode b_M_drop 13 = .ok (.aload_n 0, 1) := by decide +kernel
theorem d_M_drop_14 : decode b_M_drop 14 = .ok (.getfield 92, 3) := by decide +kernel
theorem d_M_drop_17 : decode b_M_drop 17 = .ok (.if_icmp .ge 51, 3) := by decide +kernel
theorem d_M_drop_20 : decode b_M_drop 20 = .ok (.aload_n 0, 1) := by decide +kernel
theorem d_M_drop_21 : decode b_M_drop 21 = .ok (.getfield 50, 3) := by decide +kernel
theorem d_M_drop_24 : decode b_M_drop 24 = .ok (.iload_n 2, 1) := by decide +kernel
theorem d_M_drop_25 : decode b_M_drop 25 = .ok (.aload_n 0, 1) := by decide +kernel
theorem d_M_drop_26 : decode b_M_drop 26 = .ok (.getfield 50, 3) := by decide +kernel
theorem d_M_drop_29 : decode b_M_drop 29 = .ok (.iload_n 2, 1) := by decide +kernel
theorem d_M_drop_30 : decode b_M_drop 30 = .ok (.iconst 1, 1) := by decide +kernel
theorem d_M_drop_31 : decode b_M_drop 31 = .ok (.iadd, 1) := by decide +kernel
theorem d_M_drop_32 : decode b_M_drop 32 = .ok (.iaload, 1) := by decide +kernel
theorem d_M_drop_33 : decode b_M_drop 33 = .ok (.iastore, 1) := by decide +kernel
theorem d_M_drop_34 : decode b_M_drop 34 = .ok (.aload_n 0, 1) := by decide +kernel
theorem d_M_drop_35 : decode b_M_drop 35 = .ok (.getfield 53, 3) := by decide +kernel
theorem d_M_drop_38 : decode b_M_drop 38 = .ok (.iload_n 2, 1) := by decide +kernel
theorem d_M_drop_39 : decode b_M_drop 39 = .ok (.aload_n 0, 1) := by decide +kernel
theorem d_M_drop_40 : decode b_M_drop 40 = .ok (.getfield 53, 3) := by decide +kernel
theorem d_M_drop_43 : decode b_M_drop 43 = .ok (.iload_n 2, 1) := by decide +kernel
theorem d_M_drop_44 : decode b_M_drop 44 = .ok (.iconst 1, 1) := by decide +kernel
theorem d_M_drop_45 : decode b_M_drop 45 = .ok (.iadd, 1) := by decide +kernel
theorem d_M_drop_46 : decode b_M_drop 46 = .ok (.iaload, 1) := by decide +kernel
theorem d_M_drop_47 : decode b_M_drop 47 = .ok (.iastore, 1) := by decide +kernel
theorem d_M_drop_48 : decode b_M_drop 48 = .ok (.aload_n 0, 1) := by decide +kernel
theorem d_M_drop_49 : decode b_M_drop 49 = .ok (.getfield 56, 3) := by decide +kernel
theorem d_M_drop_52 : decode b_M_drop 52 = .ok (.iload_n 2, 1) := by decide +kernel
theorem d_M_drop_53 : decode b_M_drop 53 = .ok (.aload_n 0, 1) := by decide +kernel
theorem d_M_drop_54 : decode b_M_drop 54 = .ok (.getfield 56, 3) := by decide +kernel
theorem d_M_drop_57 : decode b_M_drop 57 = .ok (.iload_n 2, 1) := by decide +kernel
theorem d_M_drop_58 : decode b_M_drop 58 = .ok (.iconst 1, 1) := by decide +kernel
theorem d_M_drop_59 : decode b_M_drop 59 = .ok (.iadd, 1) := by decide +kernel
theorem d_M_drop_60 : decode b_M_drop 60 = .ok (.iaload, 1) := by decide +kernel
theorem d_M_drop_61 : decode b_M_drop 61 = .ok (.iastore, 1) := by decide +kernel
theorem d_M_drop_62 : decode b_M_drop 62 = .ok (.iinc 2 1, 3) := by decide +kernel
theorem d_M_drop_65 : decode b_M_drop 65 = .ok (.goto (-53), 3) := by decide +kernel
theorem d_M_drop_68 : decode b_M_drop 68 = .ok (.return_, 1) := by decide +kernel
theorem d_M_split_0 : decode b_M_split 0 = .ok (.aload_n 0, 1) := by decide +kernel
theorem d_M_split_1 : decode b_M_split 1 = .ok (.aload_n 0, 1) := by decide +kernel
theorem d_M_split_2 : decode b_M_split 2 = .ok (.iload_n 1, 1) := by decide +kernel
theorem d_M_split_3 : decode b_M_split 3 = .ok (.invokevirtual 95, 3) := by decide +kernel
theorem d_M_split_6 : decode b_M_split 6 = .ok (.ifCond .ne 7, 3) := by decide +kernel
theorem d_M_split_9 : decode b_M_split 9 = .ok (.iconst 1, 1) := by decide +kernel
theorem d_M_split_10 : decode b_M_split 10 = .ok (.goto 49, 3) := by decide +kernel
theorem d_M_split_13 : decode b_M_split 13 = .ok (.iload_n 2, 1) := by decide +kernel
theorem d_M_split_14 : decode b_M_split 14 = .ok (.iconst 1, 1) := by decide +kernel
theorem d_M_split_15 : decode b_M_split 15 = .ok (.aload_n 0, 1) := by decide +kernel
theorem d_M_split_16 : decode b_M_split 16 = .ok (.getfield 19, 3) := by decide +kernel
theorem d_M_split_19 : decode b_M_split 19 = .ok (.iload_n 1, 1) := by decide +kernel
theorem d_M_split_20 : decode b_M_split 20 = .ok (.iaload, 1) := by decide +kernel
theorem d_M_split_21 : decode b_M_split 21 = .ok (.iconst 1, 1) := by decide +kernel
theorem d_M_split_22 : decode b_M_split 22 = .ok (.isub, 1) := by decide +kernel
theorem d_M_split_23 : decode b_M_split 23 = .ok (.invokestatic 81, 3) := by decide +kernel
theorem d_M_split_26 : decode b_M_split 26 = .ok (.ifCond .ne 7, 3) := by decide +kernel
theorem d_M_split_29 : decode b_M_split 29 = .ok (.iconst 2, 1) := by decide +kernel
theorem d_M_split_30 : decode b_M_split 30 = .ok (.goto 29, 3) := by decide +kernel
theorem d_M_split_33 : decode b_M_split 33 = .ok (.aload_n 0, 1) := by decide +kernel
theorem d_M_split_34 : decode b_M_split 34 = .ok (.iload_n 1, 1) := by decide +kernel
theorem d_M_split_35 : decode b_M_split 35 = .ok (.invokevirtual 98, 3) := by decide +kernel
theorem d_M_split_38 : decode b_M_split 38 = .ok (.ifCond .le 7, 3) := by decide +kernel
theorem d_M_split_41 : decode b_M_split 41 = .ok (.iconst 3, 1) := by decide +kernel
theorem d_M_split_42 : decode b_M_split 42 = .ok (.goto 17, 3) := by decide +kernel
theorem d_M_split_45 : decode b_M_split 45 = .ok (.aload_n 0, 1) := by decide +kernel
theorem d_M_split_46 : decode b_M_split 46 = .ok (.getfield 78, 3) := by decide +kernel
theorem d_M_split_49 : decode b_M_split 49 = .ok (.bipush 8, 2) := by decide +kernel
theorem d_M_split_51 : decode b_M_split 51 = .ok (.if_icmp .ne 7, 3) := by decide +kernel
theorem d_M_split_54 : decode b_M_split 54 = .ok (.iconst 4, 1) := by decide +kernel
theorem d_M_split_55 : decode b_M_split 55 = .ok (.goto 4, 3) := by decide +kernel
theorem d_M_split_58 : decode b_M_split 58 = .ok (.iconst 0, 1) := by decide +kernel
theorem d_M_split_59 : decode b_M_split 59 = .ok (.putfield 74, 3) := by decide +kernel
theorem d_M_split_62 : decode b_M_split 62 = .ok (.aload_n 0, 1) := by decide +kernel
theorem d_M_split_63 : decode b_M_split 63 = .ok (.getfield 74, 3) := by decide +kernel
theorem d_M_split_66 : decode b_M_split 66 = .ok (.ifCond .le 5, 3) := by decide +kernel
theorem d_M_split_69 : decode b_M_split 69 = .ok (.iconst 0, 1) := by decide +kernel
theorem d_M_split_70 : decode b_M_split 70 = .ok (.ireturn, 1) := by decide +kernel
theorem d_M_split_71 : decode b_M_split 71 = .ok (.aload_n 0, 1) := by decide +kernel
theorem d_M_split_72 : decode b_M_split 72 = .ok (.getfield 78, 3) := by decide +kernel
theorem d_M_split_75 : decode b_M_split 75 = .ok (.istore_n 3, 1) := by decide +kernel
theorem d_M_split_76 : decode b_M_split 76 = .ok (.aload_n 0, 1) := by decide +kernel
theorem d_M_split_77 : decode b_M_split 77 = .ok (.dup, 1) := by decide +kernel
theorem d_M_split_78 : decode b_M_split 78 = .ok (.getfield 78, 3) := by decide +kernel
theorem d_M_split_81 : decode b_M_split 81 = .ok (.iconst 1, 1) := by decide +kernel
theorem d_M_split_82 : decode b_M_split 82 = .ok (.iadd, 1) := by decide +kernel
theorem d_M_split_83 : decode b_M_split 83 = .ok (.putfield 78, 3) := by decide +kernel
theorem d_M_split_86 : decode b_M_split 86 = .ok (.aload_n 0, 1) := by decide +kernel
theorem d_M_split_87 : decode b_M_split 87 = .ok (.getfield 7, 3) := by decide +kernel
theorem d_M_split_90 : decode b_M_split 90 = .ok (.iload_n 3, 1) := by decide +kernel
theorem d_M_split_91 : decode b_M_split 91 = .ok (.aload_n 0, 1) := by decide +kernel
theorem d_M_split_92 : decode b_M_split 92 = .ok (.getfield 7, 3) := by decide +kernel
theorem d_M_split_95 : decode b_M_split 95 = .ok (.iload_n 1, 1) := by decide +kernel
theorem d_M_split_96 : decode b_M_split 96 = .ok (.iaload, 1) := by decide +kernel
theorem d_M_split_97 : decode b_M_split 97 = .ok (.iastore, 1) := by decide +kernel
theorem d_M_split_98 : decode b_M_split 98 = .ok (.aload_n 0, 1) := by decide +kernel
theorem d_M_split_99 : decode b_M_split 99 = .ok (.getfield 13, 3) := by decide +kernel
theorem d_M_split_102 : decode b_M_split 102 = .ok (.iload_n 3, 1) := by decide +kernel
theorem d_M_split_103 : decode b_M_split 103 = .ok (.aload_n 0, 1) := by decide +kernel
theorem d_M_split_104 : decode b_M_split 104 = .ok (.getfield 13, 3) := by decide +kernel
theorem d_M_split_107 : decode b_M_split 107 = .ok (.iload_n 1, 1) := by decide +kernel
theorem d_M_split_108 : decode b_M_split 108 = .ok (.iaload, 1) := by decide +kernel
theorem d_M_split_109 : decode b_M_split 109 = .ok (.iastore, 1) := by decide +kernel
theorem d_M_split_110 : decode b_M_split 110 = .ok (.aload_n 0, 1) := by decide +kernel
theorem d_M_split_111 : decode b_M_split 111 = .ok (.getfield 16, 3) := by decide +kernel
theorem d_M_split_114 : decode b_M_split 114 = .ok (.iload_n 3, 1) := by decide +kernel
theorem d_M_split_115 : decode b_M_split 115 = .ok (.aload_n 0, 1) := by decide +kernel
theorem d_M_split_116 : decode b_M_split 116 = .ok (.getfield 16, 3) := by decide +kernel
theorem d_M_split_119 : decode b_M_split 119 = .ok (.iload_n 1, 1) := by decide +kernel
theorem d_M_split_120 : decode b_M_split 120 = .ok (.iaload, 1) := by decide +kernel
theorem d_M_split_121 : decode b_M_split 121 = .ok (.iastore, 1) := by decide +kernel
theorem d_M_split_122 : decode b_M_split 122 = .ok (.aload_n 0, 1) := by decide +kernel
theorem d_M_split_123 : decode b_M_split 123 = .ok (.getfield 19, 3) := by decide +kernel
theorem d_M_split_126 : decode b_M_split 126 = .ok (.iload_n 3, 1) := by decide +kernel
theorem d_M_split_127 : decode b_M_split 127 = .ok (.iload_n 2, 1) := by decide +kernel
theorem d_M_split_128 : decode b_M_split 128 = .ok (.iastore, 1) := by decide +kernel
theorem d_M_split_129 : decode b_M_split 129 = .ok (.aload_n 0, 1) := by decide +kernel
theorem d_M_split_130 : decode b_M_split 130 = .ok (.getfield 19, 3) := by decide +kernel
theorem d_M_split_133 : decode b_M_split 133 = .ok (.iload_n 1, 1) := by decide +kernel
theorem d_M_split_134 : decode b_M_split 134 = .ok (.dup2, 1) := by decide +kernel
theorem d_M_split_135 : decode b_M_split 135 = .ok (.iaload, 1) := by decide +kernel
theorem d_M_split_136 : decode b_M_split 136 = .ok (.iload_n 2, 1) := by decide +kernel
theorem d_M_split_137 : decode b_M_split 137 = .ok (.isub, 1) := by decide +kernel
theorem d_M_split_138 : decode b_M_split 138 = .ok (.iastore, 1) := by decide +kernel
theorem d_M_split_139 : decode b_M_split 139 = .ok (.aload_n 0, 1) := by decide +kernel
theorem d_M_split_140 : decode b_M_split 140 = .ok (.getfield 22, 3) := by decide +kernel
theorem d_M_split_143 : decode b_M_split 143 = .ok (.iload_n 1, 1) := by decide +kernel
theorem d_M_split_144 : decode b_M_split 144 = .ok (.iaload, 1) := by decide +kernel
theorem d_M_split_145 : decode b_M_split 145 = .ok (.aload_n 0, 1) := by decide +kernel
theorem d_M_split_146 : decode b_M_split 146 = .ok (.getfield 19, 3) := by decide +kernel
theorem d_M_split_149 : decode b_M_split 149 = .ok (.iload_n 1, 1) := by decide +kernel
theorem d_M_split_150 : decode b_M_split 150 = .ok (.iaload, 1) := by decide +kernel
theorem d_M_split_151 : decode b_M_split 151 = .ok (.if_icmp .ge 12, 3) := by decide +kernel
theorem d_M_split_154 : decode b_M_split 154 = .ok (.aload_n 0, 1) := by decide +kernel
theorem d_M_split_155 : decode b_M_split 155 = .ok (.getfield 22, 3) := by decide +kernel
theorem d_M_split_158 : decode b_M_split 158 = .ok (.iload_n 1, 1) := by decide +kernel
theorem d_M_split_159 : decode b_M_split 159 = .ok (.iaload, 1) := by decide +kernel
theorem d_M_split_160 : decode b_M_split 160 = .ok (.goto 9, 3) := by decide +kernel
theorem d_M_split_163 : decode b_M_split 163 = .ok (.aload_n 0, 1) := by decide +kernel
theorem d_M_split_164 : decode b_M_split 164 = .ok (.getfield 19, 3) := by decide +kernel
theorem d_M_split_167 : decode b_M_split 167 = .ok (.iload_n 1, 1) := by decide +kernel
theorem d_M_split_168 : decode b_M_split 168 = .ok (.iaload, 1) := by decide +kernel
theorem d_M_split_169 : decode b_M_split 169 = .ok (.istore 4, 2) := by decide +kernel
theorem d_M_split_171 : decode b_M_split 171 = .ok (.aload_n 0, 1) := by decide +kernel
theorem d_M_split_172 : decode b_M_split 172 = .ok (.getfield 22, 3) := by decide +kernel
theorem d_M_split_175 : decode b_M_split 175 = .ok (.iload_n 3, 1) := by decide +kernel
theorem d_M_split_176 : decode b_M_split 176 = .ok (.aload_n 0, 1) := by decide +kernel
theorem d_M_split_177 : decode b_M_split 177 = .ok (.getfield 22, 3) := by decide +kernel
theorem d_M_split_180 : decode b_M_split 180 = .ok (.iload_n 1, 1) := by decide +kernel
theorem d_M_split_181 : decode b_M_split 181 = .ok (.iaload, 1) := by decide +kernel
theorem d_M_split_182 : decode b_M_split 182 = .ok (.iload 4, 2) := by decide +kernel
theorem d_M_split_184 : decode b_M_split 184 = .ok (.isub, 1) := by decide +kernel
theorem d_M_split_185 : decode b_M_split 185 = .ok (.iastore, 1) := by decide +kernel
theorem d_M_split_186 : decode b_M_split 186 = .ok (.aload_n 0, 1) := by decide +kernel
theorem d_M_split_187 : decode b_M_split 187 = .ok (.getfield 22, 3) := by decide +kernel
theorem d_M_split_190 : decode b_M_split 190 = .ok (.iload_n 1, 1) := by decide +kernel
theorem d_M_split_191 : decode b_M_split 191 = .ok (.iload 4, 2) := by decide +kernel
theorem d_M_split_193 : decode b_M_split 193 = .ok (.iastore, 1) := by decide +kernel
theorem d_M_split_194 : decode b_M_split 194 = .ok (.iconst 0, 1) := by decide +kernel
theorem d_M_split_195 : decode b_M_split 195 = .ok (.istore 5, 2) := by decide +kernel
theorem d_M_split_197 : decode b_M_split 197 = .ok (.iload 5, 2) := by decide +kernel
theorem d_M_split_199 : decode b_M_split 199 = .ok (.bipush 8, 2) := by decide +kernel
theorem d_M_split_201 : decode b_M_split 201 = .ok (.if_icmp .ge 33, 3) := by decide +kernel
theorem d_M_split_204 : decode b_M_split 204 = .ok (.aload_n 0, 1) := by decide +kernel
theorem d_M_split_205 : decode b_M_split 205 = .ok (.getfield 43, 3) := by decide +kernel
theorem d_M_split_208 : decode b_M_split 208 = .ok (.bipush 8, 2) := by decide +kernel
theorem d_M_split_210 : decode b_M_split 210 = .ok (.iload_n 3, 1) := by decide +kernel
theorem d_M_split_211 : decode b_M_split 211 = .ok (.imul, 1) := by decide +kernel
theorem d_M_split_212 : decode b_M_split 212 = .ok (.iload 5, 2) := by decide +kernel
theorem d_M_split_214 : decode b_M_split 214 = .ok (.iadd, 1) := by decide +kernel
theorem d_M_split_215 : decode b_M_split 215 = .ok (.aload_n 0, 1) := by decide +kernel
theorem d_M_split_216 : decode b_M_split 216 = .ok (.getfield 43, 3) := by decide +kernel
theorem d_M_split_219 : decode b_M_split 219 = .ok (.bipush 8, 2) := by decide +kernel
theorem d_M_split_221 : decode b_M_split 221 = .ok (.iload_n 1, 1) := by decide +kernel
theorem d_M_split_222 : decode b_M_split 222 = .ok (.imul, 1) := by decide +kernel
theorem d_M_split_223 : decode b_M_split 223 = .ok (.iload 5, 2) := by decide +kernel
theorem d_M_split_225 : decode b_M_split 225 = .ok (.iadd, 1) := by decide +kernel
theorem d_M_split_226 : decode b_M_split 226 = .ok (.baload, 1) := by decide +kernel
theorem d_M_split_227 : decode b_M_split 227 = .ok (.bastore, 1) := by decide +kernel
theorem d_M_split_228 : decode b_M_split 228 = .ok (.iinc 5 1, 3) := by decide +kernel
theorem d_M_split_231 : decode b_M_split 231 = .ok (.goto (-34), 3) := by decide +kernel
theorem d_M_split_234 : decode b_M_split 234 = .ok (.iload_n 3, 1) := by decide +kernel
theorem d_M_split_235 : decode b_M_split 235 = .ok (.ireturn, 1) := by decide +kernel
theorem d_M_late_0 : decode b_M_late 0 = .ok (.aload_n 0, 1) := by decide +kernel
theorem d_M_late_1 : decode b_M_late 1 = .ok (.aload_n 0, 1) := by decide +kernel
theorem d_M_late_2 : decode b_M_late 2 = .ok (.iload_n 1, 1) := by decide +kernel
theorem d_M_late_3 : decode b_M_late 3 = .ok (.invokevirtual 95, 3) := by decide +kernel
theorem d_M_late_6 : decode b_M_late 6 = .ok (.ifCond .ne 7, 3) := by decide +kernel
theorem d_M_late_9 : decode b_M_late 9 = .ok (.iconst 1, 1) := by decide +kernel
theorem d_M_late_10 : decode b_M_late 10 = .ok (.goto 19, 3) := by decide +kernel
theorem d_M_late_13 : decode b_M_late 13 = .ok (.iload_n 2, 1) := by decide +kernel
theorem d_M_late_14 : decode b_M_late 14 = .ok (.iconst 0, 1) := by decide +kernel
theorem d_M_late_15 : decode b_M_late 15 = .ok (.sipush 1000, 3) := by decide +kernel
theorem d_M_late_18 : decode b_M_late 18 = .ok (.invokestatic 81, 3) := by decide +kernel
theorem d_M_late_21 : decode b_M_late 21 = .ok (.ifCond .ne 7, 3) := by decide +kernel
theorem d_M_late_24 : decode b_M_late 24 = .ok (.iconst 2, 1) := by decide +kernel
theorem d_M_late_25 : decode b_M_late 25 = .ok (.goto 4, 3) := by decide +kernel
theorem d_M_late_28 : decode b_M_late 28 = .ok (.iconst 0, 1) := by decide +kernel
theorem d_M_late_29 : decode b_M_late 29 = .ok (.putfield 74, 3) := by decide +kernel
theorem d_M_late_32 : decode b_M_late 32 = .ok (.aload_n 0, 1) := by decide +kernel
theorem d_M_late_33 : decode b_M_late 33 = .ok (.getfield 74, 3) := by decide +kernel
theorem d_M_late_36 : decode b_M_late 36 = .ok (.ifCond .le 5, 3) := by decide +kernel
theorem d_M_late_39 : decode b_M_late 39 = .ok (.iconst 0, 1) := by decide +kernel
theorem d_M_late_40 : decode b_M_late 40 = .ok (.ireturn, 1) := by decide +kernel
theorem d_M_late_41 : decode b_M_late 41 = .ok (.aload_n 0, 1) := by decide +kernel
theorem d_M_late_42 : decode b_M_late 42 = .ok (.getfield 16, 3) := by decide +kernel
theorem d_M_late_45 : decode b_M_late 45 = .ok (.iload_n 1, 1) := by decide +kernel
theorem d_M_late_46 : decode b_M_late 46 = .ok (.iload_n 2, 1) := by decide +kernel
theorem d_M_late_47 : decode b_M_late 47 = .ok (.iastore, 1) := by decide +kernel
theorem d_M_late_48 : decode b_M_late 48 = .ok (.iconst 0, 1) := by decide +kernel
theorem d_M_late_49 : decode b_M_late 49 = .ok (.istore_n 3, 1) := by decide +kernel
theorem d_M_late_50 : decode b_M_late 50 = .ok (.aload_n 0, 1) := by decide +kernel
theorem d_M_late_51 : decode b_M_late 51 = .ok (.getfield 92, 3) := by decide +kernel
theorem d_M_late_54 : decode b_M_late 54 = .ok (.iconst 1, 1) := by decide +kernel
theorem d_M_late_55 : decode b_M_late 55 = .ok (.isub, 1) := by decide +kernel
theorem d_M_late_56 : decode b_M_late 56 = .ok (.istore 4, 2) := by decide +kernel
theorem d_M_late_58 : decode b_M_late 58 = .ok (.iload 4, 2) := by decide +kernel
theorem d_M_late_60 : decode b_M_late 60 = .ok (.ifCond .lt 48, 3) := by decide +kernel
theorem d_M_late_63 : decode b_M_late 63 = .ok (.aload_n 0, 1) := by decide +kernel
theorem d_M_late_64 : decode b_M_late 64 = .ok (.getfield 50, 3) := by decide +kernel
theorem d_M_late_67 : decode b_M_late 67 = .ok (.iload 4, 2) := by decide +kernel
theorem d_M_late_69 : decode b_M_late 69 = .ok (.iaload, 1) := by decide +kernel
theorem d_M_late_70 : decode b_M_late 70 = .ok (.iload_n 1, 1) := by decide +kernel
theorem d_M_late_71 : decode b_M_late 71 = .ok (.if_icmp .ne 31, 3) := by decide +kernel
theorem d_M_late_74 : decode b_M_late 74 = .ok (.aload_n 0, 1) := by decide +kernel
theorem d_M_late_75 : decode b_M_late 75 = .ok (.iload_n 1, 1) := by decide +kernel
theorem d_M_late_76 : decode b_M_late 76 = .ok (.aload_n 0, 1) := by decide +kernel
theorem d_M_late_77 : decode b_M_late 77 = .ok (.getfield 53, 3) := by decide +kernel
theorem d_M_late_80 : decode b_M_late 80 = .ok (.iload 4, 2) := by decide +kernel
theorem d_M_late_82 : decode b_M_late 82 = .ok (.iaload, 1) := by decide +kernel
theorem d_M_late_83 : decode b_M_late 83 = .ok (.iconst 4, 1) := by decide +kernel
theorem d_M_late_84 : decode b_M_late 84 = .ok (.invokevirtual 102, 3) := by decide +kernel
theorem d_M_late_87 : decode b_M_late 87 = .ok (.ifCond .eq 6, 3) := by decide +kernel
theorem d_M_late_90 : decode b_M_late 90 = .ok (.goto 12, 3) := by decide +kernel
theorem d_M_late_93 : decode b_M_late 93 = .ok (.aload_n 0, 1) := by decide +kernel
theorem d_M_late_94 : decode b_M_late 94 = .ok (.iload 4, 2) := by decide +kernel
theorem d_M_late_96 : decode b_M_late 96 = .ok (.invokevirtual 156, 3) := by decide +kernel
theorem d_M_late_99 : decode b_M_late 99 = .ok (.iinc 3 1, 3) := by decide +kernel
theorem d_M_late_102 : decode b_M_late 102 = .ok (.iinc 4 (-1), 3) := by decide +kernel
theorem d_M_late_105 : decode b_M_late 105 = .ok (.goto (-47), 3) := by decide +kernel
theorem d_M_late_108 : decode b_M_late 108 = .ok (.iload_n 3, 1) := by decide +kernel
theorem d_M_late_109 : decode b_M_late 109 = .ok (.ireturn, 1) := by decide +kernel
theorem d_M_arrival_0 : decode b_M_arrival 0 = .ok (.aload_n 0, 1) := by decide +kernel
theorem d_M_arrival_1 : decode b_M_arrival 1 = .ok (.aload_n 0, 1) := by decide +kernel
theorem d_M_arrival_2 : decode b_M_arrival 2 = .ok (.iload_n 1, 1) := by decide +kernel
theorem d_M_arrival_3 : decode b_M_arrival 3 = .ok (.invokevirtual 95, 3) := by decide +kernel
theorem d_M_arrival_6 : decode b_M_arrival 6 = .ok (.ifCond .ne 7, 3) := by decide +kernel
theorem d_M_arrival_9 : decode b_M_arrival 9 = .ok (.iconst 1, 1) := by decide +kernel
theorem d_M_arrival_10 : decode b_M_arrival 10 = .ok (.goto 17, 3) := by decide +kernel
theorem d_M_arrival_13 : decode b_M_arrival 13 = .ok (.iload_n 2, 1) := by decide +kernel
theorem d_M_arrival_14 : decode b_M_arrival 14 = .ok (.iconst 0, 1) := by decide +kernel
theorem d_M_arrival_15 : decode b_M_arrival 15 = .ok (.iconst 3, 1) := by decide +kernel
theorem d_M_arrival_16 : decode b_M_arrival 16 = .ok (.invokestatic 81, 3) := by decide +kernel
theorem d_M_arrival_19 : decode b_M_arrival 19 = .ok (.ifCond .ne 7, 3) := by decide +kernel
theorem d_M_arrival_22 : decode b_M_arrival 22 = .ok (.iconst 2, 1) := by decide +kernel
theorem d_M_arrival_23 : decode b_M_arrival 23 = .ok (.goto 4, 3) := by decide +kernel
theorem d_M_arrival_26 : decode b_M_arrival 26 = .ok (.iconst 0, 1) := by decide +kernel
theorem d_M_arrival_27 : decode b_M_arrival 27 = .ok (.putfield 74, 3) := by decide +kernel
theorem d_M_arrival_30 : decode b_M_arrival 30 = .ok (.aload_n 0, 1) := by decide +kernel
theorem d_M_arrival_31 : decode b_M_arrival 31 = .ok (.getfield 74, 3) := by decide +kernel
theorem d_M_arrival_34 : decode b_M_arrival 34 = .ok (.ifCond .le 5, 3) := by decide +kernel
theorem d_M_arrival_37 : decode b_M_arrival 37 = .ok (.iconst 0, 1) := by decide +kernel
theorem d_M_arrival_38 : decode b_M_arrival 38 = .ok (.ireturn, 1) := by decide +kernel
theorem d_M_arrival_39 : decode b_M_arrival 39 = .ok (.iload_n 2, 1) := by decide +kernel
theorem d_M_arrival_40 : decode b_M_arrival 40 = .ok (.ifCond .ne 15, 3) := by decide +kernel
theorem d_M_arrival_43 : decode b_M_arrival 43 = .ok (.aload_n 0, 1) := by decide +kernel
theorem d_M_arrival_44 : decode b_M_arrival 44 = .ok (.iload_n 1, 1) := by decide +kernel
theorem d_M_arrival_45 : decode b_M_arrival 45 = .ok (.invokevirtual 124, 3) := by decide +kernel
theorem d_M_arrival_48 : decode b_M_arrival 48 = .ok (.aload_n 0, 1) := by decide +kernel
theorem d_M_arrival_49 : decode b_M_arrival 49 = .ok (.iload_n 1, 1) := by decide +kernel
theorem d_M_arrival_50 : decode b_M_arrival 50 = .ok (.invokevirtual 98, 3) := by decide +kernel
theorem d_M_arrival_53 : decode b_M_arrival 53 = .ok (.isub, 1) := by decide +kernel
theorem d_M_arrival_54 : decode b_M_arrival 54 = .ok (.ireturn, 1) := by decide +kernel
theorem d_M_arrival_55 : decode b_M_arrival 55 = .ok (.iload_n 2, 1) := by decide +kernel
theorem d_M_arrival_56 : decode b_M_arrival 56 = .ok (.iconst 1, 1) := by decide +kernel
theorem d_M_arrival_57 : decode b_M_arrival 57 = .ok (.if_icmp .ne 10, 3) := by decide +kernel
theorem d_M_arrival_60 : decode b_M_arrival 60 = .ok (.aload_n 0, 1) := by decide +kernel
theorem d_M_arrival_61 : decode b_M_arrival 61 = .ok (.getfield 16, 3) := by decide +kernel
theorem d_M_arrival_64 : decode b_M_arrival 64 = .ok (.iload_n 1, 1) := by decide +kernel
theorem d_M_arrival_65 : decode b_M_arrival 65 = .ok (.iaload, 1) := by decide +kernel
theorem d_M_arrival_66 : decode b_M_arrival 66 = .ok (.ireturn, 1) := by decide +kernel
theorem d_M_arrival_67 : decode b_M_arrival 67 = .ok (.iload_n 2, 1) := by decide +kernel
theorem d_M_arrival_68 : decode b_M_arrival 68 = .ok (.iconst 2, 1) := by decide +kernel
theorem d_M_arrival_69 : decode b_M_arrival 69 = .ok (.if_icmp .ne 10, 3) := by decide +kernel
theorem d_M_arrival_72 : decode b_M_arrival 72 = .ok (.aload_n 0, 1) := by decide +kernel
theorem d_M_arrival_73 : decode b_M_arrival 73 = .ok (.getfield 19, 3) := by decide +kernel
theorem d_M_arrival_76 : decode b_M_arrival 76 = .ok (.iload_n 1, 1) := by decide +kernel
theorem d_M_arrival_77 : decode b_M_arrival 77 = .ok (.iaload, 1) := by decide +kernel
theorem d_M_arrival_78 : decode b_M_arrival 78 = .ok (.ireturn, 1) := by decide +kernel
theorem d_M_arrival_79 : decode b_M_arrival 79 = .ok (.iconst 0, 1) := by decide +kernel
theorem d_M_arrival_80 : decode b_M_arrival 80 = .ok (.istore_n 3, 1) := by decide +kernel
theorem d_M_arrival_81 : decode b_M_arrival 81 = .ok (.iconst 0, 1) := by decide +kernel
theorem d_M_arrival_82 : decode b_M_arrival 82 = .ok (.istore 4, 2) := by decide +kernel
theorem d_M_arrival_84 : decode b_M_arrival 84 = .ok (.iload 4, 2) := by decide +kernel
theorem d_M_arrival_86 : decode b_M_arrival 86 = .ok (.aload_n 0, 1) := by decide +kernel
theorem d_M_arrival_87 : decode b_M_arrival 87 = .ok (.getfield 85, 3) := by decide +kernel
theorem d_M_arrival_90 : decode b_M_arrival 90 = .ok (.if_icmp .ge 27, 3) := by decide +kernel
theorem d_M_arrival_93 : decode b_M_arrival 93 = .ok (.iload_n 3, 1) := by decide +kernel
theorem d_M_arrival_94 : decode b_M_arrival 94 = .ok (.aload_n 0, 1) := by decide +kernel
theorem d_M_arrival_95 : decode b_M_arrival 95 = .ok (.iload_n 1, 1) := by decide +kernel
theorem d_M_arrival_96 : decode b_M_arrival 96 = .ok (.iload 4, 2) := by decide +kernel
theorem d_M_arrival_98 : decode b_M_arrival 98 = .ok (.invokevirtual 105, 3) := by decide +kernel
theorem d_M_arrival_101 : decode b_M_arrival 101 = .ok (.ifCond .eq 7, 3) := by decide +kernel
theorem d_M_arrival_104 : decode b_M_arrival 104 = .ok (.iconst 1, 1) := by decide +kernel
theorem d_M_arrival_105 : decode b_M_arrival 105 = .ok (.goto 4, 3) := by decide +kernel
theorem d_M_arrival_108 : decode b_M_arrival 108 = .ok (.iconst 0, 1) := by decide +kernel
theorem d_M_arrival_109 : decode b_M_arrival 109 = .ok (.iadd, 1) := by decide +kernel
theorem d_M_arrival_110 : decode b_M_arrival 110 = .ok (.istore_n 3, 1) := by decide +kernel
theorem d_M_arrival_111 : decode b_M_arrival 111 = .ok (.iinc 4 1, 3) := by decide +kernel
theorem d_M_arrival_114 : decode b_M_arrival 114 = .ok (.goto (-30), 3) := by decide +kernel
theorem d_M_arrival_117 : decode b_M_arrival 117 = .ok (.iload_n 3, 1) := by decide +kernel
theorem d_M_arrival_118 : decode b_M_arrival 118 = .ok (.ireturn, 1) := by decide +kernel
theorem d_M_wanted_0 : decode b_M_wanted 0 = .ok (.aload_n 0, 1) := by decide +kernel
theorem d_M_wanted_1 : decode b_M_wanted 1 = .ok (.aload_n 0, 1) := by decide +kernel
theorem d_M_wanted_2 : decode b_M_wanted 2 = .ok (.iload_n 1, 1) := by decide +kernel
theorem d_M_wanted_3 : decode b_M_wanted 3 = .ok (.invokevirtual 88, 3) := by decide +kernel
theorem d_M_wanted_6 : decode b_M_wanted 6 = .ok (.ifCond .ne 7, 3) := by decide +kernel
theorem d_M_wanted_9 : decode b_M_wanted 9 = .ok (.iconst 1, 1) := by decide +kernel
theorem d_M_wanted_10 : decode b_M_wanted 10 = .ok (.goto 17, 3) := by decide +kernel
theorem d_M_wanted_13 : decode b_M_wanted 13 = .ok (.iload_n 2, 1) := by decide +kernel
theorem d_M_wanted_14 : decode b_M_wanted 14 = .ok (.iconst 0, 1) := by decide +kernel
theorem d_M_wanted_15 : decode b_M_wanted 15 = .ok (.iconst 3, 1) := by decide +kernel
theorem d_M_wanted_16 : decode b_M_wanted 16 = .ok (.invokestatic 81, 3) := by decide +kernel
theorem d_M_wanted_19 : decode b_M_wanted 19 = .ok (.ifCond .ne 7, 3) := by decide +kernel
theorem d_M_wanted_22 : decode b_M_wanted 22 = .ok (.iconst 2, 1) := by decide +kernel
theorem d_M_wanted_23 : decode b_M_wanted 23 = .ok (.goto 4, 3) := by decide +kernel
theorem d_M_wanted_26 : decode b_M_wanted 26 = .ok (.iconst 0, 1) := by decide +kernel
theorem d_M_wanted_27 : decode b_M_wanted 27 = .ok (.putfield 74, 3) := by decide +kernel
theorem d_M_wanted_30 : decode b_M_wanted 30 = .ok (.aload_n 0, 1) := by decide +kernel
theorem d_M_wanted_31 : decode b_M_wanted 31 = .ok (.getfield 74, 3) := by decide +kernel
theorem d_M_wanted_34 : decode b_M_wanted 34 = .ok (.ifCond .le 5, 3) := by decide +kernel
theorem d_M_wanted_37 : decode b_M_wanted 37 = .ok (.iconst 0, 1) := by decide +kernel
theorem d_M_wanted_38 : decode b_M_wanted 38 = .ok (.ireturn, 1) := by decide +kernel
theorem d_M_wanted_39 : decode b_M_wanted 39 = .ok (.iload_n 2, 1) := by decide +kernel
theorem d_M_wanted_40 : decode b_M_wanted 40 = .ok (.ifCond .ne 16, 3) := by decide +kernel
theorem d_M_wanted_43 : decode b_M_wanted 43 = .ok (.aload_n 0, 1) := by decide +kernel
theorem d_M_wanted_44 : decode b_M_wanted 44 = .ok (.getfield 28, 3) := by decide +kernel
theorem d_M_wanted_47 : decode b_M_wanted 47 = .ok (.iload_n 1, 1) := by decide +kernel
theorem d_M_wanted_48 : decode b_M_wanted 48 = .ok (.iaload, 1) := by decide +kernel
theorem d_M_wanted_49 : decode b_M_wanted 49 = .ok (.aload_n 0, 1) := by decide +kernel
theorem d_M_wanted_50 : decode b_M_wanted 50 = .ok (.iload_n 1, 1) := by decide +kernel
theorem d_M_wanted_51 : decode b_M_wanted 51 = .ok (.invokevirtual 153, 3) := by decide +kernel
theorem d_M_wanted_54 : decode b_M_wanted 54 = .ok (.isub, 1) := by decide +kernel
theorem d_M_wanted_55 : decode b_M_wanted 55 = .ok (.ireturn, 1) := by decide +kernel
theorem d_M_wanted_56 : decode b_M_wanted 56 = .ok (.iload_n 2, 1) := by decide +kernel
theorem d_M_wanted_57 : decode b_M_wanted 57 = .ok (.iconst 1, 1) := by decide +kernel
theorem d_M_wanted_58 : decode b_M_wanted 58 = .ok (.if_icmp .ne 10, 3) := by decide +kernel
theorem d_M_wanted_61 : decode b_M_wanted 61 = .ok (.aload_n 0, 1) := by decide +kernel
theorem d_M_wanted_62 : decode b_M_wanted 62 = .ok (.getfield 37, 3) := by decide +kernel
theorem d_M_wanted_65 : decode b_M_wanted 65 = .ok (.iload_n 1, 1) := by decide +kernel
theorem d_M_wanted_66 : decode b_M_wanted 66 = .ok (.iaload, 1) := by decide +kernel
theorem d_M_wanted_67 : decode b_M_wanted 67 = .ok (.ireturn, 1) := by decide +kernel
theorem d_M_wanted_68 : decode b_M_wanted 68 = .ok (.iload_n 2, 1) := by decide +kernel
theorem d_M_wanted_69 : decode b_M_wanted 69 = .ok (.iconst 2, 1) := by decide +kernel
theorem d_M_wanted_70 : decode b_M_wanted 70 = .ok (.if_icmp .ne 10, 3) := by decide +kernel
theorem d_M_wanted_73 : decode b_M_wanted 73 = .ok (.aload_n 0, 1) := by decide +kernel
theorem d_M_wanted_74 : decode b_M_wanted 74 = .ok (.iload_n 1, 1) := by decide +kernel
theorem d_M_wanted_75 : decode b_M_wanted 75 = .ok (.iconst 5, 1) := by decide +kernel
theorem d_M_wanted_76 : decode b_M_wanted 76 = .ok (.invokevirtual 160, 3) := by decide +kernel
theorem d_M_wanted_79 : decode b_M_wanted 79 = .ok (.ireturn, 1) := by decide +kernel
theorem d_M_wanted_80 : decode b_M_wanted 80 = .ok (.iconst 1, 1) := by decide +kernel
theorem d_M_wanted_81 : decode b_M_wanted 81 = .ok (.istore_n 3, 1) := by decide +kernel
theorem d_M_wanted_82 : decode b_M_wanted 82 = .ok (.iload_n 3, 1) := by decide +kernel
theorem d_M_wanted_83 : decode b_M_wanted 83 = .ok (.bipush 6, 2) := by decide +kernel
theorem d_M_wanted_85 : decode b_M_wanted 85 = .ok (.if_icmp .ge 20, 3) := by decide +kernel
theorem d_M_wanted_88 : decode b_M_wanted 88 = .ok (.aload_n 0, 1) := by decide +kernel
theorem d_M_wanted_89 : decode b_M_wanted 89 = .ok (.iload_n 1, 1) := by decide +kernel
theorem d_M_wanted_90 : decode b_M_wanted 90 = .ok (.iload_n 3, 1) := by decide +kernel
theorem d_M_wanted_91 : decode b_M_wanted 91 = .ok (.invokevirtual 160, 3) := by decide +kernel
theorem d_M_wanted_94 : decode b_M_wanted 94 = .ok (.ifCond .ne 5, 3) := by decide +kernel
theorem d_M_wanted_97 : decode b_M_wanted 97 = .ok (.iload_n 3, 1) := by decide +kernel
theorem d_M_wanted_98 : decode b_M_wanted 98 = .ok (.ireturn, 1) := by decide +kernel
theorem d_M_wanted_99 : decode b_M_wanted 99 = .ok (.iinc 3 1, 3) := by decide +kernel
theorem d_M_wanted_102 : decode b_M_wanted 102 = .ok (.goto (-20), 3) := by decide +kernel
theorem d_M_wanted_105 : decode b_M_wanted 105 = .ok (.iconst 0, 1) := by decide +kernel
theorem d_M_wanted_106 : decode b_M_wanted 106 = .ok (.ireturn, 1) := by decide +kernel
theorem d_M_passing_0 : decode b_M_passing 0 = .ok (.iconst 0, 1) := by decide +kernel
theorem d_M_passing_1 : decode b_M_passing 1 = .ok (.istore_n 3, 1) := by decide +kernel
theorem d_M_passing_2 : decode b_M_passing 2 = .ok (.iconst 0, 1) := by decide +kernel
theorem d_M_passing_3 : decode b_M_passing 3 = .ok (.istore 4, 2) := by decide +kernel
theorem d_M_passing_5 : decode b_M_passing 5 = .ok (.iload 4, 2) := by decide +kernel
theorem d_M_passing_7 : decode b_M_passing 7 = .ok (.aload_n 0, 1) := by decide +kernel
theorem d_M_passing_8 : decode b_M_passing 8 = .ok (.getfield 78, 3) := by decide +kernel
theorem d_M_passing_11 : decode b_M_passing 11 = .ok (.if_icmp .ge 28, 3) := by decide +kernel
theorem d_M_passing_14 : decode b_M_passing 14 = .ok (.iload_n 3, 1) := by decide +kernel
theorem d_M_passing_15 : decode b_M_passing 15 = .ok (.aload_n 0, 1) := by decide +kernel
theorem d_M_passing_16 : decode b_M_passing 16 = .ok (.iload 4, 2) := by decide +kernel
theorem d_M_passing_18 : decode b_M_passing 18 = .ok (.iload_n 1, 1) := by decide +kernel
theorem d_M_passing_19 : decode b_M_passing 19 = .ok (.iload_n 2, 1) := by decide +kernel
theorem d_M_passing_20 : decode b_M_passing 20 = .ok (.invokevirtual 102, 3) := by decide +kernel
theorem d_M_passing_23 : decode b_M_passing 23 = .ok (.ifCond .eq 7, 3) := by decide +kernel
theorem d_M_passing_26 : decode b_M_passing 26 = .ok (.iconst 1, 1) := by decide +kernel
theorem d_M_passing_27 : decode b_M_passing 27 = .ok (.goto 4, 3) := by decide +kernel
theorem d_M_passing_30 : decode b_M_passing 30 = .ok (.iconst 0, 1) := by decide +kernel
theorem d_M_passing_31 : decode b_M_passing 31 = .ok (.iadd, 1) := by decide +kernel
theorem d_M_passing_32 : decode b_M_passing 32 = .ok (.istore_n 3, 1) := by decide +kernel
theorem d_M_passing_33 : decode b_M_passing 33 = .ok (.iinc 4 1, 3) := by decide +kernel
theorem d_M_passing_36 : decode b_M_passing 36 = .ok (.goto (-31), 3) := by decide +kernel
