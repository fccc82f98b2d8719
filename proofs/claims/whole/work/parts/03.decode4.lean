theorem d_L_wanted_17 : decode b_L_wanted 17 = .ok (.astore 4, 2) := by decide +kernel
theorem d_L_wanted_19 : decode b_L_wanted 19 = .ok (.iconst 2, 1) := by decide +kernel
theorem d_L_wanted_20 : decode b_L_wanted 20 = .ok (.ireturn, 1) := by decide +kernel
theorem d_L_wanted_21 : decode b_L_wanted 21 = .ok (.iconst 0, 1) := by decide +kernel
theorem d_L_wanted_22 : decode b_L_wanted 22 = .ok (.ireturn, 1) := by decide +kernel
theorem d_D_wanted_0 : decode b_D_wanted 0 = .ok (.iload_n 1, 1) := by decide +kernel
theorem d_D_wanted_1 : decode b_D_wanted 1 = .ok (.aload_n 0, 1) := by decide +kernel
theorem d_D_wanted_2 : decode b_D_wanted 2 = .ok (.getfield 52, 3) := by decide +kernel
theorem d_D_wanted_5 : decode b_D_wanted 5 = .ok (.invokestatic 96, 3) := by decide +kernel
theorem d_D_wanted_8 : decode b_D_wanted 8 = .ok (.iload_n 2, 1) := by decide +kernel
theorem d_D_wanted_9 : decode b_D_wanted 9 = .ok (.iconst 0, 1) := by decide +kernel
theorem d_D_wanted_10 : decode b_D_wanted 10 = .ok (.iconst 3, 1) := by decide +kernel
theorem d_D_wanted_11 : decode b_D_wanted 11 = .ok (.invokestatic 62, 3) := by decide +kernel
theorem d_D_wanted_14 : decode b_D_wanted 14 = .ok (.iload_n 2, 1) := by decide +kernel
theorem d_D_wanted_15 : decode b_D_wanted 15 = .ok (.tableswitch 60 0 2 #[25, 44, 54], 25) := by decide +kernel
theorem d_D_wanted_40 : decode b_D_wanted 40 = .ok (.aload_n 0, 1) := by decide +kernel
theorem d_D_wanted_41 : decode b_D_wanted 41 = .ok (.getfield 18, 3) := by decide +kernel
theorem d_D_wanted_44 : decode b_D_wanted 44 = .ok (.iload_n 1, 1) := by decide +kernel
theorem d_D_wanted_45 : decode b_D_wanted 45 = .ok (.aaload, 1) := by decide +kernel
theorem d_D_wanted_46 : decode b_D_wanted 46 = .ok (.getfield 83, 3) := by decide +kernel
theorem d_D_wanted_49 : decode b_D_wanted 49 = .ok (.aload_n 0, 1) := by decide +kernel
theorem d_D_wanted_50 : decode b_D_wanted 50 = .ok (.getfield 44, 3) := by decide +kernel
theorem d_D_wanted_53 : decode b_D_wanted 53 = .ok (.iload_n 1, 1) := by decide +kernel
theorem d_D_wanted_54 : decode b_D_wanted 54 = .ok (.invokevirtual 176, 3) := by decide +kernel
theorem d_D_wanted_57 : decode b_D_wanted 57 = .ok (.isub, 1) := by decide +kernel
theorem d_D_wanted_58 : decode b_D_wanted 58 = .ok (.ireturn, 1) := by decide +kernel
theorem d_D_wanted_59 : decode b_D_wanted 59 = .ok (.aload_n 0, 1) := by decide +kernel
theorem d_D_wanted_60 : decode b_D_wanted 60 = .ok (.getfield 18, 3) := by decide +kernel
theorem d_D_wanted_63 : decode b_D_wanted 63 = .ok (.iload_n 1, 1) := by decide +kernel
theorem d_D_wanted_64 : decode b_D_wanted 64 = .ok (.aaload, 1) := by decide +kernel
theorem d_D_wanted_65 : decode b_D_wanted 65 = .ok (.getfield 90, 3) := by decide +kernel
theorem d_D_wanted_68 : decode b_D_wanted 68 = .ok (.ireturn, 1) := by decide +kernel
theorem d_D_wanted_69 : decode b_D_wanted 69 = .ok (.aload_n 0, 1) := by decide +kernel
theorem d_D_wanted_70 : decode b_D_wanted 70 = .ok (.iload_n 1, 1) := by decide +kernel
theorem d_D_wanted_71 : decode b_D_wanted 71 = .ok (.invokevirtual 142, 3) := by decide +kernel
theorem d_D_wanted_74 : decode b_D_wanted 74 = .ok (.ireturn, 1) := by decide +kernel
theorem d_D_wanted_75 : decode b_D_wanted 75 = .ok (.aload_n 0, 1) := by decide +kernel
theorem d_D_wanted_76 : decode b_D_wanted 76 = .ok (.iload_n 1, 1) := by decide +kernel
theorem d_D_wanted_77 : decode b_D_wanted 77 = .ok (.invokevirtual 179, 3) := by decide +kernel
theorem d_D_wanted_80 : decode b_D_wanted 80 = .ok (.ireturn, 1) := by decide +kernel
theorem d_D_whatBarsAll_0 : decode b_D_whatBarsAll 0 = .ok (.iconst 1, 1) := by decide +kernel
theorem d_D_whatBarsAll_1 : decode b_D_whatBarsAll 1 = .ok (.istore_n 2, 1) := by decide +kernel
theorem d_D_whatBarsAll_2 : decode b_D_whatBarsAll 2 = .ok (.iconst 0, 1) := by decide +kernel
theorem d_D_whatBarsAll_3 : decode b_D_whatBarsAll 3 = .ok (.istore_n 3, 1) := by decide +kernel
theorem d_D_whatBarsAll_4 : decode b_D_whatBarsAll 4 = .ok (.iload_n 3, 1) := by decide +kernel
theorem d_D_whatBarsAll_5 : decode b_D_whatBarsAll 5 = .ok (.aload_n 0, 1) := by decide +kernel
theorem d_D_whatBarsAll_6 : decode b_D_whatBarsAll 6 = .ok (.getfield 48, 3) := by decide +kernel
theorem d_D_whatBarsAll_9 : decode b_D_whatBarsAll 9 = .ok (.if_icmp .ge 31, 3) := by decide +kernel
theorem d_D_whatBarsAll_12 : decode b_D_whatBarsAll 12 = .ok (.aload_n 0, 1) := by decide +kernel
theorem d_D_whatBarsAll_13 : decode b_D_whatBarsAll 13 = .ok (.iload_n 3, 1) := by decide +kernel
theorem d_D_whatBarsAll_14 : decode b_D_whatBarsAll 14 = .ok (.iload_n 1, 1) := by decide +kernel
theorem d_D_whatBarsAll_15 : decode b_D_whatBarsAll 15 = .ok (.invokevirtual 209, 3) := by decide +kernel
theorem d_D_whatBarsAll_18 : decode b_D_whatBarsAll 18 = .ok (.istore 4, 2) := by decide +kernel
theorem d_D_whatBarsAll_20 : decode b_D_whatBarsAll 20 = .ok (.iload 4, 2) := by decide +kernel
theorem d_D_whatBarsAll_22 : decode b_D_whatBarsAll 22 = .ok (.ifCond .ne 5, 3) := by decide +kernel
theorem d_D_whatBarsAll_25 : decode b_D_whatBarsAll 25 = .ok (.iconst 0, 1) := by decide +kernel
theorem d_D_whatBarsAll_26 : decode b_D_whatBarsAll 26 = .ok (.ireturn, 1) := by decide +kernel
theorem d_D_whatBarsAll_27 : decode b_D_whatBarsAll 27 = .ok (.iload_n 2, 1) := by decide +kernel
theorem d_D_whatBarsAll_28 : decode b_D_whatBarsAll 28 = .ok (.iload 4, 2) := by decide +kernel
theorem d_D_whatBarsAll_30 : decode b_D_whatBarsAll 30 = .ok (.invokestatic 213, 3) := by decide +kernel
theorem d_D_whatBarsAll_33 : decode b_D_whatBarsAll 33 = .ok (.istore_n 2, 1) := by decide +kernel
theorem d_D_whatBarsAll_34 : decode b_D_whatBarsAll 34 = .ok (.iinc 3 1, 3) := by decide +kernel
theorem d_D_whatBarsAll_37 : decode b_D_whatBarsAll 37 = .ok (.goto (-33), 3) := by decide +kernel
theorem d_D_whatBarsAll_40 : decode b_D_whatBarsAll 40 = .ok (.iload_n 2, 1) := by decide +kernel
theorem d_D_whatBarsAll_41 : decode b_D_whatBarsAll 41 = .ok (.ireturn, 1) := by decide +kernel
theorem d_M_init_0 : decode b_M_init 0 = .ok (.aload_n 0, 1) := by decide +kernel
theorem d_M_init_1 : decode b_M_init 1 = .ok (.invokespecial 1, 3) := by decide +kernel
theorem d_M_init_4 : decode b_M_init 4 = .ok (.aload_n 0, 1) := by decide +kernel
theorem d_M_init_5 : decode b_M_init 5 = .ok (.bipush 8, 2) := by decide +kernel
theorem d_M_init_7 : decode b_M_init 7 = .ok (.newarray .int, 2) := by decide +kernel
theorem d_M_init_9 : decode b_M_init 9 = .ok (.putfield 7, 3) := by decide +kernel
theorem d_M_init_12 : decode b_M_init 12 = .ok (.aload_n 0, 1) := by decide +kernel
theorem d_M_init_13 : decode b_M_init 13 = .ok (.bipush 8, 2) := by decide +kernel
theorem d_M_init_15 : decode b_M_init 15 = .ok (.newarray .int, 2) := by decide +kernel
theorem d_M_init_17 : decode b_M_init 17 = .ok (.putfield 13, 3) := by decide +kernel
theorem d_M_init_20 : decode b_M_init 20 = .ok (.aload_n 0, 1) := by decide +kernel
theorem d_M_init_21 : decode b_M_init 21 = .ok (.bipush 8, 2) := by decide +kernel
theorem d_M_init_23 : decode b_M_init 23 = .ok (.newarray .int, 2) := by decide +kernel
theorem d_M_init_25 : decode b_M_init 25 = .ok (.putfield 16, 3) := by decide +kernel
theorem d_M_init_28 : decode b_M_init 28 = .ok (.aload_n 0, 1) := by decide +kernel
theorem d_M_init_29 : decode b_M_init 29 = .ok (.bipush 8, 2) := by decide +kernel
theorem d_M_init_31 : decode b_M_init 31 = .ok (.newarray .int, 2) := by decide +kernel
theorem d_M_init_33 : decode b_M_init 33 = .ok (.putfield 19, 3) := by decide +kernel
theorem d_M_init_36 : decode b_M_init 36 = .ok (.aload_n 0, 1) := by decide +kernel
theorem d_M_init_37 : decode b_M_init 37 = .ok (.bipush 8, 2) := by decide +kernel
theorem d_M_init_39 : decode b_M_init 39 = .ok (.newarray .int, 2) := by decide +kernel
theorem d_M_init_41 : decode b_M_init 41 = .ok (.putfield 22, 3) := by decide +kernel
theorem d_M_init_44 : decode b_M_init 44 = .ok (.aload_n 0, 1) := by decide +kernel
theorem d_M_init_45 : decode b_M_init 45 = .ok (.bipush 8, 2) := by decide +kernel
theorem d_M_init_47 : decode b_M_init 47 = .ok (.newarray .int, 2) := by decide +kernel
theorem d_M_init_49 : decode b_M_init 49 = .ok (.putfield 25, 3) := by decide +kernel
theorem d_M_init_52 : decode b_M_init 52 = .ok (.aload_n 0, 1) := by decide +kernel
theorem d_M_init_53 : decode b_M_init 53 = .ok (.bipush 8, 2) := by decide +kernel
theorem d_M_init_55 : decode b_M_init 55 = .ok (.newarray .int, 2) := by decide +kernel
theorem d_M_init_57 : decode b_M_init 57 = .ok (.putfield 28, 3) := by decide +kernel
theorem d_M_init_60 : decode b_M_init 60 = .ok (.aload_n 0, 1) := by decide +kernel
theorem d_M_init_61 : decode b_M_init 61 = .ok (.bipush 8, 2) := by decide +kernel
theorem d_M_init_63 : decode b_M_init 63 = .ok (.newarray .int, 2) := by decide +kernel
theorem d_M_init_65 : decode b_M_init 65 = .ok (.putfield 31, 3) := by decide +kernel
theorem d_M_init_68 : decode b_M_init 68 = .ok (.aload_n 0, 1) := by decide +kernel
theorem d_M_init_69 : decode b_M_init 69 = .ok (.bipush 8, 2) := by decide +kernel
theorem d_M_init_71 : decode b_M_init 71 = .ok (.newarray .int, 2) := by decide +kernel
theorem d_M_init_73 : decode b_M_init 73 = .ok (.putfield 34, 3) := by decide +kernel
theorem d_M_init_76 : decode b_M_init 76 = .ok (.aload_n 0, 1) := by decide +kernel
theorem d_M_init_77 : decode b_M_init 77 = .ok (.bipush 8, 2) := by decide +kernel
theorem d_M_init_79 : decode b_M_init 79 = .ok (.newarray .int, 2) := by decide +kernel
theorem d_M_init_81 : decode b_M_init 81 = .ok (.putfield 37, 3) := by decide +kernel
theorem d_M_init_84 : decode b_M_init 84 = .ok (.aload_n 0, 1) := by decide +kernel
theorem d_M_init_85 : decode b_M_init 85 = .ok (.bipush 8, 2) := by decide +kernel
theorem d_M_init_87 : decode b_M_init 87 = .ok (.newarray .int, 2) := by decide +kernel
theorem d_M_init_89 : decode b_M_init 89 = .ok (.putfield 40, 3) := by decide +kernel
theorem d_M_init_92 : decode b_M_init 92 = .ok (.aload_n 0, 1) := by decide +kernel
theorem d_M_init_93 : decode b_M_init 93 = .ok (.bipush 64, 2) := by decide +kernel
theorem d_M_init_95 : decode b_M_init 95 = .ok (.newarray .boolean, 2) := by decide +kernel
theorem d_M_init_97 : decode b_M_init 97 = .ok (.putfield 43, 3) := by decide +kernel
theorem d_M_init_100 : decode b_M_init 100 = .ok (.aload_n 0, 1) := by decide +kernel
theorem d_M_init_101 : decode b_M_init 101 = .ok (.iconst 4, 1) := by decide +kernel
theorem d_M_init_102 : decode b_M_init 102 = .ok (.newarray .boolean, 2) := by decide +kernel
theorem d_M_init_104 : decode b_M_init 104 = .ok (.putfield 47, 3) := by decide +kernel
theorem d_M_init_107 : decode b_M_init 107 = .ok (.aload_n 0, 1) := by decide +kernel
theorem d_M_init_108 : decode b_M_init 108 = .ok (.bipush 64, 2) := by decide +kernel
theorem d_M_init_110 : decode b_M_init 110 = .ok (.newarray .int, 2) := by decide +kernel
theorem d_M_init_112 : decode b_M_init 112 = .ok (.putfield 50, 3) := by decide +kernel
theorem d_M_init_115 : decode b_M_init 115 = .ok (.aload_n 0, 1) := by decide +kernel
theorem d_M_init_116 : decode b_M_init 116 = .ok (.bipush 64, 2) := by decide +kernel
theorem d_M_init_118 : decode b_M_init 118 = .ok (.newarray .int, 2) := by decide +kernel
theorem d_M_init_120 : decode b_M_init 120 = .ok (.putfield 53, 3) := by decide +kernel
theorem d_M_init_123 : decode b_M_init 123 = .ok (.aload_n 0, 1) := by decide +kernel
theorem d_M_init_124 : decode b_M_init 124 = .ok (.bipush 64, 2) := by decide +kernel
theorem d_M_init_126 : decode b_M_init 126 = .ok (.newarray .int, 2) := by decide +kernel
theorem d_M_init_128 : decode b_M_init 128 = .ok (.putfield 56, 3) := by decide +kernel
theorem d_M_init_131 : decode b_M_init 131 = .ok (.aload_n 0, 1) := by decide +kernel
theorem d_M_init_132 : decode b_M_init 132 = .ok (.bipush 64, 2) := by decide +kernel
theorem d_M_init_134 : decode b_M_init 134 = .ok (.newarray .int, 2) := by decide +kernel
theorem d_M_init_136 : decode b_M_init 136 = .ok (.putfield 59, 3) := by decide +kernel
theorem d_M_init_139 : decode b_M_init 139 = .ok (.aload_n 0, 1) := by decide +kernel
theorem d_M_init_140 : decode b_M_init 140 = .ok (.bipush 64, 2) := by decide +kernel
theorem d_M_init_142 : decode b_M_init 142 = .ok (.newarray .int, 2) := by decide +kernel
theorem d_M_init_144 : decode b_M_init 144 = .ok (.putfield 62, 3) := by decide +kernel
theorem d_M_init_147 : decode b_M_init 147 = .ok (.aload_n 0, 1) := by decide +kernel
theorem d_M_init_148 : decode b_M_init 148 = .ok (.bipush 65, 2) := by decide +kernel
theorem d_M_init_150 : decode b_M_init 150 = .ok (.newarray .int, 2) := by decide +kernel
theorem d_M_init_152 : decode b_M_init 152 = .ok (.putfield 65, 3) := by decide +kernel
theorem d_M_init_155 : decode b_M_init 155 = .ok (.aload_n 0, 1) := by decide +kernel
theorem d_M_init_156 : decode b_M_init 156 = .ok (.bipush 64, 2) := by decide +kernel
theorem d_M_init_158 : decode b_M_init 158 = .ok (.newarray .int, 2) := by decide +kernel
theorem d_M_init_160 : decode b_M_init 160 = .ok (.putfield 68, 3) := by decide +kernel
theorem d_M_init_163 : decode b_M_init 163 = .ok (.aload_n 0, 1) := by decide +kernel
theorem d_M_init_164 : decode b_M_init 164 = .ok (.bipush 8, 2) := by decide +kernel
theorem d_M_init_166 : decode b_M_init 166 = .ok (.newarray .int, 2) := by decide +kernel
theorem d_M_init_168 : decode b_M_init 168 = .ok (.putfield 71, 3) := by decide +kernel
theorem d_M_init_171 : decode b_M_init 171 = .ok (.return_, 1) := by decide +kernel
theorem d_M_thrown_0 : decode b_M_thrown 0 = .ok (.aload_n 0, 1) := by decide +kernel
theorem d_M_thrown_1 : decode b_M_thrown 1 = .ok (.getfield 74, 3) := by decide +kernel
theorem d_M_thrown_4 : decode b_M_thrown 4 = .ok (.ireturn, 1) := by decide +kernel
theorem d_M_arrive_0 : decode b_M_arrive 0 = .ok (.aload_n 0, 1) := by decide +kernel
theorem d_M_arrive_1 : decode b_M_arrive 1 = .ok (.iload_n 1, 1) := by decide +kernel
theorem d_M_arrive_2 : decode b_M_arrive 2 = .ok (.iconst 0, 1) := by decide +kernel
theorem d_M_arrive_3 : decode b_M_arrive 3 = .ok (.bipush 7, 2) := by decide +kernel
theorem d_M_arrive_5 : decode b_M_arrive 5 = .ok (.invokestatic 81, 3) := by decide +kernel
theorem d_M_arrive_8 : decode b_M_arrive 8 = .ok (.ifCond .eq 35, 3) := by decide +kernel
theorem d_M_arrive_11 : decode b_M_arrive 11 = .ok (.iload_n 2, 1) := by decide +kernel
theorem d_M_arrive_12 : decode b_M_arrive 12 = .ok (.iconst 0, 1) := by decide +kernel
theorem d_M_arrive_13 : decode b_M_arrive 13 = .ok (.bipush 9, 2) := by decide +kernel
theorem d_M_arrive_15 : decode b_M_arrive 15 = .ok (.invokestatic 81, 3) := by decide +kernel
theorem d_M_arrive_18 : decode b_M_arrive 18 = .ok (.ifCond .eq 25, 3) := by decide +kernel
theorem d_M_arrive_21 : decode b_M_arrive 21 = .ok (.iload_n 3, 1) := by decide +kernel
theorem d_M_arrive_22 : decode b_M_arrive 22 = .ok (.iconst 0, 1) := by decide +kernel
theorem d_M_arrive_23 : decode b_M_arrive 23 = .ok (.sipush 1000, 3) := by decide +kernel
theorem d_M_arrive_26 : decode b_M_arrive 26 = .ok (.invokestatic 81, 3) := by decide +kernel
theorem d_M_arrive_29 : decode b_M_arrive 29 = .ok (.ifCond .eq 14, 3) := by decide +kernel
theorem d_M_arrive_32 : decode b_M_arrive 32 = .ok (.iload 4, 2) := by decide +kernel
theorem d_M_arrive_34 : decode b_M_arrive 34 = .ok (.iconst 1, 1) := by decide +kernel
theorem d_M_arrive_35 : decode b_M_arrive 35 = .ok (.bipush 6, 2) := by decide +kernel
theorem d_M_arrive_37 : decode b_M_arrive 37 = .ok (.invokestatic 81, 3) := by decide +kernel
theorem d_M_arrive_40 : decode b_M_arrive 40 = .ok (.ifCond .ne 7, 3) := by decide +kernel
theorem d_M_arrive_43 : decode b_M_arrive 43 = .ok (.iconst 1, 1) := by decide +kernel
theorem d_M_arrive_44 : decode b_M_arrive 44 = .ok (.goto 17, 3) := by decide +kernel
theorem d_M_arrive_47 : decode b_M_arrive 47 = .ok (.aload_n 0, 1) := by decide +kernel
theorem d_M_arrive_48 : decode b_M_arrive 48 = .ok (.getfield 78, 3) := by decide +kernel
theorem d_M_arrive_51 : decode b_M_arrive 51 = .ok (.bipush 8, 2) := by decide +kernel
theorem d_M_arrive_53 : decode b_M_arrive 53 = .ok (.if_icmp .ne 7, 3) := by decide +kernel
theorem d_M_arrive_56 : decode b_M_arrive 56 = .ok (.iconst 2, 1) := by decide +kernel
theorem d_M_arrive_57 : decode b_M_arrive 57 = .ok (.goto 4, 3) := by decide +kernel
theorem d_M_arrive_60 : decode b_M_arrive 60 = .ok (.iconst 0, 1) := by decide +kernel
theorem d_M_arrive_61 : decode b_M_arrive 61 = .ok (.putfield 74, 3) := by decide +kernel
theorem d_M_arrive_64 : decode b_M_arrive 64 = .ok (.aload_n 0, 1) := by decide +kernel
theorem d_M_arrive_65 : decode b_M_arrive 65 = .ok (.getfield 74, 3) := by decide +kernel
theorem d_M_arrive_68 : decode b_M_arrive 68 = .ok (.ifCond .le 5, 3) := by decide +kernel
theorem d_M_arrive_71 : decode b_M_arrive 71 = .ok (.iconst 0, 1) := by decide +kernel
theorem d_M_arrive_72 : decode b_M_arrive 72 = .ok (.ireturn, 1) := by decide +kernel
theorem d_M_arrive_73 : decode b_M_arrive 73 = .ok (.aload_n 0, 1) := by decide +kernel
theorem d_M_arrive_74 : decode b_M_arrive 74 = .ok (.getfield 7, 3) := by decide +kernel
theorem d_M_arrive_77 : decode b_M_arrive 77 = .ok (.aload_n 0, 1) := by decide +kernel
theorem d_M_arrive_78 : decode b_M_arrive 78 = .ok (.getfield 78, 3) := by decide +kernel
theorem d_M_arrive_81 : decode b_M_arrive 81 = .ok (.iload_n 1, 1) := by decide +kernel
theorem d_M_arrive_82 : decode b_M_arrive 82 = .ok (.iastore, 1) := by decide +kernel
theorem d_M_arrive_83 : decode b_M_arrive 83 = .ok (.aload_n 0, 1) := by decide +kernel
theorem d_M_arrive_84 : decode b_M_arrive 84 = .ok (.getfield 13, 3) := by decide +kernel
theorem d_M_arrive_87 : decode b_M_arrive 87 = .ok (.aload_n 0, 1) := by decide +kernel
theorem d_M_arrive_88 : decode b_M_arrive 88 = .ok (.getfield 78, 3) := by decide +kernel
theorem d_M_arrive_91 : decode b_M_arrive 91 = .ok (.iload_n 2, 1) := by decide +kernel
theorem d_M_arrive_92 : decode b_M_arrive 92 = .ok (.iastore, 1) := by decide +kernel
theorem d_M_arrive_93 : decode b_M_arrive 93 = .ok (.aload_n 0, 1) := by decide +kernel
theorem d_M_arrive_94 : decode b_M_arrive 94 = .ok (.getfield 16, 3) := by decide +kernel
theorem d_M_arrive_97 : decode b_M_arrive 97 = .ok (.aload_n 0, 1) := by decide +kernel
theorem d_M_arrive_98 : decode b_M_arrive 98 = .ok (.getfield 78, 3) := by decide +kernel
theorem d_M_arrive_101 : decode b_M_arrive 101 = .ok (.iload_n 3, 1) := by decide +kernel
theorem d_M_arrive_102 : decode b_M_arrive 102 = .ok (.iastore, 1) := by decide +kernel
theorem d_M_arrive_103 : decode b_M_arrive 103 = .ok (.aload_n 0, 1) := by decide +kernel
theorem d_M_arrive_104 : decode b_M_arrive 104 = .ok (.getfield 19, 3) := by decide +kernel
theorem d_M_arrive_107 : decode b_M_arrive 107 = .ok (.aload_n 0, 1) := by decide +kernel
theorem d_M_arrive_108 : decode b_M_arrive 108 = .ok (.getfield 78, 3) := by decide +kernel
theorem d_M_arrive_111 : decode b_M_arrive 111 = .ok (.iload 4, 2) := by decide +kernel
theorem d_M_arrive_113 : decode b_M_arrive 113 = .ok (.iastore, 1) := by decide +kernel
theorem d_M_arrive_114 : decode b_M_arrive 114 = .ok (.aload_n 0, 1) := by decide +kernel
theorem d_M_arrive_115 : decode b_M_arrive 115 = .ok (.dup, 1) := by decide +kernel
theorem d_M_arrive_116 : decode b_M_arrive 116 = .ok (.getfield 78, 3) := by decide +kernel
theorem d_M_arrive_119 : decode b_M_arrive 119 = .ok (.iconst 1, 1) := by decide +kernel
theorem d_M_arrive_120 : decode b_M_arrive 120 = .ok (.iadd, 1) := by decide +kernel
theorem d_M_arrive_121 : decode b_M_arrive 121 = .ok (.putfield 78, 3) := by decide +kernel
theorem d_M_arrive_124 : decode b_M_arrive 124 = .ok (.aload_n 0, 1) := by decide +kernel
theorem d_M_arrive_125 : decode b_M_arrive 125 = .ok (.getfield 78, 3) := by decide +kernel
theorem d_M_arrive_128 : decode b_M_arrive 128 = .ok (.iconst 1, 1) := by decide +kernel
theorem d_M_arrive_129 : decode b_M_arrive 129 = .ok (.isub, 1) := by decide +kernel
theorem d_M_arrive_130 : decode b_M_arrive 130 = .ok (.ireturn, 1) := by decide +kernel
theorem d_M_in_0 : decode b_M_in 0 = .ok (.iload_n 0, 1) := by decide +kernel
theorem d_M_in_1 : decode b_M_in 1 = .ok (.iload_n 1, 1) := by decide +kernel
theorem d_M_in_2 : decode b_M_in 2 = .ok (.if_icmp .lt 12, 3) := by decide +kernel
theorem d_M_in_5 : decode b_M_in 5 = .ok (.iload_n 0, 1) := by decide +kernel
theorem d_M_in_6 : decode b_M_in 6 = .ok (.iload_n 2, 1) := by decide +kernel
theorem d_M_in_7 : decode b_M_in 7 = .ok (.if_icmp .gt 7, 3) := by decide +kernel
theorem d_M_in_10 : decode b_M_in 10 = .ok (.iconst 1, 1) := by decide +kernel
theorem d_M_in_11 : decode b_M_in 11 = .ok (.goto 4, 3) := by decide +kernel
theorem d_M_in_14 : decode b_M_in 14 = .ok (.iconst 0, 1) := by decide +kernel
theorem d_M_in_15 : decode b_M_in 15 = .ok (.ireturn, 1) := by decide +kernel
theorem d_M_order_0 : decode b_M_order 0 = .ok (.aload_n 0, 1) := by decide +kernel
theorem d_M_order_1 : decode b_M_order 1 = .ok (.iload_n 1, 1) := by decide +kernel
theorem d_M_order_2 : decode b_M_order 2 = .ok (.iconst 0, 1) := by decide +kernel
theorem d_M_order_3 : decode b_M_order 3 = .ok (.bipush 7, 2) := by decide +kernel
theorem d_M_order_5 : decode b_M_order 5 = .ok (.invokestatic 81, 3) := by decide +kernel
theorem d_M_order_8 : decode b_M_order 8 = .ok (.ifCond .eq 33, 3) := by decide +kernel
theorem d_M_order_11 : decode b_M_order 11 = .ok (.iload_n 2, 1) := by decide +kernel
theorem d_M_order_12 : decode b_M_order 12 = .ok (.iconst 1, 1) := by decide +kernel
theorem d_M_order_13 : decode b_M_order 13 = .ok (.bipush 6, 2) := by decide +kernel
theorem d_M_order_15 : decode b_M_order 15 = .ok (.invokestatic 81, 3) := by decide +kernel
theorem d_M_order_18 : decode b_M_order 18 = .ok (.ifCond .eq 23, 3) := by decide +kernel
theorem d_M_order_21 : decode b_M_order 21 = .ok (.iload_n 3, 1) := by decide +kernel
theorem d_M_order_22 : decode b_M_order 22 = .ok (.iconst 1, 1) := by decide +kernel
theorem d_M_order_23 : decode b_M_order 23 = .ok (.bipush 9, 2) := by decide +kernel
theorem d_M_order_25 : decode b_M_order 25 = .ok (.invokestatic 81, 3) := by decide +kernel
theorem d_M_order_28 : decode b_M_order 28 = .ok (.ifCond .eq 13, 3) := by decide +kernel
theorem d_M_order_31 : decode b_M_order 31 = .ok (.iload 4, 2) := by decide +kernel
theorem d_M_order_33 : decode b_M_order 33 = .ok (.iconst 0, 1) := by decide +kernel
theorem d_M_order_34 : decode b_M_order 34 = .ok (.iconst 3, 1) := by decide +kernel
theorem d_M_order_35 : decode b_M_order 35 = .ok (.invokestatic 81, 3) := by decide +kernel
theorem d_M_order_38 : decode b_M_order 38 = .ok (.ifCond .ne 7, 3) := by decide +kernel
theorem d_M_order_41 : decode b_M_order 41 = .ok (.iconst 1, 1) := by decide +kernel
theorem d_M_order_42 : decode b_M_order 42 = .ok (.goto 17, 3) := by decide +kernel
theorem d_M_order_45 : decode b_M_order 45 = .ok (.aload_n 0, 1) := by decide +kernel
theorem d_M_order_46 : decode b_M_order 46 = .ok (.getfield 85, 3) := by decide +kernel
theorem d_M_order_49 : decode b_M_order 49 = .ok (.bipush 8, 2) := by decide +kernel
theorem d_M_order_51 : decode b_M_order 51 = .ok (.if_icmp .ne 7, 3) := by decide +kernel
theorem d_M_order_54 : decode b_M_order 54 = .ok (.iconst 2, 1) := by decide +kernel
theorem d_M_order_55 : decode b_M_order 55 = .ok (.goto 4, 3) := by decide +kernel
theorem d_M_order_58 : decode b_M_order 58 = .ok (.iconst 0, 1) := by decide +kernel
theorem d_M_order_59 : decode b_M_order 59 = .ok (.putfield 74, 3) := by decide +kernel
theorem d_M_order_62 : decode b_M_order 62 = .ok (.aload_n 0, 1) := by decide +kernel
theorem d_M_order_63 : decode b_M_order 63 = .ok (.getfield 74, 3) := by decide +kernel
theorem d_M_order_66 : decode b_M_order 66 = .ok (.ifCond .le 5, 3) := by decide +kernel
theorem d_M_order_69 : decode b_M_order 69 = .ok (.iconst 0, 1) := by decide +kernel
theorem d_M_order_70 : decode b_M_order 70 = .ok (.ireturn, 1) := by decide +kernel
theorem d_M_order_71 : decode b_M_order 71 = .ok (.aload_n 0, 1) := by decide +kernel
theorem d_M_order_72 : decode b_M_order 72 = .ok (.getfield 25, 3) := by decide +kernel
theorem d_M_order_75 : decode b_M_order 75 = .ok (.aload_n 0, 1) := by decide +kernel
theorem d_M_order_76 : decode b_M_order 76 = .ok (.getfield 85, 3) := by decide +kernel
theorem d_M_order_79 : decode b_M_order 79 = .ok (.iload_n 1, 1) := by decide +kernel
theorem d_M_order_80 : decode b_M_order 80 = .ok (.iastore, 1) := by decide +kernel
theorem d_M_order_81 : decode b_M_order 81 = .ok (.aload_n 0, 1) := by decide +kernel
theorem d_M_order_82 : decode b_M_order 82 = .ok (.getfield 28, 3) := by decide +kernel
theorem d_M_order_85 : decode b_M_order 85 = .ok (.aload_n 0, 1) := by decide +kernel
theorem d_M_order_86 : decode b_M_order 86 = .ok (.getfield 85, 3) := by decide +kernel
theorem d_M_order_89 : decode b_M_order 89 = .ok (.iload_n 2, 1) := by decide +kernel
theorem d_M_order_90 : decode b_M_order 90 = .ok (.iastore, 1) := by decide +kernel
theorem d_M_order_91 : decode b_M_order 91 = .ok (.aload_n 0, 1) := by decide +kernel
theorem d_M_order_92 : decode b_M_order 92 = .ok (.getfield 31, 3) := by decide +kernel
theorem d_M_order_95 : decode b_M_order 95 = .ok (.aload_n 0, 1) := by decide +kernel
theorem d_M_order_96 : decode b_M_order 96 = .ok (.getfield 85, 3) := by decide +kernel
theorem d_M_order_99 : decode b_M_order 99 = .ok (.iload_n 3, 1) := by decide +kernel
theorem d_M_order_100 : decode b_M_order 100 = .ok (.iastore, 1) := by decide +kernel
theorem d_M_order_101 : decode b_M_order 101 = .ok (.aload_n 0, 1) := by decide +kernel
theorem d_M_order_102 : decode b_M_order 102 = .ok (.getfield 34, 3) := by decide +kernel
theorem d_M_order_105 : decode b_M_order 105 = .ok (.aload_n 0, 1) := by decide +kernel
theorem d_M_order_106 : decode b_M_order 106 = .ok (.getfield 85, 3) := by decide +kernel
theorem d_M_order_109 : decode b_M_order 109 = .ok (.iload 4, 2) := by decide +kernel
theorem d_M_order_111 : decode b_M_order 111 = .ok (.iastore, 1) := by decide +kernel
theorem d_M_order_112 : decode b_M_order 112 = .ok (.aload_n 0, 1) := by decide +kernel
theorem d_M_order_113 : decode b_M_order 113 = .ok (.getfield 37, 3) := by decide +kernel
theorem d_M_order_116 : decode b_M_order 116 = .ok (.aload_n 0, 1) := by decide +kernel
theorem d_M_order_117 : decode b_M_order 117 = .ok (.getfield 85, 3) := by decide +kernel
theorem d_M_order_120 : decode b_M_order 120 = .ok (.sipush 1000, 3) := by decide +kernel
theorem d_M_order_123 : decode b_M_order 123 = .ok (.iastore, 1) := by decide +kernel
theorem d_M_order_124 : decode b_M_order 124 = .ok (.aload_n 0, 1) := by decide +kernel
theorem d_M_order_125 : decode b_M_order 125 = .ok (.getfield 40, 3) := by decide +kernel
theorem d_M_order_128 : decode b_M_order 128 = .ok (.aload_n 0, 1) := by decide +kernel
theorem d_M_order_129 : decode b_M_order 129 = .ok (.getfield 85, 3) := by decide +kernel
theorem d_M_order_132 : decode b_M_order 132 = .ok (.sipush 1023, 3) := by decide +kernel
theorem d_M_order_135 : decode b_M_order 135 = .ok (.iastore, 1) := by decide +kernel
theorem d_M_order_136 : decode b_M_order 136 = .ok (.aload_n 0, 1) := by decide +kernel
theorem d_M_order_137 : decode b_M_order 137 = .ok (.dup, 1) := by decide +kernel
theorem d_M_order_138 : decode b_M_order 138 = .ok (.getfield 85, 3) := by decide +kernel
theorem d_M_order_141 : decode b_M_order 141 = .ok (.iconst 1, 1) := by decide +kernel
theorem d_M_order_142 : decode b_M_order 142 = .ok (.iadd, 1) := by decide +kernel
theorem d_M_order_143 : decode b_M_order 143 = .ok (.putfield 85, 3) := by decide +kernel
theorem d_M_order_146 : decode b_M_order 146 = .ok (.aload_n 0, 1) := by decide +kernel
theorem d_M_order_147 : decode b_M_order 147 = .ok (.getfield 85, 3) := by decide +kernel
theorem d_M_order_150 : decode b_M_order 150 = .ok (.iconst 1, 1) := by decide +kernel
theorem d_M_order_151 : decode b_M_order 151 = .ok (.isub, 1) := by decide +kernel
theorem d_M_order_152 : decode b_M_order 152 = .ok (.ireturn, 1) := by decide +kernel
theorem d_M_wants_0 : decode b_M_wants 0 = .ok (.aload_n 0, 1) := by decide +kernel
theorem d_M_wants_1 : decode b_M_wants 1 = .ok (.aload_n 0, 1) := by decide +kernel
theorem d_M_wants_2 : decode b_M_wants 2 = .ok (.iload_n 1, 1) := by decide +kernel
theorem d_M_wants_3 : decode b_M_wants 3 = .ok (.invokevirtual 88, 3) := by decide +kernel
theorem d_M_wants_6 : decode b_M_wants 6 = .ok (.ifCond .ne 7, 3) := by decide +kernel
theorem d_M_wants_9 : decode b_M_wants 9 = .ok (.iconst 1, 1) := by decide +kernel
theorem d_M_wants_10 : decode b_M_wants 10 = .ok (.goto 30, 3) := by decide +kernel
theorem d_M_wants_13 : decode b_M_wants 13 = .ok (.iload_n 2, 1) := by decide +kernel
theorem d_M_wants_14 : decode b_M_wants 14 = .ok (.iconst 0, 1) := by decide +kernel
theorem d_M_wants_15 : decode b_M_wants 15 = .ok (.sipush 1000, 3) := by decide +kernel
theorem d_M_wants_18 : decode b_M_wants 18 = .ok (.invokestatic 81, 3) := by decide +kernel
theorem d_M_wants_21 : decode b_M_wants 21 = .ok (.ifCond .eq 14, 3) := by decide +kernel
theorem d_M_wants_24 : decode b_M_wants 24 = .ok (.iload_n 3, 1) := by decide +kernel
theorem d_M_wants_25 : decode b_M_wants 25 = .ok (.iconst 0, 1) := by decide +kernel
theorem d_M_wants_26 : decode b_M_wants 26 = .ok (.sipush 1023, 3) := by decide +kernel
theorem d_M_wants_29 : decode b_M_wants 29 = .ok (.invokestatic 81, 3) := by decide +kernel
theorem d_M_wants_32 : decode b_M_wants 32 = .ok (.ifCond .ne 7, 3) := by decide +kernel
theorem d_M_wants_35 : decode b_M_wants 35 = .ok (.iconst 2, 1) := by decide +kernel
theorem d_M_wants_36 : decode b_M_wants 36 = .ok (.goto 4, 3) := by decide +kernel
theorem d_M_wants_39 : decode b_M_wants 39 = .ok (.iconst 0, 1) := by decide +kernel
theorem d_M_wants_40 : decode b_M_wants 40 = .ok (.putfield 74, 3) := by decide +kernel
theorem d_M_wants_43 : decode b_M_wants 43 = .ok (.aload_n 0, 1) := by decide +kernel
theorem d_M_wants_44 : decode b_M_wants 44 = .ok (.getfield 74, 3) := by decide +kernel
theorem d_M_wants_47 : decode b_M_wants 47 = .ok (.ifCond .le 4, 3) := by decide +kernel
theorem d_M_wants_50 : decode b_M_wants 50 = .ok (.return_, 1) := by decide +kernel
theorem d_M_wants_51 : decode b_M_wants 51 = .ok (.aload_n 0, 1) := by decide +kernel
theorem d_M_wants_52 : decode b_M_wants 52 = .ok (.getfield 37, 3) := by decide +kernel
theorem d_M_wants_55 : decode b_M_wants 55 = .ok (.iload_n 1, 1) := by decide +kernel
theorem d_M_wants_56 : decode b_M_wants 56 = .ok (.iload_n 2, 1) := by decide +kernel
theorem d_M_wants_57 : decode b_M_wants 57 = .ok (.iastore, 1) := by decide +kernel
theorem d_M_wants_58 : decode b_M_wants 58 = .ok (.aload_n 0, 1) := by decide +kernel
theorem d_M_wants_59 : decode b_M_wants 59 = .ok (.getfield 40, 3) := by decide +kernel
theorem d_M_wants_62 : decode b_M_wants 62 = .ok (.iload_n 1, 1) := by decide +kernel
theorem d_M_wants_63 : decode b_M_wants 63 = .ok (.iload_n 3, 1) := by decide +kernel
theorem d_M_wants_64 : decode b_M_wants 64 = .ok (.iastore, 1) := by decide +kernel
theorem d_M_wants_65 : decode b_M_wants 65 = .ok (.return_, 1) := by decide +kernel
theorem d_M_isOrder_0 : decode b_M_isOrder 0 = .ok (.iload_n 1, 1) := by decide +kernel
theorem d_M_isOrder_1 : decode b_M_isOrder 1 = .ok (.iconst 0, 1) := by decide +kernel
theorem d_M_isOrder_2 : decode b_M_isOrder 2 = .ok (.aload_n 0, 1) := by decide +kernel
theorem d_M_isOrder_3 : decode b_M_isOrder 3 = .ok (.getfield 85, 3) := by decide +kernel
theorem d_M_isOrder_6 : decode b_M_isOrder 6 = .ok (.iconst 1, 1) := by decide +kernel
theorem d_M_isOrder_7 : decode b_M_isOrder 7 = .ok (.isub, 1) := by decide +kernel
theorem d_M_isOrder_8 : decode b_M_isOrder 8 = .ok (.invokestatic 81, 3) := by decide +kernel
theorem d_M_isOrder_11 : decode b_M_isOrder 11 = .ok (.ireturn, 1) := by decide +kernel
theorem d_M_promised_0 : decode b_M_promised 0 = .ok (.aload_n 0, 1) := by decide +kernel
theorem d_M_promised_1 : decode b_M_promised 1 = .ok (.aload_n 0, 1) := by decide +kernel
theorem d_M_promised_2 : decode b_M_promised 2 = .ok (.iload_n 1, 1) := by decide +kernel
theorem d_M_promised_3 : decode b_M_promised 3 = .ok (.invokevirtual 95, 3) := by decide +kernel
theorem d_M_promised_6 : decode b_M_promised 6 = .ok (.ifCond .ne 7, 3) := by decide +kernel
theorem d_M_promised_9 : decode b_M_promised 9 = .ok (.iconst 1, 1) := by decide +kernel
theorem d_M_promised_10 : decode b_M_promised 10 = .ok (.goto 42, 3) := by decide +kernel
theorem d_M_promised_13 : decode b_M_promised 13 = .ok (.iload_n 2, 1) := by decide +kernel
theorem d_M_promised_14 : decode b_M_promised 14 = .ok (.iconst 0, 1) := by decide +kernel
theorem d_M_promised_15 : decode b_M_promised 15 = .ok (.aload_n 0, 1) := by decide +kernel
theorem d_M_promised_16 : decode b_M_promised 16 = .ok (.getfield 19, 3) := by decide +kernel
theorem d_M_promised_19 : decode b_M_promised 19 = .ok (.iload_n 1, 1) := by decide +kernel
theorem d_M_promised_20 : decode b_M_promised 20 = .ok (.iaload, 1) := by decide +kernel
theorem d_M_promised_21 : decode b_M_promised 21 = .ok (.invokestatic 81, 3) := by decide +kernel
theorem d_M_promised_24 : decode b_M_promised 24 = .ok (.ifCond .ne 7, 3) := by decide +kernel
theorem d_M_promised_27 : decode b_M_promised 27 = .ok (.iconst 2, 1) := by decide +kernel
theorem d_M_promised_28 : decode b_M_promised 28 = .ok (.goto 24, 3) := by decide +kernel
theorem d_M_promised_31 : decode b_M_promised 31 = .ok (.iload_n 2, 1) := by decide +kernel
theorem d_M_promised_32 : decode b_M_promised 32 = .ok (.aload_n 0, 1) := by decide +kernel
theorem d_M_promised_33 : decode b_M_promised 33 = .ok (.iload_n 1, 1) := by decide +kernel
theorem d_M_promised_34 : decode b_M_promised 34 = .ok (.invokevirtual 98, 3) := by decide +kernel
theorem d_M_promised_37 : decode b_M_promised 37 = .ok (.iadd, 1) := by decide +kernel
theorem d_M_promised_38 : decode b_M_promised 38 = .ok (.aload_n 0, 1) := by decide +kernel
theorem d_M_promised_39 : decode b_M_promised 39 = .ok (.getfield 19, 3) := by decide +kernel
theorem d_M_promised_42 : decode b_M_promised 42 = .ok (.iload_n 1, 1) := by decide +kernel
theorem d_M_promised_43 : decode b_M_promised 43 = .ok (.iaload, 1) := by decide +kernel
theorem d_M_promised_44 : decode b_M_promised 44 = .ok (.if_icmp .le 7, 3) := by decide +kernel
theorem d_M_promised_47 : decode b_M_promised 47 = .ok (.iconst 3, 1) := by decide +kernel
theorem d_M_promised_48 : decode b_M_promised 48 = .ok (.goto 4, 3) := by decide +kernel
theorem d_M_promised_51 : decode b_M_promised 51 = .ok (.iconst 0, 1) := by decide +kernel
theorem d_M_promised_52 : decode b_M_promised 52 = .ok (.putfield 74, 3) := by decide +kernel
theorem d_M_promised_55 : decode b_M_promised 55 = .ok (.aload_n 0, 1) := by decide +kernel
theorem d_M_promised_56 : decode b_M_promised 56 = .ok (.getfield 74, 3) := by decide +kernel
theorem d_M_promised_59 : decode b_M_promised 59 = .ok (.ifCond .ne 10, 3) := by decide +kernel
theorem d_M_promised_62 : decode b_M_promised 62 = .ok (.aload_n 0, 1) := by decide +kernel
theorem d_M_promised_63 : decode b_M_promised 63 = .ok (.getfield 22, 3) := by decide +kernel
theorem d_M_promised_66 : decode b_M_promised 66 = .ok (.iload_n 1, 1) := by decide +kernel
theorem d_M_promised_67 : decode b_M_promised 67 = .ok (.iload_n 2, 1) := by decide +kernel
theorem d_M_promised_68 : decode b_M_promised 68 = .ok (.iastore, 1) := by decide +kernel
theorem d_M_promised_69 : decode b_M_promised 69 = .ok (.return_, 1) := by decide +kernel
theorem d_M_isArrival_0 : decode b_M_isArrival 0 = .ok (.iload_n 1, 1) := by decide +kernel
theorem d_M_isArrival_1 : decode b_M_isArrival 1 = .ok (.iconst 0, 1) := by decide +kernel
theorem d_M_isArrival_2 : decode b_M_isArrival 2 = .ok (.aload_n 0, 1) := by decide +kernel
theorem d_M_isArrival_3 : decode b_M_isArrival 3 = .ok (.getfield 78, 3) := by decide +kernel
theorem d_M_isArrival_6 : decode b_M_isArrival 6 = .ok (.iconst 1, 1) := by decide +kernel
theorem d_M_isArrival_7 : decode b_M_isArrival 7 = .ok (.isub, 1) := by decide +kernel
theorem d_M_isArrival_8 : decode b_M_isArrival 8 = .ok (.invokestatic 81, 3) := by decide +kernel
theorem d_M_isArrival_11 : decode b_M_isArrival 11 = .ok (.ireturn, 1) := by decide +kernel
theorem d_M_held_0 : decode b_M_held 0 = .ok (.iconst 0, 1) := by decide +kernel
theorem d_M_held_1 : decode b_M_held 1 = .ok (.istore_n 2, 1) := by decide +kernel
theorem d_M_held_2 : decode b_M_held 2 = .ok (.iconst 0, 1) := by decide +kernel
theorem d_M_held_3 : decode b_M_held 3 = .ok (.istore_n 3, 1) := by decide +kernel
theorem d_M_held_4 : decode b_M_held 4 = .ok (.iload_n 3, 1) := by decide +kernel
theorem d_M_held_5 : decode b_M_held 5 = .ok (.aload_n 0, 1) := by decide +kernel
theorem d_M_held_6 : decode b_M_held 6 = .ok (.getfield 92, 3) := by decide +kernel
theorem d_M_held_9 : decode b_M_held 9 = .ok (.if_icmp .ge 32, 3) := by decide +kernel
theorem d_M_held_12 : decode b_M_held 12 = .ok (.iload_n 2, 1) := by decide +kernel
theorem d_M_held_13 : decode b_M_held 13 = .ok (.aload_n 0, 1) := by decide +kernel
theorem d_M_held_14 : decode b_M_held 14 = .ok (.getfield 50, 3) := by decide +kernel
theorem d_M_held_17 : decode b_M_held 17 = .ok (.iload_n 3, 1) := by decide +kernel
theorem d_M_held_18 : decode b_M_held 18 = .ok (.iaload, 1) := by decide +kernel
theorem d_M_held_19 : decode b_M_held 19 = .ok (.iload_n 1, 1) := by decide +kernel
theorem d_M_held_20 : decode b_M_held 20 = .ok (.if_icmp .ne 12, 3) := by decide +kernel
theorem d_M_held_23 : decode b_M_held 23 = .ok (.aload_n 0, 1) := by decide +kernel
theorem d_M_held_24 : decode b_M_held 24 = .ok (.getfield 56, 3) := by decide +kernel
theorem d_M_held_27 : decode b_M_held 27 = .ok (.iload_n 3, 1) := by decide +kernel
theorem d_M_held_28 : decode b_M_held 28 = .ok (.iaload, 1) := by decide +kernel
theorem d_M_held_29 : decode b_M_held 29 = .ok (.goto 4, 3) := by decide +kernel
theorem d_M_held_32 : decode b_M_held 32 = .ok (.iconst 0, 1) := by decide +kernel
theorem d_M_held_33 : decode b_M_held 33 = .ok (.iadd, 1) := by decide +kernel
theorem d_M_held_34 : decode b_M_held 34 = .ok (.istore_n 2, 1) := by decide +kernel
theorem d_M_held_35 : decode b_M_held 35 = .ok (.iinc 3 1, 3) := by decide +kernel
theorem d_M_held_38 : decode b_M_held 38 = .ok (.goto (-34), 3) := by decide +kernel
theorem d_M_held_41 : decode b_M_held 41 = .ok (.iload_n 2, 1) := by decide +kernel
theorem d_M_held_42 : decode b_M_held 42 = .ok (.ireturn, 1) := by decide +kernel
theorem d_M_rule_0 : decode b_M_rule 0 = .ok (.aload_n 0, 1) := by decide +kernel
theorem d_M_rule_1 : decode b_M_rule 1 = .ok (.aload_n 0, 1) := by decide +kernel
theorem d_M_rule_2 : decode b_M_rule 2 = .ok (.iload_n 1, 1) := by decide +kernel
theorem d_M_rule_3 : decode b_M_rule 3 = .ok (.invokevirtual 95, 3) := by decide +kernel
theorem d_M_rule_6 : decode b_M_rule 6 = .ok (.ifCond .eq 11, 3) := by decide +kernel
theorem d_M_rule_9 : decode b_M_rule 9 = .ok (.aload_n 0, 1) := by decide +kernel
theorem d_M_rule_10 : decode b_M_rule 10 = .ok (.iload_n 2, 1) := by decide +kernel
theorem d_M_rule_11 : decode b_M_rule 11 = .ok (.invokevirtual 88, 3) := by decide +kernel
theorem d_M_rule_14 : decode b_M_rule 14 = .ok (.ifCond .ne 7, 3) := by decide +kernel
theorem d_M_rule_17 : decode b_M_rule 17 = .ok (.iconst 1, 1) := by decide +kernel
theorem d_M_rule_18 : decode b_M_rule 18 = .ok (.goto 4, 3) := by decide +kernel
theorem d_M_rule_21 : decode b_M_rule 21 = .ok (.iconst 0, 1) := by decide +kernel
theorem d_M_rule_22 : decode b_M_rule 22 = .ok (.putfield 74, 3) := by decide +kernel
theorem d_M_rule_25 : decode b_M_rule 25 = .ok (.aload_n 0, 1) := by decide +kernel
theorem d_M_rule_26 : decode b_M_rule 26 = .ok (.getfield 74, 3) := by decide +kernel
theorem d_M_rule_29 : decode b_M_rule 29 = .ok (.ifCond .le 5, 3) := by decide +kernel
theorem d_M_rule_32 : decode b_M_rule 32 = .ok (.iconst 0, 1) := by decide +kernel
theorem d_M_rule_33 : decode b_M_rule 33 = .ok (.ireturn, 1) := by decide +kernel
theorem d_M_rule_34 : decode b_M_rule 34 = .ok (.aload_n 0, 1) := by decide +kernel
theorem d_M_rule_35 : decode b_M_rule 35 = .ok (.getfield 43, 3) := by decide +kernel
theorem d_M_rule_38 : decode b_M_rule 38 = .ok (.bipush 8, 2) := by decide +kernel
theorem d_M_rule_40 : decode b_M_rule 40 = .ok (.iload_n 1, 1) := by decide +kernel
theorem d_M_rule_41 : decode b_M_rule 41 = .ok (.imul, 1) := by decide +kernel
theorem d_M_rule_42 : decode b_M_rule 42 = .ok (.iload_n 2, 1) := by decide +kernel
theorem d_M_rule_43 : decode b_M_rule 43 = .ok (.iadd, 1) := by decide +kernel
theorem d_M_rule_44 : decode b_M_rule 44 = .ok (.iload_n 3, 1) := by decide +kernel
theorem d_M_rule_45 : decode b_M_rule 45 = .ok (.bastore, 1) := by decide +kernel
theorem d_M_rule_46 : decode b_M_rule 46 = .ok (.aload_n 0, 1) := by decide +kernel
theorem d_M_rule_47 : decode b_M_rule 47 = .ok (.iload_n 1, 1) := by decide +kernel
theorem d_M_rule_48 : decode b_M_rule 48 = .ok (.iload_n 2, 1) := by decide +kernel
theorem d_M_rule_49 : decode b_M_rule 49 = .ok (.invokevirtual 105, 3) := by decide +kernel
theorem d_M_rule_52 : decode b_M_rule 52 = .ok (.ireturn, 1) := by decide +kernel
theorem d_M_mayServe_0 : decode b_M_mayServe 0 = .ok (.aload_n 0, 1) := by decide +kernel
theorem d_M_mayServe_1 : decode b_M_mayServe 1 = .ok (.iload_n 1, 1) := by decide +kernel
theorem d_M_mayServe_2 : decode b_M_mayServe 2 = .ok (.iload_n 2, 1) := by decide +kernel
theorem d_M_mayServe_3 : decode b_M_mayServe 3 = .ok (.iconst 5, 1) := by decide +kernel
theorem d_M_mayServe_4 : decode b_M_mayServe 4 = .ok (.invokevirtual 102, 3) := by decide +kernel
theorem d_M_mayServe_7 : decode b_M_mayServe 7 = .ok (.ireturn, 1) := by decide +kernel
theorem d_M_passes_0 : decode b_M_passes 0 = .ok (.iload_n 3, 1) := by decide +kernel
theorem d_M_passes_1 : decode b_M_passes 1 = .ok (.ifCond .le 20, 3) := by decide +kernel
theorem d_M_passes_4 : decode b_M_passes 4 = .ok (.aload_n 0, 1) := by decide +kernel
theorem d_M_passes_5 : decode b_M_passes 5 = .ok (.getfield 7, 3) := by decide +kernel
theorem d_M_passes_8 : decode b_M_passes 8 = .ok (.iload_n 1, 1) := by decide +kernel
theorem d_M_passes_9 : decode b_M_passes 9 = .ok (.iaload, 1) := by decide +kernel
theorem d_M_passes_10 : decode b_M_passes 10 = .ok (.aload_n 0, 1) := by decide +kernel
theorem d_M_passes_11 : decode b_M_passes 11 = .ok (.getfield 25, 3) := by decide +kernel
theorem d_M_passes_14 : decode b_M_passes 14 = .ok (.iload_n 2, 1) := by decide +kernel
theorem d_M_passes_15 : decode b_M_passes 15 = .ok (.iaload, 1) := by decide +kernel
theorem d_M_passes_16 : decode b_M_passes 16 = .ok (.if_icmp .eq 5, 3) := by decide +kernel
theorem d_M_passes_19 : decode b_M_passes 19 = .ok (.iconst 0, 1) := by decide +kernel
theorem d_M_passes_20 : decode b_M_passes 20 = .ok (.ireturn, 1) := by decide +kernel
theorem d_M_passes_21 : decode b_M_passes 21 = .ok (.iload_n 3, 1) := by decide +kernel
theorem d_M_passes_22 : decode b_M_passes 22 = .ok (.iconst 1, 1) := by decide +kernel
theorem d_M_passes_23 : decode b_M_passes 23 = .ok (.if_icmp .le 20, 3) := by decide +kernel
theorem d_M_passes_26 : decode b_M_passes 26 = .ok (.aload_n 0, 1) := by decide +kernel
theorem d_M_passes_27 : decode b_M_passes 27 = .ok (.getfield 16, 3) := by decide +kernel
theorem d_M_passes_30 : decode b_M_passes 30 = .ok (.iload_n 1, 1) := by decide +kernel
theorem d_M_passes_31 : decode b_M_passes 31 = .ok (.iaload, 1) := by decide +kernel
theorem d_M_passes_32 : decode b_M_passes 32 = .ok (.aload_n 0, 1) := by decide +kernel
theorem d_M_passes_33 : decode b_M_passes 33 = .ok (.getfield 37, 3) := by decide +kernel
theorem d_M_passes_36 : decode b_M_passes 36 = .ok (.iload_n 2, 1) := by decide +kernel
theorem d_M_passes_37 : decode b_M_passes 37 = .ok (.iaload, 1) := by decide +kernel
theorem d_M_passes_38 : decode b_M_passes 38 = .ok (.if_icmp .le 5, 3) := by decide +kernel
theorem d_M_passes_41 : decode b_M_passes 41 = .ok (.iconst 0, 1) := by decide +kernel
theorem d_M_passes_42 : decode b_M_passes 42 = .ok (.ireturn, 1) := by decide +kernel
theorem d_M_passes_43 : decode b_M_passes 43 = .ok (.iload_n 3, 1) := by decide +kernel
theorem d_M_passes_44 : decode b_M_passes 44 = .ok (.iconst 2, 1) := by decide +kernel
theorem d_M_passes_45 : decode b_M_passes 45 = .ok (.if_icmp .le 23, 3) := by decide +kernel
theorem d_M_passes_48 : decode b_M_passes 48 = .ok (.aload_n 0, 1) := by decide +kernel
theorem d_M_passes_49 : decode b_M_passes 49 = .ok (.getfield 40, 3) := by decide +kernel
theorem d_M_passes_52 : decode b_M_passes 52 = .ok (.iload_n 2, 1) := by decide +kernel
theorem d_M_passes_53 : decode b_M_passes 53 = .ok (.iaload, 1) := by decide +kernel
theorem d_M_passes_54 : decode b_M_passes 54 = .ok (.aload_n 0, 1) := by decide +kernel
theorem d_M_passes_55 : decode b_M_passes 55 = .ok (.getfield 13, 3) := by decide +kernel
theorem d_M_passes_58 : decode b_M_passes 58 = .ok (.iload_n 1, 1) := by decide +kernel
theorem d_M_passes_59 : decode b_M_passes 59 = .ok (.iaload, 1) := by decide +kernel
theorem d_M_passes_60 : decode b_M_passes 60 = .ok (.ishr, 1) := by decide +kernel
theorem d_M_passes_61 : decode b_M_passes 61 = .ok (.iconst 1, 1) := by decide +kernel
theorem d_M_passes_62 : decode b_M_passes 62 = .ok (.iand, 1) := by decide +kernel
theorem d_M_passes_63 : decode b_M_passes 63 = .ok (.ifCond .ne 5, 3) := by decide +kernel
theorem d_M_passes_66 : decode b_M_passes 66 = .ok (.iconst 0, 1) := by decide +kernel
theorem d_M_passes_67 : decode b_M_passes 67 = .ok (.ireturn, 1) := by decide +kernel
theorem d_M_passes_68 : decode b_M_passes 68 = .ok (.iload_n 3, 1) := by decide +kernel
theorem d_M_passes_69 : decode b_M_passes 69 = .ok (.iconst 3, 1) := by decide +kernel
theorem d_M_passes_70 : decode b_M_passes 70 = .ok (.if_icmp .le 19, 3) := by decide +kernel
theorem d_M_passes_73 : decode b_M_passes 73 = .ok (.aload_n 0, 1) := by decide +kernel
theorem d_M_passes_74 : decode b_M_passes 74 = .ok (.getfield 43, 3) := by decide +kernel
theorem d_M_passes_77 : decode b_M_passes 77 = .ok (.bipush 8, 2) := by decide +kernel
theorem d_M_passes_79 : decode b_M_passes 79 = .ok (.iload_n 1, 1) := by decide +kernel
theorem d_M_passes_80 : decode b_M_passes 80 = .ok (.imul, 1) := by decide +kernel
theorem d_M_passes_81 : decode b_M_passes 81 = .ok (.iload_n 2, 1) := by decide +kernel
theorem d_M_passes_82 : decode b_M_passes 82 = .ok (.iadd, 1) := by decide +kernel
theorem d_M_passes_83 : decode b_M_passes 83 = .ok (.baload, 1) := by decide +kernel
theorem d_M_passes_84 : decode b_M_passes 84 = .ok (.ifCond .eq 5, 3) := by decide +kernel
theorem d_M_passes_87 : decode b_M_passes 87 = .ok (.iconst 0, 1) := by decide +kernel
theorem d_M_passes_88 : decode b_M_passes 88 = .ok (.ireturn, 1) := by decide +kernel
theorem d_M_passes_89 : decode b_M_passes 89 = .ok (.iload_n 3, 1) := by decide +kernel
theorem d_M_passes_90 : decode b_M_passes 90 = .ok (.iconst 5, 1) := by decide +kernel
theorem d_M_passes_91 : decode b_M_passes 91 = .ok (.if_icmp .lt 17, 3) := by decide +kernel
theorem d_M_passes_94 : decode b_M_passes 94 = .ok (.aload_n 0, 1) := by decide +kernel
theorem d_M_passes_95 : decode b_M_passes 95 = .ok (.getfield 47, 3) := by decide +kernel
theorem d_M_passes_98 : decode b_M_passes 98 = .ok (.aload_n 0, 1) := by decide +kernel
theorem d_M_passes_99 : decode b_M_passes 99 = .ok (.getfield 34, 3) := by decide +kernel
theorem d_M_passes_102 : decode b_M_passes 102 = .ok (.iload_n 2, 1) := by decide +kernel
theorem d_M_passes_103 : decode b_M_passes 103 = .ok (.iaload, 1) := by decide +kernel
theorem d_M_passes_104 : decode b_M_passes 104 = .ok (.baload, 1) := by decide +kernel
theorem d_M_passes_105 : decode b_M_passes 105 = .ok (.ifCond .ne 7, 3) := by decide +kernel
theorem d_M_passes_108 : decode b_M_passes 108 = .ok (.iconst 1, 1) := by decide +kernel
theorem d_M_passes_109 : decode b_M_passes 109 = .ok (.goto 4, 3) := by decide +kernel
theorem d_M_passes_112 : decode b_M_passes 112 = .ok (.iconst 0, 1) := by decide +kernel
theorem d_M_passes_113 : decode b_M_passes 113 = .ok (.ireturn, 1) := by decide +kernel
theorem d_M_full_0 : decode b_M_full 0 = .ok (.aload_n 0, 1) := by decide +kernel
theorem d_M_full_1 : decode b_M_full 1 = .ok (.iload_n 1, 1) := by decide +kernel
theorem d_M_full_2 : decode b_M_full 2 = .ok (.iconst 0, 1) := by decide +kernel
theorem d_M_full_3 : decode b_M_full 3 = .ok (.iconst 3, 1) := by decide +kernel
theorem d_M_full_4 : decode b_M_full 4 = .ok (.invokestatic 81, 3) := by decide +kernel
theorem d_M_full_7 : decode b_M_full 7 = .ok (.ifCond .eq 7, 3) := by decide +kernel
theorem d_M_full_10 : decode b_M_full 10 = .ok (.iconst 0, 1) := by decide +kernel
theorem d_M_full_11 : decode b_M_full 11 = .ok (.goto 4, 3) := by decide +kernel
theorem d_M_full_14 : decode b_M_full 14 = .ok (.iconst 1, 1) := by decide +kernel
theorem d_M_full_15 : decode b_M_full 15 = .ok (.putfield 74, 3) := by decide +kernel
theorem d_M_full_18 : decode b_M_full 18 = .ok (.aload_n 0, 1) := by decide +kernel
theorem d_M_full_19 : decode b_M_full 19 = .ok (.getfield 74, 3) := by decide +kernel
theorem d_M_full_22 : decode b_M_full 22 = .ok (.ifCond .le 5, 3) := by decide +kernel
theorem d_M_full_25 : decode b_M_full 25 = .ok (.iconst 0, 1) := by decide +kernel
theorem d_M_full_26 : decode b_M_full 26 = .ok (.ireturn, 1) := by decide +kernel
theorem d_M_full_27 : decode b_M_full 27 = .ok (.aload_n 0, 1) := by decide +kernel
theorem d_M_full_28 : decode b_M_full 28 = .ok (.getfield 47, 3) := by decide +kernel
theorem d_M_full_31 : decode b_M_full 31 = .ok (.iload_n 1, 1) := by decide +kernel
theorem d_M_full_32 : decode b_M_full 32 = .ok (.iload_n 2, 1) := by decide +kernel
theorem d_M_full_33 : decode b_M_full 33 = .ok (.bastore, 1) := by decide +kernel
theorem d_M_full_34 : decode b_M_full 34 = .ok (.iconst 0, 1) := by decide +kernel
theorem d_M_full_35 : decode b_M_full 35 = .ok (.istore_n 3, 1) := by decide +kernel
theorem d_M_full_36 : decode b_M_full 36 = .ok (.iconst 0, 1) := by decide +kernel
theorem d_M_full_37 : decode b_M_full 37 = .ok (.istore 4, 2) := by decide +kernel
theorem d_M_full_39 : decode b_M_full 39 = .ok (.iload 4, 2) := by decide +kernel
theorem d_M_full_41 : decode b_M_full 41 = .ok (.aload_n 0, 1) := by decide +kernel
theorem d_M_full_42 : decode b_M_full 42 = .ok (.getfield 85, 3) := by decide +kernel
theorem d_M_full_45 : decode b_M_full 45 = .ok (.if_icmp .ge 28, 3) := by decide +kernel
theorem d_M_full_48 : decode b_M_full 48 = .ok (.iload_n 3, 1) := by decide +kernel
theorem d_M_full_49 : decode b_M_full 49 = .ok (.aload_n 0, 1) := by decide +kernel
theorem d_M_full_50 : decode b_M_full 50 = .ok (.getfield 34, 3) := by decide +kernel
theorem d_M_full_53 : decode b_M_full 53 = .ok (.iload 4, 2) := by decide +kernel
theorem d_M_full_55 : decode b_M_full 55 = .ok (.iaload, 1) := by decide +kernel
theorem d_M_full_56 : decode b_M_full 56 = .ok (.iload_n 1, 1) := by decide +kernel
theorem d_M_full_57 : decode b_M_full 57 = .ok (.if_icmp .ne 7, 3) := by decide +kernel
theorem d_M_full_60 : decode b_M_full 60 = .ok (.iconst 1, 1) := by decide +kernel
theorem d_M_full_61 : decode b_M_full 61 = .ok (.goto 4, 3) := by decide +kernel
theorem d_M_full_64 : decode b_M_full 64 = .ok (.iconst 0, 1) := by decide +kernel
theorem d_M_full_65 : decode b_M_full 65 = .ok (.iadd, 1) := by decide +kernel
theorem d_M_full_66 : decode b_M_full 66 = .ok (.istore_n 3, 1) := by decide +kernel
theorem d_M_full_67 : decode b_M_full 67 = .ok (.iinc 4 1, 3) := by decide +kernel
theorem d_M_full_70 : decode b_M_full 70 = .ok (.goto (-31), 3) := by decide +kernel
theorem d_M_full_73 : decode b_M_full 73 = .ok (.iload_n 3, 1) := by decide +kernel
theorem d_M_full_74 : decode b_M_full 74 = .ok (.ireturn, 1) := by decide +kernel
theorem d_M_match_0 : decode b_M_match 0 = .ok (.aload_n 0, 1) := by decide +kernel
theorem d_M_match_1 : decode b_M_match 1 = .ok (.iload_n 1, 1) := by decide +kernel
theorem d_M_match_2 : decode b_M_match 2 = .ok (.iconst 0, 1) := by decide +kernel
theorem d_M_match_3 : decode b_M_match 3 = .ok (.sipush 20000, 3) := by decide +kernel
theorem d_M_match_6 : decode b_M_match 6 = .ok (.invokestatic 81, 3) := by decide +kernel
theorem d_M_match_9 : decode b_M_match 9 = .ok (.ifCond .eq 7, 3) := by decide +kernel
theorem d_M_match_12 : decode b_M_match 12 = .ok (.iconst 0, 1) := by decide +kernel
