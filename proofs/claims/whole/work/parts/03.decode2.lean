theorem d_L_wants_0 : decode b_L_wants 0 = .ok (.aload_n 0, 1) := by decide +kernel
theorem d_L_wants_1 : decode b_L_wants 1 = .ok (.iload_n 1, 1) := by decide +kernel
theorem d_L_wants_2 : decode b_L_wants 2 = .ok (.iload_n 2, 1) := by decide +kernel
theorem d_L_wants_3 : decode b_L_wants 3 = .ok (.iload_n 3, 1) := by decide +kernel
theorem d_L_wants_4 : decode b_L_wants 4 = .ok (.invokevirtual 20, 3) := by decide +kernel
theorem d_L_wants_7 : decode b_L_wants 7 = .ok (.goto 11, 3) := by decide +kernel
theorem d_L_wants_10 : decode b_L_wants 10 = .ok (.astore 4, 2) := by decide +kernel
theorem d_L_wants_12 : decode b_L_wants 12 = .ok (.iconst 1, 1) := by decide +kernel
theorem d_L_wants_13 : decode b_L_wants 13 = .ok (.ireturn, 1) := by decide +kernel
theorem d_L_wants_14 : decode b_L_wants 14 = .ok (.astore 4, 2) := by decide +kernel
theorem d_L_wants_16 : decode b_L_wants 16 = .ok (.iconst 2, 1) := by decide +kernel
theorem d_L_wants_17 : decode b_L_wants 17 = .ok (.ireturn, 1) := by decide +kernel
theorem d_L_wants_18 : decode b_L_wants 18 = .ok (.iconst 0, 1) := by decide +kernel
theorem d_L_wants_19 : decode b_L_wants 19 = .ok (.ireturn, 1) := by decide +kernel
theorem d_D_wants_0 : decode b_D_wants 0 = .ok (.iload_n 1, 1) := by decide +kernel
theorem d_D_wants_1 : decode b_D_wants 1 = .ok (.aload_n 0, 1) := by decide +kernel
theorem d_D_wants_2 : decode b_D_wants 2 = .ok (.getfield 52, 3) := by decide +kernel
theorem d_D_wants_5 : decode b_D_wants 5 = .ok (.invokestatic 96, 3) := by decide +kernel
theorem d_D_wants_8 : decode b_D_wants 8 = .ok (.iload_n 2, 1) := by decide +kernel
theorem d_D_wants_9 : decode b_D_wants 9 = .ok (.iconst 0, 1) := by decide +kernel
theorem d_D_wants_10 : decode b_D_wants 10 = .ok (.sipush 1000, 3) := by decide +kernel
theorem d_D_wants_13 : decode b_D_wants 13 = .ok (.invokestatic 62, 3) := by decide +kernel
theorem d_D_wants_16 : decode b_D_wants 16 = .ok (.iload_n 3, 1) := by decide +kernel
theorem d_D_wants_17 : decode b_D_wants 17 = .ok (.iconst 0, 1) := by decide +kernel
theorem d_D_wants_18 : decode b_D_wants 18 = .ok (.sipush 1023, 3) := by decide +kernel
theorem d_D_wants_21 : decode b_D_wants 21 = .ok (.invokestatic 62, 3) := by decide +kernel
theorem d_D_wants_24 : decode b_D_wants 24 = .ok (.aload_n 0, 1) := by decide +kernel
theorem d_D_wants_25 : decode b_D_wants 25 = .ok (.getfield 18, 3) := by decide +kernel
theorem d_D_wants_28 : decode b_D_wants 28 = .ok (.iload_n 1, 1) := by decide +kernel
theorem d_D_wants_29 : decode b_D_wants 29 = .ok (.aaload, 1) := by decide +kernel
theorem d_D_wants_30 : decode b_D_wants 30 = .ok (.iload_n 2, 1) := by decide +kernel
theorem d_D_wants_31 : decode b_D_wants 31 = .ok (.putfield 90, 3) := by decide +kernel
theorem d_D_wants_34 : decode b_D_wants 34 = .ok (.aload_n 0, 1) := by decide +kernel
theorem d_D_wants_35 : decode b_D_wants 35 = .ok (.getfield 18, 3) := by decide +kernel
theorem d_D_wants_38 : decode b_D_wants 38 = .ok (.iload_n 1, 1) := by decide +kernel
theorem d_D_wants_39 : decode b_D_wants 39 = .ok (.aaload, 1) := by decide +kernel
theorem d_D_wants_40 : decode b_D_wants 40 = .ok (.iload_n 3, 1) := by decide +kernel
theorem d_D_wants_41 : decode b_D_wants 41 = .ok (.putfield 93, 3) := by decide +kernel
theorem d_D_wants_44 : decode b_D_wants 44 = .ok (.return_, 1) := by decide +kernel
theorem d_D_checkThere_0 : decode b_D_checkThere 0 = .ok (.iload_n 0, 1) := by decide +kernel
theorem d_D_checkThere_1 : decode b_D_checkThere 1 = .ok (.ifCond .lt 8, 3) := by decide +kernel
theorem d_D_checkThere_4 : decode b_D_checkThere 4 = .ok (.iload_n 0, 1) := by decide +kernel
theorem d_D_checkThere_5 : decode b_D_checkThere 5 = .ok (.iload_n 1, 1) := by decide +kernel
theorem d_D_checkThere_6 : decode b_D_checkThere 6 = .ok (.if_icmp .lt 13, 3) := by decide +kernel
theorem d_D_checkThere_9 : decode b_D_checkThere 9 = .ok (.new 188, 3) := by decide +kernel
theorem d_D_checkThere_12 : decode b_D_checkThere 12 = .ok (.dup, 1) := by decide +kernel
theorem d_D_checkThere_13 : decode b_D_checkThere 13 = .ok (.ldc 190, 2) := by decide +kernel
theorem d_D_checkThere_15 : decode b_D_checkThere 15 = .ok (.invokespecial 192, 3) := by decide +kernel
theorem d_D_checkThere_18 : decode b_D_checkThere 18 = .ok (.athrow, 1) := by decide +kernel
theorem d_D_checkThere_19 : decode b_D_checkThere 19 = .ok (.return_, 1) := by decide +kernel
theorem d_L_promised_0 : decode b_L_promised 0 = .ok (.aload_n 0, 1) := by decide +kernel
theorem d_L_promised_1 : decode b_L_promised 1 = .ok (.iload_n 1, 1) := by decide +kernel
theorem d_L_promised_2 : decode b_L_promised 2 = .ok (.iload_n 2, 1) := by decide +kernel
theorem d_L_promised_3 : decode b_L_promised 3 = .ok (.invokevirtual 26, 3) := by decide +kernel
theorem d_L_promised_6 : decode b_L_promised 6 = .ok (.goto 12, 3) := by decide +kernel
theorem d_L_promised_9 : decode b_L_promised 9 = .ok (.astore_n 3, 1) := by decide +kernel
theorem d_L_promised_10 : decode b_L_promised 10 = .ok (.iconst 1, 1) := by decide +kernel
theorem d_L_promised_11 : decode b_L_promised 11 = .ok (.ireturn, 1) := by decide +kernel
theorem d_L_promised_12 : decode b_L_promised 12 = .ok (.astore_n 3, 1) := by decide +kernel
theorem d_L_promised_13 : decode b_L_promised 13 = .ok (.iconst 2, 1) := by decide +kernel
theorem d_L_promised_14 : decode b_L_promised 14 = .ok (.ireturn, 1) := by decide +kernel
theorem d_L_promised_15 : decode b_L_promised 15 = .ok (.astore_n 3, 1) := by decide +kernel
theorem d_L_promised_16 : decode b_L_promised 16 = .ok (.iconst 3, 1) := by decide +kernel
theorem d_L_promised_17 : decode b_L_promised 17 = .ok (.ireturn, 1) := by decide +kernel
theorem d_L_promised_18 : decode b_L_promised 18 = .ok (.iconst 0, 1) := by decide +kernel
theorem d_L_promised_19 : decode b_L_promised 19 = .ok (.ireturn, 1) := by decide +kernel
theorem d_D_promised_0 : decode b_D_promised 0 = .ok (.iload_n 1, 1) := by decide +kernel
theorem d_D_promised_1 : decode b_D_promised 1 = .ok (.aload_n 0, 1) := by decide +kernel
theorem d_D_promised_2 : decode b_D_promised 2 = .ok (.getfield 48, 3) := by decide +kernel
theorem d_D_promised_5 : decode b_D_promised 5 = .ok (.invokestatic 96, 3) := by decide +kernel
theorem d_D_promised_8 : decode b_D_promised 8 = .ok (.aload_n 0, 1) := by decide +kernel
theorem d_D_promised_9 : decode b_D_promised 9 = .ok (.getfield 11, 3) := by decide +kernel
theorem d_D_promised_12 : decode b_D_promised 12 = .ok (.iload_n 1, 1) := by decide +kernel
theorem d_D_promised_13 : decode b_D_promised 13 = .ok (.aaload, 1) := by decide +kernel
theorem d_D_promised_14 : decode b_D_promised 14 = .ok (.astore_n 3, 1) := by decide +kernel
theorem d_D_promised_15 : decode b_D_promised 15 = .ok (.iload_n 2, 1) := by decide +kernel
theorem d_D_promised_16 : decode b_D_promised 16 = .ok (.iconst 0, 1) := by decide +kernel
theorem d_D_promised_17 : decode b_D_promised 17 = .ok (.aload_n 3, 1) := by decide +kernel
theorem d_D_promised_18 : decode b_D_promised 18 = .ok (.getfield 79, 3) := by decide +kernel
theorem d_D_promised_21 : decode b_D_promised 21 = .ok (.invokestatic 62, 3) := by decide +kernel
theorem d_D_promised_24 : decode b_D_promised 24 = .ok (.iload_n 2, 1) := by decide +kernel
theorem d_D_promised_25 : decode b_D_promised 25 = .ok (.aload_n 0, 1) := by decide +kernel
theorem d_D_promised_26 : decode b_D_promised 26 = .ok (.getfield 44, 3) := by decide +kernel
theorem d_D_promised_29 : decode b_D_promised 29 = .ok (.iload_n 1, 1) := by decide +kernel
theorem d_D_promised_30 : decode b_D_promised 30 = .ok (.invokevirtual 99, 3) := by decide +kernel
theorem d_D_promised_33 : decode b_D_promised 33 = .ok (.iadd, 1) := by decide +kernel
theorem d_D_promised_34 : decode b_D_promised 34 = .ok (.aload_n 3, 1) := by decide +kernel
theorem d_D_promised_35 : decode b_D_promised 35 = .ok (.getfield 79, 3) := by decide +kernel
theorem d_D_promised_38 : decode b_D_promised 38 = .ok (.if_icmp .le 13, 3) := by decide +kernel
theorem d_D_promised_41 : decode b_D_promised 41 = .ok (.new 103, 3) := by decide +kernel
theorem d_D_promised_44 : decode b_D_promised 44 = .ok (.dup, 1) := by decide +kernel
theorem d_D_promised_45 : decode b_D_promised 45 = .ok (.ldc 105, 2) := by decide +kernel
theorem d_D_promised_47 : decode b_D_promised 47 = .ok (.invokespecial 107, 3) := by decide +kernel
theorem d_D_promised_50 : decode b_D_promised 50 = .ok (.athrow, 1) := by decide +kernel
theorem d_D_promised_51 : decode b_D_promised 51 = .ok (.aload_n 3, 1) := by decide +kernel
theorem d_D_promised_52 : decode b_D_promised 52 = .ok (.iload_n 2, 1) := by decide +kernel
theorem d_D_promised_53 : decode b_D_promised 53 = .ok (.putfield 110, 3) := by decide +kernel
theorem d_D_promised_56 : decode b_D_promised 56 = .ok (.return_, 1) := by decide +kernel
theorem d_P_palletsOf_0 : decode b_P_palletsOf 0 = .ok (.iconst 0, 1) := by decide +kernel
theorem d_P_palletsOf_1 : decode b_P_palletsOf 1 = .ok (.istore_n 2, 1) := by decide +kernel
theorem d_P_palletsOf_2 : decode b_P_palletsOf 2 = .ok (.iconst 0, 1) := by decide +kernel
theorem d_P_palletsOf_3 : decode b_P_palletsOf 3 = .ok (.istore_n 3, 1) := by decide +kernel
theorem d_P_palletsOf_4 : decode b_P_palletsOf 4 = .ok (.iload_n 3, 1) := by decide +kernel
theorem d_P_palletsOf_5 : decode b_P_palletsOf 5 = .ok (.aload_n 0, 1) := by decide +kernel
theorem d_P_palletsOf_6 : decode b_P_palletsOf 6 = .ok (.getfield 21, 3) := by decide +kernel
theorem d_P_palletsOf_9 : decode b_P_palletsOf 9 = .ok (.if_icmp .ge 28, 3) := by decide +kernel
theorem d_P_palletsOf_12 : decode b_P_palletsOf 12 = .ok (.aload_n 0, 1) := by decide +kernel
theorem d_P_palletsOf_13 : decode b_P_palletsOf 13 = .ok (.getfield 9, 3) := by decide +kernel
theorem d_P_palletsOf_16 : decode b_P_palletsOf 16 = .ok (.iload_n 3, 1) := by decide +kernel
theorem d_P_palletsOf_17 : decode b_P_palletsOf 17 = .ok (.iaload, 1) := by decide +kernel
theorem d_P_palletsOf_18 : decode b_P_palletsOf 18 = .ok (.iload_n 1, 1) := by decide +kernel
theorem d_P_palletsOf_19 : decode b_P_palletsOf 19 = .ok (.if_icmp .ne 12, 3) := by decide +kernel
theorem d_P_palletsOf_22 : decode b_P_palletsOf 22 = .ok (.iload_n 2, 1) := by decide +kernel
theorem d_P_palletsOf_23 : decode b_P_palletsOf 23 = .ok (.aload_n 0, 1) := by decide +kernel
theorem d_P_palletsOf_24 : decode b_P_palletsOf 24 = .ok (.getfield 18, 3) := by decide +kernel
theorem d_P_palletsOf_27 : decode b_P_palletsOf 27 = .ok (.iload_n 3, 1) := by decide +kernel
theorem d_P_palletsOf_28 : decode b_P_palletsOf 28 = .ok (.iaload, 1) := by decide +kernel
theorem d_P_palletsOf_29 : decode b_P_palletsOf 29 = .ok (.iadd, 1) := by decide +kernel
theorem d_P_palletsOf_30 : decode b_P_palletsOf 30 = .ok (.istore_n 2, 1) := by decide +kernel
theorem d_P_palletsOf_31 : decode b_P_palletsOf 31 = .ok (.iinc 3 1, 3) := by decide +kernel
theorem d_P_palletsOf_34 : decode b_P_palletsOf 34 = .ok (.goto (-30), 3) := by decide +kernel
theorem d_P_palletsOf_37 : decode b_P_palletsOf 37 = .ok (.iload_n 2, 1) := by decide +kernel
theorem d_P_palletsOf_38 : decode b_P_palletsOf 38 = .ok (.ireturn, 1) := by decide +kernel
theorem d_L_rule_0 : decode b_L_rule 0 = .ok (.aload 4, 2) := by decide +kernel
theorem d_L_rule_2 : decode b_L_rule 2 = .ok (.iconst 0, 1) := by decide +kernel
theorem d_L_rule_3 : decode b_L_rule 3 = .ok (.aload_n 0, 1) := by decide +kernel
theorem d_L_rule_4 : decode b_L_rule 4 = .ok (.iload_n 1, 1) := by decide +kernel
theorem d_L_rule_5 : decode b_L_rule 5 = .ok (.iload_n 2, 1) := by decide +kernel
theorem d_L_rule_6 : decode b_L_rule 6 = .ok (.iload_n 3, 1) := by decide +kernel
theorem d_L_rule_7 : decode b_L_rule 7 = .ok (.invokevirtual 32, 3) := by decide +kernel
theorem d_L_rule_10 : decode b_L_rule 10 = .ok (.ifCond .eq 7, 3) := by decide +kernel
theorem d_L_rule_13 : decode b_L_rule 13 = .ok (.lconst 1, 1) := by decide +kernel
theorem d_L_rule_14 : decode b_L_rule 14 = .ok (.goto 4, 3) := by decide +kernel
theorem d_L_rule_17 : decode b_L_rule 17 = .ok (.lconst 0, 1) := by decide +kernel
theorem d_L_rule_18 : decode b_L_rule 18 = .ok (.lastore, 1) := by decide +kernel
theorem d_L_rule_19 : decode b_L_rule 19 = .ok (.goto 7, 3) := by decide +kernel
theorem d_L_rule_22 : decode b_L_rule 22 = .ok (.astore 5, 2) := by decide +kernel
theorem d_L_rule_24 : decode b_L_rule 24 = .ok (.iconst 1, 1) := by decide +kernel
theorem d_L_rule_25 : decode b_L_rule 25 = .ok (.ireturn, 1) := by decide +kernel
theorem d_L_rule_26 : decode b_L_rule 26 = .ok (.iconst 0, 1) := by decide +kernel
theorem d_L_rule_27 : decode b_L_rule 27 = .ok (.ireturn, 1) := by decide +kernel
theorem d_D_rule_0 : decode b_D_rule 0 = .ok (.iload_n 1, 1) := by decide +kernel
theorem d_D_rule_1 : decode b_D_rule 1 = .ok (.aload_n 0, 1) := by decide +kernel
theorem d_D_rule_2 : decode b_D_rule 2 = .ok (.getfield 48, 3) := by decide +kernel
theorem d_D_rule_5 : decode b_D_rule 5 = .ok (.invokestatic 96, 3) := by decide +kernel
theorem d_D_rule_8 : decode b_D_rule 8 = .ok (.iload_n 2, 1) := by decide +kernel
theorem d_D_rule_9 : decode b_D_rule 9 = .ok (.aload_n 0, 1) := by decide +kernel
theorem d_D_rule_10 : decode b_D_rule 10 = .ok (.getfield 52, 3) := by decide +kernel
theorem d_D_rule_13 : decode b_D_rule 13 = .ok (.invokestatic 96, 3) := by decide +kernel
theorem d_D_rule_16 : decode b_D_rule 16 = .ok (.aload_n 0, 1) := by decide +kernel
theorem d_D_rule_17 : decode b_D_rule 17 = .ok (.getfield 11, 3) := by decide +kernel
theorem d_D_rule_20 : decode b_D_rule 20 = .ok (.iload_n 1, 1) := by decide +kernel
theorem d_D_rule_21 : decode b_D_rule 21 = .ok (.aaload, 1) := by decide +kernel
theorem d_D_rule_22 : decode b_D_rule 22 = .ok (.iload_n 2, 1) := by decide +kernel
theorem d_D_rule_23 : decode b_D_rule 23 = .ok (.iload_n 3, 1) := by decide +kernel
theorem d_D_rule_24 : decode b_D_rule 24 = .ok (.invokevirtual 113, 3) := by decide +kernel
theorem d_D_rule_27 : decode b_D_rule 27 = .ok (.aload_n 0, 1) := by decide +kernel
theorem d_D_rule_28 : decode b_D_rule 28 = .ok (.iload_n 1, 1) := by decide +kernel
theorem d_D_rule_29 : decode b_D_rule 29 = .ok (.iload_n 2, 1) := by decide +kernel
theorem d_D_rule_30 : decode b_D_rule 30 = .ok (.invokevirtual 117, 3) := by decide +kernel
theorem d_D_rule_33 : decode b_D_rule 33 = .ok (.ireturn, 1) := by decide +kernel
theorem d_A_setBarred_0 : decode b_A_setBarred 0 = .ok (.iload_n 2, 1) := by decide +kernel
theorem d_A_setBarred_1 : decode b_A_setBarred 1 = .ok (.ifCond .eq 18, 3) := by decide +kernel
theorem d_A_setBarred_4 : decode b_A_setBarred 4 = .ok (.aload_n 0, 1) := by decide +kernel
theorem d_A_setBarred_5 : decode b_A_setBarred 5 = .ok (.dup, 1) := by decide +kernel
theorem d_A_setBarred_6 : decode b_A_setBarred 6 = .ok (.getfield 16, 3) := by decide +kernel
theorem d_A_setBarred_9 : decode b_A_setBarred 9 = .ok (.iconst 1, 1) := by decide +kernel
theorem d_A_setBarred_10 : decode b_A_setBarred 10 = .ok (.iload_n 1, 1) := by decide +kernel
theorem d_A_setBarred_11 : decode b_A_setBarred 11 = .ok (.ishl, 1) := by decide +kernel
theorem d_A_setBarred_12 : decode b_A_setBarred 12 = .ok (.ior, 1) := by decide +kernel
theorem d_A_setBarred_13 : decode b_A_setBarred 13 = .ok (.putfield 16, 3) := by decide +kernel
theorem d_A_setBarred_16 : decode b_A_setBarred 16 = .ok (.goto 17, 3) := by decide +kernel
theorem d_A_setBarred_19 : decode b_A_setBarred 19 = .ok (.aload_n 0, 1) := by decide +kernel
theorem d_A_setBarred_20 : decode b_A_setBarred 20 = .ok (.dup, 1) := by decide +kernel
theorem d_A_setBarred_21 : decode b_A_setBarred 21 = .ok (.getfield 16, 3) := by decide +kernel
theorem d_A_setBarred_24 : decode b_A_setBarred 24 = .ok (.iconst 1, 1) := by decide +kernel
theorem d_A_setBarred_25 : decode b_A_setBarred 25 = .ok (.iload_n 1, 1) := by decide +kernel
theorem d_A_setBarred_26 : decode b_A_setBarred 26 = .ok (.ishl, 1) := by decide +kernel
theorem d_A_setBarred_27 : decode b_A_setBarred 27 = .ok (.iconst (-1), 1) := by decide +kernel
theorem d_A_setBarred_28 : decode b_A_setBarred 28 = .ok (.ixor, 1) := by decide +kernel
theorem d_A_setBarred_29 : decode b_A_setBarred 29 = .ok (.iand, 1) := by decide +kernel
theorem d_A_setBarred_30 : decode b_A_setBarred 30 = .ok (.putfield 16, 3) := by decide +kernel
theorem d_A_setBarred_33 : decode b_A_setBarred 33 = .ok (.return_, 1) := by decide +kernel
theorem d_L_full_0 : decode b_L_full 0 = .ok (.aload_n 3, 1) := by decide +kernel
theorem d_L_full_1 : decode b_L_full 1 = .ok (.iconst 0, 1) := by decide +kernel
theorem d_L_full_2 : decode b_L_full 2 = .ok (.aload_n 0, 1) := by decide +kernel
theorem d_L_full_3 : decode b_L_full 3 = .ok (.iload_n 1, 1) := by decide +kernel
theorem d_L_full_4 : decode b_L_full 4 = .ok (.iload_n 2, 1) := by decide +kernel
theorem d_L_full_5 : decode b_L_full 5 = .ok (.invokevirtual 36, 3) := by decide +kernel
theorem d_L_full_8 : decode b_L_full 8 = .ok (.i2l, 1) := by decide +kernel
theorem d_L_full_9 : decode b_L_full 9 = .ok (.lastore, 1) := by decide +kernel
theorem d_L_full_10 : decode b_L_full 10 = .ok (.goto 7, 3) := by decide +kernel
theorem d_L_full_13 : decode b_L_full 13 = .ok (.astore 4, 2) := by decide +kernel
theorem d_L_full_15 : decode b_L_full 15 = .ok (.iconst 1, 1) := by decide +kernel
theorem d_L_full_16 : decode b_L_full 16 = .ok (.ireturn, 1) := by decide +kernel
theorem d_L_full_17 : decode b_L_full 17 = .ok (.iconst 0, 1) := by decide +kernel
theorem d_L_full_18 : decode b_L_full 18 = .ok (.ireturn, 1) := by decide +kernel
theorem d_D_full_0 : decode b_D_full 0 = .ok (.iload_n 1, 1) := by decide +kernel
theorem d_D_full_1 : decode b_D_full 1 = .ok (.iconst 0, 1) := by decide +kernel
theorem d_D_full_2 : decode b_D_full 2 = .ok (.iconst 3, 1) := by decide +kernel
theorem d_D_full_3 : decode b_D_full 3 = .ok (.invokestatic 62, 3) := by decide +kernel
theorem d_D_full_6 : decode b_D_full 6 = .ok (.aload_n 0, 1) := by decide +kernel
theorem d_D_full_7 : decode b_D_full 7 = .ok (.getfield 23, 3) := by decide +kernel
theorem d_D_full_10 : decode b_D_full 10 = .ok (.iload_n 1, 1) := by decide +kernel
theorem d_D_full_11 : decode b_D_full 11 = .ok (.iload_n 2, 1) := by decide +kernel
theorem d_D_full_12 : decode b_D_full 12 = .ok (.bastore, 1) := by decide +kernel
theorem d_D_full_13 : decode b_D_full 13 = .ok (.iconst 0, 1) := by decide +kernel
theorem d_D_full_14 : decode b_D_full 14 = .ok (.istore_n 3, 1) := by decide +kernel
theorem d_D_full_15 : decode b_D_full 15 = .ok (.iconst 0, 1) := by decide +kernel
theorem d_D_full_16 : decode b_D_full 16 = .ok (.istore 4, 2) := by decide +kernel
theorem d_D_full_18 : decode b_D_full 18 = .ok (.iload 4, 2) := by decide +kernel
theorem d_D_full_20 : decode b_D_full 20 = .ok (.aload_n 0, 1) := by decide +kernel
theorem d_D_full_21 : decode b_D_full 21 = .ok (.getfield 52, 3) := by decide +kernel
theorem d_D_full_24 : decode b_D_full 24 = .ok (.if_icmp .ge 26, 3) := by decide +kernel
theorem d_D_full_27 : decode b_D_full 27 = .ok (.aload_n 0, 1) := by decide +kernel
theorem d_D_full_28 : decode b_D_full 28 = .ok (.getfield 18, 3) := by decide +kernel
theorem d_D_full_31 : decode b_D_full 31 = .ok (.iload 4, 2) := by decide +kernel
theorem d_D_full_33 : decode b_D_full 33 = .ok (.aaload, 1) := by decide +kernel
theorem d_D_full_34 : decode b_D_full 34 = .ok (.getfield 87, 3) := by decide +kernel
theorem d_D_full_37 : decode b_D_full 37 = .ok (.iload_n 1, 1) := by decide +kernel
theorem d_D_full_38 : decode b_D_full 38 = .ok (.if_icmp .ne 6, 3) := by decide +kernel
theorem d_D_full_41 : decode b_D_full 41 = .ok (.iinc 3 1, 3) := by decide +kernel
theorem d_D_full_44 : decode b_D_full 44 = .ok (.iinc 4 1, 3) := by decide +kernel
theorem d_D_full_47 : decode b_D_full 47 = .ok (.goto (-29), 3) := by decide +kernel
theorem d_D_full_50 : decode b_D_full 50 = .ok (.iload_n 3, 1) := by decide +kernel
theorem d_D_full_51 : decode b_D_full 51 = .ok (.ireturn, 1) := by decide +kernel
theorem d_L_match_0 : decode b_L_match 0 = .ok (.aload_n 2, 1) := by decide +kernel
theorem d_L_match_1 : decode b_L_match 1 = .ok (.iconst 0, 1) := by decide +kernel
theorem d_L_match_2 : decode b_L_match 2 = .ok (.aload_n 0, 1) := by decide +kernel
theorem d_L_match_3 : decode b_L_match 3 = .ok (.iload_n 1, 1) := by decide +kernel
theorem d_L_match_4 : decode b_L_match 4 = .ok (.invokevirtual 40, 3) := by decide +kernel
theorem d_L_match_7 : decode b_L_match 7 = .ok (.i2l, 1) := by decide +kernel
theorem d_L_match_8 : decode b_L_match 8 = .ok (.lastore, 1) := by decide +kernel
theorem d_L_match_9 : decode b_L_match 9 = .ok (.goto 6, 3) := by decide +kernel
theorem d_L_match_12 : decode b_L_match 12 = .ok (.astore_n 3, 1) := by decide +kernel
theorem d_L_match_13 : decode b_L_match 13 = .ok (.iconst 1, 1) := by decide +kernel
theorem d_L_match_14 : decode b_L_match 14 = .ok (.ireturn, 1) := by decide +kernel
theorem d_L_match_15 : decode b_L_match 15 = .ok (.iconst 0, 1) := by decide +kernel
theorem d_L_match_16 : decode b_L_match 16 = .ok (.ireturn, 1) := by decide +kernel
theorem d_D_match_0 : decode b_D_match 0 = .ok (.iload_n 1, 1) := by decide +kernel
theorem d_D_match_1 : decode b_D_match 1 = .ok (.iconst 0, 1) := by decide +kernel
theorem d_D_match_2 : decode b_D_match 2 = .ok (.sipush 20000, 3) := by decide +kernel
theorem d_D_match_5 : decode b_D_match 5 = .ok (.invokestatic 62, 3) := by decide +kernel
theorem d_D_match_8 : decode b_D_match 8 = .ok (.aload_n 0, 1) := by decide +kernel
theorem d_D_match_9 : decode b_D_match 9 = .ok (.invokevirtual 121, 3) := by decide +kernel
theorem d_D_match_12 : decode b_D_match 12 = .ok (.aload_n 0, 1) := by decide +kernel
theorem d_D_match_13 : decode b_D_match 13 = .ok (.aload_n 0, 1) := by decide +kernel
theorem d_D_match_14 : decode b_D_match 14 = .ok (.getfield 37, 3) := by decide +kernel
theorem d_D_match_17 : decode b_D_match 17 = .ok (.iload_n 1, 1) := by decide +kernel
theorem d_D_match_18 : decode b_D_match 18 = .ok (.invokevirtual 124, 3) := by decide +kernel
theorem d_D_match_21 : decode b_D_match 21 = .ok (.putfield 55, 3) := by decide +kernel
theorem d_D_match_24 : decode b_D_match 24 = .ok (.aload_n 0, 1) := by decide +kernel
theorem d_D_match_25 : decode b_D_match 25 = .ok (.aload_n 0, 1) := by decide +kernel
theorem d_D_match_26 : decode b_D_match 26 = .ok (.getfield 37, 3) := by decide +kernel
theorem d_D_match_29 : decode b_D_match 29 = .ok (.getfield 128, 3) := by decide +kernel
theorem d_D_match_32 : decode b_D_match 32 = .ok (.putfield 59, 3) := by decide +kernel
theorem d_D_match_35 : decode b_D_match 35 = .ok (.aload_n 0, 1) := by decide +kernel
theorem d_D_match_36 : decode b_D_match 36 = .ok (.getfield 55, 3) := by decide +kernel
theorem d_D_match_39 : decode b_D_match 39 = .ok (.ifCond .ne 10, 3) := by decide +kernel
theorem d_D_match_42 : decode b_D_match 42 = .ok (.aload_n 0, 1) := by decide +kernel
theorem d_D_match_43 : decode b_D_match 43 = .ok (.getfield 37, 3) := by decide +kernel
theorem d_D_match_46 : decode b_D_match 46 = .ok (.invokevirtual 131, 3) := by decide +kernel
theorem d_D_match_49 : decode b_D_match 49 = .ok (.aload_n 0, 1) := by decide +kernel
theorem d_D_match_50 : decode b_D_match 50 = .ok (.getfield 44, 3) := by decide +kernel
theorem d_D_match_53 : decode b_D_match 53 = .ok (.aload_n 0, 1) := by decide +kernel
theorem d_D_match_54 : decode b_D_match 54 = .ok (.getfield 37, 3) := by decide +kernel
theorem d_D_match_57 : decode b_D_match 57 = .ok (.invokevirtual 134, 3) := by decide +kernel
theorem d_D_match_60 : decode b_D_match 60 = .ok (.aload_n 0, 1) := by decide +kernel
theorem d_D_match_61 : decode b_D_match 61 = .ok (.invokevirtual 138, 3) := by decide +kernel
theorem d_D_match_64 : decode b_D_match 64 = .ok (.ireturn, 1) := by decide +kernel
theorem d_D_layOutPairs_0 : decode b_D_layOutPairs 0 = .ok (.aload_n 0, 1) := by decide +kernel
theorem d_D_layOutPairs_1 : decode b_D_layOutPairs 1 = .ok (.invokevirtual 218, 3) := by decide +kernel
theorem d_D_layOutPairs_4 : decode b_D_layOutPairs 4 = .ok (.aload_n 0, 1) := by decide +kernel
theorem d_D_layOutPairs_5 : decode b_D_layOutPairs 5 = .ok (.invokevirtual 221, 3) := by decide +kernel
theorem d_D_layOutPairs_8 : decode b_D_layOutPairs 8 = .ok (.aload_n 0, 1) := by decide +kernel
theorem d_D_layOutPairs_9 : decode b_D_layOutPairs 9 = .ok (.getfield 37, 3) := by decide +kernel
theorem d_D_layOutPairs_12 : decode b_D_layOutPairs 12 = .ok (.iconst 0, 1) := by decide +kernel
theorem d_D_layOutPairs_13 : decode b_D_layOutPairs 13 = .ok (.putfield 224, 3) := by decide +kernel
theorem d_D_layOutPairs_16 : decode b_D_layOutPairs 16 = .ok (.iconst 0, 1) := by decide +kernel
theorem d_D_layOutPairs_17 : decode b_D_layOutPairs 17 = .ok (.istore_n 1, 1) := by decide +kernel
theorem d_D_layOutPairs_18 : decode b_D_layOutPairs 18 = .ok (.iload_n 1, 1) := by decide +kernel
theorem d_D_layOutPairs_19 : decode b_D_layOutPairs 19 = .ok (.aload_n 0, 1) := by decide +kernel
theorem d_D_layOutPairs_20 : decode b_D_layOutPairs 20 = .ok (.getfield 48, 3) := by decide +kernel
theorem d_D_layOutPairs_23 : decode b_D_layOutPairs 23 = .ok (.if_icmp .ge 27, 3) := by decide +kernel
theorem d_D_layOutPairs_26 : decode b_D_layOutPairs 26 = .ok (.aload_n 0, 1) := by decide +kernel
theorem d_D_layOutPairs_27 : decode b_D_layOutPairs 27 = .ok (.getfield 37, 3) := by decide +kernel
theorem d_D_layOutPairs_30 : decode b_D_layOutPairs 30 = .ok (.getfield 225, 3) := by decide +kernel
theorem d_D_layOutPairs_33 : decode b_D_layOutPairs 33 = .ok (.iload_n 1, 1) := by decide +kernel
theorem d_D_layOutPairs_34 : decode b_D_layOutPairs 34 = .ok (.aload_n 0, 1) := by decide +kernel
theorem d_D_layOutPairs_35 : decode b_D_layOutPairs 35 = .ok (.getfield 11, 3) := by decide +kernel
theorem d_D_layOutPairs_38 : decode b_D_layOutPairs 38 = .ok (.iload_n 1, 1) := by decide +kernel
theorem d_D_layOutPairs_39 : decode b_D_layOutPairs 39 = .ok (.aaload, 1) := by decide +kernel
theorem d_D_layOutPairs_40 : decode b_D_layOutPairs 40 = .ok (.invokevirtual 173, 3) := by decide +kernel
theorem d_D_layOutPairs_43 : decode b_D_layOutPairs 43 = .ok (.iastore, 1) := by decide +kernel
theorem d_D_layOutPairs_44 : decode b_D_layOutPairs 44 = .ok (.iinc 1 1, 3) := by decide +kernel
theorem d_D_layOutPairs_47 : decode b_D_layOutPairs 47 = .ok (.goto (-29), 3) := by decide +kernel
theorem d_D_layOutPairs_50 : decode b_D_layOutPairs 50 = .ok (.iconst 0, 1) := by decide +kernel
theorem d_D_layOutPairs_51 : decode b_D_layOutPairs 51 = .ok (.istore_n 1, 1) := by decide +kernel
theorem d_D_layOutPairs_52 : decode b_D_layOutPairs 52 = .ok (.iload_n 1, 1) := by decide +kernel
theorem d_D_layOutPairs_53 : decode b_D_layOutPairs 53 = .ok (.aload_n 0, 1) := by decide +kernel
theorem d_D_layOutPairs_54 : decode b_D_layOutPairs 54 = .ok (.getfield 52, 3) := by decide +kernel
theorem d_D_layOutPairs_57 : decode b_D_layOutPairs 57 = .ok (.if_icmp .ge 78, 3) := by decide +kernel
theorem d_D_layOutPairs_60 : decode b_D_layOutPairs 60 = .ok (.aload_n 0, 1) := by decide +kernel
theorem d_D_layOutPairs_61 : decode b_D_layOutPairs 61 = .ok (.getfield 27, 3) := by decide +kernel
theorem d_D_layOutPairs_64 : decode b_D_layOutPairs 64 = .ok (.iload_n 1, 1) := by decide +kernel
theorem d_D_layOutPairs_65 : decode b_D_layOutPairs 65 = .ok (.iaload, 1) := by decide +kernel
theorem d_D_layOutPairs_66 : decode b_D_layOutPairs 66 = .ok (.istore_n 2, 1) := by decide +kernel
theorem d_D_layOutPairs_67 : decode b_D_layOutPairs 67 = .ok (.aload_n 0, 1) := by decide +kernel
theorem d_D_layOutPairs_68 : decode b_D_layOutPairs 68 = .ok (.getfield 37, 3) := by decide +kernel
theorem d_D_layOutPairs_71 : decode b_D_layOutPairs 71 = .ok (.getfield 228, 3) := by decide +kernel
theorem d_D_layOutPairs_74 : decode b_D_layOutPairs 74 = .ok (.iload_n 2, 1) := by decide +kernel
theorem d_D_layOutPairs_75 : decode b_D_layOutPairs 75 = .ok (.aload_n 0, 1) := by decide +kernel
theorem d_D_layOutPairs_76 : decode b_D_layOutPairs 76 = .ok (.getfield 18, 3) := by decide +kernel
theorem d_D_layOutPairs_79 : decode b_D_layOutPairs 79 = .ok (.iload_n 2, 1) := by decide +kernel
theorem d_D_layOutPairs_80 : decode b_D_layOutPairs 80 = .ok (.aaload, 1) := by decide +kernel
theorem d_D_layOutPairs_81 : decode b_D_layOutPairs 81 = .ok (.getfield 83, 3) := by decide +kernel
theorem d_D_layOutPairs_84 : decode b_D_layOutPairs 84 = .ok (.iastore, 1) := by decide +kernel
theorem d_D_layOutPairs_85 : decode b_D_layOutPairs 85 = .ok (.iconst 0, 1) := by decide +kernel
theorem d_D_layOutPairs_86 : decode b_D_layOutPairs 86 = .ok (.istore_n 3, 1) := by decide +kernel
theorem d_D_layOutPairs_87 : decode b_D_layOutPairs 87 = .ok (.iload_n 3, 1) := by decide +kernel
theorem d_D_layOutPairs_88 : decode b_D_layOutPairs 88 = .ok (.aload_n 0, 1) := by decide +kernel
theorem d_D_layOutPairs_89 : decode b_D_layOutPairs 89 = .ok (.getfield 48, 3) := by decide +kernel
theorem d_D_layOutPairs_92 : decode b_D_layOutPairs 92 = .ok (.if_icmp .ge 37, 3) := by decide +kernel
theorem d_D_layOutPairs_95 : decode b_D_layOutPairs 95 = .ok (.aload_n 0, 1) := by decide +kernel
theorem d_D_layOutPairs_96 : decode b_D_layOutPairs 96 = .ok (.aload_n 0, 1) := by decide +kernel
theorem d_D_layOutPairs_97 : decode b_D_layOutPairs 97 = .ok (.getfield 31, 3) := by decide +kernel
theorem d_D_layOutPairs_100 : decode b_D_layOutPairs 100 = .ok (.iload_n 3, 1) := by decide +kernel
theorem d_D_layOutPairs_101 : decode b_D_layOutPairs 101 = .ok (.iaload, 1) := by decide +kernel
theorem d_D_layOutPairs_102 : decode b_D_layOutPairs 102 = .ok (.iload_n 2, 1) := by decide +kernel
theorem d_D_layOutPairs_103 : decode b_D_layOutPairs 103 = .ok (.invokevirtual 117, 3) := by decide +kernel
theorem d_D_layOutPairs_106 : decode b_D_layOutPairs 106 = .ok (.ifCond .eq 17, 3) := by decide +kernel
theorem d_D_layOutPairs_109 : decode b_D_layOutPairs 109 = .ok (.aload_n 0, 1) := by decide +kernel
theorem d_D_layOutPairs_110 : decode b_D_layOutPairs 110 = .ok (.getfield 37, 3) := by decide +kernel
theorem d_D_layOutPairs_113 : decode b_D_layOutPairs 113 = .ok (.aload_n 0, 1) := by decide +kernel
theorem d_D_layOutPairs_114 : decode b_D_layOutPairs 114 = .ok (.getfield 31, 3) := by decide +kernel
theorem d_D_layOutPairs_117 : decode b_D_layOutPairs 117 = .ok (.iload_n 3, 1) := by decide +kernel
theorem d_D_layOutPairs_118 : decode b_D_layOutPairs 118 = .ok (.iaload, 1) := by decide +kernel
theorem d_D_layOutPairs_119 : decode b_D_layOutPairs 119 = .ok (.iload_n 2, 1) := by decide +kernel
theorem d_D_layOutPairs_120 : decode b_D_layOutPairs 120 = .ok (.invokevirtual 231, 3) := by decide +kernel
theorem d_D_layOutPairs_123 : decode b_D_layOutPairs 123 = .ok (.iinc 3 1, 3) := by decide +kernel
theorem d_D_layOutPairs_126 : decode b_D_layOutPairs 126 = .ok (.goto (-39), 3) := by decide +kernel
theorem d_D_layOutPairs_129 : decode b_D_layOutPairs 129 = .ok (.iinc 1 1, 3) := by decide +kernel
theorem d_D_layOutPairs_132 : decode b_D_layOutPairs 132 = .ok (.goto (-80), 3) := by decide +kernel
theorem d_D_layOutPairs_135 : decode b_D_layOutPairs 135 = .ok (.return_, 1) := by decide +kernel
theorem d_D_sortOrders_0 : decode b_D_sortOrders 0 = .ok (.iconst 0, 1) := by decide +kernel
theorem d_D_sortOrders_1 : decode b_D_sortOrders 1 = .ok (.istore_n 1, 1) := by decide +kernel
theorem d_D_sortOrders_2 : decode b_D_sortOrders 2 = .ok (.iload_n 1, 1) := by decide +kernel
theorem d_D_sortOrders_3 : decode b_D_sortOrders 3 = .ok (.aload_n 0, 1) := by decide +kernel
theorem d_D_sortOrders_4 : decode b_D_sortOrders 4 = .ok (.getfield 52, 3) := by decide +kernel
theorem d_D_sortOrders_7 : decode b_D_sortOrders 7 = .ok (.if_icmp .ge 70, 3) := by decide +kernel
theorem d_D_sortOrders_10 : decode b_D_sortOrders 10 = .ok (.iload_n 1, 1) := by decide +kernel
theorem d_D_sortOrders_11 : decode b_D_sortOrders 11 = .ok (.istore_n 2, 1) := by decide +kernel
theorem d_D_sortOrders_12 : decode b_D_sortOrders 12 = .ok (.iload_n 2, 1) := by decide +kernel
theorem d_D_sortOrders_13 : decode b_D_sortOrders 13 = .ok (.ifCond .le 51, 3) := by decide +kernel
theorem d_D_sortOrders_16 : decode b_D_sortOrders 16 = .ok (.aload_n 0, 1) := by decide +kernel
theorem d_D_sortOrders_17 : decode b_D_sortOrders 17 = .ok (.getfield 18, 3) := by decide +kernel
theorem d_D_sortOrders_20 : decode b_D_sortOrders 20 = .ok (.aload_n 0, 1) := by decide +kernel
theorem d_D_sortOrders_21 : decode b_D_sortOrders 21 = .ok (.getfield 27, 3) := by decide +kernel
theorem d_D_sortOrders_24 : decode b_D_sortOrders 24 = .ok (.iload_n 2, 1) := by decide +kernel
theorem d_D_sortOrders_25 : decode b_D_sortOrders 25 = .ok (.iconst 1, 1) := by decide +kernel
theorem d_D_sortOrders_26 : decode b_D_sortOrders 26 = .ok (.isub, 1) := by decide +kernel
theorem d_D_sortOrders_27 : decode b_D_sortOrders 27 = .ok (.iaload, 1) := by decide +kernel
theorem d_D_sortOrders_28 : decode b_D_sortOrders 28 = .ok (.aaload, 1) := by decide +kernel
theorem d_D_sortOrders_29 : decode b_D_sortOrders 29 = .ok (.getfield 84, 3) := by decide +kernel
theorem d_D_sortOrders_32 : decode b_D_sortOrders 32 = .ok (.aload_n 0, 1) := by decide +kernel
theorem d_D_sortOrders_33 : decode b_D_sortOrders 33 = .ok (.getfield 18, 3) := by decide +kernel
theorem d_D_sortOrders_36 : decode b_D_sortOrders 36 = .ok (.iload_n 1, 1) := by decide +kernel
theorem d_D_sortOrders_37 : decode b_D_sortOrders 37 = .ok (.aaload, 1) := by decide +kernel
theorem d_D_sortOrders_38 : decode b_D_sortOrders 38 = .ok (.getfield 84, 3) := by decide +kernel
theorem d_D_sortOrders_41 : decode b_D_sortOrders 41 = .ok (.if_icmp .le 23, 3) := by decide +kernel
theorem d_D_sortOrders_44 : decode b_D_sortOrders 44 = .ok (.aload_n 0, 1) := by decide +kernel
theorem d_D_sortOrders_45 : decode b_D_sortOrders 45 = .ok (.getfield 27, 3) := by decide +kernel
theorem d_D_sortOrders_48 : decode b_D_sortOrders 48 = .ok (.iload_n 2, 1) := by decide +kernel
theorem d_D_sortOrders_49 : decode b_D_sortOrders 49 = .ok (.aload_n 0, 1) := by decide +kernel
theorem d_D_sortOrders_50 : decode b_D_sortOrders 50 = .ok (.getfield 27, 3) := by decide +kernel
theorem d_D_sortOrders_53 : decode b_D_sortOrders 53 = .ok (.iload_n 2, 1) := by decide +kernel
theorem d_D_sortOrders_54 : decode b_D_sortOrders 54 = .ok (.iconst 1, 1) := by decide +kernel
theorem d_D_sortOrders_55 : decode b_D_sortOrders 55 = .ok (.isub, 1) := by decide +kernel
theorem d_D_sortOrders_56 : decode b_D_sortOrders 56 = .ok (.iaload, 1) := by decide +kernel
theorem d_D_sortOrders_57 : decode b_D_sortOrders 57 = .ok (.iastore, 1) := by decide +kernel
theorem d_D_sortOrders_58 : decode b_D_sortOrders 58 = .ok (.iinc 2 (-1), 3) := by decide +kernel
theorem d_D_sortOrders_61 : decode b_D_sortOrders 61 = .ok (.goto (-49), 3) := by decide +kernel
theorem d_D_sortOrders_64 : decode b_D_sortOrders 64 = .ok (.aload_n 0, 1) := by decide +kernel
theorem d_D_sortOrders_65 : decode b_D_sortOrders 65 = .ok (.getfield 27, 3) := by decide +kernel
theorem d_D_sortOrders_68 : decode b_D_sortOrders 68 = .ok (.iload_n 2, 1) := by decide +kernel
theorem d_D_sortOrders_69 : decode b_D_sortOrders 69 = .ok (.iload_n 1, 1) := by decide +kernel
theorem d_D_sortOrders_70 : decode b_D_sortOrders 70 = .ok (.iastore, 1) := by decide +kernel
theorem d_D_sortOrders_71 : decode b_D_sortOrders 71 = .ok (.iinc 1 1, 3) := by decide +kernel
theorem d_D_sortOrders_74 : decode b_D_sortOrders 74 = .ok (.goto (-72), 3) := by decide +kernel
theorem d_D_sortOrders_77 : decode b_D_sortOrders 77 = .ok (.return_, 1) := by decide +kernel
theorem d_D_sortArrivals_0 : decode b_D_sortArrivals 0 = .ok (.iconst 0, 1) := by decide +kernel
theorem d_D_sortArrivals_1 : decode b_D_sortArrivals 1 = .ok (.istore_n 1, 1) := by decide +kernel
theorem d_D_sortArrivals_2 : decode b_D_sortArrivals 2 = .ok (.iload_n 1, 1) := by decide +kernel
theorem d_D_sortArrivals_3 : decode b_D_sortArrivals 3 = .ok (.aload_n 0, 1) := by decide +kernel
theorem d_D_sortArrivals_4 : decode b_D_sortArrivals 4 = .ok (.getfield 48, 3) := by decide +kernel
theorem d_D_sortArrivals_7 : decode b_D_sortArrivals 7 = .ok (.if_icmp .ge 70, 3) := by decide +kernel
theorem d_D_sortArrivals_10 : decode b_D_sortArrivals 10 = .ok (.iload_n 1, 1) := by decide +kernel
theorem d_D_sortArrivals_11 : decode b_D_sortArrivals 11 = .ok (.istore_n 2, 1) := by decide +kernel
theorem d_D_sortArrivals_12 : decode b_D_sortArrivals 12 = .ok (.iload_n 2, 1) := by decide +kernel
theorem d_D_sortArrivals_13 : decode b_D_sortArrivals 13 = .ok (.ifCond .le 51, 3) := by decide +kernel
theorem d_D_sortArrivals_16 : decode b_D_sortArrivals 16 = .ok (.aload_n 0, 1) := by decide +kernel
theorem d_D_sortArrivals_17 : decode b_D_sortArrivals 17 = .ok (.getfield 11, 3) := by decide +kernel
theorem d_D_sortArrivals_20 : decode b_D_sortArrivals 20 = .ok (.aload_n 0, 1) := by decide +kernel
theorem d_D_sortArrivals_21 : decode b_D_sortArrivals 21 = .ok (.getfield 31, 3) := by decide +kernel
theorem d_D_sortArrivals_24 : decode b_D_sortArrivals 24 = .ok (.iload_n 2, 1) := by decide +kernel
theorem d_D_sortArrivals_25 : decode b_D_sortArrivals 25 = .ok (.iconst 1, 1) := by decide +kernel
theorem d_D_sortArrivals_26 : decode b_D_sortArrivals 26 = .ok (.isub, 1) := by decide +kernel
theorem d_D_sortArrivals_27 : decode b_D_sortArrivals 27 = .ok (.iaload, 1) := by decide +kernel
theorem d_D_sortArrivals_28 : decode b_D_sortArrivals 28 = .ok (.aaload, 1) := by decide +kernel
theorem d_D_sortArrivals_29 : decode b_D_sortArrivals 29 = .ok (.getfield 76, 3) := by decide +kernel
theorem d_D_sortArrivals_32 : decode b_D_sortArrivals 32 = .ok (.aload_n 0, 1) := by decide +kernel
theorem d_D_sortArrivals_33 : decode b_D_sortArrivals 33 = .ok (.getfield 11, 3) := by decide +kernel
theorem d_D_sortArrivals_36 : decode b_D_sortArrivals 36 = .ok (.iload_n 1, 1) := by decide +kernel
theorem d_D_sortArrivals_37 : decode b_D_sortArrivals 37 = .ok (.aaload, 1) := by decide +kernel
theorem d_D_sortArrivals_38 : decode b_D_sortArrivals 38 = .ok (.getfield 76, 3) := by decide +kernel
theorem d_D_sortArrivals_41 : decode b_D_sortArrivals 41 = .ok (.if_icmp .le 23, 3) := by decide +kernel
theorem d_D_sortArrivals_44 : decode b_D_sortArrivals 44 = .ok (.aload_n 0, 1) := by decide +kernel
theorem d_D_sortArrivals_45 : decode b_D_sortArrivals 45 = .ok (.getfield 31, 3) := by decide +kernel
theorem d_D_sortArrivals_48 : decode b_D_sortArrivals 48 = .ok (.iload_n 2, 1) := by decide +kernel
theorem d_D_sortArrivals_49 : decode b_D_sortArrivals 49 = .ok (.aload_n 0, 1) := by decide +kernel
theorem d_D_sortArrivals_50 : decode b_D_sortArrivals 50 = .ok (.getfield 31, 3) := by decide +kernel
theorem d_D_sortArrivals_53 : decode b_D_sortArrivals 53 = .ok (.iload_n 2, 1) := by decide +kernel
theorem d_D_sortArrivals_54 : decode b_D_sortArrivals 54 = .ok (.iconst 1, 1) := by decide +kernel
theorem d_D_sortArrivals_55 : decode b_D_sortArrivals 55 = .ok (.isub, 1) := by decide +kernel
theorem d_D_sortArrivals_56 : decode b_D_sortArrivals 56 = .ok (.iaload, 1) := by decide +kernel
theorem d_D_sortArrivals_57 : decode b_D_sortArrivals 57 = .ok (.iastore, 1) := by decide +kernel
theorem d_D_sortArrivals_58 : decode b_D_sortArrivals 58 = .ok (.iinc 2 (-1), 3) := by decide +kernel
theorem d_D_sortArrivals_61 : decode b_D_sortArrivals 61 = .ok (.goto (-49), 3) := by decide +kernel
theorem d_D_sortArrivals_64 : decode b_D_sortArrivals 64 = .ok (.aload_n 0, 1) := by decide +kernel
theorem d_D_sortArrivals_65 : decode b_D_sortArrivals 65 = .ok (.getfield 31, 3) := by decide +kernel
theorem d_D_sortArrivals_68 : decode b_D_sortArrivals 68 = .ok (.iload_n 2, 1) := by decide +kernel
theorem d_D_sortArrivals_69 : decode b_D_sortArrivals 69 = .ok (.iload_n 1, 1) := by decide +kernel
theorem d_D_sortArrivals_70 : decode b_D_sortArrivals 70 = .ok (.iastore, 1) := by decide +kernel
theorem d_D_sortArrivals_71 : decode b_D_sortArrivals 71 = .ok (.iinc 1 1, 3) := by decide +kernel
theorem d_D_sortArrivals_74 : decode b_D_sortArrivals 74 = .ok (.goto (-72), 3) := by decide +kernel
theorem d_D_sortArrivals_77 : decode b_D_sortArrivals 77 = .ok (.return_, 1) := by decide +kernel
theorem d_S_addPair_0 : decode b_S_addPair 0 = .ok (.aload_n 0, 1) := by decide +kernel
theorem d_S_addPair_1 : decode b_S_addPair 1 = .ok (.getfield 39, 3) := by decide +kernel
theorem d_S_addPair_4 : decode b_S_addPair 4 = .ok (.bipush 64, 2) := by decide +kernel
theorem d_S_addPair_6 : decode b_S_addPair 6 = .ok (.if_icmp .ge 33, 3) := by decide +kernel
theorem d_S_addPair_9 : decode b_S_addPair 9 = .ok (.aload_n 0, 1) := by decide +kernel
theorem d_S_addPair_10 : decode b_S_addPair 10 = .ok (.getfield 9, 3) := by decide +kernel
theorem d_S_addPair_13 : decode b_S_addPair 13 = .ok (.aload_n 0, 1) := by decide +kernel
theorem d_S_addPair_14 : decode b_S_addPair 14 = .ok (.getfield 39, 3) := by decide +kernel
theorem d_S_addPair_17 : decode b_S_addPair 17 = .ok (.iload_n 1, 1) := by decide +kernel
theorem d_S_addPair_18 : decode b_S_addPair 18 = .ok (.iastore, 1) := by decide +kernel
theorem d_S_addPair_19 : decode b_S_addPair 19 = .ok (.aload_n 0, 1) := by decide +kernel
theorem d_S_addPair_20 : decode b_S_addPair 20 = .ok (.getfield 15, 3) := by decide +kernel
theorem d_S_addPair_23 : decode b_S_addPair 23 = .ok (.aload_n 0, 1) := by decide +kernel
theorem d_S_addPair_24 : decode b_S_addPair 24 = .ok (.getfield 39, 3) := by decide +kernel
theorem d_S_addPair_27 : decode b_S_addPair 27 = .ok (.iload_n 2, 1) := by decide +kernel
theorem d_S_addPair_28 : decode b_S_addPair 28 = .ok (.iastore, 1) := by decide +kernel
theorem d_S_addPair_29 : decode b_S_addPair 29 = .ok (.aload_n 0, 1) := by decide +kernel
theorem d_S_addPair_30 : decode b_S_addPair 30 = .ok (.dup, 1) := by decide +kernel
theorem d_S_addPair_31 : decode b_S_addPair 31 = .ok (.getfield 39, 3) := by decide +kernel
theorem d_S_addPair_34 : decode b_S_addPair 34 = .ok (.iconst 1, 1) := by decide +kernel
theorem d_S_addPair_35 : decode b_S_addPair 35 = .ok (.iadd, 1) := by decide +kernel
theorem d_S_addPair_36 : decode b_S_addPair 36 = .ok (.putfield 39, 3) := by decide +kernel
theorem d_S_addPair_39 : decode b_S_addPair 39 = .ok (.return_, 1) := by decide +kernel
theorem d_S_lookAtAll_0 : decode b_S_lookAtAll 0 = .ok (.aload_n 0, 1) := by decide +kernel
theorem d_S_lookAtAll_1 : decode b_S_lookAtAll 1 = .ok (.invokevirtual 43, 3) := by decide +kernel
theorem d_S_lookAtAll_4 : decode b_S_lookAtAll 4 = .ok (.aload_n 0, 1) := by decide +kernel
theorem d_S_lookAtAll_5 : decode b_S_lookAtAll 5 = .ok (.iconst (-1), 1) := by decide +kernel
theorem d_S_lookAtAll_6 : decode b_S_lookAtAll 6 = .ok (.putfield 46, 3) := by decide +kernel
theorem d_S_lookAtAll_9 : decode b_S_lookAtAll 9 = .ok (.iconst (-1), 1) := by decide +kernel
theorem d_S_lookAtAll_10 : decode b_S_lookAtAll 10 = .ok (.istore_n 2, 1) := by decide +kernel
theorem d_S_lookAtAll_11 : decode b_S_lookAtAll 11 = .ok (.aload_n 0, 1) := by decide +kernel
theorem d_S_lookAtAll_12 : decode b_S_lookAtAll 12 = .ok (.getfield 39, 3) := by decide +kernel
theorem d_S_lookAtAll_15 : decode b_S_lookAtAll 15 = .ok (.ifCond .le 16, 3) := by decide +kernel
theorem d_S_lookAtAll_18 : decode b_S_lookAtAll 18 = .ok (.iconst 0, 1) := by decide +kernel
theorem d_S_lookAtAll_19 : decode b_S_lookAtAll 19 = .ok (.istore_n 2, 1) := by decide +kernel
theorem d_S_lookAtAll_20 : decode b_S_lookAtAll 20 = .ok (.aload_n 0, 1) := by decide +kernel
theorem d_S_lookAtAll_21 : decode b_S_lookAtAll 21 = .ok (.getfield 33, 3) := by decide +kernel
theorem d_S_lookAtAll_24 : decode b_S_lookAtAll 24 = .ok (.iconst 0, 1) := by decide +kernel
theorem d_S_lookAtAll_25 : decode b_S_lookAtAll 25 = .ok (.aload_n 0, 1) := by decide +kernel
theorem d_S_lookAtAll_26 : decode b_S_lookAtAll 26 = .ok (.iconst 0, 1) := by decide +kernel
theorem d_S_lookAtAll_27 : decode b_S_lookAtAll 27 = .ok (.invokevirtual 49, 3) := by decide +kernel
theorem d_S_lookAtAll_30 : decode b_S_lookAtAll 30 = .ok (.iastore, 1) := by decide +kernel
theorem d_S_lookAtAll_31 : decode b_S_lookAtAll 31 = .ok (.aload_n 0, 1) := by decide +kernel
theorem d_S_lookAtAll_32 : decode b_S_lookAtAll 32 = .ok (.iconst 0, 1) := by decide +kernel
theorem d_S_lookAtAll_33 : decode b_S_lookAtAll 33 = .ok (.putfield 53, 3) := by decide +kernel
theorem d_S_lookAtAll_36 : decode b_S_lookAtAll 36 = .ok (.aload_n 0, 1) := by decide +kernel
theorem d_S_lookAtAll_37 : decode b_S_lookAtAll 37 = .ok (.getfield 53, 3) := by decide +kernel
theorem d_S_lookAtAll_40 : decode b_S_lookAtAll 40 = .ok (.iload_n 1, 1) := by decide +kernel
theorem d_S_lookAtAll_41 : decode b_S_lookAtAll 41 = .ok (.if_icmp .ge 80, 3) := by decide +kernel
theorem d_S_lookAtAll_44 : decode b_S_lookAtAll 44 = .ok (.aload_n 0, 1) := by decide +kernel
theorem d_S_lookAtAll_45 : decode b_S_lookAtAll 45 = .ok (.iload_n 2, 1) := by decide +kernel
theorem d_S_lookAtAll_46 : decode b_S_lookAtAll 46 = .ok (.invokevirtual 56, 3) := by decide +kernel
theorem d_S_lookAtAll_49 : decode b_S_lookAtAll 49 = .ok (.istore_n 2, 1) := by decide +kernel
theorem d_S_lookAtAll_50 : decode b_S_lookAtAll 50 = .ok (.iload_n 2, 1) := by decide +kernel
theorem d_S_lookAtAll_51 : decode b_S_lookAtAll 51 = .ok (.ifCond .ge 5, 3) := by decide +kernel
theorem d_S_lookAtAll_54 : decode b_S_lookAtAll 54 = .ok (.iconst 1, 1) := by decide +kernel
theorem d_S_lookAtAll_55 : decode b_S_lookAtAll 55 = .ok (.ireturn, 1) := by decide +kernel
theorem d_S_lookAtAll_56 : decode b_S_lookAtAll 56 = .ok (.aload_n 0, 1) := by decide +kernel
theorem d_S_lookAtAll_57 : decode b_S_lookAtAll 57 = .ok (.iload_n 2, 1) := by decide +kernel
theorem d_S_lookAtAll_58 : decode b_S_lookAtAll 58 = .ok (.aload_n 0, 1) := by decide +kernel
theorem d_S_lookAtAll_59 : decode b_S_lookAtAll 59 = .ok (.getfield 33, 3) := by decide +kernel
theorem d_S_lookAtAll_62 : decode b_S_lookAtAll 62 = .ok (.iload_n 2, 1) := by decide +kernel
theorem d_S_lookAtAll_63 : decode b_S_lookAtAll 63 = .ok (.iaload, 1) := by decide +kernel
theorem d_S_lookAtAll_64 : decode b_S_lookAtAll 64 = .ok (.invokevirtual 59, 3) := by decide +kernel
theorem d_S_lookAtAll_67 : decode b_S_lookAtAll 67 = .ok (.aload_n 0, 1) := by decide +kernel
theorem d_S_lookAtAll_68 : decode b_S_lookAtAll 68 = .ok (.getfield 33, 3) := by decide +kernel
theorem d_S_lookAtAll_71 : decode b_S_lookAtAll 71 = .ok (.iload_n 2, 1) := by decide +kernel
theorem d_S_lookAtAll_72 : decode b_S_lookAtAll 72 = .ok (.dup2, 1) := by decide +kernel
theorem d_S_lookAtAll_73 : decode b_S_lookAtAll 73 = .ok (.iaload, 1) := by decide +kernel
theorem d_S_lookAtAll_74 : decode b_S_lookAtAll 74 = .ok (.iconst 1, 1) := by decide +kernel
theorem d_S_lookAtAll_75 : decode b_S_lookAtAll 75 = .ok (.isub, 1) := by decide +kernel
theorem d_S_lookAtAll_76 : decode b_S_lookAtAll 76 = .ok (.iastore, 1) := by decide +kernel
theorem d_S_lookAtAll_77 : decode b_S_lookAtAll 77 = .ok (.iload_n 2, 1) := by decide +kernel
theorem d_S_lookAtAll_78 : decode b_S_lookAtAll 78 = .ok (.iconst 1, 1) := by decide +kernel
theorem d_S_lookAtAll_79 : decode b_S_lookAtAll 79 = .ok (.iadd, 1) := by decide +kernel
theorem d_S_lookAtAll_80 : decode b_S_lookAtAll 80 = .ok (.aload_n 0, 1) := by decide +kernel
theorem d_S_lookAtAll_81 : decode b_S_lookAtAll 81 = .ok (.getfield 39, 3) := by decide +kernel
theorem d_S_lookAtAll_84 : decode b_S_lookAtAll 84 = .ok (.if_icmp .ge 20, 3) := by decide +kernel
theorem d_S_lookAtAll_87 : decode b_S_lookAtAll 87 = .ok (.iinc 2 1, 3) := by decide +kernel
theorem d_S_lookAtAll_90 : decode b_S_lookAtAll 90 = .ok (.aload_n 0, 1) := by decide +kernel
theorem d_S_lookAtAll_91 : decode b_S_lookAtAll 91 = .ok (.getfield 33, 3) := by decide +kernel
theorem d_S_lookAtAll_94 : decode b_S_lookAtAll 94 = .ok (.iload_n 2, 1) := by decide +kernel
theorem d_S_lookAtAll_95 : decode b_S_lookAtAll 95 = .ok (.aload_n 0, 1) := by decide +kernel
theorem d_S_lookAtAll_96 : decode b_S_lookAtAll 96 = .ok (.iload_n 2, 1) := by decide +kernel
theorem d_S_lookAtAll_97 : decode b_S_lookAtAll 97 = .ok (.invokevirtual 49, 3) := by decide +kernel
theorem d_S_lookAtAll_100 : decode b_S_lookAtAll 100 = .ok (.iastore, 1) := by decide +kernel
theorem d_S_lookAtAll_101 : decode b_S_lookAtAll 101 = .ok (.goto 7, 3) := by decide +kernel
theorem d_S_lookAtAll_104 : decode b_S_lookAtAll 104 = .ok (.aload_n 0, 1) := by decide +kernel
theorem d_S_lookAtAll_105 : decode b_S_lookAtAll 105 = .ok (.invokevirtual 63, 3) := by decide +kernel
theorem d_S_lookAtAll_108 : decode b_S_lookAtAll 108 = .ok (.aload_n 0, 1) := by decide +kernel
theorem d_S_lookAtAll_109 : decode b_S_lookAtAll 109 = .ok (.dup, 1) := by decide +kernel
theorem d_S_lookAtAll_110 : decode b_S_lookAtAll 110 = .ok (.getfield 53, 3) := by decide +kernel
theorem d_S_lookAtAll_113 : decode b_S_lookAtAll 113 = .ok (.iconst 1, 1) := by decide +kernel
theorem d_S_lookAtAll_114 : decode b_S_lookAtAll 114 = .ok (.iadd, 1) := by decide +kernel
theorem d_S_lookAtAll_115 : decode b_S_lookAtAll 115 = .ok (.putfield 53, 3) := by decide +kernel
theorem d_S_lookAtAll_118 : decode b_S_lookAtAll 118 = .ok (.goto (-82), 3) := by decide +kernel
theorem d_S_lookAtAll_121 : decode b_S_lookAtAll 121 = .ok (.aload_n 0, 1) := by decide +kernel
theorem d_S_lookAtAll_122 : decode b_S_lookAtAll 122 = .ok (.iload_n 2, 1) := by decide +kernel
theorem d_S_lookAtAll_123 : decode b_S_lookAtAll 123 = .ok (.invokevirtual 56, 3) := by decide +kernel
theorem d_S_lookAtAll_126 : decode b_S_lookAtAll 126 = .ok (.ifCond .ge 7, 3) := by decide +kernel
theorem d_S_lookAtAll_129 : decode b_S_lookAtAll 129 = .ok (.iconst 1, 1) := by decide +kernel
theorem d_S_lookAtAll_130 : decode b_S_lookAtAll 130 = .ok (.goto 4, 3) := by decide +kernel
theorem d_S_lookAtAll_133 : decode b_S_lookAtAll 133 = .ok (.iconst 0, 1) := by decide +kernel
theorem d_S_lookAtAll_134 : decode b_S_lookAtAll 134 = .ok (.ireturn, 1) := by decide +kernel
theorem d_S_putAllBack_0 : decode b_S_putAllBack 0 = .ok (.aload_n 0, 1) := by decide +kernel
theorem d_S_putAllBack_1 : decode b_S_putAllBack 1 = .ok (.getfield 18, 3) := by decide +kernel
theorem d_S_putAllBack_4 : decode b_S_putAllBack 4 = .ok (.iconst 0, 1) := by decide +kernel
theorem d_S_putAllBack_5 : decode b_S_putAllBack 5 = .ok (.aload_n 0, 1) := by decide +kernel
theorem d_S_putAllBack_6 : decode b_S_putAllBack 6 = .ok (.getfield 24, 3) := by decide +kernel
theorem d_S_putAllBack_9 : decode b_S_putAllBack 9 = .ok (.iconst 0, 1) := by decide +kernel
theorem d_S_putAllBack_10 : decode b_S_putAllBack 10 = .ok (.bipush 8, 2) := by decide +kernel
theorem d_S_putAllBack_12 : decode b_S_putAllBack 12 = .ok (.invokestatic 66, 3) := by decide +kernel
theorem d_S_putAllBack_15 : decode b_S_putAllBack 15 = .ok (.aload_n 0, 1) := by decide +kernel
theorem d_S_putAllBack_16 : decode b_S_putAllBack 16 = .ok (.getfield 21, 3) := by decide +kernel
theorem d_S_putAllBack_19 : decode b_S_putAllBack 19 = .ok (.iconst 0, 1) := by decide +kernel
theorem d_S_putAllBack_20 : decode b_S_putAllBack 20 = .ok (.aload_n 0, 1) := by decide +kernel
theorem d_S_putAllBack_21 : decode b_S_putAllBack 21 = .ok (.getfield 27, 3) := by decide +kernel
theorem d_S_putAllBack_24 : decode b_S_putAllBack 24 = .ok (.iconst 0, 1) := by decide +kernel
theorem d_S_putAllBack_25 : decode b_S_putAllBack 25 = .ok (.bipush 8, 2) := by decide +kernel
theorem d_S_putAllBack_27 : decode b_S_putAllBack 27 = .ok (.invokestatic 66, 3) := by decide +kernel
theorem d_S_putAllBack_30 : decode b_S_putAllBack 30 = .ok (.iconst 0, 1) := by decide +kernel
theorem d_S_putAllBack_31 : decode b_S_putAllBack 31 = .ok (.istore_n 1, 1) := by decide +kernel
theorem d_S_putAllBack_32 : decode b_S_putAllBack 32 = .ok (.iload_n 1, 1) := by decide +kernel
theorem d_S_putAllBack_33 : decode b_S_putAllBack 33 = .ok (.aload_n 0, 1) := by decide +kernel
theorem d_S_putAllBack_34 : decode b_S_putAllBack 34 = .ok (.getfield 39, 3) := by decide +kernel
theorem d_S_putAllBack_37 : decode b_S_putAllBack 37 = .ok (.if_icmp .ge 16, 3) := by decide +kernel
theorem d_S_putAllBack_40 : decode b_S_putAllBack 40 = .ok (.aload_n 0, 1) := by decide +kernel
theorem d_S_putAllBack_41 : decode b_S_putAllBack 41 = .ok (.getfield 30, 3) := by decide +kernel
theorem d_S_putAllBack_44 : decode b_S_putAllBack 44 = .ok (.iload_n 1, 1) := by decide +kernel
theorem d_S_putAllBack_45 : decode b_S_putAllBack 45 = .ok (.iconst 0, 1) := by decide +kernel
theorem d_S_putAllBack_46 : decode b_S_putAllBack 46 = .ok (.iastore, 1) := by decide +kernel
theorem d_S_putAllBack_47 : decode b_S_putAllBack 47 = .ok (.iinc 1 1, 3) := by decide +kernel
theorem d_S_putAllBack_50 : decode b_S_putAllBack 50 = .ok (.goto (-18), 3) := by decide +kernel
theorem d_S_putAllBack_53 : decode b_S_putAllBack 53 = .ok (.aload_n 0, 1) := by decide +kernel
theorem d_S_putAllBack_54 : decode b_S_putAllBack 54 = .ok (.iconst 0, 1) := by decide +kernel
theorem d_S_putAllBack_55 : decode b_S_putAllBack 55 = .ok (.putfield 72, 3) := by decide +kernel
theorem d_S_putAllBack_58 : decode b_S_putAllBack 58 = .ok (.return_, 1) := by decide +kernel
theorem d_S_greatest_0 : decode b_S_greatest 0 = .ok (.aload_n 0, 1) := by decide +kernel
theorem d_S_greatest_1 : decode b_S_greatest 1 = .ok (.getfield 24, 3) := by decide +kernel
theorem d_S_greatest_4 : decode b_S_greatest 4 = .ok (.aload_n 0, 1) := by decide +kernel
theorem d_S_greatest_5 : decode b_S_greatest 5 = .ok (.getfield 9, 3) := by decide +kernel
theorem d_S_greatest_8 : decode b_S_greatest 8 = .ok (.iload_n 1, 1) := by decide +kernel
theorem d_S_greatest_9 : decode b_S_greatest 9 = .ok (.iaload, 1) := by decide +kernel
theorem d_S_greatest_10 : decode b_S_greatest 10 = .ok (.iaload, 1) := by decide +kernel
theorem d_S_greatest_11 : decode b_S_greatest 11 = .ok (.aload_n 0, 1) := by decide +kernel
theorem d_S_greatest_12 : decode b_S_greatest 12 = .ok (.getfield 27, 3) := by decide +kernel
theorem d_S_greatest_15 : decode b_S_greatest 15 = .ok (.aload_n 0, 1) := by decide +kernel
theorem d_S_greatest_16 : decode b_S_greatest 16 = .ok (.getfield 15, 3) := by decide +kernel
theorem d_S_greatest_19 : decode b_S_greatest 19 = .ok (.iload_n 1, 1) := by decide +kernel
theorem d_S_greatest_20 : decode b_S_greatest 20 = .ok (.iaload, 1) := by decide +kernel
theorem d_S_greatest_21 : decode b_S_greatest 21 = .ok (.iaload, 1) := by decide +kernel
theorem d_S_greatest_22 : decode b_S_greatest 22 = .ok (.invokestatic 75, 3) := by decide +kernel
theorem d_S_greatest_25 : decode b_S_greatest 25 = .ok (.ireturn, 1) := by decide +kernel
theorem d_S_backToUntried_0 : decode b_S_backToUntried 0 = .ok (.iload_n 1, 1) := by decide +kernel
theorem d_S_backToUntried_1 : decode b_S_backToUntried 1 = .ok (.istore_n 2, 1) := by decide +kernel
theorem d_S_backToUntried_2 : decode b_S_backToUntried 2 = .ok (.iload_n 2, 1) := by decide +kernel
theorem d_S_backToUntried_3 : decode b_S_backToUntried 3 = .ok (.ifCond .lt 25, 3) := by decide +kernel
theorem d_S_backToUntried_6 : decode b_S_backToUntried 6 = .ok (.aload_n 0, 1) := by decide +kernel
theorem d_S_backToUntried_7 : decode b_S_backToUntried 7 = .ok (.iload_n 2, 1) := by decide +kernel
theorem d_S_backToUntried_8 : decode b_S_backToUntried 8 = .ok (.invokevirtual 81, 3) := by decide +kernel
theorem d_S_backToUntried_11 : decode b_S_backToUntried 11 = .ok (.aload_n 0, 1) := by decide +kernel
theorem d_S_backToUntried_12 : decode b_S_backToUntried 12 = .ok (.getfield 33, 3) := by decide +kernel
theorem d_S_backToUntried_15 : decode b_S_backToUntried 15 = .ok (.iload_n 2, 1) := by decide +kernel
theorem d_S_backToUntried_16 : decode b_S_backToUntried 16 = .ok (.iaload, 1) := by decide +kernel
