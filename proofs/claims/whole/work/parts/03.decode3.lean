theorem d_S_backToUntried_17 : decode b_S_backToUntried 17 = .ok (.ifCond .lt 5, 3) := by decide +kernel
theorem d_S_backToUntried_20 : decode b_S_backToUntried 20 = .ok (.iload_n 2, 1) := by decide +kernel
theorem d_S_backToUntried_21 : decode b_S_backToUntried 21 = .ok (.ireturn, 1) := by decide +kernel
theorem d_S_backToUntried_22 : decode b_S_backToUntried 22 = .ok (.iinc 2 (-1), 3) := by decide +kernel
theorem d_S_backToUntried_25 : decode b_S_backToUntried 25 = .ok (.goto (-23), 3) := by decide +kernel
theorem d_S_backToUntried_28 : decode b_S_backToUntried 28 = .ok (.iconst (-1), 1) := by decide +kernel
theorem d_S_backToUntried_29 : decode b_S_backToUntried 29 = .ok (.ireturn, 1) := by decide +kernel
theorem d_S_putBack_0 : decode b_S_putBack 0 = .ok (.aload_n 0, 1) := by decide +kernel
theorem d_S_putBack_1 : decode b_S_putBack 1 = .ok (.dup, 1) := by decide +kernel
theorem d_S_putBack_2 : decode b_S_putBack 2 = .ok (.getfield 72, 3) := by decide +kernel
theorem d_S_putBack_5 : decode b_S_putBack 5 = .ok (.aload_n 0, 1) := by decide +kernel
theorem d_S_putBack_6 : decode b_S_putBack 6 = .ok (.iload_n 1, 1) := by decide +kernel
theorem d_S_putBack_7 : decode b_S_putBack 7 = .ok (.invokevirtual 85, 3) := by decide +kernel
theorem d_S_putBack_10 : decode b_S_putBack 10 = .ok (.isub, 1) := by decide +kernel
theorem d_S_putBack_11 : decode b_S_putBack 11 = .ok (.putfield 72, 3) := by decide +kernel
theorem d_S_putBack_14 : decode b_S_putBack 14 = .ok (.aload_n 0, 1) := by decide +kernel
theorem d_S_putBack_15 : decode b_S_putBack 15 = .ok (.getfield 24, 3) := by decide +kernel
theorem d_S_putBack_18 : decode b_S_putBack 18 = .ok (.aload_n 0, 1) := by decide +kernel
theorem d_S_putBack_19 : decode b_S_putBack 19 = .ok (.getfield 9, 3) := by decide +kernel
theorem d_S_putBack_22 : decode b_S_putBack 22 = .ok (.iload_n 1, 1) := by decide +kernel
theorem d_S_putBack_23 : decode b_S_putBack 23 = .ok (.iaload, 1) := by decide +kernel
theorem d_S_putBack_24 : decode b_S_putBack 24 = .ok (.dup2, 1) := by decide +kernel
theorem d_S_putBack_25 : decode b_S_putBack 25 = .ok (.iaload, 1) := by decide +kernel
theorem d_S_putBack_26 : decode b_S_putBack 26 = .ok (.aload_n 0, 1) := by decide +kernel
theorem d_S_putBack_27 : decode b_S_putBack 27 = .ok (.getfield 30, 3) := by decide +kernel
theorem d_S_putBack_30 : decode b_S_putBack 30 = .ok (.iload_n 1, 1) := by decide +kernel
theorem d_S_putBack_31 : decode b_S_putBack 31 = .ok (.iaload, 1) := by decide +kernel
theorem d_S_putBack_32 : decode b_S_putBack 32 = .ok (.iadd, 1) := by decide +kernel
theorem d_S_putBack_33 : decode b_S_putBack 33 = .ok (.iastore, 1) := by decide +kernel
theorem d_S_putBack_34 : decode b_S_putBack 34 = .ok (.aload_n 0, 1) := by decide +kernel
theorem d_S_putBack_35 : decode b_S_putBack 35 = .ok (.getfield 27, 3) := by decide +kernel
theorem d_S_putBack_38 : decode b_S_putBack 38 = .ok (.aload_n 0, 1) := by decide +kernel
theorem d_S_putBack_39 : decode b_S_putBack 39 = .ok (.getfield 15, 3) := by decide +kernel
theorem d_S_putBack_42 : decode b_S_putBack 42 = .ok (.iload_n 1, 1) := by decide +kernel
theorem d_S_putBack_43 : decode b_S_putBack 43 = .ok (.iaload, 1) := by decide +kernel
theorem d_S_putBack_44 : decode b_S_putBack 44 = .ok (.dup2, 1) := by decide +kernel
theorem d_S_putBack_45 : decode b_S_putBack 45 = .ok (.iaload, 1) := by decide +kernel
theorem d_S_putBack_46 : decode b_S_putBack 46 = .ok (.aload_n 0, 1) := by decide +kernel
theorem d_S_putBack_47 : decode b_S_putBack 47 = .ok (.getfield 30, 3) := by decide +kernel
theorem d_S_putBack_50 : decode b_S_putBack 50 = .ok (.iload_n 1, 1) := by decide +kernel
theorem d_S_putBack_51 : decode b_S_putBack 51 = .ok (.iaload, 1) := by decide +kernel
theorem d_S_putBack_52 : decode b_S_putBack 52 = .ok (.iadd, 1) := by decide +kernel
theorem d_S_putBack_53 : decode b_S_putBack 53 = .ok (.iastore, 1) := by decide +kernel
theorem d_S_putBack_54 : decode b_S_putBack 54 = .ok (.aload_n 0, 1) := by decide +kernel
theorem d_S_putBack_55 : decode b_S_putBack 55 = .ok (.getfield 30, 3) := by decide +kernel
theorem d_S_putBack_58 : decode b_S_putBack 58 = .ok (.iload_n 1, 1) := by decide +kernel
theorem d_S_putBack_59 : decode b_S_putBack 59 = .ok (.iconst 0, 1) := by decide +kernel
theorem d_S_putBack_60 : decode b_S_putBack 60 = .ok (.iastore, 1) := by decide +kernel
theorem d_S_putBack_61 : decode b_S_putBack 61 = .ok (.return_, 1) := by decide +kernel
theorem d_S_touchesBy_0 : decode b_S_touchesBy 0 = .ok (.aload_n 0, 1) := by decide +kernel
theorem d_S_touchesBy_1 : decode b_S_touchesBy 1 = .ok (.getfield 30, 3) := by decide +kernel
theorem d_S_touchesBy_4 : decode b_S_touchesBy 4 = .ok (.iload_n 1, 1) := by decide +kernel
theorem d_S_touchesBy_5 : decode b_S_touchesBy 5 = .ok (.iaload, 1) := by decide +kernel
theorem d_S_touchesBy_6 : decode b_S_touchesBy 6 = .ok (.istore_n 2, 1) := by decide +kernel
theorem d_S_touchesBy_7 : decode b_S_touchesBy 7 = .ok (.iload_n 2, 1) := by decide +kernel
theorem d_S_touchesBy_8 : decode b_S_touchesBy 8 = .ok (.ifCond .ne 5, 3) := by decide +kernel
theorem d_S_touchesBy_11 : decode b_S_touchesBy 11 = .ok (.iconst 0, 1) := by decide +kernel
theorem d_S_touchesBy_12 : decode b_S_touchesBy 12 = .ok (.ireturn, 1) := by decide +kernel
theorem d_S_touchesBy_13 : decode b_S_touchesBy 13 = .ok (.iconst 2, 1) := by decide +kernel
theorem d_S_touchesBy_14 : decode b_S_touchesBy 14 = .ok (.iload_n 2, 1) := by decide +kernel
theorem d_S_touchesBy_15 : decode b_S_touchesBy 15 = .ok (.imul, 1) := by decide +kernel
theorem d_S_touchesBy_16 : decode b_S_touchesBy 16 = .ok (.istore_n 3, 1) := by decide +kernel
theorem d_S_touchesBy_17 : decode b_S_touchesBy 17 = .ok (.aload_n 0, 1) := by decide +kernel
theorem d_S_touchesBy_18 : decode b_S_touchesBy 18 = .ok (.getfield 27, 3) := by decide +kernel
theorem d_S_touchesBy_21 : decode b_S_touchesBy 21 = .ok (.aload_n 0, 1) := by decide +kernel
theorem d_S_touchesBy_22 : decode b_S_touchesBy 22 = .ok (.getfield 15, 3) := by decide +kernel
theorem d_S_touchesBy_25 : decode b_S_touchesBy 25 = .ok (.iload_n 1, 1) := by decide +kernel
theorem d_S_touchesBy_26 : decode b_S_touchesBy 26 = .ok (.iaload, 1) := by decide +kernel
theorem d_S_touchesBy_27 : decode b_S_touchesBy 27 = .ok (.iaload, 1) := by decide +kernel
theorem d_S_touchesBy_28 : decode b_S_touchesBy 28 = .ok (.ifCond .ne 6, 3) := by decide +kernel
theorem d_S_touchesBy_31 : decode b_S_touchesBy 31 = .ok (.iinc 3 3, 3) := by decide +kernel
theorem d_S_touchesBy_34 : decode b_S_touchesBy 34 = .ok (.iload_n 2, 1) := by decide +kernel
theorem d_S_touchesBy_35 : decode b_S_touchesBy 35 = .ok (.aload_n 0, 1) := by decide +kernel
theorem d_S_touchesBy_36 : decode b_S_touchesBy 36 = .ok (.getfield 18, 3) := by decide +kernel
theorem d_S_touchesBy_39 : decode b_S_touchesBy 39 = .ok (.aload_n 0, 1) := by decide +kernel
theorem d_S_touchesBy_40 : decode b_S_touchesBy 40 = .ok (.getfield 9, 3) := by decide +kernel
theorem d_S_touchesBy_43 : decode b_S_touchesBy 43 = .ok (.iload_n 1, 1) := by decide +kernel
theorem d_S_touchesBy_44 : decode b_S_touchesBy 44 = .ok (.iaload, 1) := by decide +kernel
theorem d_S_touchesBy_45 : decode b_S_touchesBy 45 = .ok (.iaload, 1) := by decide +kernel
theorem d_S_touchesBy_46 : decode b_S_touchesBy 46 = .ok (.if_icmp .ne 6, 3) := by decide +kernel
theorem d_S_touchesBy_49 : decode b_S_touchesBy 49 = .ok (.iinc 3 1, 3) := by decide +kernel
theorem d_S_touchesBy_52 : decode b_S_touchesBy 52 = .ok (.iload_n 3, 1) := by decide +kernel
theorem d_S_touchesBy_53 : decode b_S_touchesBy 53 = .ok (.ireturn, 1) := by decide +kernel
theorem d_S_take_0 : decode b_S_take 0 = .ok (.aload_n 0, 1) := by decide +kernel
theorem d_S_take_1 : decode b_S_take 1 = .ok (.getfield 24, 3) := by decide +kernel
theorem d_S_take_4 : decode b_S_take 4 = .ok (.aload_n 0, 1) := by decide +kernel
theorem d_S_take_5 : decode b_S_take 5 = .ok (.getfield 9, 3) := by decide +kernel
theorem d_S_take_8 : decode b_S_take 8 = .ok (.iload_n 1, 1) := by decide +kernel
theorem d_S_take_9 : decode b_S_take 9 = .ok (.iaload, 1) := by decide +kernel
theorem d_S_take_10 : decode b_S_take 10 = .ok (.dup2, 1) := by decide +kernel
theorem d_S_take_11 : decode b_S_take 11 = .ok (.iaload, 1) := by decide +kernel
theorem d_S_take_12 : decode b_S_take 12 = .ok (.iload_n 2, 1) := by decide +kernel
theorem d_S_take_13 : decode b_S_take 13 = .ok (.isub, 1) := by decide +kernel
theorem d_S_take_14 : decode b_S_take 14 = .ok (.iastore, 1) := by decide +kernel
theorem d_S_take_15 : decode b_S_take 15 = .ok (.aload_n 0, 1) := by decide +kernel
theorem d_S_take_16 : decode b_S_take 16 = .ok (.getfield 27, 3) := by decide +kernel
theorem d_S_take_19 : decode b_S_take 19 = .ok (.aload_n 0, 1) := by decide +kernel
theorem d_S_take_20 : decode b_S_take 20 = .ok (.getfield 15, 3) := by decide +kernel
theorem d_S_take_23 : decode b_S_take 23 = .ok (.iload_n 1, 1) := by decide +kernel
theorem d_S_take_24 : decode b_S_take 24 = .ok (.iaload, 1) := by decide +kernel
theorem d_S_take_25 : decode b_S_take 25 = .ok (.dup2, 1) := by decide +kernel
theorem d_S_take_26 : decode b_S_take 26 = .ok (.iaload, 1) := by decide +kernel
theorem d_S_take_27 : decode b_S_take 27 = .ok (.iload_n 2, 1) := by decide +kernel
theorem d_S_take_28 : decode b_S_take 28 = .ok (.isub, 1) := by decide +kernel
theorem d_S_take_29 : decode b_S_take 29 = .ok (.iastore, 1) := by decide +kernel
theorem d_S_take_30 : decode b_S_take 30 = .ok (.aload_n 0, 1) := by decide +kernel
theorem d_S_take_31 : decode b_S_take 31 = .ok (.getfield 30, 3) := by decide +kernel
theorem d_S_take_34 : decode b_S_take 34 = .ok (.iload_n 1, 1) := by decide +kernel
theorem d_S_take_35 : decode b_S_take 35 = .ok (.iload_n 2, 1) := by decide +kernel
theorem d_S_take_36 : decode b_S_take 36 = .ok (.iastore, 1) := by decide +kernel
theorem d_S_take_37 : decode b_S_take 37 = .ok (.aload_n 0, 1) := by decide +kernel
theorem d_S_take_38 : decode b_S_take 38 = .ok (.dup, 1) := by decide +kernel
theorem d_S_take_39 : decode b_S_take 39 = .ok (.getfield 72, 3) := by decide +kernel
theorem d_S_take_42 : decode b_S_take 42 = .ok (.aload_n 0, 1) := by decide +kernel
theorem d_S_take_43 : decode b_S_take 43 = .ok (.iload_n 1, 1) := by decide +kernel
theorem d_S_take_44 : decode b_S_take 44 = .ok (.invokevirtual 85, 3) := by decide +kernel
theorem d_S_take_47 : decode b_S_take 47 = .ok (.iadd, 1) := by decide +kernel
theorem d_S_take_48 : decode b_S_take 48 = .ok (.putfield 72, 3) := by decide +kernel
theorem d_S_take_51 : decode b_S_take 51 = .ok (.return_, 1) := by decide +kernel
theorem d_S_chooseIfBetter_0 : decode b_S_chooseIfBetter 0 = .ok (.aload_n 0, 1) := by decide +kernel
theorem d_S_chooseIfBetter_1 : decode b_S_chooseIfBetter 1 = .ok (.getfield 72, 3) := by decide +kernel
theorem d_S_chooseIfBetter_4 : decode b_S_chooseIfBetter 4 = .ok (.aload_n 0, 1) := by decide +kernel
theorem d_S_chooseIfBetter_5 : decode b_S_chooseIfBetter 5 = .ok (.getfield 46, 3) := by decide +kernel
theorem d_S_chooseIfBetter_8 : decode b_S_chooseIfBetter 8 = .ok (.if_icmp .le 28, 3) := by decide +kernel
theorem d_S_chooseIfBetter_11 : decode b_S_chooseIfBetter 11 = .ok (.aload_n 0, 1) := by decide +kernel
theorem d_S_chooseIfBetter_12 : decode b_S_chooseIfBetter 12 = .ok (.aload_n 0, 1) := by decide +kernel
theorem d_S_chooseIfBetter_13 : decode b_S_chooseIfBetter 13 = .ok (.getfield 72, 3) := by decide +kernel
theorem d_S_chooseIfBetter_16 : decode b_S_chooseIfBetter 16 = .ok (.putfield 46, 3) := by decide +kernel
theorem d_S_chooseIfBetter_19 : decode b_S_chooseIfBetter 19 = .ok (.aload_n 0, 1) := by decide +kernel
theorem d_S_chooseIfBetter_20 : decode b_S_chooseIfBetter 20 = .ok (.getfield 30, 3) := by decide +kernel
theorem d_S_chooseIfBetter_23 : decode b_S_chooseIfBetter 23 = .ok (.iconst 0, 1) := by decide +kernel
theorem d_S_chooseIfBetter_24 : decode b_S_chooseIfBetter 24 = .ok (.aload_n 0, 1) := by decide +kernel
theorem d_S_chooseIfBetter_25 : decode b_S_chooseIfBetter 25 = .ok (.getfield 36, 3) := by decide +kernel
theorem d_S_chooseIfBetter_28 : decode b_S_chooseIfBetter 28 = .ok (.iconst 0, 1) := by decide +kernel
theorem d_S_chooseIfBetter_29 : decode b_S_chooseIfBetter 29 = .ok (.aload_n 0, 1) := by decide +kernel
theorem d_S_chooseIfBetter_30 : decode b_S_chooseIfBetter 30 = .ok (.getfield 39, 3) := by decide +kernel
theorem d_S_chooseIfBetter_33 : decode b_S_chooseIfBetter 33 = .ok (.invokestatic 66, 3) := by decide +kernel
theorem d_S_chooseIfBetter_36 : decode b_S_chooseIfBetter 36 = .ok (.return_, 1) := by decide +kernel
theorem d_S_chooseByRule_0 : decode b_S_chooseByRule 0 = .ok (.aload_n 0, 1) := by decide +kernel
theorem d_S_chooseByRule_1 : decode b_S_chooseByRule 1 = .ok (.invokevirtual 43, 3) := by decide +kernel
theorem d_S_chooseByRule_4 : decode b_S_chooseByRule 4 = .ok (.iconst 0, 1) := by decide +kernel
theorem d_S_chooseByRule_5 : decode b_S_chooseByRule 5 = .ok (.istore_n 1, 1) := by decide +kernel
theorem d_S_chooseByRule_6 : decode b_S_chooseByRule 6 = .ok (.iload_n 1, 1) := by decide +kernel
theorem d_S_chooseByRule_7 : decode b_S_chooseByRule 7 = .ok (.aload_n 0, 1) := by decide +kernel
theorem d_S_chooseByRule_8 : decode b_S_chooseByRule 8 = .ok (.getfield 39, 3) := by decide +kernel
theorem d_S_chooseByRule_11 : decode b_S_chooseByRule 11 = .ok (.if_icmp .ge 31, 3) := by decide +kernel
theorem d_S_chooseByRule_14 : decode b_S_chooseByRule 14 = .ok (.aload_n 0, 1) := by decide +kernel
theorem d_S_chooseByRule_15 : decode b_S_chooseByRule 15 = .ok (.iload_n 1, 1) := by decide +kernel
theorem d_S_chooseByRule_16 : decode b_S_chooseByRule 16 = .ok (.aload_n 0, 1) := by decide +kernel
theorem d_S_chooseByRule_17 : decode b_S_chooseByRule 17 = .ok (.iload_n 1, 1) := by decide +kernel
theorem d_S_chooseByRule_18 : decode b_S_chooseByRule 18 = .ok (.invokevirtual 49, 3) := by decide +kernel
theorem d_S_chooseByRule_21 : decode b_S_chooseByRule 21 = .ok (.invokevirtual 59, 3) := by decide +kernel
theorem d_S_chooseByRule_24 : decode b_S_chooseByRule 24 = .ok (.aload_n 0, 1) := by decide +kernel
theorem d_S_chooseByRule_25 : decode b_S_chooseByRule 25 = .ok (.getfield 36, 3) := by decide +kernel
theorem d_S_chooseByRule_28 : decode b_S_chooseByRule 28 = .ok (.iload_n 1, 1) := by decide +kernel
theorem d_S_chooseByRule_29 : decode b_S_chooseByRule 29 = .ok (.aload_n 0, 1) := by decide +kernel
theorem d_S_chooseByRule_30 : decode b_S_chooseByRule 30 = .ok (.getfield 30, 3) := by decide +kernel
theorem d_S_chooseByRule_33 : decode b_S_chooseByRule 33 = .ok (.iload_n 1, 1) := by decide +kernel
theorem d_S_chooseByRule_34 : decode b_S_chooseByRule 34 = .ok (.iaload, 1) := by decide +kernel
theorem d_S_chooseByRule_35 : decode b_S_chooseByRule 35 = .ok (.iastore, 1) := by decide +kernel
theorem d_S_chooseByRule_36 : decode b_S_chooseByRule 36 = .ok (.iinc 1 1, 3) := by decide +kernel
theorem d_S_chooseByRule_39 : decode b_S_chooseByRule 39 = .ok (.goto (-33), 3) := by decide +kernel
theorem d_S_chooseByRule_42 : decode b_S_chooseByRule 42 = .ok (.return_, 1) := by decide +kernel
theorem d_P_replaceBy_0 : decode b_P_replaceBy 0 = .ok (.aload_n 0, 1) := by decide +kernel
theorem d_P_replaceBy_1 : decode b_P_replaceBy 1 = .ok (.iconst 0, 1) := by decide +kernel
theorem d_P_replaceBy_2 : decode b_P_replaceBy 2 = .ok (.putfield 21, 3) := by decide +kernel
theorem d_P_replaceBy_5 : decode b_P_replaceBy 5 = .ok (.iconst 0, 1) := by decide +kernel
theorem d_P_replaceBy_6 : decode b_P_replaceBy 6 = .ok (.istore_n 2, 1) := by decide +kernel
theorem d_P_replaceBy_7 : decode b_P_replaceBy 7 = .ok (.iload_n 2, 1) := by decide +kernel
theorem d_P_replaceBy_8 : decode b_P_replaceBy 8 = .ok (.aload_n 1, 1) := by decide +kernel
theorem d_P_replaceBy_9 : decode b_P_replaceBy 9 = .ok (.getfield 25, 3) := by decide +kernel
theorem d_P_replaceBy_12 : decode b_P_replaceBy 12 = .ok (.if_icmp .ge 73, 3) := by decide +kernel
theorem d_P_replaceBy_15 : decode b_P_replaceBy 15 = .ok (.aload_n 1, 1) := by decide +kernel
theorem d_P_replaceBy_16 : decode b_P_replaceBy 16 = .ok (.getfield 28, 3) := by decide +kernel
theorem d_P_replaceBy_19 : decode b_P_replaceBy 19 = .ok (.iload_n 2, 1) := by decide +kernel
theorem d_P_replaceBy_20 : decode b_P_replaceBy 20 = .ok (.iaload, 1) := by decide +kernel
theorem d_P_replaceBy_21 : decode b_P_replaceBy 21 = .ok (.ifCond .le 58, 3) := by decide +kernel
theorem d_P_replaceBy_24 : decode b_P_replaceBy 24 = .ok (.aload_n 0, 1) := by decide +kernel
theorem d_P_replaceBy_25 : decode b_P_replaceBy 25 = .ok (.getfield 9, 3) := by decide +kernel
theorem d_P_replaceBy_28 : decode b_P_replaceBy 28 = .ok (.aload_n 0, 1) := by decide +kernel
theorem d_P_replaceBy_29 : decode b_P_replaceBy 29 = .ok (.getfield 21, 3) := by decide +kernel
theorem d_P_replaceBy_32 : decode b_P_replaceBy 32 = .ok (.aload_n 1, 1) := by decide +kernel
theorem d_P_replaceBy_33 : decode b_P_replaceBy 33 = .ok (.getfield 31, 3) := by decide +kernel
theorem d_P_replaceBy_36 : decode b_P_replaceBy 36 = .ok (.iload_n 2, 1) := by decide +kernel
theorem d_P_replaceBy_37 : decode b_P_replaceBy 37 = .ok (.iaload, 1) := by decide +kernel
theorem d_P_replaceBy_38 : decode b_P_replaceBy 38 = .ok (.iastore, 1) := by decide +kernel
theorem d_P_replaceBy_39 : decode b_P_replaceBy 39 = .ok (.aload_n 0, 1) := by decide +kernel
theorem d_P_replaceBy_40 : decode b_P_replaceBy 40 = .ok (.getfield 15, 3) := by decide +kernel
theorem d_P_replaceBy_43 : decode b_P_replaceBy 43 = .ok (.aload_n 0, 1) := by decide +kernel
theorem d_P_replaceBy_44 : decode b_P_replaceBy 44 = .ok (.getfield 21, 3) := by decide +kernel
theorem d_P_replaceBy_47 : decode b_P_replaceBy 47 = .ok (.aload_n 1, 1) := by decide +kernel
theorem d_P_replaceBy_48 : decode b_P_replaceBy 48 = .ok (.getfield 32, 3) := by decide +kernel
theorem d_P_replaceBy_51 : decode b_P_replaceBy 51 = .ok (.iload_n 2, 1) := by decide +kernel
theorem d_P_replaceBy_52 : decode b_P_replaceBy 52 = .ok (.iaload, 1) := by decide +kernel
theorem d_P_replaceBy_53 : decode b_P_replaceBy 53 = .ok (.iastore, 1) := by decide +kernel
theorem d_P_replaceBy_54 : decode b_P_replaceBy 54 = .ok (.aload_n 0, 1) := by decide +kernel
theorem d_P_replaceBy_55 : decode b_P_replaceBy 55 = .ok (.getfield 18, 3) := by decide +kernel
theorem d_P_replaceBy_58 : decode b_P_replaceBy 58 = .ok (.aload_n 0, 1) := by decide +kernel
theorem d_P_replaceBy_59 : decode b_P_replaceBy 59 = .ok (.getfield 21, 3) := by decide +kernel
theorem d_P_replaceBy_62 : decode b_P_replaceBy 62 = .ok (.aload_n 1, 1) := by decide +kernel
theorem d_P_replaceBy_63 : decode b_P_replaceBy 63 = .ok (.getfield 28, 3) := by decide +kernel
theorem d_P_replaceBy_66 : decode b_P_replaceBy 66 = .ok (.iload_n 2, 1) := by decide +kernel
theorem d_P_replaceBy_67 : decode b_P_replaceBy 67 = .ok (.iaload, 1) := by decide +kernel
theorem d_P_replaceBy_68 : decode b_P_replaceBy 68 = .ok (.iastore, 1) := by decide +kernel
theorem d_P_replaceBy_69 : decode b_P_replaceBy 69 = .ok (.aload_n 0, 1) := by decide +kernel
theorem d_P_replaceBy_70 : decode b_P_replaceBy 70 = .ok (.dup, 1) := by decide +kernel
theorem d_P_replaceBy_71 : decode b_P_replaceBy 71 = .ok (.getfield 21, 3) := by decide +kernel
theorem d_P_replaceBy_74 : decode b_P_replaceBy 74 = .ok (.iconst 1, 1) := by decide +kernel
theorem d_P_replaceBy_75 : decode b_P_replaceBy 75 = .ok (.iadd, 1) := by decide +kernel
theorem d_P_replaceBy_76 : decode b_P_replaceBy 76 = .ok (.putfield 21, 3) := by decide +kernel
theorem d_P_replaceBy_79 : decode b_P_replaceBy 79 = .ok (.iinc 2 1, 3) := by decide +kernel
theorem d_P_replaceBy_82 : decode b_P_replaceBy 82 = .ok (.goto (-75), 3) := by decide +kernel
theorem d_P_replaceBy_85 : decode b_P_replaceBy 85 = .ok (.return_, 1) := by decide +kernel
theorem d_L_pair_0 : decode b_L_pair 0 = .ok (.aload_n 3, 1) := by decide +kernel
theorem d_L_pair_1 : decode b_L_pair 1 = .ok (.iconst 0, 1) := by decide +kernel
theorem d_L_pair_2 : decode b_L_pair 2 = .ok (.aload_n 0, 1) := by decide +kernel
theorem d_L_pair_3 : decode b_L_pair 3 = .ok (.iload_n 1, 1) := by decide +kernel
theorem d_L_pair_4 : decode b_L_pair 4 = .ok (.iload_n 2, 1) := by decide +kernel
theorem d_L_pair_5 : decode b_L_pair 5 = .ok (.invokevirtual 44, 3) := by decide +kernel
theorem d_L_pair_8 : decode b_L_pair 8 = .ok (.i2l, 1) := by decide +kernel
theorem d_L_pair_9 : decode b_L_pair 9 = .ok (.lastore, 1) := by decide +kernel
theorem d_L_pair_10 : decode b_L_pair 10 = .ok (.goto 11, 3) := by decide +kernel
theorem d_L_pair_13 : decode b_L_pair 13 = .ok (.astore 4, 2) := by decide +kernel
theorem d_L_pair_15 : decode b_L_pair 15 = .ok (.iconst 1, 1) := by decide +kernel
theorem d_L_pair_16 : decode b_L_pair 16 = .ok (.ireturn, 1) := by decide +kernel
theorem d_L_pair_17 : decode b_L_pair 17 = .ok (.astore 4, 2) := by decide +kernel
theorem d_L_pair_19 : decode b_L_pair 19 = .ok (.iconst 2, 1) := by decide +kernel
theorem d_L_pair_20 : decode b_L_pair 20 = .ok (.ireturn, 1) := by decide +kernel
theorem d_L_pair_21 : decode b_L_pair 21 = .ok (.iconst 0, 1) := by decide +kernel
theorem d_L_pair_22 : decode b_L_pair 22 = .ok (.ireturn, 1) := by decide +kernel
theorem d_D_pair_0 : decode b_D_pair 0 = .ok (.iload_n 1, 1) := by decide +kernel
theorem d_D_pair_1 : decode b_D_pair 1 = .ok (.aload_n 0, 1) := by decide +kernel
theorem d_D_pair_2 : decode b_D_pair 2 = .ok (.getfield 44, 3) := by decide +kernel
theorem d_D_pair_5 : decode b_D_pair 5 = .ok (.getfield 148, 3) := by decide +kernel
theorem d_D_pair_8 : decode b_D_pair 8 = .ok (.invokestatic 96, 3) := by decide +kernel
theorem d_D_pair_11 : decode b_D_pair 11 = .ok (.iload_n 2, 1) := by decide +kernel
theorem d_D_pair_12 : decode b_D_pair 12 = .ok (.iconst 0, 1) := by decide +kernel
theorem d_D_pair_13 : decode b_D_pair 13 = .ok (.iconst 2, 1) := by decide +kernel
theorem d_D_pair_14 : decode b_D_pair 14 = .ok (.invokestatic 62, 3) := by decide +kernel
theorem d_D_pair_17 : decode b_D_pair 17 = .ok (.iload_n 2, 1) := by decide +kernel
theorem d_D_pair_18 : decode b_D_pair 18 = .ok (.ifCond .ne 13, 3) := by decide +kernel
theorem d_D_pair_21 : decode b_D_pair 21 = .ok (.aload_n 0, 1) := by decide +kernel
theorem d_D_pair_22 : decode b_D_pair 22 = .ok (.getfield 44, 3) := by decide +kernel
theorem d_D_pair_25 : decode b_D_pair 25 = .ok (.getfield 151, 3) := by decide +kernel
theorem d_D_pair_28 : decode b_D_pair 28 = .ok (.iload_n 1, 1) := by decide +kernel
theorem d_D_pair_29 : decode b_D_pair 29 = .ok (.iaload, 1) := by decide +kernel
theorem d_D_pair_30 : decode b_D_pair 30 = .ok (.ireturn, 1) := by decide +kernel
theorem d_D_pair_31 : decode b_D_pair 31 = .ok (.iload_n 2, 1) := by decide +kernel
theorem d_D_pair_32 : decode b_D_pair 32 = .ok (.iconst 1, 1) := by decide +kernel
theorem d_D_pair_33 : decode b_D_pair 33 = .ok (.if_icmp .ne 15, 3) := by decide +kernel
theorem d_D_pair_36 : decode b_D_pair 36 = .ok (.aload_n 0, 1) := by decide +kernel
theorem d_D_pair_37 : decode b_D_pair 37 = .ok (.getfield 44, 3) := by decide +kernel
theorem d_D_pair_40 : decode b_D_pair 40 = .ok (.getfield 154, 3) := by decide +kernel
theorem d_D_pair_43 : decode b_D_pair 43 = .ok (.iload_n 1, 1) := by decide +kernel
theorem d_D_pair_44 : decode b_D_pair 44 = .ok (.iaload, 1) := by decide +kernel
theorem d_D_pair_45 : decode b_D_pair 45 = .ok (.goto 12, 3) := by decide +kernel
theorem d_D_pair_48 : decode b_D_pair 48 = .ok (.aload_n 0, 1) := by decide +kernel
theorem d_D_pair_49 : decode b_D_pair 49 = .ok (.getfield 44, 3) := by decide +kernel
theorem d_D_pair_52 : decode b_D_pair 52 = .ok (.getfield 157, 3) := by decide +kernel
theorem d_D_pair_55 : decode b_D_pair 55 = .ok (.iload_n 1, 1) := by decide +kernel
theorem d_D_pair_56 : decode b_D_pair 56 = .ok (.iaload, 1) := by decide +kernel
theorem d_D_pair_57 : decode b_D_pair 57 = .ok (.ireturn, 1) := by decide +kernel
theorem d_L_undo_0 : decode b_L_undo 0 = .ok (.aload_n 2, 1) := by decide +kernel
theorem d_L_undo_1 : decode b_L_undo 1 = .ok (.iconst 0, 1) := by decide +kernel
theorem d_L_undo_2 : decode b_L_undo 2 = .ok (.aload_n 0, 1) := by decide +kernel
theorem d_L_undo_3 : decode b_L_undo 3 = .ok (.iload_n 1, 1) := by decide +kernel
theorem d_L_undo_4 : decode b_L_undo 4 = .ok (.invokevirtual 48, 3) := by decide +kernel
theorem d_L_undo_7 : decode b_L_undo 7 = .ok (.i2l, 1) := by decide +kernel
theorem d_L_undo_8 : decode b_L_undo 8 = .ok (.lastore, 1) := by decide +kernel
theorem d_L_undo_9 : decode b_L_undo 9 = .ok (.goto 6, 3) := by decide +kernel
theorem d_L_undo_12 : decode b_L_undo 12 = .ok (.astore_n 3, 1) := by decide +kernel
theorem d_L_undo_13 : decode b_L_undo 13 = .ok (.iconst 1, 1) := by decide +kernel
theorem d_L_undo_14 : decode b_L_undo 14 = .ok (.ireturn, 1) := by decide +kernel
theorem d_L_undo_15 : decode b_L_undo 15 = .ok (.iconst 0, 1) := by decide +kernel
theorem d_L_undo_16 : decode b_L_undo 16 = .ok (.ireturn, 1) := by decide +kernel
theorem d_D_undo_0 : decode b_D_undo 0 = .ok (.iload_n 1, 1) := by decide +kernel
theorem d_D_undo_1 : decode b_D_undo 1 = .ok (.aload_n 0, 1) := by decide +kernel
theorem d_D_undo_2 : decode b_D_undo 2 = .ok (.getfield 44, 3) := by decide +kernel
theorem d_D_undo_5 : decode b_D_undo 5 = .ok (.getfield 148, 3) := by decide +kernel
theorem d_D_undo_8 : decode b_D_undo 8 = .ok (.invokestatic 96, 3) := by decide +kernel
theorem d_D_undo_11 : decode b_D_undo 11 = .ok (.aload_n 0, 1) := by decide +kernel
theorem d_D_undo_12 : decode b_D_undo 12 = .ok (.getfield 44, 3) := by decide +kernel
theorem d_D_undo_15 : decode b_D_undo 15 = .ok (.getfield 157, 3) := by decide +kernel
theorem d_D_undo_18 : decode b_D_undo 18 = .ok (.iload_n 1, 1) := by decide +kernel
theorem d_D_undo_19 : decode b_D_undo 19 = .ok (.iaload, 1) := by decide +kernel
theorem d_D_undo_20 : decode b_D_undo 20 = .ok (.istore_n 2, 1) := by decide +kernel
theorem d_D_undo_21 : decode b_D_undo 21 = .ok (.aload_n 0, 1) := by decide +kernel
theorem d_D_undo_22 : decode b_D_undo 22 = .ok (.getfield 44, 3) := by decide +kernel
theorem d_D_undo_25 : decode b_D_undo 25 = .ok (.iload_n 1, 1) := by decide +kernel
theorem d_D_undo_26 : decode b_D_undo 26 = .ok (.invokevirtual 160, 3) := by decide +kernel
theorem d_D_undo_29 : decode b_D_undo 29 = .ok (.iload_n 2, 1) := by decide +kernel
theorem d_D_undo_30 : decode b_D_undo 30 = .ok (.ireturn, 1) := by decide +kernel
theorem d_P_removeAt_0 : decode b_P_removeAt 0 = .ok (.iload_n 1, 1) := by decide +kernel
theorem d_P_removeAt_1 : decode b_P_removeAt 1 = .ok (.iconst 1, 1) := by decide +kernel
theorem d_P_removeAt_2 : decode b_P_removeAt 2 = .ok (.iadd, 1) := by decide +kernel
theorem d_P_removeAt_3 : decode b_P_removeAt 3 = .ok (.istore_n 2, 1) := by decide +kernel
theorem d_P_removeAt_4 : decode b_P_removeAt 4 = .ok (.iload_n 2, 1) := by decide +kernel
theorem d_P_removeAt_5 : decode b_P_removeAt 5 = .ok (.aload_n 0, 1) := by decide +kernel
theorem d_P_removeAt_6 : decode b_P_removeAt 6 = .ok (.getfield 21, 3) := by decide +kernel
theorem d_P_removeAt_9 : decode b_P_removeAt 9 = .ok (.if_icmp .ge 51, 3) := by decide +kernel
theorem d_P_removeAt_12 : decode b_P_removeAt 12 = .ok (.aload_n 0, 1) := by decide +kernel
theorem d_P_removeAt_13 : decode b_P_removeAt 13 = .ok (.getfield 9, 3) := by decide +kernel
theorem d_P_removeAt_16 : decode b_P_removeAt 16 = .ok (.iload_n 2, 1) := by decide +kernel
theorem d_P_removeAt_17 : decode b_P_removeAt 17 = .ok (.iconst 1, 1) := by decide +kernel
theorem d_P_removeAt_18 : decode b_P_removeAt 18 = .ok (.isub, 1) := by decide +kernel
theorem d_P_removeAt_19 : decode b_P_removeAt 19 = .ok (.aload_n 0, 1) := by decide +kernel
theorem d_P_removeAt_20 : decode b_P_removeAt 20 = .ok (.getfield 9, 3) := by decide +kernel
theorem d_P_removeAt_23 : decode b_P_removeAt 23 = .ok (.iload_n 2, 1) := by decide +kernel
theorem d_P_removeAt_24 : decode b_P_removeAt 24 = .ok (.iaload, 1) := by decide +kernel
theorem d_P_removeAt_25 : decode b_P_removeAt 25 = .ok (.iastore, 1) := by decide +kernel
theorem d_P_removeAt_26 : decode b_P_removeAt 26 = .ok (.aload_n 0, 1) := by decide +kernel
theorem d_P_removeAt_27 : decode b_P_removeAt 27 = .ok (.getfield 15, 3) := by decide +kernel
theorem d_P_removeAt_30 : decode b_P_removeAt 30 = .ok (.iload_n 2, 1) := by decide +kernel
theorem d_P_removeAt_31 : decode b_P_removeAt 31 = .ok (.iconst 1, 1) := by decide +kernel
theorem d_P_removeAt_32 : decode b_P_removeAt 32 = .ok (.isub, 1) := by decide +kernel
theorem d_P_removeAt_33 : decode b_P_removeAt 33 = .ok (.aload_n 0, 1) := by decide +kernel
theorem d_P_removeAt_34 : decode b_P_removeAt 34 = .ok (.getfield 15, 3) := by decide +kernel
theorem d_P_removeAt_37 : decode b_P_removeAt 37 = .ok (.iload_n 2, 1) := by decide +kernel
theorem d_P_removeAt_38 : decode b_P_removeAt 38 = .ok (.iaload, 1) := by decide +kernel
theorem d_P_removeAt_39 : decode b_P_removeAt 39 = .ok (.iastore, 1) := by decide +kernel
theorem d_P_removeAt_40 : decode b_P_removeAt 40 = .ok (.aload_n 0, 1) := by decide +kernel
theorem d_P_removeAt_41 : decode b_P_removeAt 41 = .ok (.getfield 18, 3) := by decide +kernel
theorem d_P_removeAt_44 : decode b_P_removeAt 44 = .ok (.iload_n 2, 1) := by decide +kernel
theorem d_P_removeAt_45 : decode b_P_removeAt 45 = .ok (.iconst 1, 1) := by decide +kernel
theorem d_P_removeAt_46 : decode b_P_removeAt 46 = .ok (.isub, 1) := by decide +kernel
theorem d_P_removeAt_47 : decode b_P_removeAt 47 = .ok (.aload_n 0, 1) := by decide +kernel
theorem d_P_removeAt_48 : decode b_P_removeAt 48 = .ok (.getfield 18, 3) := by decide +kernel
theorem d_P_removeAt_51 : decode b_P_removeAt 51 = .ok (.iload_n 2, 1) := by decide +kernel
theorem d_P_removeAt_52 : decode b_P_removeAt 52 = .ok (.iaload, 1) := by decide +kernel
theorem d_P_removeAt_53 : decode b_P_removeAt 53 = .ok (.iastore, 1) := by decide +kernel
theorem d_P_removeAt_54 : decode b_P_removeAt 54 = .ok (.iinc 2 1, 3) := by decide +kernel
theorem d_P_removeAt_57 : decode b_P_removeAt 57 = .ok (.goto (-53), 3) := by decide +kernel
theorem d_P_removeAt_60 : decode b_P_removeAt 60 = .ok (.aload_n 0, 1) := by decide +kernel
theorem d_P_removeAt_61 : decode b_P_removeAt 61 = .ok (.dup, 1) := by decide +kernel
theorem d_P_removeAt_62 : decode b_P_removeAt 62 = .ok (.getfield 21, 3) := by decide +kernel
theorem d_P_removeAt_65 : decode b_P_removeAt 65 = .ok (.iconst 1, 1) := by decide +kernel
theorem d_P_removeAt_66 : decode b_P_removeAt 66 = .ok (.isub, 1) := by decide +kernel
theorem d_P_removeAt_67 : decode b_P_removeAt 67 = .ok (.putfield 21, 3) := by decide +kernel
theorem d_P_removeAt_70 : decode b_P_removeAt 70 = .ok (.return_, 1) := by decide +kernel
theorem d_L_split_0 : decode b_L_split 0 = .ok (.aload_n 3, 1) := by decide +kernel
theorem d_L_split_1 : decode b_L_split 1 = .ok (.iconst 0, 1) := by decide +kernel
theorem d_L_split_2 : decode b_L_split 2 = .ok (.aload_n 0, 1) := by decide +kernel
theorem d_L_split_3 : decode b_L_split 3 = .ok (.iload_n 1, 1) := by decide +kernel
theorem d_L_split_4 : decode b_L_split 4 = .ok (.iload_n 2, 1) := by decide +kernel
theorem d_L_split_5 : decode b_L_split 5 = .ok (.invokevirtual 51, 3) := by decide +kernel
theorem d_L_split_8 : decode b_L_split 8 = .ok (.i2l, 1) := by decide +kernel
theorem d_L_split_9 : decode b_L_split 9 = .ok (.lastore, 1) := by decide +kernel
theorem d_L_split_10 : decode b_L_split 10 = .ok (.goto 19, 3) := by decide +kernel
theorem d_L_split_13 : decode b_L_split 13 = .ok (.astore 4, 2) := by decide +kernel
theorem d_L_split_15 : decode b_L_split 15 = .ok (.iconst 1, 1) := by decide +kernel
theorem d_L_split_16 : decode b_L_split 16 = .ok (.ireturn, 1) := by decide +kernel
theorem d_L_split_17 : decode b_L_split 17 = .ok (.astore 4, 2) := by decide +kernel
theorem d_L_split_19 : decode b_L_split 19 = .ok (.iconst 2, 1) := by decide +kernel
theorem d_L_split_20 : decode b_L_split 20 = .ok (.ireturn, 1) := by decide +kernel
theorem d_L_split_21 : decode b_L_split 21 = .ok (.astore 4, 2) := by decide +kernel
theorem d_L_split_23 : decode b_L_split 23 = .ok (.iconst 3, 1) := by decide +kernel
theorem d_L_split_24 : decode b_L_split 24 = .ok (.ireturn, 1) := by decide +kernel
theorem d_L_split_25 : decode b_L_split 25 = .ok (.astore 4, 2) := by decide +kernel
theorem d_L_split_27 : decode b_L_split 27 = .ok (.iconst 4, 1) := by decide +kernel
theorem d_L_split_28 : decode b_L_split 28 = .ok (.ireturn, 1) := by decide +kernel
theorem d_L_split_29 : decode b_L_split 29 = .ok (.iconst 0, 1) := by decide +kernel
theorem d_L_split_30 : decode b_L_split 30 = .ok (.ireturn, 1) := by decide +kernel
theorem d_D_split_0 : decode b_D_split 0 = .ok (.iload_n 1, 1) := by decide +kernel
theorem d_D_split_1 : decode b_D_split 1 = .ok (.aload_n 0, 1) := by decide +kernel
theorem d_D_split_2 : decode b_D_split 2 = .ok (.getfield 48, 3) := by decide +kernel
theorem d_D_split_5 : decode b_D_split 5 = .ok (.invokestatic 96, 3) := by decide +kernel
theorem d_D_split_8 : decode b_D_split 8 = .ok (.aload_n 0, 1) := by decide +kernel
theorem d_D_split_9 : decode b_D_split 9 = .ok (.getfield 11, 3) := by decide +kernel
theorem d_D_split_12 : decode b_D_split 12 = .ok (.iload_n 1, 1) := by decide +kernel
theorem d_D_split_13 : decode b_D_split 13 = .ok (.aaload, 1) := by decide +kernel
theorem d_D_split_14 : decode b_D_split 14 = .ok (.astore_n 3, 1) := by decide +kernel
theorem d_D_split_15 : decode b_D_split 15 = .ok (.iload_n 2, 1) := by decide +kernel
theorem d_D_split_16 : decode b_D_split 16 = .ok (.iconst 1, 1) := by decide +kernel
theorem d_D_split_17 : decode b_D_split 17 = .ok (.aload_n 3, 1) := by decide +kernel
theorem d_D_split_18 : decode b_D_split 18 = .ok (.getfield 79, 3) := by decide +kernel
theorem d_D_split_21 : decode b_D_split 21 = .ok (.iconst 1, 1) := by decide +kernel
theorem d_D_split_22 : decode b_D_split 22 = .ok (.isub, 1) := by decide +kernel
theorem d_D_split_23 : decode b_D_split 23 = .ok (.invokestatic 62, 3) := by decide +kernel
theorem d_D_split_26 : decode b_D_split 26 = .ok (.aload_n 0, 1) := by decide +kernel
theorem d_D_split_27 : decode b_D_split 27 = .ok (.getfield 44, 3) := by decide +kernel
theorem d_D_split_30 : decode b_D_split 30 = .ok (.iload_n 1, 1) := by decide +kernel
theorem d_D_split_31 : decode b_D_split 31 = .ok (.invokevirtual 99, 3) := by decide +kernel
theorem d_D_split_34 : decode b_D_split 34 = .ok (.ifCond .le 13, 3) := by decide +kernel
theorem d_D_split_37 : decode b_D_split 37 = .ok (.new 103, 3) := by decide +kernel
theorem d_D_split_40 : decode b_D_split 40 = .ok (.dup, 1) := by decide +kernel
theorem d_D_split_41 : decode b_D_split 41 = .ok (.ldc 164, 2) := by decide +kernel
theorem d_D_split_43 : decode b_D_split 43 = .ok (.invokespecial 107, 3) := by decide +kernel
theorem d_D_split_46 : decode b_D_split 46 = .ok (.athrow, 1) := by decide +kernel
theorem d_D_split_47 : decode b_D_split 47 = .ok (.aload_n 0, 1) := by decide +kernel
theorem d_D_split_48 : decode b_D_split 48 = .ok (.getfield 48, 3) := by decide +kernel
theorem d_D_split_51 : decode b_D_split 51 = .ok (.bipush 8, 2) := by decide +kernel
theorem d_D_split_53 : decode b_D_split 53 = .ok (.invokestatic 66, 3) := by decide +kernel
theorem d_D_split_56 : decode b_D_split 56 = .ok (.aload_n 3, 1) := by decide +kernel
theorem d_D_split_57 : decode b_D_split 57 = .ok (.aload_n 0, 1) := by decide +kernel
theorem d_D_split_58 : decode b_D_split 58 = .ok (.getfield 11, 3) := by decide +kernel
theorem d_D_split_61 : decode b_D_split 61 = .ok (.aload_n 0, 1) := by decide +kernel
theorem d_D_split_62 : decode b_D_split 62 = .ok (.getfield 48, 3) := by decide +kernel
theorem d_D_split_65 : decode b_D_split 65 = .ok (.aaload, 1) := by decide +kernel
theorem d_D_split_66 : decode b_D_split 66 = .ok (.iload_n 2, 1) := by decide +kernel
theorem d_D_split_67 : decode b_D_split 67 = .ok (.invokevirtual 166, 3) := by decide +kernel
theorem d_D_split_70 : decode b_D_split 70 = .ok (.aload_n 0, 1) := by decide +kernel
theorem d_D_split_71 : decode b_D_split 71 = .ok (.dup, 1) := by decide +kernel
theorem d_D_split_72 : decode b_D_split 72 = .ok (.getfield 48, 3) := by decide +kernel
theorem d_D_split_75 : decode b_D_split 75 = .ok (.iconst 1, 1) := by decide +kernel
theorem d_D_split_76 : decode b_D_split 76 = .ok (.iadd, 1) := by decide +kernel
theorem d_D_split_77 : decode b_D_split 77 = .ok (.putfield 48, 3) := by decide +kernel
theorem d_D_split_80 : decode b_D_split 80 = .ok (.aload_n 0, 1) := by decide +kernel
theorem d_D_split_81 : decode b_D_split 81 = .ok (.getfield 48, 3) := by decide +kernel
theorem d_D_split_84 : decode b_D_split 84 = .ok (.iconst 1, 1) := by decide +kernel
theorem d_D_split_85 : decode b_D_split 85 = .ok (.isub, 1) := by decide +kernel
theorem d_D_split_86 : decode b_D_split 86 = .ok (.ireturn, 1) := by decide +kernel
theorem d_A_moveTo_0 : decode b_A_moveTo 0 = .ok (.aload_n 0, 1) := by decide +kernel
theorem d_A_moveTo_1 : decode b_A_moveTo 1 = .ok (.getfield 13, 3) := by decide +kernel
theorem d_A_moveTo_4 : decode b_A_moveTo 4 = .ok (.aload_n 0, 1) := by decide +kernel
theorem d_A_moveTo_5 : decode b_A_moveTo 5 = .ok (.getfield 7, 3) := by decide +kernel
theorem d_A_moveTo_8 : decode b_A_moveTo 8 = .ok (.iload_n 2, 1) := by decide +kernel
theorem d_A_moveTo_9 : decode b_A_moveTo 9 = .ok (.isub, 1) := by decide +kernel
theorem d_A_moveTo_10 : decode b_A_moveTo 10 = .ok (.invokestatic 19, 3) := by decide +kernel
theorem d_A_moveTo_13 : decode b_A_moveTo 13 = .ok (.istore_n 3, 1) := by decide +kernel
theorem d_A_moveTo_14 : decode b_A_moveTo 14 = .ok (.aload_n 1, 1) := by decide +kernel
theorem d_A_moveTo_15 : decode b_A_moveTo 15 = .ok (.aload_n 0, 1) := by decide +kernel
theorem d_A_moveTo_16 : decode b_A_moveTo 16 = .ok (.getfield 25, 3) := by decide +kernel
theorem d_A_moveTo_19 : decode b_A_moveTo 19 = .ok (.putfield 25, 3) := by decide +kernel
theorem d_A_moveTo_22 : decode b_A_moveTo 22 = .ok (.aload_n 1, 1) := by decide +kernel
theorem d_A_moveTo_23 : decode b_A_moveTo 23 = .ok (.aload_n 0, 1) := by decide +kernel
theorem d_A_moveTo_24 : decode b_A_moveTo 24 = .ok (.getfield 28, 3) := by decide +kernel
theorem d_A_moveTo_27 : decode b_A_moveTo 27 = .ok (.putfield 28, 3) := by decide +kernel
theorem d_A_moveTo_30 : decode b_A_moveTo 30 = .ok (.aload_n 1, 1) := by decide +kernel
theorem d_A_moveTo_31 : decode b_A_moveTo 31 = .ok (.aload_n 0, 1) := by decide +kernel
theorem d_A_moveTo_32 : decode b_A_moveTo 32 = .ok (.getfield 31, 3) := by decide +kernel
theorem d_A_moveTo_35 : decode b_A_moveTo 35 = .ok (.putfield 31, 3) := by decide +kernel
theorem d_A_moveTo_38 : decode b_A_moveTo 38 = .ok (.aload_n 1, 1) := by decide +kernel
theorem d_A_moveTo_39 : decode b_A_moveTo 39 = .ok (.iload_n 2, 1) := by decide +kernel
theorem d_A_moveTo_40 : decode b_A_moveTo 40 = .ok (.putfield 7, 3) := by decide +kernel
theorem d_A_moveTo_43 : decode b_A_moveTo 43 = .ok (.aload_n 1, 1) := by decide +kernel
theorem d_A_moveTo_44 : decode b_A_moveTo 44 = .ok (.aload_n 0, 1) := by decide +kernel
theorem d_A_moveTo_45 : decode b_A_moveTo 45 = .ok (.getfield 13, 3) := by decide +kernel
theorem d_A_moveTo_48 : decode b_A_moveTo 48 = .ok (.iload_n 3, 1) := by decide +kernel
theorem d_A_moveTo_49 : decode b_A_moveTo 49 = .ok (.isub, 1) := by decide +kernel
theorem d_A_moveTo_50 : decode b_A_moveTo 50 = .ok (.putfield 13, 3) := by decide +kernel
theorem d_A_moveTo_53 : decode b_A_moveTo 53 = .ok (.aload_n 1, 1) := by decide +kernel
theorem d_A_moveTo_54 : decode b_A_moveTo 54 = .ok (.aload_n 0, 1) := by decide +kernel
theorem d_A_moveTo_55 : decode b_A_moveTo 55 = .ok (.getfield 16, 3) := by decide +kernel
theorem d_A_moveTo_58 : decode b_A_moveTo 58 = .ok (.putfield 16, 3) := by decide +kernel
theorem d_A_moveTo_61 : decode b_A_moveTo 61 = .ok (.aload_n 0, 1) := by decide +kernel
theorem d_A_moveTo_62 : decode b_A_moveTo 62 = .ok (.dup, 1) := by decide +kernel
theorem d_A_moveTo_63 : decode b_A_moveTo 63 = .ok (.getfield 7, 3) := by decide +kernel
theorem d_A_moveTo_66 : decode b_A_moveTo 66 = .ok (.iload_n 2, 1) := by decide +kernel
theorem d_A_moveTo_67 : decode b_A_moveTo 67 = .ok (.isub, 1) := by decide +kernel
theorem d_A_moveTo_68 : decode b_A_moveTo 68 = .ok (.putfield 7, 3) := by decide +kernel
theorem d_A_moveTo_71 : decode b_A_moveTo 71 = .ok (.aload_n 0, 1) := by decide +kernel
theorem d_A_moveTo_72 : decode b_A_moveTo 72 = .ok (.iload_n 3, 1) := by decide +kernel
theorem d_A_moveTo_73 : decode b_A_moveTo 73 = .ok (.putfield 13, 3) := by decide +kernel
theorem d_A_moveTo_76 : decode b_A_moveTo 76 = .ok (.return_, 1) := by decide +kernel
theorem d_L_late_0 : decode b_L_late 0 = .ok (.aload_n 3, 1) := by decide +kernel
theorem d_L_late_1 : decode b_L_late 1 = .ok (.iconst 0, 1) := by decide +kernel
theorem d_L_late_2 : decode b_L_late 2 = .ok (.aload_n 0, 1) := by decide +kernel
theorem d_L_late_3 : decode b_L_late 3 = .ok (.iload_n 1, 1) := by decide +kernel
theorem d_L_late_4 : decode b_L_late 4 = .ok (.iload_n 2, 1) := by decide +kernel
theorem d_L_late_5 : decode b_L_late 5 = .ok (.invokevirtual 54, 3) := by decide +kernel
theorem d_L_late_8 : decode b_L_late 8 = .ok (.i2l, 1) := by decide +kernel
theorem d_L_late_9 : decode b_L_late 9 = .ok (.lastore, 1) := by decide +kernel
theorem d_L_late_10 : decode b_L_late 10 = .ok (.goto 11, 3) := by decide +kernel
theorem d_L_late_13 : decode b_L_late 13 = .ok (.astore 4, 2) := by decide +kernel
theorem d_L_late_15 : decode b_L_late 15 = .ok (.iconst 1, 1) := by decide +kernel
theorem d_L_late_16 : decode b_L_late 16 = .ok (.ireturn, 1) := by decide +kernel
theorem d_L_late_17 : decode b_L_late 17 = .ok (.astore 4, 2) := by decide +kernel
theorem d_L_late_19 : decode b_L_late 19 = .ok (.iconst 2, 1) := by decide +kernel
theorem d_L_late_20 : decode b_L_late 20 = .ok (.ireturn, 1) := by decide +kernel
theorem d_L_late_21 : decode b_L_late 21 = .ok (.iconst 0, 1) := by decide +kernel
theorem d_L_late_22 : decode b_L_late 22 = .ok (.ireturn, 1) := by decide +kernel
theorem d_D_late_0 : decode b_D_late 0 = .ok (.iload_n 1, 1) := by decide +kernel
theorem d_D_late_1 : decode b_D_late 1 = .ok (.aload_n 0, 1) := by decide +kernel
theorem d_D_late_2 : decode b_D_late 2 = .ok (.getfield 48, 3) := by decide +kernel
theorem d_D_late_5 : decode b_D_late 5 = .ok (.invokestatic 96, 3) := by decide +kernel
theorem d_D_late_8 : decode b_D_late 8 = .ok (.iload_n 2, 1) := by decide +kernel
theorem d_D_late_9 : decode b_D_late 9 = .ok (.iconst 0, 1) := by decide +kernel
theorem d_D_late_10 : decode b_D_late 10 = .ok (.sipush 1000, 3) := by decide +kernel
theorem d_D_late_13 : decode b_D_late 13 = .ok (.invokestatic 62, 3) := by decide +kernel
theorem d_D_late_16 : decode b_D_late 16 = .ok (.aload_n 0, 1) := by decide +kernel
theorem d_D_late_17 : decode b_D_late 17 = .ok (.getfield 11, 3) := by decide +kernel
theorem d_D_late_20 : decode b_D_late 20 = .ok (.iload_n 1, 1) := by decide +kernel
theorem d_D_late_21 : decode b_D_late 21 = .ok (.aaload, 1) := by decide +kernel
theorem d_D_late_22 : decode b_D_late 22 = .ok (.iload_n 2, 1) := by decide +kernel
theorem d_D_late_23 : decode b_D_late 23 = .ok (.putfield 76, 3) := by decide +kernel
theorem d_D_late_26 : decode b_D_late 26 = .ok (.iconst 0, 1) := by decide +kernel
theorem d_D_late_27 : decode b_D_late 27 = .ok (.istore_n 3, 1) := by decide +kernel
theorem d_D_late_28 : decode b_D_late 28 = .ok (.aload_n 0, 1) := by decide +kernel
theorem d_D_late_29 : decode b_D_late 29 = .ok (.getfield 44, 3) := by decide +kernel
theorem d_D_late_32 : decode b_D_late 32 = .ok (.getfield 148, 3) := by decide +kernel
theorem d_D_late_35 : decode b_D_late 35 = .ok (.iconst 1, 1) := by decide +kernel
theorem d_D_late_36 : decode b_D_late 36 = .ok (.isub, 1) := by decide +kernel
theorem d_D_late_37 : decode b_D_late 37 = .ok (.istore 4, 2) := by decide +kernel
theorem d_D_late_39 : decode b_D_late 39 = .ok (.iload 4, 2) := by decide +kernel
theorem d_D_late_41 : decode b_D_late 41 = .ok (.ifCond .lt 53, 3) := by decide +kernel
theorem d_D_late_44 : decode b_D_late 44 = .ok (.aload_n 0, 1) := by decide +kernel
theorem d_D_late_45 : decode b_D_late 45 = .ok (.getfield 44, 3) := by decide +kernel
theorem d_D_late_48 : decode b_D_late 48 = .ok (.getfield 151, 3) := by decide +kernel
theorem d_D_late_51 : decode b_D_late 51 = .ok (.iload 4, 2) := by decide +kernel
theorem d_D_late_53 : decode b_D_late 53 = .ok (.iaload, 1) := by decide +kernel
theorem d_D_late_54 : decode b_D_late 54 = .ok (.iload_n 1, 1) := by decide +kernel
theorem d_D_late_55 : decode b_D_late 55 = .ok (.if_icmp .ne 33, 3) := by decide +kernel
theorem d_D_late_58 : decode b_D_late 58 = .ok (.aload_n 0, 1) := by decide +kernel
theorem d_D_late_59 : decode b_D_late 59 = .ok (.iload_n 1, 1) := by decide +kernel
theorem d_D_late_60 : decode b_D_late 60 = .ok (.aload_n 0, 1) := by decide +kernel
theorem d_D_late_61 : decode b_D_late 61 = .ok (.getfield 44, 3) := by decide +kernel
theorem d_D_late_64 : decode b_D_late 64 = .ok (.getfield 154, 3) := by decide +kernel
theorem d_D_late_67 : decode b_D_late 67 = .ok (.iload 4, 2) := by decide +kernel
theorem d_D_late_69 : decode b_D_late 69 = .ok (.iaload, 1) := by decide +kernel
theorem d_D_late_70 : decode b_D_late 70 = .ok (.invokevirtual 170, 3) := by decide +kernel
theorem d_D_late_73 : decode b_D_late 73 = .ok (.ifCond .eq 15, 3) := by decide +kernel
theorem d_D_late_76 : decode b_D_late 76 = .ok (.aload_n 0, 1) := by decide +kernel
theorem d_D_late_77 : decode b_D_late 77 = .ok (.getfield 44, 3) := by decide +kernel
theorem d_D_late_80 : decode b_D_late 80 = .ok (.iload 4, 2) := by decide +kernel
theorem d_D_late_82 : decode b_D_late 82 = .ok (.invokevirtual 160, 3) := by decide +kernel
theorem d_D_late_85 : decode b_D_late 85 = .ok (.iinc 3 1, 3) := by decide +kernel
theorem d_D_late_88 : decode b_D_late 88 = .ok (.iinc 4 (-1), 3) := by decide +kernel
theorem d_D_late_91 : decode b_D_late 91 = .ok (.goto (-52), 3) := by decide +kernel
theorem d_D_late_94 : decode b_D_late 94 = .ok (.iload_n 3, 1) := by decide +kernel
theorem d_D_late_95 : decode b_D_late 95 = .ok (.ireturn, 1) := by decide +kernel
theorem d_D_isUnfit_0 : decode b_D_isUnfit 0 = .ok (.aload_n 0, 1) := by decide +kernel
theorem d_D_isUnfit_1 : decode b_D_isUnfit 1 = .ok (.iload_n 1, 1) := by decide +kernel
theorem d_D_isUnfit_2 : decode b_D_isUnfit 2 = .ok (.iload_n 2, 1) := by decide +kernel
theorem d_D_isUnfit_3 : decode b_D_isUnfit 3 = .ok (.invokevirtual 209, 3) := by decide +kernel
theorem d_D_isUnfit_6 : decode b_D_isUnfit 6 = .ok (.istore_n 3, 1) := by decide +kernel
theorem d_D_isUnfit_7 : decode b_D_isUnfit 7 = .ok (.iload_n 3, 1) := by decide +kernel
theorem d_D_isUnfit_8 : decode b_D_isUnfit 8 = .ok (.ifCond .eq 12, 3) := by decide +kernel
theorem d_D_isUnfit_11 : decode b_D_isUnfit 11 = .ok (.iload_n 3, 1) := by decide +kernel
theorem d_D_isUnfit_12 : decode b_D_isUnfit 12 = .ok (.iconst 5, 1) := by decide +kernel
theorem d_D_isUnfit_13 : decode b_D_isUnfit 13 = .ok (.if_icmp .eq 7, 3) := by decide +kernel
theorem d_D_isUnfit_16 : decode b_D_isUnfit 16 = .ok (.iconst 1, 1) := by decide +kernel
theorem d_D_isUnfit_17 : decode b_D_isUnfit 17 = .ok (.goto 4, 3) := by decide +kernel
theorem d_D_isUnfit_20 : decode b_D_isUnfit 20 = .ok (.iconst 0, 1) := by decide +kernel
theorem d_D_isUnfit_21 : decode b_D_isUnfit 21 = .ok (.ireturn, 1) := by decide +kernel
theorem d_L_arrival_0 : decode b_L_arrival 0 = .ok (.aload_n 3, 1) := by decide +kernel
theorem d_L_arrival_1 : decode b_L_arrival 1 = .ok (.iconst 0, 1) := by decide +kernel
theorem d_L_arrival_2 : decode b_L_arrival 2 = .ok (.aload_n 0, 1) := by decide +kernel
theorem d_L_arrival_3 : decode b_L_arrival 3 = .ok (.iload_n 1, 1) := by decide +kernel
theorem d_L_arrival_4 : decode b_L_arrival 4 = .ok (.iload_n 2, 1) := by decide +kernel
theorem d_L_arrival_5 : decode b_L_arrival 5 = .ok (.invokevirtual 57, 3) := by decide +kernel
theorem d_L_arrival_8 : decode b_L_arrival 8 = .ok (.i2l, 1) := by decide +kernel
theorem d_L_arrival_9 : decode b_L_arrival 9 = .ok (.lastore, 1) := by decide +kernel
theorem d_L_arrival_10 : decode b_L_arrival 10 = .ok (.goto 11, 3) := by decide +kernel
theorem d_L_arrival_13 : decode b_L_arrival 13 = .ok (.astore 4, 2) := by decide +kernel
theorem d_L_arrival_15 : decode b_L_arrival 15 = .ok (.iconst 1, 1) := by decide +kernel
theorem d_L_arrival_16 : decode b_L_arrival 16 = .ok (.ireturn, 1) := by decide +kernel
theorem d_L_arrival_17 : decode b_L_arrival 17 = .ok (.astore 4, 2) := by decide +kernel
theorem d_L_arrival_19 : decode b_L_arrival 19 = .ok (.iconst 2, 1) := by decide +kernel
theorem d_L_arrival_20 : decode b_L_arrival 20 = .ok (.ireturn, 1) := by decide +kernel
theorem d_L_arrival_21 : decode b_L_arrival 21 = .ok (.iconst 0, 1) := by decide +kernel
theorem d_L_arrival_22 : decode b_L_arrival 22 = .ok (.ireturn, 1) := by decide +kernel
theorem d_D_arrival_0 : decode b_D_arrival 0 = .ok (.iload_n 1, 1) := by decide +kernel
theorem d_D_arrival_1 : decode b_D_arrival 1 = .ok (.aload_n 0, 1) := by decide +kernel
theorem d_D_arrival_2 : decode b_D_arrival 2 = .ok (.getfield 48, 3) := by decide +kernel
theorem d_D_arrival_5 : decode b_D_arrival 5 = .ok (.invokestatic 96, 3) := by decide +kernel
theorem d_D_arrival_8 : decode b_D_arrival 8 = .ok (.iload_n 2, 1) := by decide +kernel
theorem d_D_arrival_9 : decode b_D_arrival 9 = .ok (.iconst 0, 1) := by decide +kernel
theorem d_D_arrival_10 : decode b_D_arrival 10 = .ok (.iconst 3, 1) := by decide +kernel
theorem d_D_arrival_11 : decode b_D_arrival 11 = .ok (.invokestatic 62, 3) := by decide +kernel
theorem d_D_arrival_14 : decode b_D_arrival 14 = .ok (.iload_n 2, 1) := by decide +kernel
theorem d_D_arrival_15 : decode b_D_arrival 15 = .ok (.tableswitch 64 0 2 #[25, 44, 54], 25) := by decide +kernel
theorem d_D_arrival_40 : decode b_D_arrival 40 = .ok (.aload_n 0, 1) := by decide +kernel
theorem d_D_arrival_41 : decode b_D_arrival 41 = .ok (.getfield 11, 3) := by decide +kernel
theorem d_D_arrival_44 : decode b_D_arrival 44 = .ok (.iload_n 1, 1) := by decide +kernel
theorem d_D_arrival_45 : decode b_D_arrival 45 = .ok (.aaload, 1) := by decide +kernel
theorem d_D_arrival_46 : decode b_D_arrival 46 = .ok (.invokevirtual 173, 3) := by decide +kernel
theorem d_D_arrival_49 : decode b_D_arrival 49 = .ok (.aload_n 0, 1) := by decide +kernel
theorem d_D_arrival_50 : decode b_D_arrival 50 = .ok (.getfield 44, 3) := by decide +kernel
theorem d_D_arrival_53 : decode b_D_arrival 53 = .ok (.iload_n 1, 1) := by decide +kernel
theorem d_D_arrival_54 : decode b_D_arrival 54 = .ok (.invokevirtual 99, 3) := by decide +kernel
theorem d_D_arrival_57 : decode b_D_arrival 57 = .ok (.isub, 1) := by decide +kernel
theorem d_D_arrival_58 : decode b_D_arrival 58 = .ok (.ireturn, 1) := by decide +kernel
theorem d_D_arrival_59 : decode b_D_arrival 59 = .ok (.aload_n 0, 1) := by decide +kernel
theorem d_D_arrival_60 : decode b_D_arrival 60 = .ok (.getfield 11, 3) := by decide +kernel
theorem d_D_arrival_63 : decode b_D_arrival 63 = .ok (.iload_n 1, 1) := by decide +kernel
theorem d_D_arrival_64 : decode b_D_arrival 64 = .ok (.aaload, 1) := by decide +kernel
theorem d_D_arrival_65 : decode b_D_arrival 65 = .ok (.getfield 76, 3) := by decide +kernel
theorem d_D_arrival_68 : decode b_D_arrival 68 = .ok (.ireturn, 1) := by decide +kernel
theorem d_D_arrival_69 : decode b_D_arrival 69 = .ok (.aload_n 0, 1) := by decide +kernel
theorem d_D_arrival_70 : decode b_D_arrival 70 = .ok (.getfield 11, 3) := by decide +kernel
theorem d_D_arrival_73 : decode b_D_arrival 73 = .ok (.iload_n 1, 1) := by decide +kernel
theorem d_D_arrival_74 : decode b_D_arrival 74 = .ok (.aaload, 1) := by decide +kernel
theorem d_D_arrival_75 : decode b_D_arrival 75 = .ok (.getfield 79, 3) := by decide +kernel
theorem d_D_arrival_78 : decode b_D_arrival 78 = .ok (.ireturn, 1) := by decide +kernel
theorem d_D_arrival_79 : decode b_D_arrival 79 = .ok (.aload_n 0, 1) := by decide +kernel
theorem d_D_arrival_80 : decode b_D_arrival 80 = .ok (.iload_n 1, 1) := by decide +kernel
theorem d_D_arrival_81 : decode b_D_arrival 81 = .ok (.invokevirtual 145, 3) := by decide +kernel
theorem d_D_arrival_84 : decode b_D_arrival 84 = .ok (.ireturn, 1) := by decide +kernel
theorem d_L_wanted_0 : decode b_L_wanted 0 = .ok (.aload_n 3, 1) := by decide +kernel
theorem d_L_wanted_1 : decode b_L_wanted 1 = .ok (.iconst 0, 1) := by decide +kernel
theorem d_L_wanted_2 : decode b_L_wanted 2 = .ok (.aload_n 0, 1) := by decide +kernel
theorem d_L_wanted_3 : decode b_L_wanted 3 = .ok (.iload_n 1, 1) := by decide +kernel
theorem d_L_wanted_4 : decode b_L_wanted 4 = .ok (.iload_n 2, 1) := by decide +kernel
theorem d_L_wanted_5 : decode b_L_wanted 5 = .ok (.invokevirtual 60, 3) := by decide +kernel
theorem d_L_wanted_8 : decode b_L_wanted 8 = .ok (.i2l, 1) := by decide +kernel
theorem d_L_wanted_9 : decode b_L_wanted 9 = .ok (.lastore, 1) := by decide +kernel
theorem d_L_wanted_10 : decode b_L_wanted 10 = .ok (.goto 11, 3) := by decide +kernel
theorem d_L_wanted_13 : decode b_L_wanted 13 = .ok (.astore 4, 2) := by decide +kernel
theorem d_L_wanted_15 : decode b_L_wanted 15 = .ok (.iconst 1, 1) := by decide +kernel
theorem d_L_wanted_16 : decode b_L_wanted 16 = .ok (.ireturn, 1) := by decide +kernel
