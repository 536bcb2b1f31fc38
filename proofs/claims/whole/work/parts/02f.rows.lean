theorem dX7_blacksBehind_0 : decode cX7_blacksBehind 0 = .ok (.aload_n 0, 1) := by decide +kernel
theorem dX7_blacksBehind_1 : decode cX7_blacksBehind 1 = .ok (.dup, 1) := by decide +kernel
theorem dX7_blacksBehind_2 : decode cX7_blacksBehind 2 = .ok (.getfield 210, 3) := by decide +kernel
theorem dX7_blacksBehind_5 : decode cX7_blacksBehind 5 = .ok (.iload_n 1, 1) := by decide +kernel
theorem dX7_blacksBehind_6 : decode cX7_blacksBehind 6 = .ok (.iadd, 1) := by decide +kernel
theorem dX7_blacksBehind_7 : decode cX7_blacksBehind 7 = .ok (.putfield 210, 3) := by decide +kernel
theorem dX7_blacksBehind_10 : decode cX7_blacksBehind 10 = .ok (.aload_n 0, 1) := by decide +kernel
theorem dX7_blacksBehind_11 : decode cX7_blacksBehind 11 = .ok (.invokevirtual 121, 3) := by decide +kernel
theorem dX7_blacksBehind_14 : decode cX7_blacksBehind 14 = .ok (.istore_n 2, 1) := by decide +kernel
theorem dX7_blacksBehind_15 : decode cX7_blacksBehind 15 = .ok (.aload_n 0, 1) := by decide +kernel
theorem dX7_blacksBehind_16 : decode cX7_blacksBehind 16 = .ok (.dup, 1) := by decide +kernel
theorem dX7_blacksBehind_17 : decode cX7_blacksBehind 17 = .ok (.getfield 210, 3) := by decide +kernel
theorem dX7_blacksBehind_20 : decode cX7_blacksBehind 20 = .ok (.iload_n 1, 1) := by decide +kernel
theorem dX7_blacksBehind_21 : decode cX7_blacksBehind 21 = .ok (.isub, 1) := by decide +kernel
theorem dX7_blacksBehind_22 : decode cX7_blacksBehind 22 = .ok (.putfield 210, 3) := by decide +kernel
theorem dX7_blacksBehind_25 : decode cX7_blacksBehind 25 = .ok (.iload_n 2, 1) := by decide +kernel
theorem dX7_blacksBehind_26 : decode cX7_blacksBehind 26 = .ok (.ireturn, 1) := by decide +kernel
theorem dX7_black_0 : decode cX7_black 0 = .ok (.aload_n 0, 1) := by decide +kernel
theorem dX7_black_1 : decode cX7_black 1 = .ok (.iload_n 1, 1) := by decide +kernel
theorem dX7_black_2 : decode cX7_black 2 = .ok (.invokevirtual 101, 3) := by decide +kernel
theorem dX7_black_5 : decode cX7_black 5 = .ok (.ifCond .ne 9, 3) := by decide +kernel
theorem dX7_black_8 : decode cX7_black 8 = .ok (.aload_n 0, 1) := by decide +kernel
theorem dX7_black_9 : decode cX7_black 9 = .ok (.iconst (-1), 1) := by decide +kernel
theorem dX7_black_10 : decode cX7_black 10 = .ok (.invokevirtual 90, 3) := by decide +kernel
theorem dX7_black_13 : decode cX7_black 13 = .ok (.ireturn, 1) := by decide +kernel
theorem dX7_black_14 : decode cX7_black 14 = .ok (.iload_n 2, 1) := by decide +kernel
theorem dX7_black_15 : decode cX7_black 15 = .ok (.invokestatic 265, 3) := by decide +kernel
theorem dX7_black_18 : decode cX7_black 18 = .ok (.ifCond .ne 10, 3) := by decide +kernel
theorem dX7_black_21 : decode cX7_black 21 = .ok (.aload_n 0, 1) := by decide +kernel
theorem dX7_black_22 : decode cX7_black 22 = .ok (.bipush (-6), 2) := by decide +kernel
theorem dX7_black_24 : decode cX7_black 24 = .ok (.invokevirtual 90, 3) := by decide +kernel
theorem dX7_black_27 : decode cX7_black 27 = .ok (.ireturn, 1) := by decide +kernel
theorem dX7_black_28 : decode cX7_black 28 = .ok (.aload_n 0, 1) := by decide +kernel
theorem dX7_black_29 : decode cX7_black 29 = .ok (.iload_n 2, 1) := by decide +kernel
theorem dX7_black_30 : decode cX7_black 30 = .ok (.invokevirtual 268, 3) := by decide +kernel
theorem dX7_black_33 : decode cX7_black 33 = .ok (.iload_n 1, 1) := by decide +kernel
theorem dX7_black_34 : decode cX7_black 34 = .ok (.invokestatic 125, 3) := by decide +kernel
theorem dX7_black_37 : decode cX7_black 37 = .ok (.ifCond .eq 7, 3) := by decide +kernel
theorem dX7_black_40 : decode cX7_black 40 = .ok (.iconst 1, 1) := by decide +kernel
theorem dX7_black_41 : decode cX7_black 41 = .ok (.goto 4, 3) := by decide +kernel
theorem dX7_black_44 : decode cX7_black 44 = .ok (.iconst 0, 1) := by decide +kernel
theorem dX7_black_45 : decode cX7_black 45 = .ok (.ireturn, 1) := by decide +kernel
theorem dX7_behind_0 : decode cX7_behind 0 = .ok (.iload_n 2, 1) := by decide +kernel
theorem dX7_behind_1 : decode cX7_behind 1 = .ok (.iconst 0, 1) := by decide +kernel
theorem dX7_behind_2 : decode cX7_behind 2 = .ok (.iconst 1, 1) := by decide +kernel
theorem dX7_behind_3 : decode cX7_behind 3 = .ok (.invokestatic 97, 3) := by decide +kernel
theorem dX7_behind_6 : decode cX7_behind 6 = .ok (.ifCond .ne 10, 3) := by decide +kernel
theorem dX7_behind_9 : decode cX7_behind 9 = .ok (.aload_n 0, 1) := by decide +kernel
theorem dX7_behind_10 : decode cX7_behind 10 = .ok (.bipush (-5), 2) := by decide +kernel
theorem dX7_behind_12 : decode cX7_behind 12 = .ok (.invokevirtual 90, 3) := by decide +kernel
theorem dX7_behind_15 : decode cX7_behind 15 = .ok (.ireturn, 1) := by decide +kernel
theorem dX7_behind_16 : decode cX7_behind 16 = .ok (.iload_n 1, 1) := by decide +kernel
theorem dX7_behind_17 : decode cX7_behind 17 = .ok (.invokestatic 265, 3) := by decide +kernel
theorem dX7_behind_20 : decode cX7_behind 20 = .ok (.ifCond .ne 10, 3) := by decide +kernel
theorem dX7_behind_23 : decode cX7_behind 23 = .ok (.aload_n 0, 1) := by decide +kernel
theorem dX7_behind_24 : decode cX7_behind 24 = .ok (.bipush (-6), 2) := by decide +kernel
theorem dX7_behind_26 : decode cX7_behind 26 = .ok (.invokevirtual 90, 3) := by decide +kernel
theorem dX7_behind_29 : decode cX7_behind 29 = .ok (.ireturn, 1) := by decide +kernel
theorem dX7_behind_30 : decode cX7_behind 30 = .ok (.iload_n 2, 1) := by decide +kernel
theorem dX7_behind_31 : decode cX7_behind 31 = .ok (.ifCond .ne 9, 3) := by decide +kernel
theorem dX7_behind_34 : decode cX7_behind 34 = .ok (.aload_n 0, 1) := by decide +kernel
theorem dX7_behind_35 : decode cX7_behind 35 = .ok (.iload_n 1, 1) := by decide +kernel
theorem dX7_behind_36 : decode cX7_behind 36 = .ok (.invokevirtual 268, 3) := by decide +kernel
theorem dX7_behind_39 : decode cX7_behind 39 = .ok (.ireturn, 1) := by decide +kernel
theorem dX7_behind_40 : decode cX7_behind 40 = .ok (.aload_n 0, 1) := by decide +kernel
theorem dX7_behind_41 : decode cX7_behind 41 = .ok (.dup, 1) := by decide +kernel
theorem dX7_behind_42 : decode cX7_behind 42 = .ok (.getfield 210, 3) := by decide +kernel
theorem dX7_behind_45 : decode cX7_behind 45 = .ok (.iload_n 1, 1) := by decide +kernel
theorem dX7_behind_46 : decode cX7_behind 46 = .ok (.iadd, 1) := by decide +kernel
theorem dX7_behind_47 : decode cX7_behind 47 = .ok (.putfield 210, 3) := by decide +kernel
theorem dX7_behind_50 : decode cX7_behind 50 = .ok (.aload_n 0, 1) := by decide +kernel
theorem dX7_behind_51 : decode cX7_behind 51 = .ok (.invokevirtual 271, 3) := by decide +kernel
theorem dX7_behind_54 : decode cX7_behind 54 = .ok (.istore_n 3, 1) := by decide +kernel
theorem dX7_behind_55 : decode cX7_behind 55 = .ok (.aload_n 0, 1) := by decide +kernel
theorem dX7_behind_56 : decode cX7_behind 56 = .ok (.dup, 1) := by decide +kernel
theorem dX7_behind_57 : decode cX7_behind 57 = .ok (.getfield 210, 3) := by decide +kernel
theorem dX7_behind_60 : decode cX7_behind 60 = .ok (.iload_n 1, 1) := by decide +kernel
theorem dX7_behind_61 : decode cX7_behind 61 = .ok (.isub, 1) := by decide +kernel
theorem dX7_behind_62 : decode cX7_behind 62 = .ok (.putfield 210, 3) := by decide +kernel
theorem dX7_behind_65 : decode cX7_behind 65 = .ok (.iload_n 3, 1) := by decide +kernel
theorem dX7_behind_66 : decode cX7_behind 66 = .ok (.ireturn, 1) := by decide +kernel
theorem dX7_white_0 : decode cX7_white 0 = .ok (.iconst 0, 1) := by decide +kernel
theorem dX7_white_1 : decode cX7_white 1 = .ok (.istore_n 1, 1) := by decide +kernel
theorem dX7_white_2 : decode cX7_white 2 = .ok (.iload_n 1, 1) := by decide +kernel
theorem dX7_white_3 : decode cX7_white 3 = .ok (.sipush 1000, 3) := by decide +kernel
theorem dX7_white_6 : decode cX7_white 6 = .ok (.if_icmp .ge 19, 3) := by decide +kernel
theorem dX7_white_9 : decode cX7_white 9 = .ok (.aload_n 0, 1) := by decide +kernel
theorem dX7_white_10 : decode cX7_white 10 = .ok (.iload_n 1, 1) := by decide +kernel
theorem dX7_white_11 : decode cX7_white 11 = .ok (.invokevirtual 268, 3) := by decide +kernel
theorem dX7_white_14 : decode cX7_white 14 = .ok (.ifCond .ne 5, 3) := by decide +kernel
theorem dX7_white_17 : decode cX7_white 17 = .ok (.iload_n 1, 1) := by decide +kernel
theorem dX7_white_18 : decode cX7_white 18 = .ok (.ireturn, 1) := by decide +kernel
theorem dX7_white_19 : decode cX7_white 19 = .ok (.iinc 1 1, 3) := by decide +kernel
theorem dX7_white_22 : decode cX7_white 22 = .ok (.goto (-20), 3) := by decide +kernel
theorem dX7_white_25 : decode cX7_white 25 = .ok (.iconst (-1), 1) := by decide +kernel
theorem dX7_white_26 : decode cX7_white 26 = .ok (.ireturn, 1) := by decide +kernel
theorem dX7_yieldOf_0 : decode cX7_yieldOf 0 = .ok (.iconst 0, 1) := by decide +kernel
theorem dX7_yieldOf_1 : decode cX7_yieldOf 1 = .ok (.istore_n 2, 1) := by decide +kernel
theorem dX7_yieldOf_2 : decode cX7_yieldOf 2 = .ok (.iconst 0, 1) := by decide +kernel
theorem dX7_yieldOf_3 : decode cX7_yieldOf 3 = .ok (.istore_n 3, 1) := by decide +kernel
theorem dX7_yieldOf_4 : decode cX7_yieldOf 4 = .ok (.iload_n 3, 1) := by decide +kernel
theorem dX7_yieldOf_5 : decode cX7_yieldOf 5 = .ok (.iload_n 1, 1) := by decide +kernel
theorem dX7_yieldOf_6 : decode cX7_yieldOf 6 = .ok (.if_icmp .ge 26, 3) := by decide +kernel
theorem dX7_yieldOf_9 : decode cX7_yieldOf 9 = .ok (.iload_n 2, 1) := by decide +kernel
theorem dX7_yieldOf_10 : decode cX7_yieldOf 10 = .ok (.aload_n 0, 1) := by decide +kernel
theorem dX7_yieldOf_11 : decode cX7_yieldOf 11 = .ok (.invokevirtual 271, 3) := by decide +kernel
theorem dX7_yieldOf_14 : decode cX7_yieldOf 14 = .ok (.iadd, 1) := by decide +kernel
theorem dX7_yieldOf_15 : decode cX7_yieldOf 15 = .ok (.istore_n 2, 1) := by decide +kernel
theorem dX7_yieldOf_16 : decode cX7_yieldOf 16 = .ok (.aload_n 0, 1) := by decide +kernel
theorem dX7_yieldOf_17 : decode cX7_yieldOf 17 = .ok (.dup, 1) := by decide +kernel
theorem dX7_yieldOf_18 : decode cX7_yieldOf 18 = .ok (.getfield 210, 3) := by decide +kernel
theorem dX7_yieldOf_21 : decode cX7_yieldOf 21 = .ok (.iconst 1, 1) := by decide +kernel
theorem dX7_yieldOf_22 : decode cX7_yieldOf 22 = .ok (.iadd, 1) := by decide +kernel
theorem dX7_yieldOf_23 : decode cX7_yieldOf 23 = .ok (.putfield 210, 3) := by decide +kernel
theorem dX7_yieldOf_26 : decode cX7_yieldOf 26 = .ok (.iinc 3 1, 3) := by decide +kernel
theorem dX7_yieldOf_29 : decode cX7_yieldOf 29 = .ok (.goto (-25), 3) := by decide +kernel
theorem dX7_yieldOf_32 : decode cX7_yieldOf 32 = .ok (.aload_n 0, 1) := by decide +kernel
theorem dX7_yieldOf_33 : decode cX7_yieldOf 33 = .ok (.dup, 1) := by decide +kernel
theorem dX7_yieldOf_34 : decode cX7_yieldOf 34 = .ok (.getfield 210, 3) := by decide +kernel
theorem dX7_yieldOf_37 : decode cX7_yieldOf 37 = .ok (.iload_n 1, 1) := by decide +kernel
theorem dX7_yieldOf_38 : decode cX7_yieldOf 38 = .ok (.isub, 1) := by decide +kernel
theorem dX7_yieldOf_39 : decode cX7_yieldOf 39 = .ok (.putfield 210, 3) := by decide +kernel
theorem dX7_yieldOf_42 : decode cX7_yieldOf 42 = .ok (.iload_n 2, 1) := by decide +kernel
theorem dX7_yieldOf_43 : decode cX7_yieldOf 43 = .ok (.ireturn, 1) := by decide +kernel
theorem dX7_yields_0 : decode cX7_yields 0 = .ok (.iload_n 1, 1) := by decide +kernel
theorem dX7_yields_1 : decode cX7_yields 1 = .ok (.iconst 0, 1) := by decide +kernel
theorem dX7_yields_2 : decode cX7_yields 2 = .ok (.sipush 200, 3) := by decide +kernel
theorem dX7_yields_5 : decode cX7_yields 5 = .ok (.invokestatic 97, 3) := by decide +kernel
theorem dX7_yields_8 : decode cX7_yields 8 = .ok (.ifCond .eq 11, 3) := by decide +kernel
theorem dX7_yields_11 : decode cX7_yields 11 = .ok (.aload_n 0, 1) := by decide +kernel
theorem dX7_yields_12 : decode cX7_yields 12 = .ok (.iload_n 1, 1) := by decide +kernel
theorem dX7_yields_13 : decode cX7_yields 13 = .ok (.invokevirtual 274, 3) := by decide +kernel
theorem dX7_yields_16 : decode cX7_yields 16 = .ok (.goto 9, 3) := by decide +kernel
theorem dX7_yields_19 : decode cX7_yields 19 = .ok (.aload_n 0, 1) := by decide +kernel
theorem dX7_yields_20 : decode cX7_yields 20 = .ok (.bipush (-6), 2) := by decide +kernel
theorem dX7_yields_22 : decode cX7_yields 22 = .ok (.invokevirtual 90, 3) := by decide +kernel
theorem dX7_yields_25 : decode cX7_yields 25 = .ok (.ireturn, 1) := by decide +kernel
theorem dX7_griefOf_0 : decode cX7_griefOf 0 = .ok (.aload_n 0, 1) := by decide +kernel
theorem dX7_griefOf_1 : decode cX7_griefOf 1 = .ok (.aload_n 0, 1) := by decide +kernel
theorem dX7_griefOf_2 : decode cX7_griefOf 2 = .ok (.getfield 65, 3) := by decide +kernel
theorem dX7_griefOf_5 : decode cX7_griefOf 5 = .ok (.invokevirtual 221, 3) := by decide +kernel
theorem dX7_griefOf_8 : decode cX7_griefOf 8 = .ok (.aload_n 0, 1) := by decide +kernel
theorem dX7_griefOf_9 : decode cX7_griefOf 9 = .ok (.iload_n 1, 1) := by decide +kernel
theorem dX7_griefOf_10 : decode cX7_griefOf 10 = .ok (.invokevirtual 218, 3) := by decide +kernel
theorem dX7_griefOf_13 : decode cX7_griefOf 13 = .ok (.istore_n 2, 1) := by decide +kernel
theorem dX7_griefOf_14 : decode cX7_griefOf 14 = .ok (.aload_n 0, 1) := by decide +kernel
theorem dX7_griefOf_15 : decode cX7_griefOf 15 = .ok (.aload_n 0, 1) := by decide +kernel
theorem dX7_griefOf_16 : decode cX7_griefOf 16 = .ok (.getfield 65, 3) := by decide +kernel
theorem dX7_griefOf_19 : decode cX7_griefOf 19 = .ok (.invokevirtual 229, 3) := by decide +kernel
theorem dX7_griefOf_22 : decode cX7_griefOf 22 = .ok (.iload_n 2, 1) := by decide +kernel
theorem dX7_griefOf_23 : decode cX7_griefOf 23 = .ok (.ireturn, 1) := by decide +kernel
theorem dX7_grief_0 : decode cX7_grief 0 = .ok (.aload_n 0, 1) := by decide +kernel
theorem dX7_grief_1 : decode cX7_grief 1 = .ok (.iload_n 1, 1) := by decide +kernel
theorem dX7_grief_2 : decode cX7_grief 2 = .ok (.invokevirtual 101, 3) := by decide +kernel
theorem dX7_grief_5 : decode cX7_grief 5 = .ok (.ifCond .ne 9, 3) := by decide +kernel
theorem dX7_grief_8 : decode cX7_grief 8 = .ok (.aload_n 0, 1) := by decide +kernel
theorem dX7_grief_9 : decode cX7_grief 9 = .ok (.iconst (-1), 1) := by decide +kernel
theorem dX7_grief_10 : decode cX7_grief 10 = .ok (.invokevirtual 90, 3) := by decide +kernel
theorem dX7_grief_13 : decode cX7_grief 13 = .ok (.ireturn, 1) := by decide +kernel
theorem dX7_grief_14 : decode cX7_grief 14 = .ok (.aload_n 0, 1) := by decide +kernel
theorem dX7_grief_15 : decode cX7_grief 15 = .ok (.iload_n 1, 1) := by decide +kernel
theorem dX7_grief_16 : decode cX7_grief 16 = .ok (.invokevirtual 215, 3) := by decide +kernel
theorem dX7_grief_19 : decode cX7_grief 19 = .ok (.ifCond .eq 11, 3) := by decide +kernel
theorem dX7_grief_22 : decode cX7_grief 22 = .ok (.aload_n 0, 1) := by decide +kernel
theorem dX7_grief_23 : decode cX7_grief 23 = .ok (.iload_n 1, 1) := by decide +kernel
theorem dX7_grief_24 : decode cX7_grief 24 = .ok (.invokevirtual 277, 3) := by decide +kernel
theorem dX7_grief_27 : decode cX7_grief 27 = .ok (.goto 9, 3) := by decide +kernel
theorem dX7_grief_30 : decode cX7_grief 30 = .ok (.aload_n 0, 1) := by decide +kernel
theorem dX7_grief_31 : decode cX7_grief 31 = .ok (.bipush (-6), 2) := by decide +kernel
theorem dX7_grief_33 : decode cX7_grief 33 = .ok (.invokevirtual 90, 3) := by decide +kernel
theorem dX7_grief_36 : decode cX7_grief 36 = .ok (.ireturn, 1) := by decide +kernel
theorem dX7_least_0 : decode cX7_least 0 = .ok (.iconst (-1), 1) := by decide +kernel
theorem dX7_least_1 : decode cX7_least 1 = .ok (.istore_n 1, 1) := by decide +kernel
theorem dX7_least_2 : decode cX7_least 2 = .ok (.iconst 0, 1) := by decide +kernel
theorem dX7_least_3 : decode cX7_least 3 = .ok (.istore_n 2, 1) := by decide +kernel
theorem dX7_least_4 : decode cX7_least 4 = .ok (.iconst 0, 1) := by decide +kernel
theorem dX7_least_5 : decode cX7_least 5 = .ok (.istore_n 3, 1) := by decide +kernel
theorem dX7_least_6 : decode cX7_least 6 = .ok (.iload_n 3, 1) := by decide +kernel
theorem dX7_least_7 : decode cX7_least 7 = .ok (.aload_n 0, 1) := by decide +kernel
theorem dX7_least_8 : decode cX7_least 8 = .ok (.getfield 94, 3) := by decide +kernel
theorem dX7_least_11 : decode cX7_least 11 = .ok (.if_icmp .ge 46, 3) := by decide +kernel
theorem dX7_least_14 : decode cX7_least 14 = .ok (.aload_n 0, 1) := by decide +kernel
theorem dX7_least_15 : decode cX7_least 15 = .ok (.iload_n 3, 1) := by decide +kernel
theorem dX7_least_16 : decode cX7_least 16 = .ok (.invokevirtual 215, 3) := by decide +kernel
theorem dX7_least_19 : decode cX7_least 19 = .ok (.ifCond .ne 6, 3) := by decide +kernel
theorem dX7_least_22 : decode cX7_least 22 = .ok (.goto 29, 3) := by decide +kernel
theorem dX7_least_25 : decode cX7_least 25 = .ok (.aload_n 0, 1) := by decide +kernel
theorem dX7_least_26 : decode cX7_least 26 = .ok (.iload_n 3, 1) := by decide +kernel
theorem dX7_least_27 : decode cX7_least 27 = .ok (.invokevirtual 277, 3) := by decide +kernel
theorem dX7_least_30 : decode cX7_least 30 = .ok (.istore 4, 2) := by decide +kernel
theorem dX7_least_32 : decode cX7_least 32 = .ok (.iload_n 1, 1) := by decide +kernel
theorem dX7_least_33 : decode cX7_least 33 = .ok (.iconst (-1), 1) := by decide +kernel
theorem dX7_least_34 : decode cX7_least 34 = .ok (.if_icmp .eq 12, 3) := by decide +kernel
theorem dX7_least_37 : decode cX7_least 37 = .ok (.iload 4, 2) := by decide +kernel
theorem dX7_least_39 : decode cX7_least 39 = .ok (.iload_n 2, 1) := by decide +kernel
theorem dX7_least_40 : decode cX7_least 40 = .ok (.if_icmp .lt 6, 3) := by decide +kernel
theorem dX7_least_43 : decode cX7_least 43 = .ok (.goto 8, 3) := by decide +kernel
theorem dX7_least_46 : decode cX7_least 46 = .ok (.iload_n 3, 1) := by decide +kernel
theorem dX7_least_47 : decode cX7_least 47 = .ok (.istore_n 1, 1) := by decide +kernel
theorem dX7_least_48 : decode cX7_least 48 = .ok (.iload 4, 2) := by decide +kernel
theorem dX7_least_50 : decode cX7_least 50 = .ok (.istore_n 2, 1) := by decide +kernel
theorem dX7_least_51 : decode cX7_least 51 = .ok (.iinc 3 1, 3) := by decide +kernel
theorem dX7_least_54 : decode cX7_least 54 = .ok (.goto (-48), 3) := by decide +kernel
theorem dX7_least_57 : decode cX7_least 57 = .ok (.iload_n 1, 1) := by decide +kernel
theorem dX7_least_58 : decode cX7_least 58 = .ok (.ireturn, 1) := by decide +kernel
theorem dX7_standing_0 : decode cX7_standing 0 = .ok (.iconst 0, 1) := by decide +kernel
theorem dX7_standing_1 : decode cX7_standing 1 = .ok (.istore_n 1, 1) := by decide +kernel
theorem dX7_standing_2 : decode cX7_standing 2 = .ok (.iconst 0, 1) := by decide +kernel
theorem dX7_standing_3 : decode cX7_standing 3 = .ok (.istore_n 2, 1) := by decide +kernel
theorem dX7_standing_4 : decode cX7_standing 4 = .ok (.iload_n 2, 1) := by decide +kernel
theorem dX7_standing_5 : decode cX7_standing 5 = .ok (.aload_n 0, 1) := by decide +kernel
theorem dX7_standing_6 : decode cX7_standing 6 = .ok (.getfield 94, 3) := by decide +kernel
theorem dX7_standing_9 : decode cX7_standing 9 = .ok (.if_icmp .ge 18, 3) := by decide +kernel
theorem dX7_standing_12 : decode cX7_standing 12 = .ok (.iload_n 1, 1) := by decide +kernel
theorem dX7_standing_13 : decode cX7_standing 13 = .ok (.aload_n 0, 1) := by decide +kernel
theorem dX7_standing_14 : decode cX7_standing 14 = .ok (.getfield 32, 3) := by decide +kernel
theorem dX7_standing_17 : decode cX7_standing 17 = .ok (.iload_n 2, 1) := by decide +kernel
theorem dX7_standing_18 : decode cX7_standing 18 = .ok (.iaload, 1) := by decide +kernel
theorem dX7_standing_19 : decode cX7_standing 19 = .ok (.iadd, 1) := by decide +kernel
theorem dX7_standing_20 : decode cX7_standing 20 = .ok (.istore_n 1, 1) := by decide +kernel
theorem dX7_standing_21 : decode cX7_standing 21 = .ok (.iinc 2 1, 3) := by decide +kernel
theorem dX7_standing_24 : decode cX7_standing 24 = .ok (.goto (-20), 3) := by decide +kernel
theorem dX7_standing_27 : decode cX7_standing 27 = .ok (.iload_n 1, 1) := by decide +kernel
theorem dX7_standing_28 : decode cX7_standing 28 = .ok (.ireturn, 1) := by decide +kernel
theorem dX7_order_0 : decode cX7_order 0 = .ok (.iload_n 1, 1) := by decide +kernel
theorem dX7_order_1 : decode cX7_order 1 = .ok (.iconst 1, 1) := by decide +kernel
theorem dX7_order_2 : decode cX7_order 2 = .ok (.iconst 3, 1) := by decide +kernel
theorem dX7_order_3 : decode cX7_order 3 = .ok (.invokestatic 97, 3) := by decide +kernel
theorem dX7_order_6 : decode cX7_order 6 = .ok (.ifCond .eq 11, 3) := by decide +kernel
theorem dX7_order_9 : decode cX7_order 9 = .ok (.aload_n 0, 1) := by decide +kernel
theorem dX7_order_10 : decode cX7_order 10 = .ok (.invokevirtual 280, 3) := by decide +kernel
theorem dX7_order_13 : decode cX7_order 13 = .ok (.iload_n 1, 1) := by decide +kernel
theorem dX7_order_14 : decode cX7_order 14 = .ok (.if_icmp .ge 10, 3) := by decide +kernel
theorem dX7_order_17 : decode cX7_order 17 = .ok (.aload_n 0, 1) := by decide +kernel
theorem dX7_order_18 : decode cX7_order 18 = .ok (.bipush (-6), 2) := by decide +kernel
theorem dX7_order_20 : decode cX7_order 20 = .ok (.invokevirtual 90, 3) := by decide +kernel
theorem dX7_order_23 : decode cX7_order 23 = .ok (.ireturn, 1) := by decide +kernel
theorem dX7_order_24 : decode cX7_order 24 = .ok (.iload_n 2, 1) := by decide +kernel
theorem dX7_order_25 : decode cX7_order 25 = .ok (.iconst (-1), 1) := by decide +kernel
theorem dX7_order_26 : decode cX7_order 26 = .ok (.iload_n 1, 1) := by decide +kernel
theorem dX7_order_27 : decode cX7_order 27 = .ok (.iconst 1, 1) := by decide +kernel
theorem dX7_order_28 : decode cX7_order 28 = .ok (.isub, 1) := by decide +kernel
theorem dX7_order_29 : decode cX7_order 29 = .ok (.invokestatic 97, 3) := by decide +kernel
theorem dX7_order_32 : decode cX7_order 32 = .ok (.ifCond .ne 10, 3) := by decide +kernel
theorem dX7_order_35 : decode cX7_order 35 = .ok (.aload_n 0, 1) := by decide +kernel
theorem dX7_order_36 : decode cX7_order 36 = .ok (.bipush (-5), 2) := by decide +kernel
theorem dX7_order_38 : decode cX7_order 38 = .ok (.invokevirtual 90, 3) := by decide +kernel
theorem dX7_order_41 : decode cX7_order 41 = .ok (.ireturn, 1) := by decide +kernel
theorem dX7_order_42 : decode cX7_order 42 = .ok (.iconst (-1), 1) := by decide +kernel
theorem dX7_order_43 : decode cX7_order 43 = .ok (.istore_n 3, 1) := by decide +kernel
theorem dX7_order_44 : decode cX7_order 44 = .ok (.iload_n 1, 1) := by decide +kernel
theorem dX7_order_45 : decode cX7_order 45 = .ok (.iconst 1, 1) := by decide +kernel
theorem dX7_order_46 : decode cX7_order 46 = .ok (.if_icmp .ne 8, 3) := by decide +kernel
theorem dX7_order_49 : decode cX7_order 49 = .ok (.bipush 10, 2) := by decide +kernel
theorem dX7_order_51 : decode cX7_order 51 = .ok (.goto 16, 3) := by decide +kernel
theorem dX7_order_54 : decode cX7_order 54 = .ok (.iload_n 1, 1) := by decide +kernel
theorem dX7_order_55 : decode cX7_order 55 = .ok (.iconst 2, 1) := by decide +kernel
theorem dX7_order_56 : decode cX7_order 56 = .ok (.if_icmp .ne 8, 3) := by decide +kernel
theorem dX7_order_59 : decode cX7_order 59 = .ok (.bipush 100, 2) := by decide +kernel
theorem dX7_order_61 : decode cX7_order 61 = .ok (.goto 6, 3) := by decide +kernel
theorem dX7_order_64 : decode cX7_order 64 = .ok (.sipush 1000, 3) := by decide +kernel
theorem dX7_order_67 : decode cX7_order 67 = .ok (.istore 4, 2) := by decide +kernel
theorem dX7_order_69 : decode cX7_order 69 = .ok (.aload_n 0, 1) := by decide +kernel
theorem dX7_order_70 : decode cX7_order 70 = .ok (.aload_n 0, 1) := by decide +kernel
theorem dX7_order_71 : decode cX7_order 71 = .ok (.getfield 68, 3) := by decide +kernel
theorem dX7_order_74 : decode cX7_order 74 = .ok (.invokevirtual 221, 3) := by decide +kernel
theorem dX7_order_77 : decode cX7_order 77 = .ok (.iconst 0, 1) := by decide +kernel
theorem dX7_order_78 : decode cX7_order 78 = .ok (.istore 5, 2) := by decide +kernel
theorem dX7_order_80 : decode cX7_order 80 = .ok (.iload 5, 2) := by decide +kernel
theorem dX7_order_82 : decode cX7_order 82 = .ok (.iload 4, 2) := by decide +kernel
theorem dX7_order_84 : decode cX7_order 84 = .ok (.if_icmp .ge 166, 3) := by decide +kernel
theorem dX7_order_87 : decode cX7_order 87 = .ok (.iload 5, 2) := by decide +kernel
theorem dX7_order_89 : decode cX7_order 89 = .ok (.istore 6, 2) := by decide +kernel
theorem dX7_order_91 : decode cX7_order 91 = .ok (.iload_n 1, 1) := by decide +kernel
theorem dX7_order_92 : decode cX7_order 92 = .ok (.iconst 1, 1) := by decide +kernel
theorem dX7_order_93 : decode cX7_order 93 = .ok (.isub, 1) := by decide +kernel
theorem dX7_order_94 : decode cX7_order 94 = .ok (.istore 7, 2) := by decide +kernel
theorem dX7_order_96 : decode cX7_order 96 = .ok (.iload 7, 2) := by decide +kernel
theorem dX7_order_98 : decode cX7_order 98 = .ok (.ifCond .lt 28, 3) := by decide +kernel
theorem dX7_order_101 : decode cX7_order 101 = .ok (.aload_n 0, 1) := by decide +kernel
theorem dX7_order_102 : decode cX7_order 102 = .ok (.getfield 71, 3) := by decide +kernel
theorem dX7_order_105 : decode cX7_order 105 = .ok (.iload 7, 2) := by decide +kernel
theorem dX7_order_107 : decode cX7_order 107 = .ok (.iload 6, 2) := by decide +kernel
theorem dX7_order_109 : decode cX7_order 109 = .ok (.bipush 10, 2) := by decide +kernel
theorem dX7_order_111 : decode cX7_order 111 = .ok (.irem, 1) := by decide +kernel
theorem dX7_order_112 : decode cX7_order 112 = .ok (.iastore, 1) := by decide +kernel
theorem dX7_order_113 : decode cX7_order 113 = .ok (.iload 6, 2) := by decide +kernel
theorem dX7_order_115 : decode cX7_order 115 = .ok (.bipush 10, 2) := by decide +kernel
theorem dX7_order_117 : decode cX7_order 117 = .ok (.idiv, 1) := by decide +kernel
theorem dX7_order_118 : decode cX7_order 118 = .ok (.istore 6, 2) := by decide +kernel
theorem dX7_order_120 : decode cX7_order 120 = .ok (.iinc 7 (-1), 3) := by decide +kernel
theorem dX7_order_123 : decode cX7_order 123 = .ok (.goto (-27), 3) := by decide +kernel
theorem dX7_order_126 : decode cX7_order 126 = .ok (.iconst 0, 1) := by decide +kernel
theorem dX7_order_127 : decode cX7_order 127 = .ok (.istore 7, 2) := by decide +kernel
theorem dX7_order_129 : decode cX7_order 129 = .ok (.iconst 1, 1) := by decide +kernel
theorem dX7_order_130 : decode cX7_order 130 = .ok (.istore 8, 2) := by decide +kernel
theorem dX7_order_132 : decode cX7_order 132 = .ok (.iconst 0, 1) := by decide +kernel
theorem dX7_order_133 : decode cX7_order 133 = .ok (.istore 9, 2) := by decide +kernel
theorem dX7_order_135 : decode cX7_order 135 = .ok (.iload 9, 2) := by decide +kernel
theorem dX7_order_137 : decode cX7_order 137 = .ok (.iload_n 1, 1) := by decide +kernel
theorem dX7_order_138 : decode cX7_order 138 = .ok (.if_icmp .ge 48, 3) := by decide +kernel
theorem dX7_order_141 : decode cX7_order 141 = .ok (.iload 8, 2) := by decide +kernel
theorem dX7_order_143 : decode cX7_order 143 = .ok (.ifCond .eq 43, 3) := by decide +kernel
theorem dX7_order_146 : decode cX7_order 146 = .ok (.aload_n 0, 1) := by decide +kernel
theorem dX7_order_147 : decode cX7_order 147 = .ok (.aload_n 0, 1) := by decide +kernel
theorem dX7_order_148 : decode cX7_order 148 = .ok (.getfield 71, 3) := by decide +kernel
theorem dX7_order_151 : decode cX7_order 151 = .ok (.iload 9, 2) := by decide +kernel
theorem dX7_order_153 : decode cX7_order 153 = .ok (.iaload, 1) := by decide +kernel
theorem dX7_order_154 : decode cX7_order 154 = .ok (.invokevirtual 215, 3) := by decide +kernel
theorem dX7_order_157 : decode cX7_order 157 = .ok (.istore 8, 2) := by decide +kernel
theorem dX7_order_159 : decode cX7_order 159 = .ok (.iload 8, 2) := by decide +kernel
theorem dX7_order_161 : decode cX7_order 161 = .ok (.ifCond .eq 19, 3) := by decide +kernel
theorem dX7_order_164 : decode cX7_order 164 = .ok (.iload 7, 2) := by decide +kernel
theorem dX7_order_166 : decode cX7_order 166 = .ok (.aload_n 0, 1) := by decide +kernel
theorem dX7_order_167 : decode cX7_order 167 = .ok (.aload_n 0, 1) := by decide +kernel
theorem dX7_order_168 : decode cX7_order 168 = .ok (.getfield 71, 3) := by decide +kernel
theorem dX7_order_171 : decode cX7_order 171 = .ok (.iload 9, 2) := by decide +kernel
theorem dX7_order_173 : decode cX7_order 173 = .ok (.iaload, 1) := by decide +kernel
theorem dX7_order_174 : decode cX7_order 174 = .ok (.invokevirtual 218, 3) := by decide +kernel
theorem dX7_order_177 : decode cX7_order 177 = .ok (.iadd, 1) := by decide +kernel
theorem dX7_order_178 : decode cX7_order 178 = .ok (.istore 7, 2) := by decide +kernel
theorem dX7_order_180 : decode cX7_order 180 = .ok (.iinc 9 1, 3) := by decide +kernel
theorem dX7_order_183 : decode cX7_order 183 = .ok (.goto (-48), 3) := by decide +kernel
theorem dX7_order_186 : decode cX7_order 186 = .ok (.aload_n 0, 1) := by decide +kernel
theorem dX7_order_187 : decode cX7_order 187 = .ok (.aload_n 0, 1) := by decide +kernel
theorem dX7_order_188 : decode cX7_order 188 = .ok (.getfield 68, 3) := by decide +kernel
theorem dX7_order_191 : decode cX7_order 191 = .ok (.invokevirtual 229, 3) := by decide +kernel
theorem dX7_order_194 : decode cX7_order 194 = .ok (.iload 8, 2) := by decide +kernel
theorem dX7_order_196 : decode cX7_order 196 = .ok (.ifCond .eq 48, 3) := by decide +kernel
theorem dX7_order_199 : decode cX7_order 199 = .ok (.iload_n 3, 1) := by decide +kernel
theorem dX7_order_200 : decode cX7_order 200 = .ok (.ifCond .lt 12, 3) := by decide +kernel
theorem dX7_order_203 : decode cX7_order 203 = .ok (.iload 7, 2) := by decide +kernel
theorem dX7_order_205 : decode cX7_order 205 = .ok (.iload_n 3, 1) := by decide +kernel
theorem dX7_order_206 : decode cX7_order 206 = .ok (.if_icmp .lt 6, 3) := by decide +kernel
theorem dX7_order_209 : decode cX7_order 209 = .ok (.goto 35, 3) := by decide +kernel
theorem dX7_order_212 : decode cX7_order 212 = .ok (.iload 7, 2) := by decide +kernel
theorem dX7_order_214 : decode cX7_order 214 = .ok (.istore_n 3, 1) := by decide +kernel
theorem dX7_order_215 : decode cX7_order 215 = .ok (.iconst 0, 1) := by decide +kernel
theorem dX7_order_216 : decode cX7_order 216 = .ok (.istore 9, 2) := by decide +kernel
theorem dX7_order_218 : decode cX7_order 218 = .ok (.iload 9, 2) := by decide +kernel
theorem dX7_order_220 : decode cX7_order 220 = .ok (.iload_n 1, 1) := by decide +kernel
theorem dX7_order_221 : decode cX7_order 221 = .ok (.if_icmp .ge 23, 3) := by decide +kernel
theorem dX7_order_224 : decode cX7_order 224 = .ok (.aload_n 0, 1) := by decide +kernel
theorem dX7_order_225 : decode cX7_order 225 = .ok (.getfield 74, 3) := by decide +kernel
theorem dX7_order_228 : decode cX7_order 228 = .ok (.iload 9, 2) := by decide +kernel
theorem dX7_order_230 : decode cX7_order 230 = .ok (.aload_n 0, 1) := by decide +kernel
theorem dX7_order_231 : decode cX7_order 231 = .ok (.getfield 71, 3) := by decide +kernel
theorem dX7_order_234 : decode cX7_order 234 = .ok (.iload 9, 2) := by decide +kernel
theorem dX7_order_236 : decode cX7_order 236 = .ok (.iaload, 1) := by decide +kernel
theorem dX7_order_237 : decode cX7_order 237 = .ok (.iastore, 1) := by decide +kernel
theorem dX7_order_238 : decode cX7_order 238 = .ok (.iinc 9 1, 3) := by decide +kernel
theorem dX7_order_241 : decode cX7_order 241 = .ok (.goto (-23), 3) := by decide +kernel
theorem dX7_order_244 : decode cX7_order 244 = .ok (.iinc 5 1, 3) := by decide +kernel
theorem dX7_order_247 : decode cX7_order 247 = .ok (.goto (-167), 3) := by decide +kernel
theorem dX7_order_250 : decode cX7_order 250 = .ok (.iload_n 2, 1) := by decide +kernel
theorem dX7_order_251 : decode cX7_order 251 = .ok (.iconst (-1), 1) := by decide +kernel
theorem dX7_order_252 : decode cX7_order 252 = .ok (.if_icmp .ne 7, 3) := by decide +kernel
theorem dX7_order_255 : decode cX7_order 255 = .ok (.iload_n 3, 1) := by decide +kernel
theorem dX7_order_256 : decode cX7_order 256 = .ok (.goto 9, 3) := by decide +kernel
theorem dX7_order_259 : decode cX7_order 259 = .ok (.aload_n 0, 1) := by decide +kernel
theorem dX7_order_260 : decode cX7_order 260 = .ok (.getfield 74, 3) := by decide +kernel
theorem dX7_order_263 : decode cX7_order 263 = .ok (.iload_n 2, 1) := by decide +kernel
theorem dX7_order_264 : decode cX7_order 264 = .ok (.iaload, 1) := by decide +kernel
theorem dX7_order_265 : decode cX7_order 265 = .ok (.ireturn, 1) := by decide +kernel
theorem dX7_cost_0 : decode cX7_cost 0 = .ok (.aload_n 0, 1) := by decide +kernel
theorem dX7_cost_1 : decode cX7_cost 1 = .ok (.iload_n 1, 1) := by decide +kernel
theorem dX7_cost_2 : decode cX7_cost 2 = .ok (.invokevirtual 101, 3) := by decide +kernel
theorem dX7_cost_5 : decode cX7_cost 5 = .ok (.ifCond .ne 13, 3) := by decide +kernel
theorem dX7_cost_8 : decode cX7_cost 8 = .ok (.aload_n 0, 1) := by decide +kernel
theorem dX7_cost_9 : decode cX7_cost 9 = .ok (.iconst (-1), 1) := by decide +kernel
theorem dX7_cost_10 : decode cX7_cost 10 = .ok (.invokevirtual 90, 3) := by decide +kernel
theorem dX7_cost_13 : decode cX7_cost 13 = .ok (.ldc_w 283, 3) := by decide +kernel
theorem dX7_cost_16 : decode cX7_cost 16 = .ok (.iadd, 1) := by decide +kernel
theorem dX7_cost_17 : decode cX7_cost 17 = .ok (.ireturn, 1) := by decide +kernel
theorem dX7_cost_18 : decode cX7_cost 18 = .ok (.aload_n 0, 1) := by decide +kernel
theorem dX7_cost_19 : decode cX7_cost 19 = .ok (.iload_n 1, 1) := by decide +kernel
theorem dX7_cost_20 : decode cX7_cost 20 = .ok (.invokevirtual 215, 3) := by decide +kernel
theorem dX7_cost_23 : decode cX7_cost 23 = .ok (.ifCond .ne 14, 3) := by decide +kernel
theorem dX7_cost_26 : decode cX7_cost 26 = .ok (.aload_n 0, 1) := by decide +kernel
theorem dX7_cost_27 : decode cX7_cost 27 = .ok (.bipush (-6), 2) := by decide +kernel
theorem dX7_cost_29 : decode cX7_cost 29 = .ok (.invokevirtual 90, 3) := by decide +kernel
theorem dX7_cost_32 : decode cX7_cost 32 = .ok (.ldc_w 283, 3) := by decide +kernel
theorem dX7_cost_35 : decode cX7_cost 35 = .ok (.iadd, 1) := by decide +kernel
theorem dX7_cost_36 : decode cX7_cost 36 = .ok (.ireturn, 1) := by decide +kernel
theorem dX7_cost_37 : decode cX7_cost 37 = .ok (.aload_n 0, 1) := by decide +kernel
theorem dX7_cost_38 : decode cX7_cost 38 = .ok (.bipush 100, 2) := by decide +kernel
theorem dX7_cost_40 : decode cX7_cost 40 = .ok (.invokevirtual 274, 3) := by decide +kernel
theorem dX7_cost_43 : decode cX7_cost 43 = .ok (.istore_n 2, 1) := by decide +kernel
theorem dX7_cost_44 : decode cX7_cost 44 = .ok (.aload_n 0, 1) := by decide +kernel
theorem dX7_cost_45 : decode cX7_cost 45 = .ok (.aload_n 0, 1) := by decide +kernel
theorem dX7_cost_46 : decode cX7_cost 46 = .ok (.getfield 65, 3) := by decide +kernel
theorem dX7_cost_49 : decode cX7_cost 49 = .ok (.invokevirtual 221, 3) := by decide +kernel
theorem dX7_cost_52 : decode cX7_cost 52 = .ok (.aload_n 0, 1) := by decide +kernel
theorem dX7_cost_53 : decode cX7_cost 53 = .ok (.iload_n 1, 1) := by decide +kernel
theorem dX7_cost_54 : decode cX7_cost 54 = .ok (.invokevirtual 218, 3) := by decide +kernel
theorem dX7_cost_57 : decode cX7_cost 57 = .ok (.pop, 1) := by decide +kernel
theorem dX7_cost_58 : decode cX7_cost 58 = .ok (.aload_n 0, 1) := by decide +kernel
theorem dX7_cost_59 : decode cX7_cost 59 = .ok (.bipush 100, 2) := by decide +kernel
theorem dX7_cost_61 : decode cX7_cost 61 = .ok (.invokevirtual 274, 3) := by decide +kernel
theorem dX7_cost_64 : decode cX7_cost 64 = .ok (.istore_n 3, 1) := by decide +kernel
theorem dX7_cost_65 : decode cX7_cost 65 = .ok (.aload_n 0, 1) := by decide +kernel
theorem dX7_cost_66 : decode cX7_cost 66 = .ok (.aload_n 0, 1) := by decide +kernel
theorem dX7_cost_67 : decode cX7_cost 67 = .ok (.getfield 65, 3) := by decide +kernel
theorem dX7_cost_70 : decode cX7_cost 70 = .ok (.invokevirtual 229, 3) := by decide +kernel
theorem dX7_cost_73 : decode cX7_cost 73 = .ok (.iload_n 2, 1) := by decide +kernel
theorem dX7_cost_74 : decode cX7_cost 74 = .ok (.iload_n 3, 1) := by decide +kernel
theorem dX7_cost_75 : decode cX7_cost 75 = .ok (.isub, 1) := by decide +kernel
theorem dX7_cost_76 : decode cX7_cost 76 = .ok (.ireturn, 1) := by decide +kernel
theorem dX7_screenedAt_0 : decode cX7_screenedAt 0 = .ok (.aload_n 0, 1) := by decide +kernel
theorem dX7_screenedAt_1 : decode cX7_screenedAt 1 = .ok (.iload_n 1, 1) := by decide +kernel
theorem dX7_screenedAt_2 : decode cX7_screenedAt 2 = .ok (.iload_n 2, 1) := by decide +kernel
theorem dX7_screenedAt_3 : decode cX7_screenedAt 3 = .ok (.iload_n 3, 1) := by decide +kernel
theorem dX7_screenedAt_4 : decode cX7_screenedAt 4 = .ok (.invokevirtual 243, 3) := by decide +kernel
theorem dX7_screenedAt_7 : decode cX7_screenedAt 7 = .ok (.ifCond .ne 5, 3) := by decide +kernel
theorem dX7_screenedAt_10 : decode cX7_screenedAt 10 = .ok (.iconst (-1), 1) := by decide +kernel
theorem dX7_screenedAt_11 : decode cX7_screenedAt 11 = .ok (.ireturn, 1) := by decide +kernel
theorem dX7_screenedAt_12 : decode cX7_screenedAt 12 = .ok (.iconst 1, 1) := by decide +kernel
theorem dX7_screenedAt_13 : decode cX7_screenedAt 13 = .ok (.istore 4, 2) := by decide +kernel
theorem dX7_screenedAt_15 : decode cX7_screenedAt 15 = .ok (.iload 4, 2) := by decide +kernel
theorem dX7_screenedAt_17 : decode cX7_screenedAt 17 = .ok (.sipush 1000, 3) := by decide +kernel
theorem dX7_screenedAt_20 : decode cX7_screenedAt 20 = .ok (.if_icmp .ge 24, 3) := by decide +kernel
theorem dX7_screenedAt_23 : decode cX7_screenedAt 23 = .ok (.aload_n 0, 1) := by decide +kernel
theorem dX7_screenedAt_24 : decode cX7_screenedAt 24 = .ok (.iload_n 1, 1) := by decide +kernel
theorem dX7_screenedAt_25 : decode cX7_screenedAt 25 = .ok (.iload_n 2, 1) := by decide +kernel
theorem dX7_screenedAt_26 : decode cX7_screenedAt 26 = .ok (.iload_n 3, 1) := by decide +kernel
theorem dX7_screenedAt_27 : decode cX7_screenedAt 27 = .ok (.iload 4, 2) := by decide +kernel
theorem dX7_screenedAt_29 : decode cX7_screenedAt 29 = .ok (.invokevirtual 246, 3) := by decide +kernel
theorem dX7_screenedAt_32 : decode cX7_screenedAt 32 = .ok (.ifCond .ne 6, 3) := by decide +kernel
theorem dX7_screenedAt_35 : decode cX7_screenedAt 35 = .ok (.iload 4, 2) := by decide +kernel
theorem dX7_screenedAt_37 : decode cX7_screenedAt 37 = .ok (.ireturn, 1) := by decide +kernel
theorem dX7_screenedAt_38 : decode cX7_screenedAt 38 = .ok (.iinc 4 1, 3) := by decide +kernel
theorem dX7_screenedAt_41 : decode cX7_screenedAt 41 = .ok (.goto (-26), 3) := by decide +kernel
theorem dX7_screenedAt_44 : decode cX7_screenedAt 44 = .ok (.iconst (-1), 1) := by decide +kernel
theorem dX7_screenedAt_45 : decode cX7_screenedAt 45 = .ok (.ireturn, 1) := by decide +kernel
theorem dX7_screened_0 : decode cX7_screened 0 = .ok (.aload_n 0, 1) := by decide +kernel
theorem dX7_screened_1 : decode cX7_screened 1 = .ok (.iload_n 1, 1) := by decide +kernel
theorem dX7_screened_2 : decode cX7_screened 2 = .ok (.invokevirtual 101, 3) := by decide +kernel
theorem dX7_screened_5 : decode cX7_screened 5 = .ok (.ifCond .eq 11, 3) := by decide +kernel
theorem dX7_screened_8 : decode cX7_screened 8 = .ok (.aload_n 0, 1) := by decide +kernel
theorem dX7_screened_9 : decode cX7_screened 9 = .ok (.iload_n 2, 1) := by decide +kernel
theorem dX7_screened_10 : decode cX7_screened 10 = .ok (.invokevirtual 101, 3) := by decide +kernel
theorem dX7_screened_13 : decode cX7_screened 13 = .ok (.ifCond .ne 9, 3) := by decide +kernel
theorem dX7_screened_16 : decode cX7_screened 16 = .ok (.aload_n 0, 1) := by decide +kernel
theorem dX7_screened_17 : decode cX7_screened 17 = .ok (.iconst (-1), 1) := by decide +kernel
theorem dX7_screened_18 : decode cX7_screened 18 = .ok (.invokevirtual 253, 3) := by decide +kernel
theorem dX7_screened_21 : decode cX7_screened 21 = .ok (.ireturn, 1) := by decide +kernel
theorem dX7_screened_22 : decode cX7_screened 22 = .ok (.aload_n 0, 1) := by decide +kernel
theorem dX7_screened_23 : decode cX7_screened 23 = .ok (.iload_n 1, 1) := by decide +kernel
theorem dX7_screened_24 : decode cX7_screened 24 = .ok (.iload_n 2, 1) := by decide +kernel
theorem dX7_screened_25 : decode cX7_screened 25 = .ok (.invokevirtual 160, 3) := by decide +kernel
theorem dX7_screened_28 : decode cX7_screened 28 = .ok (.ifCond .eq 10, 3) := by decide +kernel
theorem dX7_screened_31 : decode cX7_screened 31 = .ok (.iload_n 3, 1) := by decide +kernel
theorem dX7_screened_32 : decode cX7_screened 32 = .ok (.invokestatic 135, 3) := by decide +kernel
theorem dX7_screened_35 : decode cX7_screened 35 = .ok (.ifCond .ne 10, 3) := by decide +kernel
theorem dX7_screened_38 : decode cX7_screened 38 = .ok (.aload_n 0, 1) := by decide +kernel
theorem dX7_screened_39 : decode cX7_screened 39 = .ok (.bipush (-6), 2) := by decide +kernel
theorem dX7_screened_41 : decode cX7_screened 41 = .ok (.invokevirtual 253, 3) := by decide +kernel
theorem dX7_screened_44 : decode cX7_screened 44 = .ok (.ireturn, 1) := by decide +kernel
theorem dX7_screened_45 : decode cX7_screened 45 = .ok (.aload_n 0, 1) := by decide +kernel
theorem dX7_screened_46 : decode cX7_screened 46 = .ok (.iload_n 1, 1) := by decide +kernel
theorem dX7_screened_47 : decode cX7_screened 47 = .ok (.iload_n 2, 1) := by decide +kernel
theorem dX7_screened_48 : decode cX7_screened 48 = .ok (.iload_n 3, 1) := by decide +kernel
theorem dX7_screened_49 : decode cX7_screened 49 = .ok (.invokevirtual 284, 3) := by decide +kernel
theorem dX7_screened_52 : decode cX7_screened 52 = .ok (.ireturn, 1) := by decide +kernel
theorem dX7_isFree_0 : decode cX7_isFree 0 = .ok (.iconst 0, 1) := by decide +kernel
theorem dX7_isFree_1 : decode cX7_isFree 1 = .ok (.istore_n 2, 1) := by decide +kernel
theorem dX7_isFree_2 : decode cX7_isFree 2 = .ok (.iload_n 2, 1) := by decide +kernel
theorem dX7_isFree_3 : decode cX7_isFree 3 = .ok (.aload_n 0, 1) := by decide +kernel
theorem dX7_isFree_4 : decode cX7_isFree 4 = .ok (.getfield 94, 3) := by decide +kernel
theorem dX7_isFree_7 : decode cX7_isFree 7 = .ok (.if_icmp .ge 31, 3) := by decide +kernel
theorem dX7_isFree_10 : decode cX7_isFree 10 = .ok (.aload_n 0, 1) := by decide +kernel
theorem dX7_isFree_11 : decode cX7_isFree 11 = .ok (.getfield 32, 3) := by decide +kernel
theorem dX7_isFree_14 : decode cX7_isFree 14 = .ok (.iload_n 2, 1) := by decide +kernel
theorem dX7_isFree_15 : decode cX7_isFree 15 = .ok (.iaload, 1) := by decide +kernel
theorem dX7_isFree_16 : decode cX7_isFree 16 = .ok (.iconst 1, 1) := by decide +kernel
theorem dX7_isFree_17 : decode cX7_isFree 17 = .ok (.if_icmp .ne 15, 3) := by decide +kernel
theorem dX7_isFree_20 : decode cX7_isFree 20 = .ok (.aload_n 0, 1) := by decide +kernel
theorem dX7_isFree_21 : decode cX7_isFree 21 = .ok (.getfield 26, 3) := by decide +kernel
theorem dX7_isFree_24 : decode cX7_isFree 24 = .ok (.iload_n 2, 1) := by decide +kernel
theorem dX7_isFree_25 : decode cX7_isFree 25 = .ok (.iaload, 1) := by decide +kernel
theorem dX7_isFree_26 : decode cX7_isFree 26 = .ok (.iload_n 1, 1) := by decide +kernel
theorem dX7_isFree_27 : decode cX7_isFree 27 = .ok (.if_icmp .ne 5, 3) := by decide +kernel
theorem dX7_isFree_30 : decode cX7_isFree 30 = .ok (.iconst 0, 1) := by decide +kernel
theorem dX7_isFree_31 : decode cX7_isFree 31 = .ok (.ireturn, 1) := by decide +kernel
theorem dX7_isFree_32 : decode cX7_isFree 32 = .ok (.iinc 2 1, 3) := by decide +kernel
theorem dX7_isFree_35 : decode cX7_isFree 35 = .ok (.goto (-33), 3) := by decide +kernel
theorem dX7_isFree_38 : decode cX7_isFree 38 = .ok (.iconst 1, 1) := by decide +kernel
theorem dX7_isFree_39 : decode cX7_isFree 39 = .ok (.ireturn, 1) := by decide +kernel
theorem dX7_hide_0 : decode cX7_hide 0 = .ok (.aload_n 0, 1) := by decide +kernel
theorem dX7_hide_1 : decode cX7_hide 1 = .ok (.iload_n 1, 1) := by decide +kernel
theorem dX7_hide_2 : decode cX7_hide 2 = .ok (.invokevirtual 101, 3) := by decide +kernel
theorem dX7_hide_5 : decode cX7_hide 5 = .ok (.ifCond .eq 11, 3) := by decide +kernel
theorem dX7_hide_8 : decode cX7_hide 8 = .ok (.aload_n 0, 1) := by decide +kernel
theorem dX7_hide_9 : decode cX7_hide 9 = .ok (.iload_n 2, 1) := by decide +kernel
theorem dX7_hide_10 : decode cX7_hide 10 = .ok (.invokevirtual 101, 3) := by decide +kernel
theorem dX7_hide_13 : decode cX7_hide 13 = .ok (.ifCond .ne 9, 3) := by decide +kernel
theorem dX7_hide_16 : decode cX7_hide 16 = .ok (.aload_n 0, 1) := by decide +kernel
theorem dX7_hide_17 : decode cX7_hide 17 = .ok (.iconst (-1), 1) := by decide +kernel
theorem dX7_hide_18 : decode cX7_hide 18 = .ok (.invokevirtual 253, 3) := by decide +kernel
theorem dX7_hide_21 : decode cX7_hide 21 = .ok (.ireturn, 1) := by decide +kernel
theorem dX7_hide_22 : decode cX7_hide 22 = .ok (.aload_n 0, 1) := by decide +kernel
theorem dX7_hide_23 : decode cX7_hide 23 = .ok (.iload_n 1, 1) := by decide +kernel
theorem dX7_hide_24 : decode cX7_hide 24 = .ok (.iload_n 2, 1) := by decide +kernel
theorem dX7_hide_25 : decode cX7_hide 25 = .ok (.invokevirtual 160, 3) := by decide +kernel
theorem dX7_hide_28 : decode cX7_hide 28 = .ok (.ifCond .ne 10, 3) := by decide +kernel
theorem dX7_hide_31 : decode cX7_hide 31 = .ok (.aload_n 0, 1) := by decide +kernel
theorem dX7_hide_32 : decode cX7_hide 32 = .ok (.bipush (-6), 2) := by decide +kernel
theorem dX7_hide_34 : decode cX7_hide 34 = .ok (.invokevirtual 253, 3) := by decide +kernel
theorem dX7_hide_37 : decode cX7_hide 37 = .ok (.ireturn, 1) := by decide +kernel
theorem dX7_hide_38 : decode cX7_hide 38 = .ok (.iconst (-1), 1) := by decide +kernel
theorem dX7_hide_39 : decode cX7_hide 39 = .ok (.istore_n 3, 1) := by decide +kernel
theorem dX7_hide_40 : decode cX7_hide 40 = .ok (.iconst 0, 1) := by decide +kernel
theorem dX7_hide_41 : decode cX7_hide 41 = .ok (.istore 4, 2) := by decide +kernel
theorem dX7_hide_43 : decode cX7_hide 43 = .ok (.iconst 0, 1) := by decide +kernel
theorem dX7_hide_44 : decode cX7_hide 44 = .ok (.istore 5, 2) := by decide +kernel
theorem dX7_hide_46 : decode cX7_hide 46 = .ok (.iload 5, 2) := by decide +kernel
theorem dX7_hide_48 : decode cX7_hide 48 = .ok (.bipush 100, 2) := by decide +kernel
theorem dX7_hide_50 : decode cX7_hide 50 = .ok (.if_icmp .ge 60, 3) := by decide +kernel
theorem dX7_hide_53 : decode cX7_hide 53 = .ok (.aload_n 0, 1) := by decide +kernel
theorem dX7_hide_54 : decode cX7_hide 54 = .ok (.iload 5, 2) := by decide +kernel
theorem dX7_hide_56 : decode cX7_hide 56 = .ok (.invokevirtual 288, 3) := by decide +kernel
theorem dX7_hide_59 : decode cX7_hide 59 = .ok (.ifCond .eq 14, 3) := by decide +kernel
theorem dX7_hide_62 : decode cX7_hide 62 = .ok (.aload_n 0, 1) := by decide +kernel
theorem dX7_hide_63 : decode cX7_hide 63 = .ok (.iload_n 1, 1) := by decide +kernel
theorem dX7_hide_64 : decode cX7_hide 64 = .ok (.iload_n 2, 1) := by decide +kernel
theorem dX7_hide_65 : decode cX7_hide 65 = .ok (.iload 5, 2) := by decide +kernel
theorem dX7_hide_67 : decode cX7_hide 67 = .ok (.invokevirtual 284, 3) := by decide +kernel
theorem dX7_hide_70 : decode cX7_hide 70 = .ok (.goto 4, 3) := by decide +kernel
theorem dX7_hide_73 : decode cX7_hide 73 = .ok (.iconst (-1), 1) := by decide +kernel
theorem dX7_hide_74 : decode cX7_hide 74 = .ok (.istore 6, 2) := by decide +kernel
theorem dX7_hide_76 : decode cX7_hide 76 = .ok (.iload 6, 2) := by decide +kernel
theorem dX7_hide_78 : decode cX7_hide 78 = .ok (.iconst (-1), 1) := by decide +kernel
theorem dX7_hide_79 : decode cX7_hide 79 = .ok (.if_icmp .eq 25, 3) := by decide +kernel
theorem dX7_hide_82 : decode cX7_hide 82 = .ok (.iload_n 3, 1) := by decide +kernel
theorem dX7_hide_83 : decode cX7_hide 83 = .ok (.iconst (-1), 1) := by decide +kernel
theorem dX7_hide_84 : decode cX7_hide 84 = .ok (.if_icmp .eq 13, 3) := by decide +kernel
theorem dX7_hide_87 : decode cX7_hide 87 = .ok (.iload 6, 2) := by decide +kernel
theorem dX7_hide_89 : decode cX7_hide 89 = .ok (.iload 4, 2) := by decide +kernel
theorem dX7_hide_91 : decode cX7_hide 91 = .ok (.if_icmp .lt 6, 3) := by decide +kernel
theorem dX7_hide_94 : decode cX7_hide 94 = .ok (.goto 10, 3) := by decide +kernel
theorem dX7_hide_97 : decode cX7_hide 97 = .ok (.iload 5, 2) := by decide +kernel
theorem dX7_hide_99 : decode cX7_hide 99 = .ok (.istore_n 3, 1) := by decide +kernel
theorem dX7_hide_100 : decode cX7_hide 100 = .ok (.iload 6, 2) := by decide +kernel
theorem dX7_hide_102 : decode cX7_hide 102 = .ok (.istore 4, 2) := by decide +kernel
theorem dX7_hide_104 : decode cX7_hide 104 = .ok (.iinc 5 1, 3) := by decide +kernel
theorem dX7_hide_107 : decode cX7_hide 107 = .ok (.goto (-61), 3) := by decide +kernel
theorem dX7_hide_110 : decode cX7_hide 110 = .ok (.iload_n 3, 1) := by decide +kernel
theorem dX7_hide_111 : decode cX7_hide 111 = .ok (.ireturn, 1) := by decide +kernel
theorem dX7_told_0 : decode cX7_told 0 = .ok (.aload_n 0, 1) := by decide +kernel
theorem dX7_told_1 : decode cX7_told 1 = .ok (.getfield 16, 3) := by decide +kernel
theorem dX7_told_4 : decode cX7_told 4 = .ok (.sipush 160, 3) := by decide +kernel
theorem dX7_told_7 : decode cX7_told 7 = .ok (.iload_n 1, 1) := by decide +kernel
theorem dX7_told_8 : decode cX7_told 8 = .ok (.imul, 1) := by decide +kernel
theorem dX7_told_9 : decode cX7_told 9 = .ok (.iload_n 2, 1) := by decide +kernel
theorem dX7_told_10 : decode cX7_told 10 = .ok (.iadd, 1) := by decide +kernel
theorem dX7_told_11 : decode cX7_told 11 = .ok (.laload, 1) := by decide +kernel
theorem dX7_told_12 : decode cX7_told 12 = .ok (.l2i, 1) := by decide +kernel
theorem dX7_told_13 : decode cX7_told 13 = .ok (.ireturn, 1) := by decide +kernel
theorem dX7_fits_0 : decode cX7_fits 0 = .ok (.aload_n 0, 1) := by decide +kernel
theorem dX7_fits_1 : decode cX7_fits 1 = .ok (.iload_n 1, 1) := by decide +kernel
theorem dX7_fits_2 : decode cX7_fits 2 = .ok (.invokevirtual 111, 3) := by decide +kernel
theorem dX7_fits_5 : decode cX7_fits 5 = .ok (.istore_n 2, 1) := by decide +kernel
theorem dX7_fits_6 : decode cX7_fits 6 = .ok (.iload_n 2, 1) := by decide +kernel
theorem dX7_fits_7 : decode cX7_fits 7 = .ok (.ifCond .ge 9, 3) := by decide +kernel
theorem dX7_fits_10 : decode cX7_fits 10 = .ok (.aload_n 0, 1) := by decide +kernel
theorem dX7_fits_11 : decode cX7_fits 11 = .ok (.iload_n 2, 1) := by decide +kernel
theorem dX7_fits_12 : decode cX7_fits 12 = .ok (.invokevirtual 90, 3) := by decide +kernel
theorem dX7_fits_15 : decode cX7_fits 15 = .ok (.ireturn, 1) := by decide +kernel
theorem dX7_fits_16 : decode cX7_fits 16 = .ok (.aload_n 0, 1) := by decide +kernel
theorem dX7_fits_17 : decode cX7_fits 17 = .ok (.getfield 13, 3) := by decide +kernel
theorem dX7_fits_20 : decode cX7_fits 20 = .ok (.iload_n 1, 1) := by decide +kernel
theorem dX7_fits_21 : decode cX7_fits 21 = .ok (.iaload, 1) := by decide +kernel
theorem dX7_fits_22 : decode cX7_fits 22 = .ok (.aload_n 0, 1) := by decide +kernel
theorem dX7_fits_23 : decode cX7_fits 23 = .ok (.getfield 94, 3) := by decide +kernel
theorem dX7_fits_26 : decode cX7_fits 26 = .ok (.if_icmp .ge 10, 3) := by decide +kernel
theorem dX7_fits_29 : decode cX7_fits 29 = .ok (.aload_n 0, 1) := by decide +kernel
theorem dX7_fits_30 : decode cX7_fits 30 = .ok (.bipush (-5), 2) := by decide +kernel
theorem dX7_fits_32 : decode cX7_fits 32 = .ok (.invokevirtual 90, 3) := by decide +kernel
theorem dX7_fits_35 : decode cX7_fits 35 = .ok (.ireturn, 1) := by decide +kernel
theorem dX7_fits_36 : decode cX7_fits 36 = .ok (.iconst 0, 1) := by decide +kernel
theorem dX7_fits_37 : decode cX7_fits 37 = .ok (.istore_n 3, 1) := by decide +kernel
theorem dX7_fits_38 : decode cX7_fits 38 = .ok (.iconst 0, 1) := by decide +kernel
theorem dX7_fits_39 : decode cX7_fits 39 = .ok (.istore 4, 2) := by decide +kernel
theorem dX7_fits_41 : decode cX7_fits 41 = .ok (.iload 4, 2) := by decide +kernel
theorem dX7_fits_43 : decode cX7_fits 43 = .ok (.aload_n 0, 1) := by decide +kernel
theorem dX7_fits_44 : decode cX7_fits 44 = .ok (.getfield 94, 3) := by decide +kernel
theorem dX7_fits_47 : decode cX7_fits 47 = .ok (.if_icmp .ge 119, 3) := by decide +kernel
theorem dX7_fits_50 : decode cX7_fits 50 = .ok (.aload_n 0, 1) := by decide +kernel
theorem dX7_fits_51 : decode cX7_fits 51 = .ok (.iload 4, 2) := by decide +kernel
theorem dX7_fits_53 : decode cX7_fits 53 = .ok (.invokevirtual 215, 3) := by decide +kernel
theorem dX7_fits_56 : decode cX7_fits 56 = .ok (.ifCond .ne 6, 3) := by decide +kernel
theorem dX7_fits_59 : decode cX7_fits 59 = .ok (.goto 101, 3) := by decide +kernel
theorem dX7_fits_62 : decode cX7_fits 62 = .ok (.aload_n 0, 1) := by decide +kernel
theorem dX7_fits_63 : decode cX7_fits 63 = .ok (.aload_n 0, 1) := by decide +kernel
theorem dX7_fits_64 : decode cX7_fits 64 = .ok (.getfield 65, 3) := by decide +kernel
theorem dX7_fits_67 : decode cX7_fits 67 = .ok (.invokevirtual 221, 3) := by decide +kernel
theorem dX7_fits_70 : decode cX7_fits 70 = .ok (.aload_n 0, 1) := by decide +kernel
theorem dX7_fits_71 : decode cX7_fits 71 = .ok (.iload 4, 2) := by decide +kernel
theorem dX7_fits_73 : decode cX7_fits 73 = .ok (.invokevirtual 218, 3) := by decide +kernel
theorem dX7_fits_76 : decode cX7_fits 76 = .ok (.pop, 1) := by decide +kernel
theorem dX7_fits_77 : decode cX7_fits 77 = .ok (.iconst 1, 1) := by decide +kernel
theorem dX7_fits_78 : decode cX7_fits 78 = .ok (.istore 5, 2) := by decide +kernel
theorem dX7_fits_80 : decode cX7_fits 80 = .ok (.iconst 0, 1) := by decide +kernel
theorem dX7_fits_81 : decode cX7_fits 81 = .ok (.istore 6, 2) := by decide +kernel
theorem dX7_fits_83 : decode cX7_fits 83 = .ok (.iload 6, 2) := by decide +kernel
theorem dX7_fits_85 : decode cX7_fits 85 = .ok (.aload_n 0, 1) := by decide +kernel
theorem dX7_fits_86 : decode cX7_fits 86 = .ok (.getfield 94, 3) := by decide +kernel
theorem dX7_fits_89 : decode cX7_fits 89 = .ok (.if_icmp .ge 51, 3) := by decide +kernel
theorem dX7_fits_92 : decode cX7_fits 92 = .ok (.aload_n 0, 1) := by decide +kernel
theorem dX7_fits_93 : decode cX7_fits 93 = .ok (.getfield 32, 3) := by decide +kernel
theorem dX7_fits_96 : decode cX7_fits 96 = .ok (.iload 6, 2) := by decide +kernel
theorem dX7_fits_98 : decode cX7_fits 98 = .ok (.iaload, 1) := by decide +kernel
theorem dX7_fits_99 : decode cX7_fits 99 = .ok (.iconst 1, 1) := by decide +kernel
theorem dX7_fits_100 : decode cX7_fits 100 = .ok (.if_icmp .ne 34, 3) := by decide +kernel
theorem dX7_fits_103 : decode cX7_fits 103 = .ok (.aload_n 0, 1) := by decide +kernel
theorem dX7_fits_104 : decode cX7_fits 104 = .ok (.iload_n 1, 1) := by decide +kernel
theorem dX7_fits_105 : decode cX7_fits 105 = .ok (.iload 6, 2) := by decide +kernel
theorem dX7_fits_107 : decode cX7_fits 107 = .ok (.invokevirtual 291, 3) := by decide +kernel
theorem dX7_fits_110 : decode cX7_fits 110 = .ok (.iconst (-1), 1) := by decide +kernel
theorem dX7_fits_111 : decode cX7_fits 111 = .ok (.if_icmp .eq 23, 3) := by decide +kernel
theorem dX7_fits_114 : decode cX7_fits 114 = .ok (.aload_n 0, 1) := by decide +kernel
theorem dX7_fits_115 : decode cX7_fits 115 = .ok (.iload_n 1, 1) := by decide +kernel
theorem dX7_fits_116 : decode cX7_fits 116 = .ok (.iload 6, 2) := by decide +kernel
theorem dX7_fits_118 : decode cX7_fits 118 = .ok (.invokevirtual 291, 3) := by decide +kernel
theorem dX7_fits_121 : decode cX7_fits 121 = .ok (.aload_n 0, 1) := by decide +kernel
theorem dX7_fits_122 : decode cX7_fits 122 = .ok (.getfield 35, 3) := by decide +kernel
theorem dX7_fits_125 : decode cX7_fits 125 = .ok (.iload 6, 2) := by decide +kernel
theorem dX7_fits_127 : decode cX7_fits 127 = .ok (.iaload, 1) := by decide +kernel
theorem dX7_fits_128 : decode cX7_fits 128 = .ok (.if_icmp .eq 6, 3) := by decide +kernel
theorem dX7_fits_131 : decode cX7_fits 131 = .ok (.iconst 0, 1) := by decide +kernel
theorem dX7_fits_132 : decode cX7_fits 132 = .ok (.istore 5, 2) := by decide +kernel
theorem dX7_fits_134 : decode cX7_fits 134 = .ok (.iinc 6 1, 3) := by decide +kernel
theorem dX7_fits_137 : decode cX7_fits 137 = .ok (.goto (-54), 3) := by decide +kernel
theorem dX7_fits_140 : decode cX7_fits 140 = .ok (.aload_n 0, 1) := by decide +kernel
theorem dX7_fits_141 : decode cX7_fits 141 = .ok (.aload_n 0, 1) := by decide +kernel
theorem dX7_fits_142 : decode cX7_fits 142 = .ok (.getfield 65, 3) := by decide +kernel
theorem dX7_fits_145 : decode cX7_fits 145 = .ok (.invokevirtual 229, 3) := by decide +kernel
theorem dX7_fits_148 : decode cX7_fits 148 = .ok (.iload 5, 2) := by decide +kernel
theorem dX7_fits_150 : decode cX7_fits 150 = .ok (.ifCond .eq 10, 3) := by decide +kernel
theorem dX7_fits_153 : decode cX7_fits 153 = .ok (.iload_n 3, 1) := by decide +kernel
theorem dX7_fits_154 : decode cX7_fits 154 = .ok (.iconst 1, 1) := by decide +kernel
theorem dX7_fits_155 : decode cX7_fits 155 = .ok (.iload 4, 2) := by decide +kernel
theorem dX7_fits_157 : decode cX7_fits 157 = .ok (.ishl, 1) := by decide +kernel
theorem dX7_fits_158 : decode cX7_fits 158 = .ok (.ior, 1) := by decide +kernel
theorem dX7_fits_159 : decode cX7_fits 159 = .ok (.istore_n 3, 1) := by decide +kernel
theorem dX7_fits_160 : decode cX7_fits 160 = .ok (.iinc 4 1, 3) := by decide +kernel
theorem dX7_fits_163 : decode cX7_fits 163 = .ok (.goto (-122), 3) := by decide +kernel
theorem dX7_fits_166 : decode cX7_fits 166 = .ok (.iload_n 3, 1) := by decide +kernel
theorem dX7_fits_167 : decode cX7_fits 167 = .ok (.ireturn, 1) := by decide +kernel
theorem dX7_there_0 : decode cX7_there 0 = .ok (.iconst 0, 1) := by decide +kernel
theorem dX7_there_1 : decode cX7_there 1 = .ok (.istore_n 1, 1) := by decide +kernel
theorem dX7_there_2 : decode cX7_there 2 = .ok (.iconst 0, 1) := by decide +kernel
theorem dX7_there_3 : decode cX7_there 3 = .ok (.istore_n 2, 1) := by decide +kernel
theorem dX7_there_4 : decode cX7_there 4 = .ok (.iload_n 2, 1) := by decide +kernel
theorem dX7_there_5 : decode cX7_there 5 = .ok (.aload_n 0, 1) := by decide +kernel
theorem dX7_there_6 : decode cX7_there 6 = .ok (.getfield 94, 3) := by decide +kernel
theorem dX7_there_9 : decode cX7_there 9 = .ok (.if_icmp .ge 25, 3) := by decide +kernel
theorem dX7_there_12 : decode cX7_there 12 = .ok (.aload_n 0, 1) := by decide +kernel
theorem dX7_there_13 : decode cX7_there 13 = .ok (.getfield 32, 3) := by decide +kernel
theorem dX7_there_16 : decode cX7_there 16 = .ok (.iload_n 2, 1) := by decide +kernel
theorem dX7_there_17 : decode cX7_there 17 = .ok (.iaload, 1) := by decide +kernel
theorem dX7_there_18 : decode cX7_there 18 = .ok (.iconst 1, 1) := by decide +kernel
theorem dX7_there_19 : decode cX7_there 19 = .ok (.if_icmp .ne 9, 3) := by decide +kernel
theorem dX7_there_22 : decode cX7_there 22 = .ok (.iload_n 1, 1) := by decide +kernel
theorem dX7_there_23 : decode cX7_there 23 = .ok (.iconst 1, 1) := by decide +kernel
theorem dX7_there_24 : decode cX7_there 24 = .ok (.iload_n 2, 1) := by decide +kernel
theorem dX7_there_25 : decode cX7_there 25 = .ok (.ishl, 1) := by decide +kernel
theorem dX7_there_26 : decode cX7_there 26 = .ok (.ior, 1) := by decide +kernel
theorem dX7_there_27 : decode cX7_there 27 = .ok (.istore_n 1, 1) := by decide +kernel
theorem dX7_there_28 : decode cX7_there 28 = .ok (.iinc 2 1, 3) := by decide +kernel
theorem dX7_there_31 : decode cX7_there 31 = .ok (.goto (-27), 3) := by decide +kernel
theorem dX7_there_34 : decode cX7_there 34 = .ok (.iload_n 1, 1) := by decide +kernel
theorem dX7_there_35 : decode cX7_there 35 = .ok (.ireturn, 1) := by decide +kernel
theorem dX7_isLit_0 : decode cX7_isLit 0 = .ok (.iconst 0, 1) := by decide +kernel
theorem dX7_isLit_1 : decode cX7_isLit 1 = .ok (.istore_n 3, 1) := by decide +kernel
theorem dX7_isLit_2 : decode cX7_isLit 2 = .ok (.iload_n 3, 1) := by decide +kernel
theorem dX7_isLit_3 : decode cX7_isLit 3 = .ok (.aload_n 0, 1) := by decide +kernel
theorem dX7_isLit_4 : decode cX7_isLit 4 = .ok (.getfield 94, 3) := by decide +kernel
theorem dX7_isLit_7 : decode cX7_isLit 7 = .ok (.if_icmp .ge 36, 3) := by decide +kernel
theorem dX7_isLit_10 : decode cX7_isLit 10 = .ok (.iload_n 1, 1) := by decide +kernel
theorem dX7_isLit_11 : decode cX7_isLit 11 = .ok (.iload_n 3, 1) := by decide +kernel
theorem dX7_isLit_12 : decode cX7_isLit 12 = .ok (.invokestatic 125, 3) := by decide +kernel
theorem dX7_isLit_15 : decode cX7_isLit 15 = .ok (.ifCond .eq 22, 3) := by decide +kernel
theorem dX7_isLit_18 : decode cX7_isLit 18 = .ok (.iload_n 2, 1) := by decide +kernel
theorem dX7_isLit_19 : decode cX7_isLit 19 = .ok (.iload_n 3, 1) := by decide +kernel
theorem dX7_isLit_20 : decode cX7_isLit 20 = .ok (.invokestatic 125, 3) := by decide +kernel
theorem dX7_isLit_23 : decode cX7_isLit 23 = .ok (.ifCond .ne 14, 3) := by decide +kernel
theorem dX7_isLit_26 : decode cX7_isLit 26 = .ok (.aload_n 0, 1) := by decide +kernel
theorem dX7_isLit_27 : decode cX7_isLit 27 = .ok (.iload_n 3, 1) := by decide +kernel
theorem dX7_isLit_28 : decode cX7_isLit 28 = .ok (.iload_n 2, 1) := by decide +kernel
theorem dX7_isLit_29 : decode cX7_isLit 29 = .ok (.invokevirtual 262, 3) := by decide +kernel
theorem dX7_isLit_32 : decode cX7_isLit 32 = .ok (.ifCond .ne 5, 3) := by decide +kernel
theorem dX7_isLit_35 : decode cX7_isLit 35 = .ok (.iconst 0, 1) := by decide +kernel
theorem dX7_isLit_36 : decode cX7_isLit 36 = .ok (.ireturn, 1) := by decide +kernel
theorem dX7_isLit_37 : decode cX7_isLit 37 = .ok (.iinc 3 1, 3) := by decide +kernel
theorem dX7_isLit_40 : decode cX7_isLit 40 = .ok (.goto (-38), 3) := by decide +kernel
theorem dX7_isLit_43 : decode cX7_isLit 43 = .ok (.iconst 1, 1) := by decide +kernel
theorem dX7_isLit_44 : decode cX7_isLit 44 = .ok (.ireturn, 1) := by decide +kernel
theorem dX7_fires_0 : decode cX7_fires 0 = .ok (.iload_n 1, 1) := by decide +kernel
theorem dX7_fires_1 : decode cX7_fires 1 = .ok (.ifCond .lt 13, 3) := by decide +kernel
theorem dX7_fires_4 : decode cX7_fires 4 = .ok (.iload_n 1, 1) := by decide +kernel
theorem dX7_fires_5 : decode cX7_fires 5 = .ok (.iconst 1, 1) := by decide +kernel
theorem dX7_fires_6 : decode cX7_fires 6 = .ok (.aload_n 0, 1) := by decide +kernel
theorem dX7_fires_7 : decode cX7_fires 7 = .ok (.getfield 94, 3) := by decide +kernel
theorem dX7_fires_10 : decode cX7_fires 10 = .ok (.ishl, 1) := by decide +kernel
theorem dX7_fires_11 : decode cX7_fires 11 = .ok (.if_icmp .lt 10, 3) := by decide +kernel
theorem dX7_fires_14 : decode cX7_fires 14 = .ok (.aload_n 0, 1) := by decide +kernel
theorem dX7_fires_15 : decode cX7_fires 15 = .ok (.bipush (-6), 2) := by decide +kernel
theorem dX7_fires_17 : decode cX7_fires 17 = .ok (.invokevirtual 90, 3) := by decide +kernel
theorem dX7_fires_20 : decode cX7_fires 20 = .ok (.ireturn, 1) := by decide +kernel
theorem dX7_fires_21 : decode cX7_fires 21 = .ok (.aload_n 0, 1) := by decide +kernel
theorem dX7_fires_22 : decode cX7_fires 22 = .ok (.invokevirtual 294, 3) := by decide +kernel
theorem dX7_fires_25 : decode cX7_fires 25 = .ok (.istore_n 2, 1) := by decide +kernel
theorem dX7_fires_26 : decode cX7_fires 26 = .ok (.iconst (-1), 1) := by decide +kernel
theorem dX7_fires_27 : decode cX7_fires 27 = .ok (.istore_n 3, 1) := by decide +kernel
theorem dX7_fires_28 : decode cX7_fires 28 = .ok (.iconst 0, 1) := by decide +kernel
theorem dX7_fires_29 : decode cX7_fires 29 = .ok (.istore 4, 2) := by decide +kernel
theorem dX7_fires_31 : decode cX7_fires 31 = .ok (.iload 4, 2) := by decide +kernel
theorem dX7_fires_33 : decode cX7_fires 33 = .ok (.iconst 1, 1) := by decide +kernel
theorem dX7_fires_34 : decode cX7_fires 34 = .ok (.aload_n 0, 1) := by decide +kernel
theorem dX7_fires_35 : decode cX7_fires 35 = .ok (.getfield 94, 3) := by decide +kernel
theorem dX7_fires_38 : decode cX7_fires 38 = .ok (.ishl, 1) := by decide +kernel
theorem dX7_fires_39 : decode cX7_fires 39 = .ok (.if_icmp .ge 53, 3) := by decide +kernel
theorem dX7_fires_42 : decode cX7_fires 42 = .ok (.iload 4, 2) := by decide +kernel
theorem dX7_fires_44 : decode cX7_fires 44 = .ok (.iload_n 2, 1) := by decide +kernel
theorem dX7_fires_45 : decode cX7_fires 45 = .ok (.iconst (-1), 1) := by decide +kernel
theorem dX7_fires_46 : decode cX7_fires 46 = .ok (.ixor, 1) := by decide +kernel
theorem dX7_fires_47 : decode cX7_fires 47 = .ok (.iand, 1) := by decide +kernel
theorem dX7_fires_48 : decode cX7_fires 48 = .ok (.ifCond .ne 38, 3) := by decide +kernel
theorem dX7_fires_51 : decode cX7_fires 51 = .ok (.iload_n 3, 1) := by decide +kernel
theorem dX7_fires_52 : decode cX7_fires 52 = .ok (.iconst (-1), 1) := by decide +kernel
theorem dX7_fires_53 : decode cX7_fires 53 = .ok (.if_icmp .eq 18, 3) := by decide +kernel
theorem dX7_fires_56 : decode cX7_fires 56 = .ok (.iload 4, 2) := by decide +kernel
theorem dX7_fires_58 : decode cX7_fires 58 = .ok (.invokestatic 297, 3) := by decide +kernel
theorem dX7_fires_61 : decode cX7_fires 61 = .ok (.iload_n 3, 1) := by decide +kernel
theorem dX7_fires_62 : decode cX7_fires 62 = .ok (.invokestatic 297, 3) := by decide +kernel
theorem dX7_fires_65 : decode cX7_fires 65 = .ok (.if_icmp .lt 6, 3) := by decide +kernel
theorem dX7_fires_68 : decode cX7_fires 68 = .ok (.goto 18, 3) := by decide +kernel
theorem dX7_fires_71 : decode cX7_fires 71 = .ok (.aload_n 0, 1) := by decide +kernel
theorem dX7_fires_72 : decode cX7_fires 72 = .ok (.iload_n 1, 1) := by decide +kernel
theorem dX7_fires_73 : decode cX7_fires 73 = .ok (.iload_n 2, 1) := by decide +kernel
theorem dX7_fires_74 : decode cX7_fires 74 = .ok (.iand, 1) := by decide +kernel
theorem dX7_fires_75 : decode cX7_fires 75 = .ok (.iload 4, 2) := by decide +kernel
theorem dX7_fires_77 : decode cX7_fires 77 = .ok (.invokevirtual 302, 3) := by decide +kernel
theorem dX7_fires_80 : decode cX7_fires 80 = .ok (.ifCond .eq 6, 3) := by decide +kernel
theorem dX7_fires_83 : decode cX7_fires 83 = .ok (.iload 4, 2) := by decide +kernel
theorem dX7_fires_85 : decode cX7_fires 85 = .ok (.istore_n 3, 1) := by decide +kernel
theorem dX7_fires_86 : decode cX7_fires 86 = .ok (.iinc 4 1, 3) := by decide +kernel
theorem dX7_fires_89 : decode cX7_fires 89 = .ok (.goto (-58), 3) := by decide +kernel
theorem dX7_fires_92 : decode cX7_fires 92 = .ok (.iload_n 3, 1) := by decide +kernel
theorem dX7_fires_93 : decode cX7_fires 93 = .ok (.ireturn, 1) := by decide +kernel
theorem dX7_seenBy_0 : decode cX7_seenBy 0 = .ok (.iconst 0, 1) := by decide +kernel
theorem dX7_seenBy_1 : decode cX7_seenBy 1 = .ok (.istore_n 2, 1) := by decide +kernel
theorem dX7_seenBy_2 : decode cX7_seenBy 2 = .ok (.iconst 0, 1) := by decide +kernel
theorem dX7_seenBy_3 : decode cX7_seenBy 3 = .ok (.istore_n 3, 1) := by decide +kernel
theorem dX7_seenBy_4 : decode cX7_seenBy 4 = .ok (.iload_n 3, 1) := by decide +kernel
theorem dX7_seenBy_5 : decode cX7_seenBy 5 = .ok (.aload_n 0, 1) := by decide +kernel
theorem dX7_seenBy_6 : decode cX7_seenBy 6 = .ok (.getfield 94, 3) := by decide +kernel
theorem dX7_seenBy_9 : decode cX7_seenBy 9 = .ok (.if_icmp .ge 21, 3) := by decide +kernel
theorem dX7_seenBy_12 : decode cX7_seenBy 12 = .ok (.aload_n 0, 1) := by decide +kernel
theorem dX7_seenBy_13 : decode cX7_seenBy 13 = .ok (.iload_n 3, 1) := by decide +kernel
theorem dX7_seenBy_14 : decode cX7_seenBy 14 = .ok (.iload_n 1, 1) := by decide +kernel
theorem dX7_seenBy_15 : decode cX7_seenBy 15 = .ok (.invokevirtual 160, 3) := by decide +kernel
theorem dX7_seenBy_18 : decode cX7_seenBy 18 = .ok (.ifCond .eq 6, 3) := by decide +kernel
theorem dX7_seenBy_21 : decode cX7_seenBy 21 = .ok (.iinc 2 1, 3) := by decide +kernel
theorem dX7_seenBy_24 : decode cX7_seenBy 24 = .ok (.iinc 3 1, 3) := by decide +kernel
theorem dX7_seenBy_27 : decode cX7_seenBy 27 = .ok (.goto (-23), 3) := by decide +kernel
theorem dX7_seenBy_30 : decode cX7_seenBy 30 = .ok (.iload_n 2, 1) := by decide +kernel
theorem dX7_seenBy_31 : decode cX7_seenBy 31 = .ok (.ireturn, 1) := by decide +kernel
theorem dX7_send_0 : decode cX7_send 0 = .ok (.iconst (-1), 1) := by decide +kernel
theorem dX7_send_1 : decode cX7_send 1 = .ok (.istore_n 1, 1) := by decide +kernel
theorem dX7_send_2 : decode cX7_send 2 = .ok (.iconst 0, 1) := by decide +kernel
theorem dX7_send_3 : decode cX7_send 3 = .ok (.istore_n 2, 1) := by decide +kernel
theorem dX7_send_4 : decode cX7_send 4 = .ok (.iload_n 2, 1) := by decide +kernel
theorem dX7_send_5 : decode cX7_send 5 = .ok (.aload_n 0, 1) := by decide +kernel
theorem dX7_send_6 : decode cX7_send 6 = .ok (.getfield 94, 3) := by decide +kernel
theorem dX7_send_9 : decode cX7_send 9 = .ok (.if_icmp .ge 37, 3) := by decide +kernel
theorem dX7_send_12 : decode cX7_send 12 = .ok (.aload_n 0, 1) := by decide +kernel
theorem dX7_send_13 : decode cX7_send 13 = .ok (.iload_n 2, 1) := by decide +kernel
theorem dX7_send_14 : decode cX7_send 14 = .ok (.invokevirtual 215, 3) := by decide +kernel
theorem dX7_send_17 : decode cX7_send 17 = .ok (.ifCond .eq 23, 3) := by decide +kernel
theorem dX7_send_20 : decode cX7_send 20 = .ok (.iload_n 1, 1) := by decide +kernel
theorem dX7_send_21 : decode cX7_send 21 = .ok (.iconst (-1), 1) := by decide +kernel
theorem dX7_send_22 : decode cX7_send 22 = .ok (.if_icmp .eq 16, 3) := by decide +kernel
theorem dX7_send_25 : decode cX7_send 25 = .ok (.aload_n 0, 1) := by decide +kernel
theorem dX7_send_26 : decode cX7_send 26 = .ok (.iload_n 2, 1) := by decide +kernel
theorem dX7_send_27 : decode cX7_send 27 = .ok (.invokevirtual 305, 3) := by decide +kernel
theorem dX7_send_30 : decode cX7_send 30 = .ok (.aload_n 0, 1) := by decide +kernel
theorem dX7_send_31 : decode cX7_send 31 = .ok (.iload_n 1, 1) := by decide +kernel
theorem dX7_send_32 : decode cX7_send 32 = .ok (.invokevirtual 305, 3) := by decide +kernel
theorem dX7_send_35 : decode cX7_send 35 = .ok (.if_icmp .le 5, 3) := by decide +kernel
theorem dX7_send_38 : decode cX7_send 38 = .ok (.iload_n 2, 1) := by decide +kernel
theorem dX7_send_39 : decode cX7_send 39 = .ok (.istore_n 1, 1) := by decide +kernel
theorem dX7_send_40 : decode cX7_send 40 = .ok (.iinc 2 1, 3) := by decide +kernel
theorem dX7_send_43 : decode cX7_send 43 = .ok (.goto (-39), 3) := by decide +kernel
theorem dX7_send_46 : decode cX7_send 46 = .ok (.iload_n 1, 1) := by decide +kernel
theorem dX7_send_47 : decode cX7_send 47 = .ok (.ireturn, 1) := by decide +kernel
theorem dX7_chain_0 : decode cX7_chain 0 = .ok (.aload_n 0, 1) := by decide +kernel
theorem dX7_chain_1 : decode cX7_chain 1 = .ok (.iload_n 1, 1) := by decide +kernel
theorem dX7_chain_2 : decode cX7_chain 2 = .ok (.invokevirtual 101, 3) := by decide +kernel
theorem dX7_chain_5 : decode cX7_chain 5 = .ok (.ifCond .eq 11, 3) := by decide +kernel
theorem dX7_chain_8 : decode cX7_chain 8 = .ok (.aload_n 0, 1) := by decide +kernel
theorem dX7_chain_9 : decode cX7_chain 9 = .ok (.iload_n 2, 1) := by decide +kernel
theorem dX7_chain_10 : decode cX7_chain 10 = .ok (.invokevirtual 101, 3) := by decide +kernel
theorem dX7_chain_13 : decode cX7_chain 13 = .ok (.ifCond .ne 9, 3) := by decide +kernel
theorem dX7_chain_16 : decode cX7_chain 16 = .ok (.aload_n 0, 1) := by decide +kernel
theorem dX7_chain_17 : decode cX7_chain 17 = .ok (.iconst (-1), 1) := by decide +kernel
theorem dX7_chain_18 : decode cX7_chain 18 = .ok (.invokevirtual 253, 3) := by decide +kernel
theorem dX7_chain_21 : decode cX7_chain 21 = .ok (.ireturn, 1) := by decide +kernel
theorem dX7_chain_22 : decode cX7_chain 22 = .ok (.iload_n 1, 1) := by decide +kernel
theorem dX7_chain_23 : decode cX7_chain 23 = .ok (.iload_n 2, 1) := by decide +kernel
theorem dX7_chain_24 : decode cX7_chain 24 = .ok (.if_icmp .eq 19, 3) := by decide +kernel
theorem dX7_chain_27 : decode cX7_chain 27 = .ok (.aload_n 0, 1) := by decide +kernel
theorem dX7_chain_28 : decode cX7_chain 28 = .ok (.iload_n 1, 1) := by decide +kernel
theorem dX7_chain_29 : decode cX7_chain 29 = .ok (.invokevirtual 215, 3) := by decide +kernel
theorem dX7_chain_32 : decode cX7_chain 32 = .ok (.ifCond .eq 11, 3) := by decide +kernel
theorem dX7_chain_35 : decode cX7_chain 35 = .ok (.aload_n 0, 1) := by decide +kernel
theorem dX7_chain_36 : decode cX7_chain 36 = .ok (.iload_n 2, 1) := by decide +kernel
theorem dX7_chain_37 : decode cX7_chain 37 = .ok (.invokevirtual 215, 3) := by decide +kernel
theorem dX7_chain_40 : decode cX7_chain 40 = .ok (.ifCond .ne 10, 3) := by decide +kernel
theorem dX7_chain_43 : decode cX7_chain 43 = .ok (.aload_n 0, 1) := by decide +kernel
theorem dX7_chain_44 : decode cX7_chain 44 = .ok (.bipush (-6), 2) := by decide +kernel
theorem dX7_chain_46 : decode cX7_chain 46 = .ok (.invokevirtual 253, 3) := by decide +kernel
theorem dX7_chain_49 : decode cX7_chain 49 = .ok (.ireturn, 1) := by decide +kernel
theorem dX7_chain_50 : decode cX7_chain 50 = .ok (.iconst 1, 1) := by decide +kernel
theorem dX7_chain_51 : decode cX7_chain 51 = .ok (.iload_n 1, 1) := by decide +kernel
theorem dX7_chain_52 : decode cX7_chain 52 = .ok (.ishl, 1) := by decide +kernel
theorem dX7_chain_53 : decode cX7_chain 53 = .ok (.istore_n 3, 1) := by decide +kernel
theorem dX7_chain_54 : decode cX7_chain 54 = .ok (.iconst 0, 1) := by decide +kernel
theorem dX7_chain_55 : decode cX7_chain 55 = .ok (.istore 4, 2) := by decide +kernel
theorem dX7_chain_57 : decode cX7_chain 57 = .ok (.iload 4, 2) := by decide +kernel
theorem dX7_chain_59 : decode cX7_chain 59 = .ok (.bipush 10, 2) := by decide +kernel
theorem dX7_chain_61 : decode cX7_chain 61 = .ok (.if_icmp .ge 64, 3) := by decide +kernel
theorem dX7_chain_64 : decode cX7_chain 64 = .ok (.iload_n 3, 1) := by decide +kernel
theorem dX7_chain_65 : decode cX7_chain 65 = .ok (.istore 5, 2) := by decide +kernel
theorem dX7_chain_67 : decode cX7_chain 67 = .ok (.iconst 0, 1) := by decide +kernel
theorem dX7_chain_68 : decode cX7_chain 68 = .ok (.istore 6, 2) := by decide +kernel
theorem dX7_chain_70 : decode cX7_chain 70 = .ok (.iload 6, 2) := by decide +kernel
theorem dX7_chain_72 : decode cX7_chain 72 = .ok (.aload_n 0, 1) := by decide +kernel
theorem dX7_chain_73 : decode cX7_chain 73 = .ok (.getfield 94, 3) := by decide +kernel
theorem dX7_chain_76 : decode cX7_chain 76 = .ok (.if_icmp .ge 28, 3) := by decide +kernel
theorem dX7_chain_79 : decode cX7_chain 79 = .ok (.aload_n 0, 1) := by decide +kernel
theorem dX7_chain_80 : decode cX7_chain 80 = .ok (.iload 6, 2) := by decide +kernel
theorem dX7_chain_82 : decode cX7_chain 82 = .ok (.iload_n 3, 1) := by decide +kernel
theorem dX7_chain_83 : decode cX7_chain 83 = .ok (.invokevirtual 262, 3) := by decide +kernel
theorem dX7_chain_86 : decode cX7_chain 86 = .ok (.ifCond .eq 12, 3) := by decide +kernel
theorem dX7_chain_89 : decode cX7_chain 89 = .ok (.iload 5, 2) := by decide +kernel
theorem dX7_chain_91 : decode cX7_chain 91 = .ok (.iconst 1, 1) := by decide +kernel
theorem dX7_chain_92 : decode cX7_chain 92 = .ok (.iload 6, 2) := by decide +kernel
theorem dX7_chain_94 : decode cX7_chain 94 = .ok (.ishl, 1) := by decide +kernel
theorem dX7_chain_95 : decode cX7_chain 95 = .ok (.ior, 1) := by decide +kernel
theorem dX7_chain_96 : decode cX7_chain 96 = .ok (.istore 5, 2) := by decide +kernel
theorem dX7_chain_98 : decode cX7_chain 98 = .ok (.iinc 6 1, 3) := by decide +kernel
theorem dX7_chain_101 : decode cX7_chain 101 = .ok (.goto (-31), 3) := by decide +kernel
theorem dX7_chain_104 : decode cX7_chain 104 = .ok (.iload 5, 2) := by decide +kernel
theorem dX7_chain_106 : decode cX7_chain 106 = .ok (.iload_n 2, 1) := by decide +kernel
theorem dX7_chain_107 : decode cX7_chain 107 = .ok (.invokestatic 125, 3) := by decide +kernel
theorem dX7_chain_110 : decode cX7_chain 110 = .ok (.ifCond .eq 6, 3) := by decide +kernel
theorem dX7_chain_113 : decode cX7_chain 113 = .ok (.iload 4, 2) := by decide +kernel
theorem dX7_chain_115 : decode cX7_chain 115 = .ok (.ireturn, 1) := by decide +kernel
theorem dX7_chain_116 : decode cX7_chain 116 = .ok (.iload 5, 2) := by decide +kernel
theorem dX7_chain_118 : decode cX7_chain 118 = .ok (.istore_n 3, 1) := by decide +kernel
theorem dX7_chain_119 : decode cX7_chain 119 = .ok (.iinc 4 1, 3) := by decide +kernel
theorem dX7_chain_122 : decode cX7_chain 122 = .ok (.goto (-65), 3) := by decide +kernel
theorem dX7_chain_125 : decode cX7_chain 125 = .ok (.iconst (-1), 1) := by decide +kernel
theorem dX7_chain_126 : decode cX7_chain 126 = .ok (.ireturn, 1) := by decide +kernel
theorem dX7_lacks_0 : decode cX7_lacks 0 = .ok (.iload_n 1, 1) := by decide +kernel
theorem dX7_lacks_1 : decode cX7_lacks 1 = .ok (.iconst 0, 1) := by decide +kernel
theorem dX7_lacks_2 : decode cX7_lacks 2 = .ok (.iconst 1, 1) := by decide +kernel
theorem dX7_lacks_3 : decode cX7_lacks 3 = .ok (.invokestatic 97, 3) := by decide +kernel
theorem dX7_lacks_6 : decode cX7_lacks 6 = .ok (.ifCond .eq 26, 3) := by decide +kernel
theorem dX7_lacks_9 : decode cX7_lacks 9 = .ok (.iload_n 1, 1) := by decide +kernel
theorem dX7_lacks_10 : decode cX7_lacks 10 = .ok (.ifCond .ne 10, 3) := by decide +kernel
theorem dX7_lacks_13 : decode cX7_lacks 13 = .ok (.aload_n 0, 1) := by decide +kernel
theorem dX7_lacks_14 : decode cX7_lacks 14 = .ok (.getfield 105, 3) := by decide +kernel
theorem dX7_lacks_17 : decode cX7_lacks 17 = .ok (.ifCond .eq 15, 3) := by decide +kernel
theorem dX7_lacks_20 : decode cX7_lacks 20 = .ok (.iload_n 1, 1) := by decide +kernel
theorem dX7_lacks_21 : decode cX7_lacks 21 = .ok (.iconst 1, 1) := by decide +kernel
theorem dX7_lacks_22 : decode cX7_lacks 22 = .ok (.if_icmp .ne 17, 3) := by decide +kernel
theorem dX7_lacks_25 : decode cX7_lacks 25 = .ok (.aload_n 0, 1) := by decide +kernel
theorem dX7_lacks_26 : decode cX7_lacks 26 = .ok (.getfield 94, 3) := by decide +kernel
theorem dX7_lacks_29 : decode cX7_lacks 29 = .ok (.ifCond .ne 10, 3) := by decide +kernel
theorem dX7_lacks_32 : decode cX7_lacks 32 = .ok (.aload_n 0, 1) := by decide +kernel
theorem dX7_lacks_33 : decode cX7_lacks 33 = .ok (.bipush (-5), 2) := by decide +kernel
theorem dX7_lacks_35 : decode cX7_lacks 35 = .ok (.invokevirtual 90, 3) := by decide +kernel
theorem dX7_lacks_38 : decode cX7_lacks 38 = .ok (.ireturn, 1) := by decide +kernel
theorem dX7_lacks_39 : decode cX7_lacks 39 = .ok (.iload_n 1, 1) := by decide +kernel
theorem dX7_lacks_40 : decode cX7_lacks 40 = .ok (.ifCond .ne 10, 3) := by decide +kernel
theorem dX7_lacks_43 : decode cX7_lacks 43 = .ok (.aload_n 0, 1) := by decide +kernel
theorem dX7_lacks_44 : decode cX7_lacks 44 = .ok (.invokevirtual 308, 3) := by decide +kernel
theorem dX7_lacks_47 : decode cX7_lacks 47 = .ok (.goto 7, 3) := by decide +kernel
theorem dX7_lacks_50 : decode cX7_lacks 50 = .ok (.aload_n 0, 1) := by decide +kernel
theorem dX7_lacks_51 : decode cX7_lacks 51 = .ok (.invokevirtual 311, 3) := by decide +kernel
theorem dX7_lacks_54 : decode cX7_lacks 54 = .ok (.ireturn, 1) := by decide +kernel
theorem dX7_poorest_0 : decode cX7_poorest 0 = .ok (.iconst 0, 1) := by decide +kernel
theorem dX7_poorest_1 : decode cX7_poorest 1 = .ok (.istore_n 1, 1) := by decide +kernel
theorem dX7_poorest_2 : decode cX7_poorest 2 = .ok (.iconst (-1), 1) := by decide +kernel
theorem dX7_poorest_3 : decode cX7_poorest 3 = .ok (.istore_n 2, 1) := by decide +kernel
theorem dX7_poorest_4 : decode cX7_poorest 4 = .ok (.iconst 0, 1) := by decide +kernel
theorem dX7_poorest_5 : decode cX7_poorest 5 = .ok (.istore_n 3, 1) := by decide +kernel
theorem dX7_poorest_6 : decode cX7_poorest 6 = .ok (.iload_n 3, 1) := by decide +kernel
theorem dX7_poorest_7 : decode cX7_poorest 7 = .ok (.aload_n 0, 1) := by decide +kernel
theorem dX7_poorest_8 : decode cX7_poorest 8 = .ok (.getfield 105, 3) := by decide +kernel
theorem dX7_poorest_11 : decode cX7_poorest 11 = .ok (.if_icmp .ge 59, 3) := by decide +kernel
theorem dX7_poorest_14 : decode cX7_poorest 14 = .ok (.iconst 0, 1) := by decide +kernel
theorem dX7_poorest_15 : decode cX7_poorest 15 = .ok (.istore 4, 2) := by decide +kernel
theorem dX7_poorest_17 : decode cX7_poorest 17 = .ok (.iconst 0, 1) := by decide +kernel
theorem dX7_poorest_18 : decode cX7_poorest 18 = .ok (.istore 5, 2) := by decide +kernel
theorem dX7_poorest_20 : decode cX7_poorest 20 = .ok (.iload 5, 2) := by decide +kernel
theorem dX7_poorest_22 : decode cX7_poorest 22 = .ok (.bipush 100, 2) := by decide +kernel
theorem dX7_poorest_24 : decode cX7_poorest 24 = .ok (.if_icmp .ge 26, 3) := by decide +kernel
theorem dX7_poorest_27 : decode cX7_poorest 27 = .ok (.aload_n 0, 1) := by decide +kernel
theorem dX7_poorest_28 : decode cX7_poorest 28 = .ok (.iload_n 3, 1) := by decide +kernel
theorem dX7_poorest_29 : decode cX7_poorest 29 = .ok (.aload_n 0, 1) := by decide +kernel
theorem dX7_poorest_30 : decode cX7_poorest 30 = .ok (.iload 5, 2) := by decide +kernel
theorem dX7_poorest_32 : decode cX7_poorest 32 = .ok (.invokevirtual 268, 3) := by decide +kernel
theorem dX7_poorest_35 : decode cX7_poorest 35 = .ok (.invokevirtual 163, 3) := by decide +kernel
theorem dX7_poorest_38 : decode cX7_poorest 38 = .ok (.ifCond .ne 6, 3) := by decide +kernel
theorem dX7_poorest_41 : decode cX7_poorest 41 = .ok (.iinc 4 1, 3) := by decide +kernel
theorem dX7_poorest_44 : decode cX7_poorest 44 = .ok (.iinc 5 1, 3) := by decide +kernel
theorem dX7_poorest_47 : decode cX7_poorest 47 = .ok (.goto (-27), 3) := by decide +kernel
theorem dX7_poorest_50 : decode cX7_poorest 50 = .ok (.iload 4, 2) := by decide +kernel
theorem dX7_poorest_52 : decode cX7_poorest 52 = .ok (.iload_n 2, 1) := by decide +kernel
theorem dX7_poorest_53 : decode cX7_poorest 53 = .ok (.if_icmp .gt 6, 3) := by decide +kernel
theorem dX7_poorest_56 : decode cX7_poorest 56 = .ok (.goto 8, 3) := by decide +kernel
theorem dX7_poorest_59 : decode cX7_poorest 59 = .ok (.iload 4, 2) := by decide +kernel
theorem dX7_poorest_61 : decode cX7_poorest 61 = .ok (.istore_n 2, 1) := by decide +kernel
theorem dX7_poorest_62 : decode cX7_poorest 62 = .ok (.iload_n 3, 1) := by decide +kernel
theorem dX7_poorest_63 : decode cX7_poorest 63 = .ok (.istore_n 1, 1) := by decide +kernel
theorem dX7_poorest_64 : decode cX7_poorest 64 = .ok (.iinc 3 1, 3) := by decide +kernel
theorem dX7_poorest_67 : decode cX7_poorest 67 = .ok (.goto (-61), 3) := by decide +kernel
theorem dX7_poorest_70 : decode cX7_poorest 70 = .ok (.iload_n 1, 1) := by decide +kernel
theorem dX7_poorest_71 : decode cX7_poorest 71 = .ok (.ireturn, 1) := by decide +kernel
theorem dX7_saved_0 : decode cX7_saved 0 = .ok (.iconst 0, 1) := by decide +kernel
theorem dX7_saved_1 : decode cX7_saved 1 = .ok (.istore_n 1, 1) := by decide +kernel
theorem dX7_saved_2 : decode cX7_saved 2 = .ok (.iconst (-1), 1) := by decide +kernel
theorem dX7_saved_3 : decode cX7_saved 3 = .ok (.istore_n 2, 1) := by decide +kernel
theorem dX7_saved_4 : decode cX7_saved 4 = .ok (.iconst 0, 1) := by decide +kernel
theorem dX7_saved_5 : decode cX7_saved 5 = .ok (.istore_n 3, 1) := by decide +kernel
theorem dX7_saved_6 : decode cX7_saved 6 = .ok (.iload_n 3, 1) := by decide +kernel
theorem dX7_saved_7 : decode cX7_saved 7 = .ok (.aload_n 0, 1) := by decide +kernel
theorem dX7_saved_8 : decode cX7_saved 8 = .ok (.getfield 94, 3) := by decide +kernel
theorem dX7_saved_11 : decode cX7_saved 11 = .ok (.if_icmp .ge 80, 3) := by decide +kernel
theorem dX7_saved_14 : decode cX7_saved 14 = .ok (.aload_n 0, 1) := by decide +kernel
theorem dX7_saved_15 : decode cX7_saved 15 = .ok (.aload_n 0, 1) := by decide +kernel
theorem dX7_saved_16 : decode cX7_saved 16 = .ok (.getfield 65, 3) := by decide +kernel
theorem dX7_saved_19 : decode cX7_saved 19 = .ok (.invokevirtual 221, 3) := by decide +kernel
theorem dX7_saved_22 : decode cX7_saved 22 = .ok (.iconst 0, 1) := by decide +kernel
theorem dX7_saved_23 : decode cX7_saved 23 = .ok (.istore 4, 2) := by decide +kernel
theorem dX7_saved_25 : decode cX7_saved 25 = .ok (.iload 4, 2) := by decide +kernel
theorem dX7_saved_27 : decode cX7_saved 27 = .ok (.aload_n 0, 1) := by decide +kernel
theorem dX7_saved_28 : decode cX7_saved 28 = .ok (.getfield 105, 3) := by decide +kernel
theorem dX7_saved_31 : decode cX7_saved 31 = .ok (.if_icmp .ge 24, 3) := by decide +kernel
theorem dX7_saved_34 : decode cX7_saved 34 = .ok (.aload_n 0, 1) := by decide +kernel
theorem dX7_saved_35 : decode cX7_saved 35 = .ok (.getfield 50, 3) := by decide +kernel
theorem dX7_saved_38 : decode cX7_saved 38 = .ok (.iload 4, 2) := by decide +kernel
theorem dX7_saved_40 : decode cX7_saved 40 = .ok (.dup2, 1) := by decide +kernel
theorem dX7_saved_41 : decode cX7_saved 41 = .ok (.iaload, 1) := by decide +kernel
theorem dX7_saved_42 : decode cX7_saved 42 = .ok (.iconst 1, 1) := by decide +kernel
theorem dX7_saved_43 : decode cX7_saved 43 = .ok (.iload_n 3, 1) := by decide +kernel
theorem dX7_saved_44 : decode cX7_saved 44 = .ok (.ishl, 1) := by decide +kernel
theorem dX7_saved_45 : decode cX7_saved 45 = .ok (.iconst (-1), 1) := by decide +kernel
theorem dX7_saved_46 : decode cX7_saved 46 = .ok (.ixor, 1) := by decide +kernel
theorem dX7_saved_47 : decode cX7_saved 47 = .ok (.iand, 1) := by decide +kernel
theorem dX7_saved_48 : decode cX7_saved 48 = .ok (.iastore, 1) := by decide +kernel
theorem dX7_saved_49 : decode cX7_saved 49 = .ok (.iinc 4 1, 3) := by decide +kernel
theorem dX7_saved_52 : decode cX7_saved 52 = .ok (.goto (-27), 3) := by decide +kernel
theorem dX7_saved_55 : decode cX7_saved 55 = .ok (.aload_n 0, 1) := by decide +kernel
theorem dX7_saved_56 : decode cX7_saved 56 = .ok (.bipush 100, 2) := by decide +kernel
theorem dX7_saved_58 : decode cX7_saved 58 = .ok (.invokevirtual 274, 3) := by decide +kernel
theorem dX7_saved_61 : decode cX7_saved 61 = .ok (.istore 4, 2) := by decide +kernel
theorem dX7_saved_63 : decode cX7_saved 63 = .ok (.aload_n 0, 1) := by decide +kernel
theorem dX7_saved_64 : decode cX7_saved 64 = .ok (.aload_n 0, 1) := by decide +kernel
theorem dX7_saved_65 : decode cX7_saved 65 = .ok (.getfield 65, 3) := by decide +kernel
theorem dX7_saved_68 : decode cX7_saved 68 = .ok (.invokevirtual 229, 3) := by decide +kernel
theorem dX7_saved_71 : decode cX7_saved 71 = .ok (.iload 4, 2) := by decide +kernel
theorem dX7_saved_73 : decode cX7_saved 73 = .ok (.iload_n 2, 1) := by decide +kernel
theorem dX7_saved_74 : decode cX7_saved 74 = .ok (.if_icmp .gt 6, 3) := by decide +kernel
theorem dX7_saved_77 : decode cX7_saved 77 = .ok (.goto 8, 3) := by decide +kernel
theorem dX7_saved_80 : decode cX7_saved 80 = .ok (.iload 4, 2) := by decide +kernel
theorem dX7_saved_82 : decode cX7_saved 82 = .ok (.istore_n 2, 1) := by decide +kernel
theorem dX7_saved_83 : decode cX7_saved 83 = .ok (.iload_n 3, 1) := by decide +kernel
theorem dX7_saved_84 : decode cX7_saved 84 = .ok (.istore_n 1, 1) := by decide +kernel
theorem dX7_saved_85 : decode cX7_saved 85 = .ok (.iinc 3 1, 3) := by decide +kernel
theorem dX7_saved_88 : decode cX7_saved 88 = .ok (.goto (-82), 3) := by decide +kernel
theorem dX7_saved_91 : decode cX7_saved 91 = .ok (.iload_n 1, 1) := by decide +kernel
theorem dX7_saved_92 : decode cX7_saved 92 = .ok (.ireturn, 1) := by decide +kernel
theorem dX7_spared_0 : decode cX7_spared 0 = .ok (.aload_n 0, 1) := by decide +kernel
theorem dX7_spared_1 : decode cX7_spared 1 = .ok (.iload_n 1, 1) := by decide +kernel
theorem dX7_spared_2 : decode cX7_spared 2 = .ok (.invokevirtual 101, 3) := by decide +kernel
theorem dX7_spared_5 : decode cX7_spared 5 = .ok (.ifCond .ne 9, 3) := by decide +kernel
theorem dX7_spared_8 : decode cX7_spared 8 = .ok (.aload_n 0, 1) := by decide +kernel
theorem dX7_spared_9 : decode cX7_spared 9 = .ok (.iconst (-1), 1) := by decide +kernel
theorem dX7_spared_10 : decode cX7_spared 10 = .ok (.invokevirtual 253, 3) := by decide +kernel
theorem dX7_spared_13 : decode cX7_spared 13 = .ok (.ireturn, 1) := by decide +kernel
theorem dX7_spared_14 : decode cX7_spared 14 = .ok (.iload_n 2, 1) := by decide +kernel
theorem dX7_spared_15 : decode cX7_spared 15 = .ok (.ifCond .lt 11, 3) := by decide +kernel
theorem dX7_spared_18 : decode cX7_spared 18 = .ok (.aload_n 0, 1) := by decide +kernel
theorem dX7_spared_19 : decode cX7_spared 19 = .ok (.iload_n 1, 1) := by decide +kernel
theorem dX7_spared_20 : decode cX7_spared 20 = .ok (.invokevirtual 215, 3) := by decide +kernel
theorem dX7_spared_23 : decode cX7_spared 23 = .ok (.ifCond .ne 10, 3) := by decide +kernel
theorem dX7_spared_26 : decode cX7_spared 26 = .ok (.aload_n 0, 1) := by decide +kernel
theorem dX7_spared_27 : decode cX7_spared 27 = .ok (.bipush (-6), 2) := by decide +kernel
theorem dX7_spared_29 : decode cX7_spared 29 = .ok (.invokevirtual 253, 3) := by decide +kernel
theorem dX7_spared_32 : decode cX7_spared 32 = .ok (.ireturn, 1) := by decide +kernel
theorem dX7_spared_33 : decode cX7_spared 33 = .ok (.iconst (-1), 1) := by decide +kernel
theorem dX7_spared_34 : decode cX7_spared 34 = .ok (.istore_n 3, 1) := by decide +kernel
theorem dX7_spared_35 : decode cX7_spared 35 = .ok (.bipush 99, 2) := by decide +kernel
theorem dX7_spared_37 : decode cX7_spared 37 = .ok (.istore 4, 2) := by decide +kernel
theorem dX7_spared_39 : decode cX7_spared 39 = .ok (.iload 4, 2) := by decide +kernel
theorem dX7_spared_41 : decode cX7_spared 41 = .ok (.ifCond .lt 43, 3) := by decide +kernel
theorem dX7_spared_44 : decode cX7_spared 44 = .ok (.aload_n 0, 1) := by decide +kernel
theorem dX7_spared_45 : decode cX7_spared 45 = .ok (.dup, 1) := by decide +kernel
theorem dX7_spared_46 : decode cX7_spared 46 = .ok (.getfield 210, 3) := by decide +kernel
theorem dX7_spared_49 : decode cX7_spared 49 = .ok (.iload 4, 2) := by decide +kernel
theorem dX7_spared_51 : decode cX7_spared 51 = .ok (.iadd, 1) := by decide +kernel
theorem dX7_spared_52 : decode cX7_spared 52 = .ok (.putfield 210, 3) := by decide +kernel
theorem dX7_spared_55 : decode cX7_spared 55 = .ok (.aload_n 0, 1) := by decide +kernel
theorem dX7_spared_56 : decode cX7_spared 56 = .ok (.iload_n 1, 1) := by decide +kernel
theorem dX7_spared_57 : decode cX7_spared 57 = .ok (.invokevirtual 277, 3) := by decide +kernel
theorem dX7_spared_60 : decode cX7_spared 60 = .ok (.iload_n 2, 1) := by decide +kernel
theorem dX7_spared_61 : decode cX7_spared 61 = .ok (.if_icmp .gt 6, 3) := by decide +kernel
theorem dX7_spared_64 : decode cX7_spared 64 = .ok (.iload 4, 2) := by decide +kernel
theorem dX7_spared_66 : decode cX7_spared 66 = .ok (.istore_n 3, 1) := by decide +kernel
theorem dX7_spared_67 : decode cX7_spared 67 = .ok (.aload_n 0, 1) := by decide +kernel
theorem dX7_spared_68 : decode cX7_spared 68 = .ok (.dup, 1) := by decide +kernel
theorem dX7_spared_69 : decode cX7_spared 69 = .ok (.getfield 210, 3) := by decide +kernel
theorem dX7_spared_72 : decode cX7_spared 72 = .ok (.iload 4, 2) := by decide +kernel
theorem dX7_spared_74 : decode cX7_spared 74 = .ok (.isub, 1) := by decide +kernel
theorem dX7_spared_75 : decode cX7_spared 75 = .ok (.putfield 210, 3) := by decide +kernel
theorem dX7_spared_78 : decode cX7_spared 78 = .ok (.iinc 4 (-1), 3) := by decide +kernel
theorem dX7_spared_81 : decode cX7_spared 81 = .ok (.goto (-42), 3) := by decide +kernel
theorem dX7_spared_84 : decode cX7_spared 84 = .ok (.iload_n 3, 1) := by decide +kernel
theorem dX7_spared_85 : decode cX7_spared 85 = .ok (.ireturn, 1) := by decide +kernel
theorem dX7_noTakings_0 : decode cX7_noTakings 0 = .ok (.aload_n 0, 1) := by decide +kernel
theorem dX7_noTakings_1 : decode cX7_noTakings 1 = .ok (.iload_n 1, 1) := by decide +kernel
theorem dX7_noTakings_2 : decode cX7_noTakings 2 = .ok (.invokevirtual 111, 3) := by decide +kernel
theorem dX7_noTakings_5 : decode cX7_noTakings 5 = .ok (.istore_n 3, 1) := by decide +kernel
theorem dX7_noTakings_6 : decode cX7_noTakings 6 = .ok (.iload_n 3, 1) := by decide +kernel
theorem dX7_noTakings_7 : decode cX7_noTakings 7 = .ok (.ifCond .ge 5, 3) := by decide +kernel
theorem dX7_noTakings_10 : decode cX7_noTakings 10 = .ok (.iload_n 3, 1) := by decide +kernel
theorem dX7_noTakings_11 : decode cX7_noTakings 11 = .ok (.ireturn, 1) := by decide +kernel
theorem dX7_noTakings_12 : decode cX7_noTakings 12 = .ok (.iload_n 2, 1) := by decide +kernel
theorem dX7_noTakings_13 : decode cX7_noTakings 13 = .ok (.ifCond .ge 6, 3) := by decide +kernel
theorem dX7_noTakings_16 : decode cX7_noTakings 16 = .ok (.bipush (-4), 2) := by decide +kernel
theorem dX7_noTakings_18 : decode cX7_noTakings 18 = .ok (.ireturn, 1) := by decide +kernel
theorem dX7_noTakings_19 : decode cX7_noTakings 19 = .ok (.iload_n 2, 1) := by decide +kernel
theorem dX7_noTakings_20 : decode cX7_noTakings 20 = .ok (.aload_n 0, 1) := by decide +kernel
theorem dX7_noTakings_21 : decode cX7_noTakings 21 = .ok (.getfield 13, 3) := by decide +kernel
theorem dX7_noTakings_24 : decode cX7_noTakings 24 = .ok (.iload_n 1, 1) := by decide +kernel
theorem dX7_noTakings_25 : decode cX7_noTakings 25 = .ok (.iaload, 1) := by decide +kernel
theorem dX7_noTakings_26 : decode cX7_noTakings 26 = .ok (.if_icmp .le 6, 3) := by decide +kernel
theorem dX7_noTakings_29 : decode cX7_noTakings 29 = .ok (.bipush (-5), 2) := by decide +kernel
theorem dX7_noTakings_31 : decode cX7_noTakings 31 = .ok (.ireturn, 1) := by decide +kernel
theorem dX7_noTakings_32 : decode cX7_noTakings 32 = .ok (.iload_n 2, 1) := by decide +kernel
theorem dX7_noTakings_33 : decode cX7_noTakings 33 = .ok (.bipush 20, 2) := by decide +kernel
theorem dX7_noTakings_35 : decode cX7_noTakings 35 = .ok (.if_icmp .le 8, 3) := by decide +kernel
theorem dX7_noTakings_38 : decode cX7_noTakings 38 = .ok (.bipush (-6), 2) := by decide +kernel
theorem dX7_noTakings_40 : decode cX7_noTakings 40 = .ok (.goto 4, 3) := by decide +kernel
theorem dX7_noTakings_43 : decode cX7_noTakings 43 = .ok (.iconst 0, 1) := by decide +kernel
theorem dX7_noTakings_44 : decode cX7_noTakings 44 = .ok (.ireturn, 1) := by decide +kernel
theorem dX7_lived_0 : decode cX7_lived 0 = .ok (.aload_n 0, 1) := by decide +kernel
theorem dX7_lived_1 : decode cX7_lived 1 = .ok (.iconst 0, 1) := by decide +kernel
theorem dX7_lived_2 : decode cX7_lived 2 = .ok (.putfield 314, 3) := by decide +kernel
theorem dX7_lived_5 : decode cX7_lived 5 = .ok (.iconst 0, 1) := by decide +kernel
theorem dX7_lived_6 : decode cX7_lived 6 = .ok (.istore_n 3, 1) := by decide +kernel
theorem dX7_lived_7 : decode cX7_lived 7 = .ok (.iload_n 3, 1) := by decide +kernel
theorem dX7_lived_8 : decode cX7_lived 8 = .ok (.iload_n 2, 1) := by decide +kernel
theorem dX7_lived_9 : decode cX7_lived 9 = .ok (.if_icmp .ge 76, 3) := by decide +kernel
theorem dX7_lived_12 : decode cX7_lived 12 = .ok (.aload_n 0, 1) := by decide +kernel
theorem dX7_lived_13 : decode cX7_lived 13 = .ok (.iload_n 1, 1) := by decide +kernel
theorem dX7_lived_14 : decode cX7_lived 14 = .ok (.iload_n 3, 1) := by decide +kernel
theorem dX7_lived_15 : decode cX7_lived 15 = .ok (.invokevirtual 291, 3) := by decide +kernel
theorem dX7_lived_18 : decode cX7_lived 18 = .ok (.istore 4, 2) := by decide +kernel
theorem dX7_lived_20 : decode cX7_lived 20 = .ok (.iload 4, 2) := by decide +kernel
theorem dX7_lived_22 : decode cX7_lived 22 = .ok (.bipush 101, 2) := by decide +kernel
theorem dX7_lived_24 : decode cX7_lived 24 = .ok (.sipush 199, 3) := by decide +kernel
theorem dX7_lived_27 : decode cX7_lived 27 = .ok (.invokestatic 97, 3) := by decide +kernel
theorem dX7_lived_30 : decode cX7_lived 30 = .ok (.ifCond .eq 20, 3) := by decide +kernel
theorem dX7_lived_33 : decode cX7_lived 33 = .ok (.aload_n 0, 1) := by decide +kernel
theorem dX7_lived_34 : decode cX7_lived 34 = .ok (.dup, 1) := by decide +kernel
theorem dX7_lived_35 : decode cX7_lived 35 = .ok (.getfield 210, 3) := by decide +kernel
theorem dX7_lived_38 : decode cX7_lived 38 = .ok (.iload 4, 2) := by decide +kernel
theorem dX7_lived_40 : decode cX7_lived 40 = .ok (.bipush 100, 2) := by decide +kernel
theorem dX7_lived_42 : decode cX7_lived 42 = .ok (.isub, 1) := by decide +kernel
theorem dX7_lived_43 : decode cX7_lived 43 = .ok (.iadd, 1) := by decide +kernel
theorem dX7_lived_44 : decode cX7_lived 44 = .ok (.putfield 210, 3) := by decide +kernel
theorem dX7_lived_47 : decode cX7_lived 47 = .ok (.goto 32, 3) := by decide +kernel
theorem dX7_lived_50 : decode cX7_lived 50 = .ok (.aload_n 0, 1) := by decide +kernel
theorem dX7_lived_51 : decode cX7_lived 51 = .ok (.iload 4, 2) := by decide +kernel
theorem dX7_lived_53 : decode cX7_lived 53 = .ok (.invokevirtual 215, 3) := by decide +kernel
theorem dX7_lived_56 : decode cX7_lived 56 = .ok (.ifCond .eq 21, 3) := by decide +kernel
theorem dX7_lived_59 : decode cX7_lived 59 = .ok (.aload_n 0, 1) := by decide +kernel
theorem dX7_lived_60 : decode cX7_lived 60 = .ok (.dup, 1) := by decide +kernel
theorem dX7_lived_61 : decode cX7_lived 61 = .ok (.getfield 314, 3) := by decide +kernel
theorem dX7_lived_64 : decode cX7_lived 64 = .ok (.aload_n 0, 1) := by decide +kernel
theorem dX7_lived_65 : decode cX7_lived 65 = .ok (.iload 4, 2) := by decide +kernel
theorem dX7_lived_67 : decode cX7_lived 67 = .ok (.invokevirtual 218, 3) := by decide +kernel
theorem dX7_lived_70 : decode cX7_lived 70 = .ok (.iadd, 1) := by decide +kernel
theorem dX7_lived_71 : decode cX7_lived 71 = .ok (.putfield 314, 3) := by decide +kernel
theorem dX7_lived_74 : decode cX7_lived 74 = .ok (.goto 5, 3) := by decide +kernel
theorem dX7_lived_77 : decode cX7_lived 77 = .ok (.iload_n 3, 1) := by decide +kernel
theorem dX7_lived_78 : decode cX7_lived 78 = .ok (.ireturn, 1) := by decide +kernel
theorem dX7_lived_79 : decode cX7_lived 79 = .ok (.iinc 3 1, 3) := by decide +kernel
theorem dX7_lived_82 : decode cX7_lived 82 = .ok (.goto (-75), 3) := by decide +kernel
theorem dX7_lived_85 : decode cX7_lived 85 = .ok (.iconst (-1), 1) := by decide +kernel
theorem dX7_lived_86 : decode cX7_lived 86 = .ok (.ireturn, 1) := by decide +kernel
theorem dX7_judge_0 : decode cX7_judge 0 = .ok (.aload_n 0, 1) := by decide +kernel
theorem dX7_judge_1 : decode cX7_judge 1 = .ok (.iload_n 1, 1) := by decide +kernel
theorem dX7_judge_2 : decode cX7_judge 2 = .ok (.iload_n 2, 1) := by decide +kernel
theorem dX7_judge_3 : decode cX7_judge 3 = .ok (.invokevirtual 317, 3) := by decide +kernel
theorem dX7_judge_6 : decode cX7_judge 6 = .ok (.istore_n 3, 1) := by decide +kernel
theorem dX7_judge_7 : decode cX7_judge 7 = .ok (.iload_n 3, 1) := by decide +kernel
theorem dX7_judge_8 : decode cX7_judge 8 = .ok (.ifCond .ge 9, 3) := by decide +kernel
theorem dX7_judge_11 : decode cX7_judge 11 = .ok (.aload_n 0, 1) := by decide +kernel
theorem dX7_judge_12 : decode cX7_judge 12 = .ok (.iload_n 3, 1) := by decide +kernel
theorem dX7_judge_13 : decode cX7_judge 13 = .ok (.invokevirtual 253, 3) := by decide +kernel
theorem dX7_judge_16 : decode cX7_judge 16 = .ok (.ireturn, 1) := by decide +kernel
theorem dX7_judge_17 : decode cX7_judge 17 = .ok (.aload_n 0, 1) := by decide +kernel
theorem dX7_judge_18 : decode cX7_judge 18 = .ok (.aload_n 0, 1) := by decide +kernel
theorem dX7_judge_19 : decode cX7_judge 19 = .ok (.getfield 65, 3) := by decide +kernel
theorem dX7_judge_22 : decode cX7_judge 22 = .ok (.invokevirtual 221, 3) := by decide +kernel
theorem dX7_judge_25 : decode cX7_judge 25 = .ok (.aload_n 0, 1) := by decide +kernel
theorem dX7_judge_26 : decode cX7_judge 26 = .ok (.iload_n 1, 1) := by decide +kernel
theorem dX7_judge_27 : decode cX7_judge 27 = .ok (.iload_n 2, 1) := by decide +kernel
theorem dX7_judge_28 : decode cX7_judge 28 = .ok (.invokevirtual 320, 3) := by decide +kernel
theorem dX7_judge_31 : decode cX7_judge 31 = .ok (.istore 4, 2) := by decide +kernel
theorem dX7_judge_33 : decode cX7_judge 33 = .ok (.aload_n 0, 1) := by decide +kernel
theorem dX7_judge_34 : decode cX7_judge 34 = .ok (.aload_n 0, 1) := by decide +kernel
theorem dX7_judge_35 : decode cX7_judge 35 = .ok (.getfield 65, 3) := by decide +kernel
theorem dX7_judge_38 : decode cX7_judge 38 = .ok (.invokevirtual 229, 3) := by decide +kernel
theorem dX7_judge_41 : decode cX7_judge 41 = .ok (.iload 4, 2) := by decide +kernel
theorem dX7_judge_43 : decode cX7_judge 43 = .ok (.ireturn, 1) := by decide +kernel
theorem dX7_told__0 : decode cX7_told_ 0 = .ok (.aload_n 0, 1) := by decide +kernel
theorem dX7_told__1 : decode cX7_told_ 1 = .ok (.iload_n 1, 1) := by decide +kernel
theorem dX7_told__2 : decode cX7_told_ 2 = .ok (.iload_n 2, 1) := by decide +kernel
theorem dX7_told__3 : decode cX7_told_ 3 = .ok (.invokevirtual 317, 3) := by decide +kernel
theorem dX7_told__6 : decode cX7_told_ 6 = .ok (.istore 4, 2) := by decide +kernel
theorem dX7_told__8 : decode cX7_told_ 8 = .ok (.iload 4, 2) := by decide +kernel
theorem dX7_told__10 : decode cX7_told_ 10 = .ok (.ifCond .ge 17, 3) := by decide +kernel
theorem dX7_told__13 : decode cX7_told_ 13 = .ok (.iload 4, 2) := by decide +kernel
theorem dX7_told__15 : decode cX7_told_ 15 = .ok (.bipush (-6), 2) := by decide +kernel
theorem dX7_told__17 : decode cX7_told_ 17 = .ok (.if_icmp .le 10, 3) := by decide +kernel
theorem dX7_told__20 : decode cX7_told_ 20 = .ok (.aload_n 0, 1) := by decide +kernel
theorem dX7_told__21 : decode cX7_told_ 21 = .ok (.iload 4, 2) := by decide +kernel
theorem dX7_told__23 : decode cX7_told_ 23 = .ok (.invokevirtual 90, 3) := by decide +kernel
theorem dX7_told__26 : decode cX7_told_ 26 = .ok (.ireturn, 1) := by decide +kernel
theorem dX7_told__27 : decode cX7_told_ 27 = .ok (.iload_n 3, 1) := by decide +kernel
theorem dX7_told__28 : decode cX7_told_ 28 = .ok (.iconst 0, 1) := by decide +kernel
theorem dX7_told__29 : decode cX7_told_ 29 = .ok (.iconst 2, 1) := by decide +kernel
theorem dX7_told__30 : decode cX7_told_ 30 = .ok (.invokestatic 97, 3) := by decide +kernel
theorem dX7_told__33 : decode cX7_told_ 33 = .ok (.ifCond .ne 10, 3) := by decide +kernel
theorem dX7_told__36 : decode cX7_told_ 36 = .ok (.aload_n 0, 1) := by decide +kernel
theorem dX7_told__37 : decode cX7_told_ 37 = .ok (.bipush (-5), 2) := by decide +kernel
theorem dX7_told__39 : decode cX7_told_ 39 = .ok (.invokevirtual 90, 3) := by decide +kernel
theorem dX7_told__42 : decode cX7_told_ 42 = .ok (.ireturn, 1) := by decide +kernel
theorem dX7_told__43 : decode cX7_told_ 43 = .ok (.iload 4, 2) := by decide +kernel
theorem dX7_told__45 : decode cX7_told_ 45 = .ok (.ifCond .ge 10, 3) := by decide +kernel
theorem dX7_told__48 : decode cX7_told_ 48 = .ok (.aload_n 0, 1) := by decide +kernel
theorem dX7_told__49 : decode cX7_told_ 49 = .ok (.iload 4, 2) := by decide +kernel
theorem dX7_told__51 : decode cX7_told_ 51 = .ok (.invokevirtual 90, 3) := by decide +kernel
theorem dX7_told__54 : decode cX7_told_ 54 = .ok (.ireturn, 1) := by decide +kernel
theorem dX7_told__55 : decode cX7_told_ 55 = .ok (.aload_n 0, 1) := by decide +kernel
theorem dX7_told__56 : decode cX7_told_ 56 = .ok (.aload_n 0, 1) := by decide +kernel
theorem dX7_told__57 : decode cX7_told_ 57 = .ok (.getfield 65, 3) := by decide +kernel
theorem dX7_told__60 : decode cX7_told_ 60 = .ok (.invokevirtual 221, 3) := by decide +kernel
theorem dX7_told__63 : decode cX7_told_ 63 = .ok (.aload_n 0, 1) := by decide +kernel
theorem dX7_told__64 : decode cX7_told_ 64 = .ok (.iload_n 1, 1) := by decide +kernel
theorem dX7_told__65 : decode cX7_told_ 65 = .ok (.iload_n 2, 1) := by decide +kernel
theorem dX7_told__66 : decode cX7_told_ 66 = .ok (.invokevirtual 320, 3) := by decide +kernel
theorem dX7_told__69 : decode cX7_told_ 69 = .ok (.istore 5, 2) := by decide +kernel
theorem dX7_told__71 : decode cX7_told_ 71 = .ok (.iload_n 3, 1) := by decide +kernel
theorem dX7_told__72 : decode cX7_told_ 72 = .ok (.ifCond .ne 10, 3) := by decide +kernel
theorem dX7_told__75 : decode cX7_told_ 75 = .ok (.aload_n 0, 1) := by decide +kernel
theorem dX7_told__76 : decode cX7_told_ 76 = .ok (.getfield 314, 3) := by decide +kernel
theorem dX7_told__79 : decode cX7_told_ 79 = .ok (.goto 19, 3) := by decide +kernel
theorem dX7_told__82 : decode cX7_told_ 82 = .ok (.iload_n 3, 1) := by decide +kernel
theorem dX7_told__83 : decode cX7_told_ 83 = .ok (.iconst 1, 1) := by decide +kernel
theorem dX7_told__84 : decode cX7_told_ 84 = .ok (.if_icmp .ne 10, 3) := by decide +kernel
theorem dX7_told__87 : decode cX7_told_ 87 = .ok (.aload_n 0, 1) := by decide +kernel
theorem dX7_told__88 : decode cX7_told_ 88 = .ok (.invokevirtual 121, 3) := by decide +kernel
theorem dX7_told__91 : decode cX7_told_ 91 = .ok (.goto 7, 3) := by decide +kernel
theorem dX7_told__94 : decode cX7_told_ 94 = .ok (.aload_n 0, 1) := by decide +kernel
theorem dX7_told__95 : decode cX7_told_ 95 = .ok (.getfield 210, 3) := by decide +kernel
theorem dX7_told__98 : decode cX7_told_ 98 = .ok (.istore 6, 2) := by decide +kernel
theorem dX7_told__100 : decode cX7_told_ 100 = .ok (.aload_n 0, 1) := by decide +kernel
theorem dX7_told__101 : decode cX7_told_ 101 = .ok (.aload_n 0, 1) := by decide +kernel
theorem dX7_told__102 : decode cX7_told_ 102 = .ok (.getfield 65, 3) := by decide +kernel
theorem dX7_told__105 : decode cX7_told_ 105 = .ok (.invokevirtual 229, 3) := by decide +kernel
theorem dX7_told__108 : decode cX7_told_ 108 = .ok (.iload 5, 2) := by decide +kernel
theorem dX7_told__110 : decode cX7_told_ 110 = .ok (.iconst (-1), 1) := by decide +kernel
theorem dX7_told__111 : decode cX7_told_ 111 = .ok (.if_icmp .ne 8, 3) := by decide +kernel
theorem dX7_told__114 : decode cX7_told_ 114 = .ok (.iload 6, 2) := by decide +kernel
theorem dX7_told__116 : decode cX7_told_ 116 = .ok (.goto 9, 3) := by decide +kernel
theorem dX7_told__119 : decode cX7_told_ 119 = .ok (.aload_n 0, 1) := by decide +kernel
theorem dX7_told__120 : decode cX7_told_ 120 = .ok (.bipush (-6), 2) := by decide +kernel
theorem dX7_told__122 : decode cX7_told_ 122 = .ok (.invokevirtual 90, 3) := by decide +kernel
theorem dX7_told__125 : decode cX7_told_ 125 = .ok (.ireturn, 1) := by decide +kernel
theorem dX7_done_0 : decode cX7_done 0 = .ok (.aload_n 0, 1) := by decide +kernel
theorem dX7_done_1 : decode cX7_done 1 = .ok (.iload_n 1, 1) := by decide +kernel
theorem dX7_done_2 : decode cX7_done 2 = .ok (.iload_n 2, 1) := by decide +kernel
theorem dX7_done_3 : decode cX7_done 3 = .ok (.invokevirtual 317, 3) := by decide +kernel
theorem dX7_done_6 : decode cX7_done 6 = .ok (.istore_n 3, 1) := by decide +kernel
theorem dX7_done_7 : decode cX7_done 7 = .ok (.iload_n 3, 1) := by decide +kernel
theorem dX7_done_8 : decode cX7_done 8 = .ok (.ifCond .ge 9, 3) := by decide +kernel
theorem dX7_done_11 : decode cX7_done 11 = .ok (.aload_n 0, 1) := by decide +kernel
theorem dX7_done_12 : decode cX7_done 12 = .ok (.iload_n 3, 1) := by decide +kernel
theorem dX7_done_13 : decode cX7_done 13 = .ok (.invokevirtual 90, 3) := by decide +kernel
theorem dX7_done_16 : decode cX7_done 16 = .ok (.ireturn, 1) := by decide +kernel
theorem dX7_done_17 : decode cX7_done 17 = .ok (.aload_n 0, 1) := by decide +kernel
theorem dX7_done_18 : decode cX7_done 18 = .ok (.aload_n 0, 1) := by decide +kernel
theorem dX7_done_19 : decode cX7_done 19 = .ok (.getfield 65, 3) := by decide +kernel
theorem dX7_done_22 : decode cX7_done 22 = .ok (.invokevirtual 221, 3) := by decide +kernel
theorem dX7_done_25 : decode cX7_done 25 = .ok (.aload_n 0, 1) := by decide +kernel
theorem dX7_done_26 : decode cX7_done 26 = .ok (.iload_n 1, 1) := by decide +kernel
theorem dX7_done_27 : decode cX7_done 27 = .ok (.iload_n 2, 1) := by decide +kernel
theorem dX7_done_28 : decode cX7_done 28 = .ok (.invokevirtual 320, 3) := by decide +kernel
theorem dX7_done_31 : decode cX7_done 31 = .ok (.iconst (-1), 1) := by decide +kernel
theorem dX7_done_32 : decode cX7_done 32 = .ok (.if_icmp .ne 8, 3) := by decide +kernel
theorem dX7_done_35 : decode cX7_done 35 = .ok (.aload_n 0, 1) := by decide +kernel
theorem dX7_done_36 : decode cX7_done 36 = .ok (.getfield 210, 3) := by decide +kernel
theorem dX7_done_39 : decode cX7_done 39 = .ok (.ireturn, 1) := by decide +kernel
theorem dX7_done_40 : decode cX7_done 40 = .ok (.aload_n 0, 1) := by decide +kernel
theorem dX7_done_41 : decode cX7_done 41 = .ok (.aload_n 0, 1) := by decide +kernel
theorem dX7_done_42 : decode cX7_done 42 = .ok (.getfield 65, 3) := by decide +kernel
theorem dX7_done_45 : decode cX7_done 45 = .ok (.invokevirtual 229, 3) := by decide +kernel
theorem dX7_done_48 : decode cX7_done 48 = .ok (.aload_n 0, 1) := by decide +kernel
theorem dX7_done_49 : decode cX7_done 49 = .ok (.bipush (-6), 2) := by decide +kernel
theorem dX7_done_51 : decode cX7_done 51 = .ok (.invokevirtual 90, 3) := by decide +kernel
theorem dX7_done_54 : decode cX7_done 54 = .ok (.ireturn, 1) := by decide +kernel
theorem dX7_take_0 : decode cX7_take 0 = .ok (.aload_n 0, 1) := by decide +kernel
theorem dX7_take_1 : decode cX7_take 1 = .ok (.iload_n 1, 1) := by decide +kernel
theorem dX7_take_2 : decode cX7_take 2 = .ok (.invokevirtual 101, 3) := by decide +kernel
theorem dX7_take_5 : decode cX7_take 5 = .ok (.ifCond .ne 9, 3) := by decide +kernel
theorem dX7_take_8 : decode cX7_take 8 = .ok (.aload_n 0, 1) := by decide +kernel
theorem dX7_take_9 : decode cX7_take 9 = .ok (.iconst (-1), 1) := by decide +kernel
theorem dX7_take_10 : decode cX7_take 10 = .ok (.invokevirtual 90, 3) := by decide +kernel
theorem dX7_take_13 : decode cX7_take 13 = .ok (.ireturn, 1) := by decide +kernel
theorem dX7_take_14 : decode cX7_take 14 = .ok (.aload_n 0, 1) := by decide +kernel
theorem dX7_take_15 : decode cX7_take 15 = .ok (.iload_n 1, 1) := by decide +kernel
theorem dX7_take_16 : decode cX7_take 16 = .ok (.invokevirtual 215, 3) := by decide +kernel
theorem dX7_take_19 : decode cX7_take 19 = .ok (.ifCond .eq 11, 3) := by decide +kernel
theorem dX7_take_22 : decode cX7_take 22 = .ok (.aload_n 0, 1) := by decide +kernel
theorem dX7_take_23 : decode cX7_take 23 = .ok (.iload_n 1, 1) := by decide +kernel
theorem dX7_take_24 : decode cX7_take 24 = .ok (.invokevirtual 218, 3) := by decide +kernel
theorem dX7_take_27 : decode cX7_take 27 = .ok (.goto 9, 3) := by decide +kernel
theorem dX7_take_30 : decode cX7_take 30 = .ok (.aload_n 0, 1) := by decide +kernel
theorem dX7_take_31 : decode cX7_take 31 = .ok (.bipush (-6), 2) := by decide +kernel
theorem dX7_take_33 : decode cX7_take 33 = .ok (.invokevirtual 90, 3) := by decide +kernel
theorem dX7_take_36 : decode cX7_take 36 = .ok (.ireturn, 1) := by decide +kernel
theorem dX7_years_0 : decode cX7_years 0 = .ok (.iload_n 1, 1) := by decide +kernel
theorem dX7_years_1 : decode cX7_years 1 = .ok (.iconst 1, 1) := by decide +kernel
theorem dX7_years_2 : decode cX7_years 2 = .ok (.sipush 999, 3) := by decide +kernel
theorem dX7_years_5 : decode cX7_years 5 = .ok (.invokestatic 97, 3) := by decide +kernel
theorem dX7_years_8 : decode cX7_years 8 = .ok (.ifCond .ne 10, 3) := by decide +kernel
theorem dX7_years_11 : decode cX7_years 11 = .ok (.aload_n 0, 1) := by decide +kernel
theorem dX7_years_12 : decode cX7_years 12 = .ok (.bipush (-6), 2) := by decide +kernel
theorem dX7_years_14 : decode cX7_years 14 = .ok (.invokevirtual 90, 3) := by decide +kernel
theorem dX7_years_17 : decode cX7_years 17 = .ok (.ireturn, 1) := by decide +kernel
theorem dX7_years_18 : decode cX7_years 18 = .ok (.aload_n 0, 1) := by decide +kernel
theorem dX7_years_19 : decode cX7_years 19 = .ok (.dup, 1) := by decide +kernel
theorem dX7_years_20 : decode cX7_years 20 = .ok (.getfield 210, 3) := by decide +kernel
theorem dX7_years_23 : decode cX7_years 23 = .ok (.iload_n 1, 1) := by decide +kernel
theorem dX7_years_24 : decode cX7_years 24 = .ok (.iadd, 1) := by decide +kernel
theorem dX7_years_25 : decode cX7_years 25 = .ok (.putfield 210, 3) := by decide +kernel
theorem dX7_years_28 : decode cX7_years 28 = .ok (.aload_n 0, 1) := by decide +kernel
theorem dX7_years_29 : decode cX7_years 29 = .ok (.getfield 210, 3) := by decide +kernel
theorem dX7_years_32 : decode cX7_years 32 = .ok (.ireturn, 1) := by decide +kernel
theorem dX7_draw_0 : decode cX7_draw 0 = .ok (.aload_n 0, 1) := by decide +kernel
theorem dX7_draw_1 : decode cX7_draw 1 = .ok (.aload_n 0, 1) := by decide +kernel
theorem dX7_draw_2 : decode cX7_draw 2 = .ok (.getfield 83, 3) := by decide +kernel
theorem dX7_draw_5 : decode cX7_draw 5 = .ok (.ldc_w 323, 3) := by decide +kernel
theorem dX7_draw_8 : decode cX7_draw 8 = .ok (.imul, 1) := by decide +kernel
theorem dX7_draw_9 : decode cX7_draw 9 = .ok (.sipush 12345, 3) := by decide +kernel
theorem dX7_draw_12 : decode cX7_draw 12 = .ok (.iadd, 1) := by decide +kernel
theorem dX7_draw_13 : decode cX7_draw 13 = .ok (.putfield 83, 3) := by decide +kernel
theorem dX7_draw_16 : decode cX7_draw 16 = .ok (.aload_n 0, 1) := by decide +kernel
theorem dX7_draw_17 : decode cX7_draw 17 = .ok (.getfield 83, 3) := by decide +kernel
theorem dX7_draw_20 : decode cX7_draw 20 = .ok (.bipush 16, 2) := by decide +kernel
theorem dX7_draw_22 : decode cX7_draw 22 = .ok (.iushr, 1) := by decide +kernel
theorem dX7_draw_23 : decode cX7_draw 23 = .ok (.iload_n 1, 1) := by decide +kernel
theorem dX7_draw_24 : decode cX7_draw 24 = .ok (.irem, 1) := by decide +kernel
theorem dX7_draw_25 : decode cX7_draw 25 = .ok (.ireturn, 1) := by decide +kernel
theorem dX7_standingOne_0 : decode cX7_standingOne 0 = .ok (.iload_n 1, 1) := by decide +kernel
theorem dX7_standingOne_1 : decode cX7_standingOne 1 = .ok (.istore_n 2, 1) := by decide +kernel
theorem dX7_standingOne_2 : decode cX7_standingOne 2 = .ok (.iconst 0, 1) := by decide +kernel
theorem dX7_standingOne_3 : decode cX7_standingOne 3 = .ok (.istore_n 3, 1) := by decide +kernel
theorem dX7_standingOne_4 : decode cX7_standingOne 4 = .ok (.iload_n 3, 1) := by decide +kernel
theorem dX7_standingOne_5 : decode cX7_standingOne 5 = .ok (.aload_n 0, 1) := by decide +kernel
theorem dX7_standingOne_6 : decode cX7_standingOne 6 = .ok (.getfield 94, 3) := by decide +kernel
theorem dX7_standingOne_9 : decode cX7_standingOne 9 = .ok (.if_icmp .ge 30, 3) := by decide +kernel
theorem dX7_standingOne_12 : decode cX7_standingOne 12 = .ok (.aload_n 0, 1) := by decide +kernel
theorem dX7_standingOne_13 : decode cX7_standingOne 13 = .ok (.getfield 32, 3) := by decide +kernel
theorem dX7_standingOne_16 : decode cX7_standingOne 16 = .ok (.iload_n 3, 1) := by decide +kernel
theorem dX7_standingOne_17 : decode cX7_standingOne 17 = .ok (.iaload, 1) := by decide +kernel
theorem dX7_standingOne_18 : decode cX7_standingOne 18 = .ok (.ifCond .ne 6, 3) := by decide +kernel
theorem dX7_standingOne_21 : decode cX7_standingOne 21 = .ok (.goto 12, 3) := by decide +kernel
theorem dX7_standingOne_24 : decode cX7_standingOne 24 = .ok (.iload_n 2, 1) := by decide +kernel
theorem dX7_standingOne_25 : decode cX7_standingOne 25 = .ok (.ifCond .ne 5, 3) := by decide +kernel
theorem dX7_standingOne_28 : decode cX7_standingOne 28 = .ok (.iload_n 3, 1) := by decide +kernel
theorem dX7_standingOne_29 : decode cX7_standingOne 29 = .ok (.ireturn, 1) := by decide +kernel
theorem dX7_standingOne_30 : decode cX7_standingOne 30 = .ok (.iinc 2 (-1), 3) := by decide +kernel
theorem dX7_standingOne_33 : decode cX7_standingOne 33 = .ok (.iinc 3 1, 3) := by decide +kernel
theorem dX7_standingOne_36 : decode cX7_standingOne 36 = .ok (.goto (-32), 3) := by decide +kernel
theorem dX7_standingOne_39 : decode cX7_standingOne 39 = .ok (.iconst (-1), 1) := by decide +kernel
theorem dX7_standingOne_40 : decode cX7_standingOne 40 = .ok (.ireturn, 1) := by decide +kernel
theorem dX7_ages_0 : decode cX7_ages 0 = .ok (.iload_n 1, 1) := by decide +kernel
theorem dX7_ages_1 : decode cX7_ages 1 = .ok (.iconst 1, 1) := by decide +kernel
theorem dX7_ages_2 : decode cX7_ages 2 = .ok (.sipush 200, 3) := by decide +kernel
theorem dX7_ages_5 : decode cX7_ages 5 = .ok (.invokestatic 97, 3) := by decide +kernel
theorem dX7_ages_8 : decode cX7_ages 8 = .ok (.ifCond .ne 10, 3) := by decide +kernel
theorem dX7_ages_11 : decode cX7_ages 11 = .ok (.aload_n 0, 1) := by decide +kernel
theorem dX7_ages_12 : decode cX7_ages 12 = .ok (.bipush (-6), 2) := by decide +kernel
theorem dX7_ages_14 : decode cX7_ages 14 = .ok (.invokevirtual 90, 3) := by decide +kernel
theorem dX7_ages_17 : decode cX7_ages 17 = .ok (.ireturn, 1) := by decide +kernel
theorem dX7_ages_18 : decode cX7_ages 18 = .ok (.iconst 0, 1) := by decide +kernel
theorem dX7_ages_19 : decode cX7_ages 19 = .ok (.istore_n 2, 1) := by decide +kernel
theorem dX7_ages_20 : decode cX7_ages 20 = .ok (.iconst 0, 1) := by decide +kernel
theorem dX7_ages_21 : decode cX7_ages 21 = .ok (.istore_n 3, 1) := by decide +kernel
theorem dX7_ages_22 : decode cX7_ages 22 = .ok (.iload_n 3, 1) := by decide +kernel
theorem dX7_ages_23 : decode cX7_ages 23 = .ok (.iload_n 1, 1) := by decide +kernel
theorem dX7_ages_24 : decode cX7_ages 24 = .ok (.if_icmp .ge 55, 3) := by decide +kernel
theorem dX7_ages_27 : decode cX7_ages 27 = .ok (.aload_n 0, 1) := by decide +kernel
theorem dX7_ages_28 : decode cX7_ages 28 = .ok (.bipush 20, 2) := by decide +kernel
theorem dX7_ages_30 : decode cX7_ages 30 = .ok (.invokevirtual 324, 3) := by decide +kernel
theorem dX7_ages_33 : decode cX7_ages 33 = .ok (.ifCond .ne 30, 3) := by decide +kernel
theorem dX7_ages_36 : decode cX7_ages 36 = .ok (.aload_n 0, 1) := by decide +kernel
theorem dX7_ages_37 : decode cX7_ages 37 = .ok (.invokevirtual 280, 3) := by decide +kernel
theorem dX7_ages_40 : decode cX7_ages 40 = .ok (.ifCond .le 23, 3) := by decide +kernel
theorem dX7_ages_43 : decode cX7_ages 43 = .ok (.aload_n 0, 1) := by decide +kernel
theorem dX7_ages_44 : decode cX7_ages 44 = .ok (.aload_n 0, 1) := by decide +kernel
theorem dX7_ages_45 : decode cX7_ages 45 = .ok (.aload_n 0, 1) := by decide +kernel
theorem dX7_ages_46 : decode cX7_ages 46 = .ok (.aload_n 0, 1) := by decide +kernel
theorem dX7_ages_47 : decode cX7_ages 47 = .ok (.invokevirtual 280, 3) := by decide +kernel
theorem dX7_ages_50 : decode cX7_ages 50 = .ok (.invokevirtual 324, 3) := by decide +kernel
theorem dX7_ages_53 : decode cX7_ages 53 = .ok (.invokevirtual 327, 3) := by decide +kernel
theorem dX7_ages_56 : decode cX7_ages 56 = .ok (.invokevirtual 218, 3) := by decide +kernel
theorem dX7_ages_59 : decode cX7_ages 59 = .ok (.pop, 1) := by decide +kernel
theorem dX7_ages_60 : decode cX7_ages 60 = .ok (.iinc 2 1, 3) := by decide +kernel
theorem dX7_ages_63 : decode cX7_ages 63 = .ok (.aload_n 0, 1) := by decide +kernel
theorem dX7_ages_64 : decode cX7_ages 64 = .ok (.dup, 1) := by decide +kernel
theorem dX7_ages_65 : decode cX7_ages 65 = .ok (.getfield 210, 3) := by decide +kernel
theorem dX7_ages_68 : decode cX7_ages 68 = .ok (.iconst 1, 1) := by decide +kernel
theorem dX7_ages_69 : decode cX7_ages 69 = .ok (.iadd, 1) := by decide +kernel
theorem dX7_ages_70 : decode cX7_ages 70 = .ok (.putfield 210, 3) := by decide +kernel
theorem dX7_ages_73 : decode cX7_ages 73 = .ok (.iinc 3 1, 3) := by decide +kernel
theorem dX7_ages_76 : decode cX7_ages 76 = .ok (.goto (-54), 3) := by decide +kernel
theorem dX7_ages_79 : decode cX7_ages 79 = .ok (.iload_n 2, 1) := by decide +kernel
theorem dX7_ages_80 : decode cX7_ages 80 = .ok (.ireturn, 1) := by decide +kernel
theorem dX7_seed_0 : decode cX7_seed 0 = .ok (.aload_n 0, 1) := by decide +kernel
theorem dX7_seed_1 : decode cX7_seed 1 = .ok (.getfield 83, 3) := by decide +kernel
theorem dX7_seed_4 : decode cX7_seed 4 = .ok (.istore_n 2, 1) := by decide +kernel
theorem dX7_seed_5 : decode cX7_seed 5 = .ok (.aload_n 0, 1) := by decide +kernel
theorem dX7_seed_6 : decode cX7_seed 6 = .ok (.iload_n 1, 1) := by decide +kernel
theorem dX7_seed_7 : decode cX7_seed 7 = .ok (.putfield 83, 3) := by decide +kernel
theorem dX7_seed_10 : decode cX7_seed 10 = .ok (.iload_n 2, 1) := by decide +kernel
theorem dX7_seed_11 : decode cX7_seed 11 = .ok (.ireturn, 1) := by decide +kernel
theorem dX7_ran_0 : decode cX7_ran 0 = .ok (.aload_n 0, 1) := by decide +kernel
theorem dX7_ran_1 : decode cX7_ran 1 = .ok (.getfield 330, 3) := by decide +kernel
theorem dX7_ran_4 : decode cX7_ran 4 = .ok (.bipush 20, 2) := by decide +kernel
theorem dX7_ran_6 : decode cX7_ran 6 = .ok (.if_icmp .ge 13, 3) := by decide +kernel
theorem dX7_ran_9 : decode cX7_ran 9 = .ok (.aload_n 0, 1) := by decide +kernel
theorem dX7_ran_10 : decode cX7_ran 10 = .ok (.getfield 56, 3) := by decide +kernel
theorem dX7_ran_13 : decode cX7_ran 13 = .ok (.aload_n 0, 1) := by decide +kernel
theorem dX7_ran_14 : decode cX7_ran 14 = .ok (.getfield 330, 3) := by decide +kernel
theorem dX7_ran_17 : decode cX7_ran 17 = .ok (.iload_n 1, 1) := by decide +kernel
theorem dX7_ran_18 : decode cX7_ran 18 = .ok (.iastore, 1) := by decide +kernel
theorem dX7_ran_19 : decode cX7_ran 19 = .ok (.aload_n 0, 1) := by decide +kernel
theorem dX7_ran_20 : decode cX7_ran 20 = .ok (.dup, 1) := by decide +kernel
theorem dX7_ran_21 : decode cX7_ran 21 = .ok (.getfield 330, 3) := by decide +kernel
theorem dX7_ran_24 : decode cX7_ran 24 = .ok (.iconst 1, 1) := by decide +kernel
theorem dX7_ran_25 : decode cX7_ran 25 = .ok (.iadd, 1) := by decide +kernel
theorem dX7_ran_26 : decode cX7_ran 26 = .ok (.putfield 330, 3) := by decide +kernel
theorem dX7_ran_29 : decode cX7_ran 29 = .ok (.return_, 1) := by decide +kernel
theorem dX7_seesBy_0 : decode cX7_seesBy 0 = .ok (.aload_n 0, 1) := by decide +kernel
theorem dX7_seesBy_1 : decode cX7_seesBy 1 = .ok (.getfield 20, 3) := by decide +kernel
theorem dX7_seesBy_4 : decode cX7_seesBy 4 = .ok (.iload_n 1, 1) := by decide +kernel
theorem dX7_seesBy_5 : decode cX7_seesBy 5 = .ok (.iaload, 1) := by decide +kernel
theorem dX7_seesBy_6 : decode cX7_seesBy 6 = .ok (.istore_n 3, 1) := by decide +kernel
theorem dX7_seesBy_7 : decode cX7_seesBy 7 = .ok (.iload_n 3, 1) := by decide +kernel
theorem dX7_seesBy_8 : decode cX7_seesBy 8 = .ok (.bipush 6, 2) := by decide +kernel
theorem dX7_seesBy_10 : decode cX7_seesBy 10 = .ok (.if_icmp .ne 9, 3) := by decide +kernel
theorem dX7_seesBy_13 : decode cX7_seesBy 13 = .ok (.aload_n 0, 1) := by decide +kernel
theorem dX7_seesBy_14 : decode cX7_seesBy 14 = .ok (.bipush 70, 2) := by decide +kernel
theorem dX7_seesBy_16 : decode cX7_seesBy 16 = .ok (.invokevirtual 333, 3) := by decide +kernel
theorem dX7_seesBy_19 : decode cX7_seesBy 19 = .ok (.iload_n 3, 1) := by decide +kernel
theorem dX7_seesBy_20 : decode cX7_seesBy 20 = .ok (.iconst 4, 1) := by decide +kernel
theorem dX7_seesBy_21 : decode cX7_seesBy 21 = .ok (.if_icmp .eq 9, 3) := by decide +kernel
theorem dX7_seesBy_24 : decode cX7_seesBy 24 = .ok (.iload_n 3, 1) := by decide +kernel
theorem dX7_seesBy_25 : decode cX7_seesBy 25 = .ok (.bipush 6, 2) := by decide +kernel
theorem dX7_seesBy_27 : decode cX7_seesBy 27 = .ok (.if_icmp .ne 9, 3) := by decide +kernel
theorem dX7_seesBy_30 : decode cX7_seesBy 30 = .ok (.aload_n 0, 1) := by decide +kernel
theorem dX7_seesBy_31 : decode cX7_seesBy 31 = .ok (.bipush 51, 2) := by decide +kernel
theorem dX7_seesBy_33 : decode cX7_seesBy 33 = .ok (.invokevirtual 333, 3) := by decide +kernel
theorem dX7_seesBy_36 : decode cX7_seesBy 36 = .ok (.iload_n 3, 1) := by decide +kernel
theorem dX7_seesBy_37 : decode cX7_seesBy 37 = .ok (.iconst 1, 1) := by decide +kernel
theorem dX7_seesBy_38 : decode cX7_seesBy 38 = .ok (.if_icmp .eq 8, 3) := by decide +kernel
theorem dX7_seesBy_41 : decode cX7_seesBy 41 = .ok (.iload_n 3, 1) := by decide +kernel
theorem dX7_seesBy_42 : decode cX7_seesBy 42 = .ok (.iconst 3, 1) := by decide +kernel
theorem dX7_seesBy_43 : decode cX7_seesBy 43 = .ok (.if_icmp .ne 9, 3) := by decide +kernel
theorem dX7_seesBy_46 : decode cX7_seesBy 46 = .ok (.aload_n 0, 1) := by decide +kernel
theorem dX7_seesBy_47 : decode cX7_seesBy 47 = .ok (.bipush 20, 2) := by decide +kernel
theorem dX7_seesBy_49 : decode cX7_seesBy 49 = .ok (.invokevirtual 333, 3) := by decide +kernel
theorem dX7_seesBy_52 : decode cX7_seesBy 52 = .ok (.aload_n 0, 1) := by decide +kernel
theorem dX7_seesBy_53 : decode cX7_seesBy 53 = .ok (.bipush 10, 2) := by decide +kernel
theorem dX7_seesBy_55 : decode cX7_seesBy 55 = .ok (.invokevirtual 333, 3) := by decide +kernel
theorem dX7_seesBy_58 : decode cX7_seesBy 58 = .ok (.iload_n 2, 1) := by decide +kernel
theorem dX7_seesBy_59 : decode cX7_seesBy 59 = .ok (.iload_n 1, 1) := by decide +kernel
theorem dX7_seesBy_60 : decode cX7_seesBy 60 = .ok (.iadd, 1) := by decide +kernel
theorem dX7_seesBy_61 : decode cX7_seesBy 61 = .ok (.istore 4, 2) := by decide +kernel
theorem dX7_seesBy_63 : decode cX7_seesBy 63 = .ok (.iload_n 3, 1) := by decide +kernel
theorem dX7_seesBy_64 : decode cX7_seesBy 64 = .ok (.iconst 1, 1) := by decide +kernel
theorem dX7_seesBy_65 : decode cX7_seesBy 65 = .ok (.if_icmp .eq 8, 3) := by decide +kernel
theorem dX7_seesBy_68 : decode cX7_seesBy 68 = .ok (.iload_n 3, 1) := by decide +kernel
theorem dX7_seesBy_69 : decode cX7_seesBy 69 = .ok (.iconst 3, 1) := by decide +kernel
theorem dX7_seesBy_70 : decode cX7_seesBy 70 = .ok (.if_icmp .ne 13, 3) := by decide +kernel
theorem dX7_seesBy_73 : decode cX7_seesBy 73 = .ok (.iload 4, 2) := by decide +kernel
theorem dX7_seesBy_75 : decode cX7_seesBy 75 = .ok (.aload_n 0, 1) := by decide +kernel
theorem dX7_seesBy_76 : decode cX7_seesBy 76 = .ok (.getfield 23, 3) := by decide +kernel
theorem dX7_seesBy_79 : decode cX7_seesBy 79 = .ok (.iload_n 1, 1) := by decide +kernel
theorem dX7_seesBy_80 : decode cX7_seesBy 80 = .ok (.iaload, 1) := by decide +kernel
theorem dX7_seesBy_81 : decode cX7_seesBy 81 = .ok (.iadd, 1) := by decide +kernel
theorem dX7_seesBy_82 : decode cX7_seesBy 82 = .ok (.ireturn, 1) := by decide +kernel
theorem dX7_seesBy_83 : decode cX7_seesBy 83 = .ok (.iload_n 3, 1) := by decide +kernel
theorem dX7_seesBy_84 : decode cX7_seesBy 84 = .ok (.iconst 4, 1) := by decide +kernel
theorem dX7_seesBy_85 : decode cX7_seesBy 85 = .ok (.if_icmp .ne 10, 3) := by decide +kernel
theorem dX7_seesBy_88 : decode cX7_seesBy 88 = .ok (.iload 4, 2) := by decide +kernel
theorem dX7_seesBy_90 : decode cX7_seesBy 90 = .ok (.iload_n 1, 1) := by decide +kernel
theorem dX7_seesBy_91 : decode cX7_seesBy 91 = .ok (.isub, 1) := by decide +kernel
theorem dX7_seesBy_92 : decode cX7_seesBy 92 = .ok (.goto 20, 3) := by decide +kernel
theorem dX7_seesBy_95 : decode cX7_seesBy 95 = .ok (.iload_n 3, 1) := by decide +kernel
theorem dX7_seesBy_96 : decode cX7_seesBy 96 = .ok (.bipush 6, 2) := by decide +kernel
theorem dX7_seesBy_98 : decode cX7_seesBy 98 = .ok (.if_icmp .ne 12, 3) := by decide +kernel
theorem dX7_seesBy_101 : decode cX7_seesBy 101 = .ok (.iload 4, 2) := by decide +kernel
theorem dX7_seesBy_103 : decode cX7_seesBy 103 = .ok (.iload_n 1, 1) := by decide +kernel
theorem dX7_seesBy_104 : decode cX7_seesBy 104 = .ok (.isub, 1) := by decide +kernel
theorem dX7_seesBy_105 : decode cX7_seesBy 105 = .ok (.iconst 2, 1) := by decide +kernel
theorem dX7_seesBy_106 : decode cX7_seesBy 106 = .ok (.imul, 1) := by decide +kernel
theorem dX7_seesBy_107 : decode cX7_seesBy 107 = .ok (.goto 5, 3) := by decide +kernel
theorem dX7_seesBy_110 : decode cX7_seesBy 110 = .ok (.iload 4, 2) := by decide +kernel
theorem dX7_seesBy_112 : decode cX7_seesBy 112 = .ok (.ireturn, 1) := by decide +kernel
theorem dX7_mournsBy_0 : decode cX7_mournsBy 0 = .ok (.aload_n 0, 1) := by decide +kernel
theorem dX7_mournsBy_1 : decode cX7_mournsBy 1 = .ok (.getfield 20, 3) := by decide +kernel
theorem dX7_mournsBy_4 : decode cX7_mournsBy 4 = .ok (.iload_n 1, 1) := by decide +kernel
theorem dX7_mournsBy_5 : decode cX7_mournsBy 5 = .ok (.iaload, 1) := by decide +kernel
theorem dX7_mournsBy_6 : decode cX7_mournsBy 6 = .ok (.istore_n 3, 1) := by decide +kernel
theorem dX7_mournsBy_7 : decode cX7_mournsBy 7 = .ok (.iload_n 2, 1) := by decide +kernel
theorem dX7_mournsBy_8 : decode cX7_mournsBy 8 = .ok (.istore 4, 2) := by decide +kernel
theorem dX7_mournsBy_10 : decode cX7_mournsBy 10 = .ok (.iload_n 3, 1) := by decide +kernel
theorem dX7_mournsBy_11 : decode cX7_mournsBy 11 = .ok (.bipush 6, 2) := by decide +kernel
theorem dX7_mournsBy_13 : decode cX7_mournsBy 13 = .ok (.if_icmp .ne 19, 3) := by decide +kernel
theorem dX7_mournsBy_16 : decode cX7_mournsBy 16 = .ok (.aload_n 0, 1) := by decide +kernel
theorem dX7_mournsBy_17 : decode cX7_mournsBy 17 = .ok (.bipush 71, 2) := by decide +kernel
theorem dX7_mournsBy_19 : decode cX7_mournsBy 19 = .ok (.invokevirtual 333, 3) := by decide +kernel
theorem dX7_mournsBy_22 : decode cX7_mournsBy 22 = .ok (.iload_n 2, 1) := by decide +kernel
theorem dX7_mournsBy_23 : decode cX7_mournsBy 23 = .ok (.aload_n 0, 1) := by decide +kernel
theorem dX7_mournsBy_24 : decode cX7_mournsBy 24 = .ok (.getfield 23, 3) := by decide +kernel
theorem dX7_mournsBy_27 : decode cX7_mournsBy 27 = .ok (.iload_n 1, 1) := by decide +kernel
theorem dX7_mournsBy_28 : decode cX7_mournsBy 28 = .ok (.iaload, 1) := by decide +kernel
theorem dX7_mournsBy_29 : decode cX7_mournsBy 29 = .ok (.isub, 1) := by decide +kernel
theorem dX7_mournsBy_30 : decode cX7_mournsBy 30 = .ok (.istore 4, 2) := by decide +kernel
theorem dX7_mournsBy_32 : decode cX7_mournsBy 32 = .ok (.iload_n 3, 1) := by decide +kernel
theorem dX7_mournsBy_33 : decode cX7_mournsBy 33 = .ok (.iconst 3, 1) := by decide +kernel
theorem dX7_mournsBy_34 : decode cX7_mournsBy 34 = .ok (.if_icmp .ne 14, 3) := by decide +kernel
theorem dX7_mournsBy_37 : decode cX7_mournsBy 37 = .ok (.aload_n 0, 1) := by decide +kernel
theorem dX7_mournsBy_38 : decode cX7_mournsBy 38 = .ok (.bipush 40, 2) := by decide +kernel
theorem dX7_mournsBy_40 : decode cX7_mournsBy 40 = .ok (.invokevirtual 333, 3) := by decide +kernel
theorem dX7_mournsBy_43 : decode cX7_mournsBy 43 = .ok (.iload_n 2, 1) := by decide +kernel
theorem dX7_mournsBy_44 : decode cX7_mournsBy 44 = .ok (.iconst 1, 1) := by decide +kernel
theorem dX7_mournsBy_45 : decode cX7_mournsBy 45 = .ok (.iadd, 1) := by decide +kernel
theorem dX7_mournsBy_46 : decode cX7_mournsBy 46 = .ok (.istore 4, 2) := by decide +kernel
theorem dX7_mournsBy_48 : decode cX7_mournsBy 48 = .ok (.iload_n 3, 1) := by decide +kernel
theorem dX7_mournsBy_49 : decode cX7_mournsBy 49 = .ok (.iconst 2, 1) := by decide +kernel
theorem dX7_mournsBy_50 : decode cX7_mournsBy 50 = .ok (.if_icmp .eq 8, 3) := by decide +kernel
theorem dX7_mournsBy_53 : decode cX7_mournsBy 53 = .ok (.iload_n 3, 1) := by decide +kernel
theorem dX7_mournsBy_54 : decode cX7_mournsBy 54 = .ok (.iconst 5, 1) := by decide +kernel
theorem dX7_mournsBy_55 : decode cX7_mournsBy 55 = .ok (.if_icmp .ne 9, 3) := by decide +kernel
theorem dX7_mournsBy_58 : decode cX7_mournsBy 58 = .ok (.aload_n 0, 1) := by decide +kernel
theorem dX7_mournsBy_59 : decode cX7_mournsBy 59 = .ok (.bipush 30, 2) := by decide +kernel
theorem dX7_mournsBy_61 : decode cX7_mournsBy 61 = .ok (.invokevirtual 333, 3) := by decide +kernel
theorem dX7_mournsBy_64 : decode cX7_mournsBy 64 = .ok (.aload_n 0, 1) := by decide +kernel
theorem dX7_mournsBy_65 : decode cX7_mournsBy 65 = .ok (.bipush 11, 2) := by decide +kernel
theorem dX7_mournsBy_67 : decode cX7_mournsBy 67 = .ok (.invokevirtual 333, 3) := by decide +kernel
theorem dX7_mournsBy_70 : decode cX7_mournsBy 70 = .ok (.aload_n 0, 1) := by decide +kernel
theorem dX7_mournsBy_71 : decode cX7_mournsBy 71 = .ok (.iload_n 1, 1) := by decide +kernel
theorem dX7_mournsBy_72 : decode cX7_mournsBy 72 = .ok (.iload 4, 2) := by decide +kernel
theorem dX7_mournsBy_74 : decode cX7_mournsBy 74 = .ok (.invokevirtual 337, 3) := by decide +kernel
theorem dX7_mournsBy_77 : decode cX7_mournsBy 77 = .ok (.iconst 2, 1) := by decide +kernel
theorem dX7_mournsBy_78 : decode cX7_mournsBy 78 = .ok (.imul, 1) := by decide +kernel
theorem dX7_mournsBy_79 : decode cX7_mournsBy 79 = .ok (.istore 5, 2) := by decide +kernel
theorem dX7_mournsBy_81 : decode cX7_mournsBy 81 = .ok (.iload_n 3, 1) := by decide +kernel
theorem dX7_mournsBy_82 : decode cX7_mournsBy 82 = .ok (.iconst 2, 1) := by decide +kernel
theorem dX7_mournsBy_83 : decode cX7_mournsBy 83 = .ok (.if_icmp .eq 8, 3) := by decide +kernel
theorem dX7_mournsBy_86 : decode cX7_mournsBy 86 = .ok (.iload_n 3, 1) := by decide +kernel
theorem dX7_mournsBy_87 : decode cX7_mournsBy 87 = .ok (.iconst 5, 1) := by decide +kernel
theorem dX7_mournsBy_88 : decode cX7_mournsBy 88 = .ok (.if_icmp .ne 10, 3) := by decide +kernel
theorem dX7_mournsBy_91 : decode cX7_mournsBy 91 = .ok (.iload 5, 2) := by decide +kernel
theorem dX7_mournsBy_93 : decode cX7_mournsBy 93 = .ok (.iconst 3, 1) := by decide +kernel
theorem dX7_mournsBy_94 : decode cX7_mournsBy 94 = .ok (.imul, 1) := by decide +kernel
theorem dX7_mournsBy_95 : decode cX7_mournsBy 95 = .ok (.goto 5, 3) := by decide +kernel
theorem dX7_mournsBy_98 : decode cX7_mournsBy 98 = .ok (.iload 5, 2) := by decide +kernel
theorem dX7_mournsBy_100 : decode cX7_mournsBy 100 = .ok (.ireturn, 1) := by decide +kernel
theorem dX7_leansBy_0 : decode cX7_leansBy 0 = .ok (.aload_n 0, 1) := by decide +kernel
theorem dX7_leansBy_1 : decode cX7_leansBy 1 = .ok (.getfield 20, 3) := by decide +kernel
theorem dX7_leansBy_4 : decode cX7_leansBy 4 = .ok (.iload_n 1, 1) := by decide +kernel
theorem dX7_leansBy_5 : decode cX7_leansBy 5 = .ok (.iaload, 1) := by decide +kernel
theorem dX7_leansBy_6 : decode cX7_leansBy 6 = .ok (.istore_n 3, 1) := by decide +kernel
theorem dX7_leansBy_7 : decode cX7_leansBy 7 = .ok (.iload_n 3, 1) := by decide +kernel
theorem dX7_leansBy_8 : decode cX7_leansBy 8 = .ok (.iconst 4, 1) := by decide +kernel
theorem dX7_leansBy_9 : decode cX7_leansBy 9 = .ok (.if_icmp .eq 9, 3) := by decide +kernel
theorem dX7_leansBy_12 : decode cX7_leansBy 12 = .ok (.iload_n 3, 1) := by decide +kernel
theorem dX7_leansBy_13 : decode cX7_leansBy 13 = .ok (.bipush 6, 2) := by decide +kernel
theorem dX7_leansBy_15 : decode cX7_leansBy 15 = .ok (.if_icmp .ne 9, 3) := by decide +kernel
theorem dX7_leansBy_18 : decode cX7_leansBy 18 = .ok (.aload_n 0, 1) := by decide +kernel
theorem dX7_leansBy_19 : decode cX7_leansBy 19 = .ok (.bipush 50, 2) := by decide +kernel
theorem dX7_leansBy_21 : decode cX7_leansBy 21 = .ok (.invokevirtual 333, 3) := by decide +kernel
theorem dX7_leansBy_24 : decode cX7_leansBy 24 = .ok (.iload_n 3, 1) := by decide +kernel
theorem dX7_leansBy_25 : decode cX7_leansBy 25 = .ok (.iconst 5, 1) := by decide +kernel
theorem dX7_leansBy_26 : decode cX7_leansBy 26 = .ok (.if_icmp .ne 9, 3) := by decide +kernel
theorem dX7_leansBy_29 : decode cX7_leansBy 29 = .ok (.aload_n 0, 1) := by decide +kernel
theorem dX7_leansBy_30 : decode cX7_leansBy 30 = .ok (.bipush 60, 2) := by decide +kernel
theorem dX7_leansBy_32 : decode cX7_leansBy 32 = .ok (.invokevirtual 333, 3) := by decide +kernel
theorem dX7_leansBy_35 : decode cX7_leansBy 35 = .ok (.aload_n 0, 1) := by decide +kernel
theorem dX7_leansBy_36 : decode cX7_leansBy 36 = .ok (.bipush 12, 2) := by decide +kernel
theorem dX7_leansBy_38 : decode cX7_leansBy 38 = .ok (.invokevirtual 333, 3) := by decide +kernel
theorem dX7_leansBy_41 : decode cX7_leansBy 41 = .ok (.aload_n 0, 1) := by decide +kernel
theorem dX7_leansBy_42 : decode cX7_leansBy 42 = .ok (.iload_n 1, 1) := by decide +kernel
theorem dX7_leansBy_43 : decode cX7_leansBy 43 = .ok (.iload_n 2, 1) := by decide +kernel
theorem dX7_leansBy_44 : decode cX7_leansBy 44 = .ok (.invokevirtual 340, 3) := by decide +kernel
theorem dX7_leansBy_47 : decode cX7_leansBy 47 = .ok (.istore 4, 2) := by decide +kernel
theorem dX7_leansBy_49 : decode cX7_leansBy 49 = .ok (.iload 4, 2) := by decide +kernel
theorem dX7_leansBy_51 : decode cX7_leansBy 51 = .ok (.aload_n 0, 1) := by decide +kernel
theorem dX7_leansBy_52 : decode cX7_leansBy 52 = .ok (.iload_n 1, 1) := by decide +kernel
theorem dX7_leansBy_53 : decode cX7_leansBy 53 = .ok (.iload_n 2, 1) := by decide +kernel
theorem dX7_leansBy_54 : decode cX7_leansBy 54 = .ok (.aload_n 0, 1) := by decide +kernel
theorem dX7_leansBy_55 : decode cX7_leansBy 55 = .ok (.getfield 23, 3) := by decide +kernel
theorem dX7_leansBy_58 : decode cX7_leansBy 58 = .ok (.iload_n 1, 1) := by decide +kernel
theorem dX7_leansBy_59 : decode cX7_leansBy 59 = .ok (.iaload, 1) := by decide +kernel
theorem dX7_leansBy_60 : decode cX7_leansBy 60 = .ok (.isub, 1) := by decide +kernel
theorem dX7_leansBy_61 : decode cX7_leansBy 61 = .ok (.invokevirtual 337, 3) := by decide +kernel
theorem dX7_leansBy_64 : decode cX7_leansBy 64 = .ok (.ixor, 1) := by decide +kernel
theorem dX7_leansBy_65 : decode cX7_leansBy 65 = .ok (.istore 5, 2) := by decide +kernel
theorem dX7_leansBy_67 : decode cX7_leansBy 67 = .ok (.iload_n 3, 1) := by decide +kernel
theorem dX7_leansBy_68 : decode cX7_leansBy 68 = .ok (.iconst 4, 1) := by decide +kernel
theorem dX7_leansBy_69 : decode cX7_leansBy 69 = .ok (.if_icmp .eq 9, 3) := by decide +kernel
theorem dX7_leansBy_72 : decode cX7_leansBy 72 = .ok (.iload_n 3, 1) := by decide +kernel
theorem dX7_leansBy_73 : decode cX7_leansBy 73 = .ok (.bipush 6, 2) := by decide +kernel
theorem dX7_leansBy_75 : decode cX7_leansBy 75 = .ok (.if_icmp .ne 9, 3) := by decide +kernel
theorem dX7_leansBy_78 : decode cX7_leansBy 78 = .ok (.iload 5, 2) := by decide +kernel
theorem dX7_leansBy_80 : decode cX7_leansBy 80 = .ok (.ineg, 1) := by decide +kernel
theorem dX7_leansBy_81 : decode cX7_leansBy 81 = .ok (.goto 17, 3) := by decide +kernel
theorem dX7_leansBy_84 : decode cX7_leansBy 84 = .ok (.iload_n 3, 1) := by decide +kernel
theorem dX7_leansBy_85 : decode cX7_leansBy 85 = .ok (.iconst 5, 1) := by decide +kernel
theorem dX7_leansBy_86 : decode cX7_leansBy 86 = .ok (.if_icmp .ne 10, 3) := by decide +kernel
theorem dX7_leansBy_89 : decode cX7_leansBy 89 = .ok (.iload 5, 2) := by decide +kernel
theorem dX7_leansBy_91 : decode cX7_leansBy 91 = .ok (.iconst 5, 1) := by decide +kernel
theorem dX7_leansBy_92 : decode cX7_leansBy 92 = .ok (.ixor, 1) := by decide +kernel
theorem dX7_leansBy_93 : decode cX7_leansBy 93 = .ok (.goto 5, 3) := by decide +kernel
theorem dX7_leansBy_96 : decode cX7_leansBy 96 = .ok (.iload 5, 2) := by decide +kernel
theorem dX7_leansBy_98 : decode cX7_leansBy 98 = .ok (.ireturn, 1) := by decide +kernel
theorem dX7_act_0 : decode cX7_act 0 = .ok (.aload_n 0, 1) := by decide +kernel
theorem dX7_act_1 : decode cX7_act 1 = .ok (.iconst 0, 1) := by decide +kernel
theorem dX7_act_2 : decode cX7_act 2 = .ok (.putfield 330, 3) := by decide +kernel
theorem dX7_act_5 : decode cX7_act 5 = .ok (.aload_n 0, 1) := by decide +kernel
theorem dX7_act_6 : decode cX7_act 6 = .ok (.iload_n 1, 1) := by decide +kernel
theorem dX7_act_7 : decode cX7_act 7 = .ok (.invokevirtual 101, 3) := by decide +kernel
theorem dX7_act_10 : decode cX7_act 10 = .ok (.ifCond .eq 12, 3) := by decide +kernel
theorem dX7_act_13 : decode cX7_act 13 = .ok (.iload_n 2, 1) := by decide +kernel
theorem dX7_act_14 : decode cX7_act 14 = .ok (.iconst 0, 1) := by decide +kernel
theorem dX7_act_15 : decode cX7_act 15 = .ok (.iconst 2, 1) := by decide +kernel
theorem dX7_act_16 : decode cX7_act 16 = .ok (.invokestatic 97, 3) := by decide +kernel
theorem dX7_act_19 : decode cX7_act 19 = .ok (.ifCond .ne 5, 3) := by decide +kernel
theorem dX7_act_22 : decode cX7_act 22 = .ok (.iconst 0, 1) := by decide +kernel
theorem dX7_act_23 : decode cX7_act 23 = .ok (.ireturn, 1) := by decide +kernel
theorem dX7_act_24 : decode cX7_act 24 = .ok (.iload_n 2, 1) := by decide +kernel
theorem dX7_act_25 : decode cX7_act 25 = .ok (.ifCond .ne 12, 3) := by decide +kernel
theorem dX7_act_28 : decode cX7_act 28 = .ok (.aload_n 0, 1) := by decide +kernel
theorem dX7_act_29 : decode cX7_act 29 = .ok (.iload_n 1, 1) := by decide +kernel
theorem dX7_act_30 : decode cX7_act 30 = .ok (.iload_n 3, 1) := by decide +kernel
theorem dX7_act_31 : decode cX7_act 31 = .ok (.invokevirtual 337, 3) := by decide +kernel
theorem dX7_act_34 : decode cX7_act 34 = .ok (.goto 23, 3) := by decide +kernel
theorem dX7_act_37 : decode cX7_act 37 = .ok (.iload_n 2, 1) := by decide +kernel
theorem dX7_act_38 : decode cX7_act 38 = .ok (.iconst 1, 1) := by decide +kernel
theorem dX7_act_39 : decode cX7_act 39 = .ok (.if_icmp .ne 12, 3) := by decide +kernel
theorem dX7_act_42 : decode cX7_act 42 = .ok (.aload_n 0, 1) := by decide +kernel
theorem dX7_act_43 : decode cX7_act 43 = .ok (.iload_n 1, 1) := by decide +kernel
theorem dX7_act_44 : decode cX7_act 44 = .ok (.iload_n 3, 1) := by decide +kernel
theorem dX7_act_45 : decode cX7_act 45 = .ok (.invokevirtual 340, 3) := by decide +kernel
theorem dX7_act_48 : decode cX7_act 48 = .ok (.goto 9, 3) := by decide +kernel
theorem dX7_act_51 : decode cX7_act 51 = .ok (.aload_n 0, 1) := by decide +kernel
theorem dX7_act_52 : decode cX7_act 52 = .ok (.iload_n 1, 1) := by decide +kernel
theorem dX7_act_53 : decode cX7_act 53 = .ok (.iload_n 3, 1) := by decide +kernel
theorem dX7_act_54 : decode cX7_act 54 = .ok (.invokevirtual 343, 3) := by decide +kernel
theorem dX7_act_57 : decode cX7_act 57 = .ok (.ireturn, 1) := by decide +kernel
theorem dX7_trace_0 : decode cX7_trace 0 = .ok (.iload_n 1, 1) := by decide +kernel
theorem dX7_trace_1 : decode cX7_trace 1 = .ok (.ifCond .lt 26, 3) := by decide +kernel
theorem dX7_trace_4 : decode cX7_trace 4 = .ok (.iload_n 1, 1) := by decide +kernel
theorem dX7_trace_5 : decode cX7_trace 5 = .ok (.aload_n 0, 1) := by decide +kernel
theorem dX7_trace_6 : decode cX7_trace 6 = .ok (.getfield 330, 3) := by decide +kernel
theorem dX7_trace_9 : decode cX7_trace 9 = .ok (.if_icmp .ge 18, 3) := by decide +kernel
theorem dX7_trace_12 : decode cX7_trace 12 = .ok (.iload_n 1, 1) := by decide +kernel
theorem dX7_trace_13 : decode cX7_trace 13 = .ok (.bipush 20, 2) := by decide +kernel
theorem dX7_trace_15 : decode cX7_trace 15 = .ok (.if_icmp .ge 12, 3) := by decide +kernel
theorem dX7_trace_18 : decode cX7_trace 18 = .ok (.aload_n 0, 1) := by decide +kernel
theorem dX7_trace_19 : decode cX7_trace 19 = .ok (.getfield 56, 3) := by decide +kernel
theorem dX7_trace_22 : decode cX7_trace 22 = .ok (.iload_n 1, 1) := by decide +kernel
theorem dX7_trace_23 : decode cX7_trace 23 = .ok (.iaload, 1) := by decide +kernel
theorem dX7_trace_24 : decode cX7_trace 24 = .ok (.goto 4, 3) := by decide +kernel
theorem dX7_trace_27 : decode cX7_trace 27 = .ok (.iconst (-1), 1) := by decide +kernel
theorem dX7_trace_28 : decode cX7_trace 28 = .ok (.ireturn, 1) := by decide +kernel
theorem dX7_keep_0 : decode cX7_keep 0 = .ok (.iconst 0, 1) := by decide +kernel
theorem dX7_keep_1 : decode cX7_keep 1 = .ok (.istore_n 2, 1) := by decide +kernel
theorem dX7_keep_2 : decode cX7_keep 2 = .ok (.iload_n 2, 1) := by decide +kernel
theorem dX7_keep_3 : decode cX7_keep 3 = .ok (.bipush 10, 2) := by decide +kernel
theorem dX7_keep_5 : decode cX7_keep 5 = .ok (.if_icmp .ge 78, 3) := by decide +kernel
theorem dX7_keep_8 : decode cX7_keep 8 = .ok (.aload_n 1, 1) := by decide +kernel
theorem dX7_keep_9 : decode cX7_keep 9 = .ok (.iload_n 2, 1) := by decide +kernel
theorem dX7_keep_10 : decode cX7_keep 10 = .ok (.aload_n 0, 1) := by decide +kernel
theorem dX7_keep_11 : decode cX7_keep 11 = .ok (.getfield 20, 3) := by decide +kernel
theorem dX7_keep_14 : decode cX7_keep 14 = .ok (.iload_n 2, 1) := by decide +kernel
theorem dX7_keep_15 : decode cX7_keep 15 = .ok (.iaload, 1) := by decide +kernel
theorem dX7_keep_16 : decode cX7_keep 16 = .ok (.iastore, 1) := by decide +kernel
theorem dX7_keep_17 : decode cX7_keep 17 = .ok (.aload_n 1, 1) := by decide +kernel
theorem dX7_keep_18 : decode cX7_keep 18 = .ok (.bipush 10, 2) := by decide +kernel
theorem dX7_keep_20 : decode cX7_keep 20 = .ok (.iload_n 2, 1) := by decide +kernel
theorem dX7_keep_21 : decode cX7_keep 21 = .ok (.iadd, 1) := by decide +kernel
theorem dX7_keep_22 : decode cX7_keep 22 = .ok (.aload_n 0, 1) := by decide +kernel
theorem dX7_keep_23 : decode cX7_keep 23 = .ok (.getfield 23, 3) := by decide +kernel
theorem dX7_keep_26 : decode cX7_keep 26 = .ok (.iload_n 2, 1) := by decide +kernel
theorem dX7_keep_27 : decode cX7_keep 27 = .ok (.iaload, 1) := by decide +kernel
theorem dX7_keep_28 : decode cX7_keep 28 = .ok (.iastore, 1) := by decide +kernel
theorem dX7_keep_29 : decode cX7_keep 29 = .ok (.aload_n 1, 1) := by decide +kernel
theorem dX7_keep_30 : decode cX7_keep 30 = .ok (.bipush 20, 2) := by decide +kernel
theorem dX7_keep_32 : decode cX7_keep 32 = .ok (.iload_n 2, 1) := by decide +kernel
theorem dX7_keep_33 : decode cX7_keep 33 = .ok (.iadd, 1) := by decide +kernel
theorem dX7_keep_34 : decode cX7_keep 34 = .ok (.aload_n 0, 1) := by decide +kernel
theorem dX7_keep_35 : decode cX7_keep 35 = .ok (.getfield 26, 3) := by decide +kernel
theorem dX7_keep_38 : decode cX7_keep 38 = .ok (.iload_n 2, 1) := by decide +kernel
theorem dX7_keep_39 : decode cX7_keep 39 = .ok (.iaload, 1) := by decide +kernel
theorem dX7_keep_40 : decode cX7_keep 40 = .ok (.iastore, 1) := by decide +kernel
theorem dX7_keep_41 : decode cX7_keep 41 = .ok (.aload_n 1, 1) := by decide +kernel
theorem dX7_keep_42 : decode cX7_keep 42 = .ok (.bipush 30, 2) := by decide +kernel
theorem dX7_keep_44 : decode cX7_keep 44 = .ok (.iload_n 2, 1) := by decide +kernel
theorem dX7_keep_45 : decode cX7_keep 45 = .ok (.iadd, 1) := by decide +kernel
theorem dX7_keep_46 : decode cX7_keep 46 = .ok (.aload_n 0, 1) := by decide +kernel
theorem dX7_keep_47 : decode cX7_keep 47 = .ok (.getfield 29, 3) := by decide +kernel
theorem dX7_keep_50 : decode cX7_keep 50 = .ok (.iload_n 2, 1) := by decide +kernel
theorem dX7_keep_51 : decode cX7_keep 51 = .ok (.iaload, 1) := by decide +kernel
theorem dX7_keep_52 : decode cX7_keep 52 = .ok (.iastore, 1) := by decide +kernel
theorem dX7_keep_53 : decode cX7_keep 53 = .ok (.aload_n 1, 1) := by decide +kernel
theorem dX7_keep_54 : decode cX7_keep 54 = .ok (.bipush 40, 2) := by decide +kernel
theorem dX7_keep_56 : decode cX7_keep 56 = .ok (.iload_n 2, 1) := by decide +kernel
theorem dX7_keep_57 : decode cX7_keep 57 = .ok (.iadd, 1) := by decide +kernel
theorem dX7_keep_58 : decode cX7_keep 58 = .ok (.aload_n 0, 1) := by decide +kernel
theorem dX7_keep_59 : decode cX7_keep 59 = .ok (.getfield 32, 3) := by decide +kernel
theorem dX7_keep_62 : decode cX7_keep 62 = .ok (.iload_n 2, 1) := by decide +kernel
theorem dX7_keep_63 : decode cX7_keep 63 = .ok (.iaload, 1) := by decide +kernel
theorem dX7_keep_64 : decode cX7_keep 64 = .ok (.iastore, 1) := by decide +kernel
theorem dX7_keep_65 : decode cX7_keep 65 = .ok (.aload_n 1, 1) := by decide +kernel
theorem dX7_keep_66 : decode cX7_keep 66 = .ok (.bipush 50, 2) := by decide +kernel
theorem dX7_keep_68 : decode cX7_keep 68 = .ok (.iload_n 2, 1) := by decide +kernel
theorem dX7_keep_69 : decode cX7_keep 69 = .ok (.iadd, 1) := by decide +kernel
theorem dX7_keep_70 : decode cX7_keep 70 = .ok (.aload_n 0, 1) := by decide +kernel
theorem dX7_keep_71 : decode cX7_keep 71 = .ok (.getfield 35, 3) := by decide +kernel
theorem dX7_keep_74 : decode cX7_keep 74 = .ok (.iload_n 2, 1) := by decide +kernel
theorem dX7_keep_75 : decode cX7_keep 75 = .ok (.iaload, 1) := by decide +kernel
theorem dX7_keep_76 : decode cX7_keep 76 = .ok (.iastore, 1) := by decide +kernel
theorem dX7_keep_77 : decode cX7_keep 77 = .ok (.iinc 2 1, 3) := by decide +kernel
theorem dX7_keep_80 : decode cX7_keep 80 = .ok (.goto (-78), 3) := by decide +kernel
theorem dX7_keep_83 : decode cX7_keep 83 = .ok (.iconst 0, 1) := by decide +kernel
theorem dX7_keep_84 : decode cX7_keep 84 = .ok (.istore_n 2, 1) := by decide +kernel
theorem dX7_keep_85 : decode cX7_keep 85 = .ok (.iload_n 2, 1) := by decide +kernel
theorem dX7_keep_86 : decode cX7_keep 86 = .ok (.bipush 100, 2) := by decide +kernel
theorem dX7_keep_88 : decode cX7_keep 88 = .ok (.if_icmp .ge 21, 3) := by decide +kernel
theorem dX7_keep_91 : decode cX7_keep 91 = .ok (.aload_n 1, 1) := by decide +kernel
theorem dX7_keep_92 : decode cX7_keep 92 = .ok (.bipush 60, 2) := by decide +kernel
theorem dX7_keep_94 : decode cX7_keep 94 = .ok (.iload_n 2, 1) := by decide +kernel
theorem dX7_keep_95 : decode cX7_keep 95 = .ok (.iadd, 1) := by decide +kernel
theorem dX7_keep_96 : decode cX7_keep 96 = .ok (.aload_n 0, 1) := by decide +kernel
theorem dX7_keep_97 : decode cX7_keep 97 = .ok (.getfield 38, 3) := by decide +kernel
theorem dX7_keep_100 : decode cX7_keep 100 = .ok (.iload_n 2, 1) := by decide +kernel
theorem dX7_keep_101 : decode cX7_keep 101 = .ok (.iaload, 1) := by decide +kernel
theorem dX7_keep_102 : decode cX7_keep 102 = .ok (.iastore, 1) := by decide +kernel
theorem dX7_keep_103 : decode cX7_keep 103 = .ok (.iinc 2 1, 3) := by decide +kernel
theorem dX7_keep_106 : decode cX7_keep 106 = .ok (.goto (-21), 3) := by decide +kernel
theorem dX7_keep_109 : decode cX7_keep 109 = .ok (.iconst 0, 1) := by decide +kernel
theorem dX7_keep_110 : decode cX7_keep 110 = .ok (.istore_n 2, 1) := by decide +kernel
theorem dX7_keep_111 : decode cX7_keep 111 = .ok (.iload_n 2, 1) := by decide +kernel
theorem dX7_keep_112 : decode cX7_keep 112 = .ok (.bipush 6, 2) := by decide +kernel
theorem dX7_keep_114 : decode cX7_keep 114 = .ok (.if_icmp .ge 35, 3) := by decide +kernel
theorem dX7_keep_117 : decode cX7_keep 117 = .ok (.aload_n 1, 1) := by decide +kernel
theorem dX7_keep_118 : decode cX7_keep 118 = .ok (.sipush 160, 3) := by decide +kernel
theorem dX7_keep_121 : decode cX7_keep 121 = .ok (.iload_n 2, 1) := by decide +kernel
theorem dX7_keep_122 : decode cX7_keep 122 = .ok (.iadd, 1) := by decide +kernel
theorem dX7_keep_123 : decode cX7_keep 123 = .ok (.aload_n 0, 1) := by decide +kernel
theorem dX7_keep_124 : decode cX7_keep 124 = .ok (.getfield 41, 3) := by decide +kernel
theorem dX7_keep_127 : decode cX7_keep 127 = .ok (.iload_n 2, 1) := by decide +kernel
theorem dX7_keep_128 : decode cX7_keep 128 = .ok (.iaload, 1) := by decide +kernel
theorem dX7_keep_129 : decode cX7_keep 129 = .ok (.iastore, 1) := by decide +kernel
theorem dX7_keep_130 : decode cX7_keep 130 = .ok (.aload_n 1, 1) := by decide +kernel
theorem dX7_keep_131 : decode cX7_keep 131 = .ok (.sipush 166, 3) := by decide +kernel
theorem dX7_keep_134 : decode cX7_keep 134 = .ok (.iload_n 2, 1) := by decide +kernel
theorem dX7_keep_135 : decode cX7_keep 135 = .ok (.iadd, 1) := by decide +kernel
theorem dX7_keep_136 : decode cX7_keep 136 = .ok (.aload_n 0, 1) := by decide +kernel
theorem dX7_keep_137 : decode cX7_keep 137 = .ok (.getfield 44, 3) := by decide +kernel
theorem dX7_keep_140 : decode cX7_keep 140 = .ok (.iload_n 2, 1) := by decide +kernel
theorem dX7_keep_141 : decode cX7_keep 141 = .ok (.iaload, 1) := by decide +kernel
theorem dX7_keep_142 : decode cX7_keep 142 = .ok (.iastore, 1) := by decide +kernel
theorem dX7_keep_143 : decode cX7_keep 143 = .ok (.iinc 2 1, 3) := by decide +kernel
theorem dX7_keep_146 : decode cX7_keep 146 = .ok (.goto (-35), 3) := by decide +kernel
theorem dX7_keep_149 : decode cX7_keep 149 = .ok (.iconst 0, 1) := by decide +kernel
theorem dX7_keep_150 : decode cX7_keep 150 = .ok (.istore_n 2, 1) := by decide +kernel
theorem dX7_keep_151 : decode cX7_keep 151 = .ok (.iload_n 2, 1) := by decide +kernel
theorem dX7_keep_152 : decode cX7_keep 152 = .ok (.bipush 8, 2) := by decide +kernel
theorem dX7_keep_154 : decode cX7_keep 154 = .ok (.if_icmp .ge 35, 3) := by decide +kernel
theorem dX7_keep_157 : decode cX7_keep 157 = .ok (.aload_n 1, 1) := by decide +kernel
theorem dX7_keep_158 : decode cX7_keep 158 = .ok (.sipush 172, 3) := by decide +kernel
theorem dX7_keep_161 : decode cX7_keep 161 = .ok (.iload_n 2, 1) := by decide +kernel
theorem dX7_keep_162 : decode cX7_keep 162 = .ok (.iadd, 1) := by decide +kernel
theorem dX7_keep_163 : decode cX7_keep 163 = .ok (.aload_n 0, 1) := by decide +kernel
theorem dX7_keep_164 : decode cX7_keep 164 = .ok (.getfield 47, 3) := by decide +kernel
theorem dX7_keep_167 : decode cX7_keep 167 = .ok (.iload_n 2, 1) := by decide +kernel
theorem dX7_keep_168 : decode cX7_keep 168 = .ok (.iaload, 1) := by decide +kernel
theorem dX7_keep_169 : decode cX7_keep 169 = .ok (.iastore, 1) := by decide +kernel
theorem dX7_keep_170 : decode cX7_keep 170 = .ok (.aload_n 1, 1) := by decide +kernel
theorem dX7_keep_171 : decode cX7_keep 171 = .ok (.sipush 180, 3) := by decide +kernel
theorem dX7_keep_174 : decode cX7_keep 174 = .ok (.iload_n 2, 1) := by decide +kernel
theorem dX7_keep_175 : decode cX7_keep 175 = .ok (.iadd, 1) := by decide +kernel
theorem dX7_keep_176 : decode cX7_keep 176 = .ok (.aload_n 0, 1) := by decide +kernel
theorem dX7_keep_177 : decode cX7_keep 177 = .ok (.getfield 50, 3) := by decide +kernel
theorem dX7_keep_180 : decode cX7_keep 180 = .ok (.iload_n 2, 1) := by decide +kernel
theorem dX7_keep_181 : decode cX7_keep 181 = .ok (.iaload, 1) := by decide +kernel
theorem dX7_keep_182 : decode cX7_keep 182 = .ok (.iastore, 1) := by decide +kernel
theorem dX7_keep_183 : decode cX7_keep 183 = .ok (.iinc 2 1, 3) := by decide +kernel
theorem dX7_keep_186 : decode cX7_keep 186 = .ok (.goto (-35), 3) := by decide +kernel
theorem dX7_keep_189 : decode cX7_keep 189 = .ok (.aload_n 1, 1) := by decide +kernel
theorem dX7_keep_190 : decode cX7_keep 190 = .ok (.sipush 188, 3) := by decide +kernel
theorem dX7_keep_193 : decode cX7_keep 193 = .ok (.aload_n 0, 1) := by decide +kernel
theorem dX7_keep_194 : decode cX7_keep 194 = .ok (.getfield 94, 3) := by decide +kernel
theorem dX7_keep_197 : decode cX7_keep 197 = .ok (.iastore, 1) := by decide +kernel
theorem dX7_keep_198 : decode cX7_keep 198 = .ok (.aload_n 1, 1) := by decide +kernel
theorem dX7_keep_199 : decode cX7_keep 199 = .ok (.sipush 189, 3) := by decide +kernel
theorem dX7_keep_202 : decode cX7_keep 202 = .ok (.aload_n 0, 1) := by decide +kernel
theorem dX7_keep_203 : decode cX7_keep 203 = .ok (.getfield 148, 3) := by decide +kernel
theorem dX7_keep_206 : decode cX7_keep 206 = .ok (.iastore, 1) := by decide +kernel
theorem dX7_keep_207 : decode cX7_keep 207 = .ok (.aload_n 1, 1) := by decide +kernel
theorem dX7_keep_208 : decode cX7_keep 208 = .ok (.sipush 190, 3) := by decide +kernel
theorem dX7_keep_211 : decode cX7_keep 211 = .ok (.aload_n 0, 1) := by decide +kernel
theorem dX7_keep_212 : decode cX7_keep 212 = .ok (.getfield 105, 3) := by decide +kernel
theorem dX7_keep_215 : decode cX7_keep 215 = .ok (.iastore, 1) := by decide +kernel
theorem dX7_keep_216 : decode cX7_keep 216 = .ok (.aload_n 1, 1) := by decide +kernel
theorem dX7_keep_217 : decode cX7_keep 217 = .ok (.sipush 191, 3) := by decide +kernel
theorem dX7_keep_220 : decode cX7_keep 220 = .ok (.aload_n 0, 1) := by decide +kernel
theorem dX7_keep_221 : decode cX7_keep 221 = .ok (.getfield 210, 3) := by decide +kernel
theorem dX7_keep_224 : decode cX7_keep 224 = .ok (.iastore, 1) := by decide +kernel
theorem dX7_keep_225 : decode cX7_keep 225 = .ok (.aload_n 1, 1) := by decide +kernel
theorem dX7_keep_226 : decode cX7_keep 226 = .ok (.sipush 192, 3) := by decide +kernel
theorem dX7_keep_229 : decode cX7_keep 229 = .ok (.aload_n 0, 1) := by decide +kernel
theorem dX7_keep_230 : decode cX7_keep 230 = .ok (.getfield 83, 3) := by decide +kernel
theorem dX7_keep_233 : decode cX7_keep 233 = .ok (.iastore, 1) := by decide +kernel
theorem dX7_keep_234 : decode cX7_keep 234 = .ok (.return_, 1) := by decide +kernel
theorem dX7_again_0 : decode cX7_again 0 = .ok (.iconst 0, 1) := by decide +kernel
theorem dX7_again_1 : decode cX7_again 1 = .ok (.istore_n 2, 1) := by decide +kernel
theorem dX7_again_2 : decode cX7_again 2 = .ok (.iload_n 2, 1) := by decide +kernel
theorem dX7_again_3 : decode cX7_again 3 = .ok (.bipush 10, 2) := by decide +kernel
theorem dX7_again_5 : decode cX7_again 5 = .ok (.if_icmp .ge 78, 3) := by decide +kernel
theorem dX7_again_8 : decode cX7_again 8 = .ok (.aload_n 0, 1) := by decide +kernel
theorem dX7_again_9 : decode cX7_again 9 = .ok (.getfield 20, 3) := by decide +kernel
theorem dX7_again_12 : decode cX7_again 12 = .ok (.iload_n 2, 1) := by decide +kernel
theorem dX7_again_13 : decode cX7_again 13 = .ok (.aload_n 1, 1) := by decide +kernel
theorem dX7_again_14 : decode cX7_again 14 = .ok (.iload_n 2, 1) := by decide +kernel
theorem dX7_again_15 : decode cX7_again 15 = .ok (.iaload, 1) := by decide +kernel
theorem dX7_again_16 : decode cX7_again 16 = .ok (.iastore, 1) := by decide +kernel
theorem dX7_again_17 : decode cX7_again 17 = .ok (.aload_n 0, 1) := by decide +kernel
theorem dX7_again_18 : decode cX7_again 18 = .ok (.getfield 23, 3) := by decide +kernel
theorem dX7_again_21 : decode cX7_again 21 = .ok (.iload_n 2, 1) := by decide +kernel
theorem dX7_again_22 : decode cX7_again 22 = .ok (.aload_n 1, 1) := by decide +kernel
theorem dX7_again_23 : decode cX7_again 23 = .ok (.bipush 10, 2) := by decide +kernel
theorem dX7_again_25 : decode cX7_again 25 = .ok (.iload_n 2, 1) := by decide +kernel
theorem dX7_again_26 : decode cX7_again 26 = .ok (.iadd, 1) := by decide +kernel
theorem dX7_again_27 : decode cX7_again 27 = .ok (.iaload, 1) := by decide +kernel
theorem dX7_again_28 : decode cX7_again 28 = .ok (.iastore, 1) := by decide +kernel
theorem dX7_again_29 : decode cX7_again 29 = .ok (.aload_n 0, 1) := by decide +kernel
theorem dX7_again_30 : decode cX7_again 30 = .ok (.getfield 26, 3) := by decide +kernel
theorem dX7_again_33 : decode cX7_again 33 = .ok (.iload_n 2, 1) := by decide +kernel
theorem dX7_again_34 : decode cX7_again 34 = .ok (.aload_n 1, 1) := by decide +kernel
theorem dX7_again_35 : decode cX7_again 35 = .ok (.bipush 20, 2) := by decide +kernel
theorem dX7_again_37 : decode cX7_again 37 = .ok (.iload_n 2, 1) := by decide +kernel
theorem dX7_again_38 : decode cX7_again 38 = .ok (.iadd, 1) := by decide +kernel
theorem dX7_again_39 : decode cX7_again 39 = .ok (.iaload, 1) := by decide +kernel
theorem dX7_again_40 : decode cX7_again 40 = .ok (.iastore, 1) := by decide +kernel
theorem dX7_again_41 : decode cX7_again 41 = .ok (.aload_n 0, 1) := by decide +kernel
theorem dX7_again_42 : decode cX7_again 42 = .ok (.getfield 29, 3) := by decide +kernel
theorem dX7_again_45 : decode cX7_again 45 = .ok (.iload_n 2, 1) := by decide +kernel
theorem dX7_again_46 : decode cX7_again 46 = .ok (.aload_n 1, 1) := by decide +kernel
theorem dX7_again_47 : decode cX7_again 47 = .ok (.bipush 30, 2) := by decide +kernel
theorem dX7_again_49 : decode cX7_again 49 = .ok (.iload_n 2, 1) := by decide +kernel
theorem dX7_again_50 : decode cX7_again 50 = .ok (.iadd, 1) := by decide +kernel
theorem dX7_again_51 : decode cX7_again 51 = .ok (.iaload, 1) := by decide +kernel
theorem dX7_again_52 : decode cX7_again 52 = .ok (.iastore, 1) := by decide +kernel
theorem dX7_again_53 : decode cX7_again 53 = .ok (.aload_n 0, 1) := by decide +kernel
theorem dX7_again_54 : decode cX7_again 54 = .ok (.getfield 32, 3) := by decide +kernel
theorem dX7_again_57 : decode cX7_again 57 = .ok (.iload_n 2, 1) := by decide +kernel
theorem dX7_again_58 : decode cX7_again 58 = .ok (.aload_n 1, 1) := by decide +kernel
theorem dX7_again_59 : decode cX7_again 59 = .ok (.bipush 40, 2) := by decide +kernel
theorem dX7_again_61 : decode cX7_again 61 = .ok (.iload_n 2, 1) := by decide +kernel
theorem dX7_again_62 : decode cX7_again 62 = .ok (.iadd, 1) := by decide +kernel
theorem dX7_again_63 : decode cX7_again 63 = .ok (.iaload, 1) := by decide +kernel
theorem dX7_again_64 : decode cX7_again 64 = .ok (.iastore, 1) := by decide +kernel
theorem dX7_again_65 : decode cX7_again 65 = .ok (.aload_n 0, 1) := by decide +kernel
theorem dX7_again_66 : decode cX7_again 66 = .ok (.getfield 35, 3) := by decide +kernel
theorem dX7_again_69 : decode cX7_again 69 = .ok (.iload_n 2, 1) := by decide +kernel
theorem dX7_again_70 : decode cX7_again 70 = .ok (.aload_n 1, 1) := by decide +kernel
theorem dX7_again_71 : decode cX7_again 71 = .ok (.bipush 50, 2) := by decide +kernel
theorem dX7_again_73 : decode cX7_again 73 = .ok (.iload_n 2, 1) := by decide +kernel
theorem dX7_again_74 : decode cX7_again 74 = .ok (.iadd, 1) := by decide +kernel
theorem dX7_again_75 : decode cX7_again 75 = .ok (.iaload, 1) := by decide +kernel
theorem dX7_again_76 : decode cX7_again 76 = .ok (.iastore, 1) := by decide +kernel
theorem dX7_again_77 : decode cX7_again 77 = .ok (.iinc 2 1, 3) := by decide +kernel
theorem dX7_again_80 : decode cX7_again 80 = .ok (.goto (-78), 3) := by decide +kernel
theorem dX7_again_83 : decode cX7_again 83 = .ok (.iconst 0, 1) := by decide +kernel
theorem dX7_again_84 : decode cX7_again 84 = .ok (.istore_n 2, 1) := by decide +kernel
theorem dX7_again_85 : decode cX7_again 85 = .ok (.iload_n 2, 1) := by decide +kernel
theorem dX7_again_86 : decode cX7_again 86 = .ok (.bipush 100, 2) := by decide +kernel
theorem dX7_again_88 : decode cX7_again 88 = .ok (.if_icmp .ge 21, 3) := by decide +kernel
theorem dX7_again_91 : decode cX7_again 91 = .ok (.aload_n 0, 1) := by decide +kernel
theorem dX7_again_92 : decode cX7_again 92 = .ok (.getfield 38, 3) := by decide +kernel
theorem dX7_again_95 : decode cX7_again 95 = .ok (.iload_n 2, 1) := by decide +kernel
theorem dX7_again_96 : decode cX7_again 96 = .ok (.aload_n 1, 1) := by decide +kernel
theorem dX7_again_97 : decode cX7_again 97 = .ok (.bipush 60, 2) := by decide +kernel
theorem dX7_again_99 : decode cX7_again 99 = .ok (.iload_n 2, 1) := by decide +kernel
theorem dX7_again_100 : decode cX7_again 100 = .ok (.iadd, 1) := by decide +kernel
theorem dX7_again_101 : decode cX7_again 101 = .ok (.iaload, 1) := by decide +kernel
theorem dX7_again_102 : decode cX7_again 102 = .ok (.iastore, 1) := by decide +kernel
theorem dX7_again_103 : decode cX7_again 103 = .ok (.iinc 2 1, 3) := by decide +kernel
theorem dX7_again_106 : decode cX7_again 106 = .ok (.goto (-21), 3) := by decide +kernel
theorem dX7_again_109 : decode cX7_again 109 = .ok (.iconst 0, 1) := by decide +kernel
theorem dX7_again_110 : decode cX7_again 110 = .ok (.istore_n 2, 1) := by decide +kernel
theorem dX7_again_111 : decode cX7_again 111 = .ok (.iload_n 2, 1) := by decide +kernel
theorem dX7_again_112 : decode cX7_again 112 = .ok (.bipush 6, 2) := by decide +kernel
theorem dX7_again_114 : decode cX7_again 114 = .ok (.if_icmp .ge 35, 3) := by decide +kernel
theorem dX7_again_117 : decode cX7_again 117 = .ok (.aload_n 0, 1) := by decide +kernel
theorem dX7_again_118 : decode cX7_again 118 = .ok (.getfield 41, 3) := by decide +kernel
theorem dX7_again_121 : decode cX7_again 121 = .ok (.iload_n 2, 1) := by decide +kernel
theorem dX7_again_122 : decode cX7_again 122 = .ok (.aload_n 1, 1) := by decide +kernel
theorem dX7_again_123 : decode cX7_again 123 = .ok (.sipush 160, 3) := by decide +kernel
theorem dX7_again_126 : decode cX7_again 126 = .ok (.iload_n 2, 1) := by decide +kernel
theorem dX7_again_127 : decode cX7_again 127 = .ok (.iadd, 1) := by decide +kernel
theorem dX7_again_128 : decode cX7_again 128 = .ok (.iaload, 1) := by decide +kernel
theorem dX7_again_129 : decode cX7_again 129 = .ok (.iastore, 1) := by decide +kernel
theorem dX7_again_130 : decode cX7_again 130 = .ok (.aload_n 0, 1) := by decide +kernel
theorem dX7_again_131 : decode cX7_again 131 = .ok (.getfield 44, 3) := by decide +kernel
theorem dX7_again_134 : decode cX7_again 134 = .ok (.iload_n 2, 1) := by decide +kernel
theorem dX7_again_135 : decode cX7_again 135 = .ok (.aload_n 1, 1) := by decide +kernel
theorem dX7_again_136 : decode cX7_again 136 = .ok (.sipush 166, 3) := by decide +kernel
theorem dX7_again_139 : decode cX7_again 139 = .ok (.iload_n 2, 1) := by decide +kernel
theorem dX7_again_140 : decode cX7_again 140 = .ok (.iadd, 1) := by decide +kernel
theorem dX7_again_141 : decode cX7_again 141 = .ok (.iaload, 1) := by decide +kernel
theorem dX7_again_142 : decode cX7_again 142 = .ok (.iastore, 1) := by decide +kernel
theorem dX7_again_143 : decode cX7_again 143 = .ok (.iinc 2 1, 3) := by decide +kernel
theorem dX7_again_146 : decode cX7_again 146 = .ok (.goto (-35), 3) := by decide +kernel
theorem dX7_again_149 : decode cX7_again 149 = .ok (.iconst 0, 1) := by decide +kernel
theorem dX7_again_150 : decode cX7_again 150 = .ok (.istore_n 2, 1) := by decide +kernel
theorem dX7_again_151 : decode cX7_again 151 = .ok (.iload_n 2, 1) := by decide +kernel
theorem dX7_again_152 : decode cX7_again 152 = .ok (.bipush 8, 2) := by decide +kernel
theorem dX7_again_154 : decode cX7_again 154 = .ok (.if_icmp .ge 35, 3) := by decide +kernel
theorem dX7_again_157 : decode cX7_again 157 = .ok (.aload_n 0, 1) := by decide +kernel
theorem dX7_again_158 : decode cX7_again 158 = .ok (.getfield 47, 3) := by decide +kernel
theorem dX7_again_161 : decode cX7_again 161 = .ok (.iload_n 2, 1) := by decide +kernel
theorem dX7_again_162 : decode cX7_again 162 = .ok (.aload_n 1, 1) := by decide +kernel
theorem dX7_again_163 : decode cX7_again 163 = .ok (.sipush 172, 3) := by decide +kernel
theorem dX7_again_166 : decode cX7_again 166 = .ok (.iload_n 2, 1) := by decide +kernel
theorem dX7_again_167 : decode cX7_again 167 = .ok (.iadd, 1) := by decide +kernel
theorem dX7_again_168 : decode cX7_again 168 = .ok (.iaload, 1) := by decide +kernel
theorem dX7_again_169 : decode cX7_again 169 = .ok (.iastore, 1) := by decide +kernel
theorem dX7_again_170 : decode cX7_again 170 = .ok (.aload_n 0, 1) := by decide +kernel
theorem dX7_again_171 : decode cX7_again 171 = .ok (.getfield 50, 3) := by decide +kernel
theorem dX7_again_174 : decode cX7_again 174 = .ok (.iload_n 2, 1) := by decide +kernel
theorem dX7_again_175 : decode cX7_again 175 = .ok (.aload_n 1, 1) := by decide +kernel
theorem dX7_again_176 : decode cX7_again 176 = .ok (.sipush 180, 3) := by decide +kernel
theorem dX7_again_179 : decode cX7_again 179 = .ok (.iload_n 2, 1) := by decide +kernel
theorem dX7_again_180 : decode cX7_again 180 = .ok (.iadd, 1) := by decide +kernel
theorem dX7_again_181 : decode cX7_again 181 = .ok (.iaload, 1) := by decide +kernel
theorem dX7_again_182 : decode cX7_again 182 = .ok (.iastore, 1) := by decide +kernel
theorem dX7_again_183 : decode cX7_again 183 = .ok (.iinc 2 1, 3) := by decide +kernel
theorem dX7_again_186 : decode cX7_again 186 = .ok (.goto (-35), 3) := by decide +kernel
theorem dX7_again_189 : decode cX7_again 189 = .ok (.aload_n 0, 1) := by decide +kernel
theorem dX7_again_190 : decode cX7_again 190 = .ok (.aload_n 1, 1) := by decide +kernel
theorem dX7_again_191 : decode cX7_again 191 = .ok (.sipush 188, 3) := by decide +kernel
theorem dX7_again_194 : decode cX7_again 194 = .ok (.iaload, 1) := by decide +kernel
theorem dX7_again_195 : decode cX7_again 195 = .ok (.putfield 94, 3) := by decide +kernel
theorem dX7_again_198 : decode cX7_again 198 = .ok (.aload_n 0, 1) := by decide +kernel
theorem dX7_again_199 : decode cX7_again 199 = .ok (.aload_n 1, 1) := by decide +kernel
theorem dX7_again_200 : decode cX7_again 200 = .ok (.sipush 189, 3) := by decide +kernel
theorem dX7_again_203 : decode cX7_again 203 = .ok (.iaload, 1) := by decide +kernel
theorem dX7_again_204 : decode cX7_again 204 = .ok (.putfield 148, 3) := by decide +kernel
theorem dX7_again_207 : decode cX7_again 207 = .ok (.aload_n 0, 1) := by decide +kernel
theorem dX7_again_208 : decode cX7_again 208 = .ok (.aload_n 1, 1) := by decide +kernel
theorem dX7_again_209 : decode cX7_again 209 = .ok (.sipush 190, 3) := by decide +kernel
theorem dX7_again_212 : decode cX7_again 212 = .ok (.iaload, 1) := by decide +kernel
theorem dX7_again_213 : decode cX7_again 213 = .ok (.putfield 105, 3) := by decide +kernel
theorem dX7_again_216 : decode cX7_again 216 = .ok (.aload_n 0, 1) := by decide +kernel
theorem dX7_again_217 : decode cX7_again 217 = .ok (.aload_n 1, 1) := by decide +kernel
theorem dX7_again_218 : decode cX7_again 218 = .ok (.sipush 191, 3) := by decide +kernel
theorem dX7_again_221 : decode cX7_again 221 = .ok (.iaload, 1) := by decide +kernel
theorem dX7_again_222 : decode cX7_again 222 = .ok (.putfield 210, 3) := by decide +kernel
theorem dX7_again_225 : decode cX7_again 225 = .ok (.aload_n 0, 1) := by decide +kernel
theorem dX7_again_226 : decode cX7_again 226 = .ok (.aload_n 1, 1) := by decide +kernel
theorem dX7_again_227 : decode cX7_again 227 = .ok (.sipush 192, 3) := by decide +kernel
theorem dX7_again_230 : decode cX7_again 230 = .ok (.iaload, 1) := by decide +kernel
theorem dX7_again_231 : decode cX7_again 231 = .ok (.putfield 83, 3) := by decide +kernel
theorem dX7_again_234 : decode cX7_again 234 = .ok (.return_, 1) := by decide +kernel
theorem dX7_image_0 : decode cX7_image 0 = .ok (.aload_n 0, 1) := by decide +kernel
theorem dX7_image_1 : decode cX7_image 1 = .ok (.iconst 1, 1) := by decide +kernel
theorem dX7_image_2 : decode cX7_image 2 = .ok (.putfield 346, 3) := by decide +kernel
theorem dX7_image_5 : decode cX7_image 5 = .ok (.aload_n 0, 1) := by decide +kernel
theorem dX7_image_6 : decode cX7_image 6 = .ok (.aload_n 0, 1) := by decide +kernel
theorem dX7_image_7 : decode cX7_image 7 = .ok (.getfield 59, 3) := by decide +kernel
theorem dX7_image_10 : decode cX7_image 10 = .ok (.invokevirtual 221, 3) := by decide +kernel
theorem dX7_image_13 : decode cX7_image 13 = .ok (.aload_n 0, 1) := by decide +kernel
theorem dX7_image_14 : decode cX7_image 14 = .ok (.getfield 94, 3) := by decide +kernel
theorem dX7_image_17 : decode cX7_image 17 = .ok (.ireturn, 1) := by decide +kernel
theorem dX7_restore_0 : decode cX7_restore 0 = .ok (.aload_n 0, 1) := by decide +kernel
theorem dX7_restore_1 : decode cX7_restore 1 = .ok (.getfield 346, 3) := by decide +kernel
theorem dX7_restore_4 : decode cX7_restore 4 = .ok (.ifCond .ne 10, 3) := by decide +kernel
theorem dX7_restore_7 : decode cX7_restore 7 = .ok (.aload_n 0, 1) := by decide +kernel
theorem dX7_restore_8 : decode cX7_restore 8 = .ok (.bipush (-6), 2) := by decide +kernel
theorem dX7_restore_10 : decode cX7_restore 10 = .ok (.invokevirtual 90, 3) := by decide +kernel
theorem dX7_restore_13 : decode cX7_restore 13 = .ok (.ireturn, 1) := by decide +kernel
theorem dX7_restore_14 : decode cX7_restore 14 = .ok (.aload_n 0, 1) := by decide +kernel
theorem dX7_restore_15 : decode cX7_restore 15 = .ok (.aload_n 0, 1) := by decide +kernel
theorem dX7_restore_16 : decode cX7_restore 16 = .ok (.getfield 59, 3) := by decide +kernel
theorem dX7_restore_19 : decode cX7_restore 19 = .ok (.invokevirtual 229, 3) := by decide +kernel
theorem dX7_restore_22 : decode cX7_restore 22 = .ok (.iconst 0, 1) := by decide +kernel
theorem dX7_restore_23 : decode cX7_restore 23 = .ok (.istore_n 1, 1) := by decide +kernel
theorem dX7_restore_24 : decode cX7_restore 24 = .ok (.iload_n 1, 1) := by decide +kernel
theorem dX7_restore_25 : decode cX7_restore 25 = .ok (.bipush 8, 2) := by decide +kernel
theorem dX7_restore_27 : decode cX7_restore 27 = .ok (.if_icmp .ge 37, 3) := by decide +kernel
theorem dX7_restore_30 : decode cX7_restore 30 = .ok (.aload_n 0, 1) := by decide +kernel
theorem dX7_restore_31 : decode cX7_restore 31 = .ok (.iload_n 1, 1) := by decide +kernel
theorem dX7_restore_32 : decode cX7_restore 32 = .ok (.invokevirtual 108, 3) := by decide +kernel
theorem dX7_restore_35 : decode cX7_restore 35 = .ok (.ifCond .ne 23, 3) := by decide +kernel
theorem dX7_restore_38 : decode cX7_restore 38 = .ok (.aload_n 0, 1) := by decide +kernel
theorem dX7_restore_39 : decode cX7_restore 39 = .ok (.getfield 7, 3) := by decide +kernel
theorem dX7_restore_42 : decode cX7_restore 42 = .ok (.iload_n 1, 1) := by decide +kernel
theorem dX7_restore_43 : decode cX7_restore 43 = .ok (.iaload, 1) := by decide +kernel
theorem dX7_restore_44 : decode cX7_restore 44 = .ok (.aload_n 0, 1) := by decide +kernel
theorem dX7_restore_45 : decode cX7_restore 45 = .ok (.getfield 94, 3) := by decide +kernel
theorem dX7_restore_48 : decode cX7_restore 48 = .ok (.if_icmp .lt 10, 3) := by decide +kernel
theorem dX7_restore_51 : decode cX7_restore 51 = .ok (.aload_n 0, 1) := by decide +kernel
theorem dX7_restore_52 : decode cX7_restore 52 = .ok (.getfield 7, 3) := by decide +kernel
theorem dX7_restore_55 : decode cX7_restore 55 = .ok (.iload_n 1, 1) := by decide +kernel
theorem dX7_restore_56 : decode cX7_restore 56 = .ok (.iconst (-1), 1) := by decide +kernel
theorem dX7_restore_57 : decode cX7_restore 57 = .ok (.iastore, 1) := by decide +kernel
theorem dX7_restore_58 : decode cX7_restore 58 = .ok (.iinc 1 1, 3) := by decide +kernel
theorem dX7_restore_61 : decode cX7_restore 61 = .ok (.goto (-37), 3) := by decide +kernel
theorem dX7_restore_64 : decode cX7_restore 64 = .ok (.aload_n 0, 1) := by decide +kernel
theorem dX7_restore_65 : decode cX7_restore 65 = .ok (.getfield 94, 3) := by decide +kernel
theorem dX7_restore_68 : decode cX7_restore 68 = .ok (.ireturn, 1) := by decide +kernel
theorem dX7_status_0 : decode cX7_status 0 = .ok (.iload_n 1, 1) := by decide +kernel
theorem dX7_status_1 : decode cX7_status 1 = .ok (.tableswitch 90 0 7 #[47, 52, 57, 62, 67, 72, 80, 85], 47) := by decide +kernel
theorem dX7_status_48 : decode cX7_status 48 = .ok (.aload_n 0, 1) := by decide +kernel
theorem dX7_status_49 : decode cX7_status 49 = .ok (.getfield 94, 3) := by decide +kernel
theorem dX7_status_52 : decode cX7_status 52 = .ok (.ireturn, 1) := by decide +kernel
theorem dX7_status_53 : decode cX7_status 53 = .ok (.aload_n 0, 1) := by decide +kernel
theorem dX7_status_54 : decode cX7_status 54 = .ok (.invokevirtual 280, 3) := by decide +kernel
theorem dX7_status_57 : decode cX7_status 57 = .ok (.ireturn, 1) := by decide +kernel
theorem dX7_status_58 : decode cX7_status 58 = .ok (.aload_n 0, 1) := by decide +kernel
theorem dX7_status_59 : decode cX7_status 59 = .ok (.getfield 148, 3) := by decide +kernel
theorem dX7_status_62 : decode cX7_status 62 = .ok (.ireturn, 1) := by decide +kernel
theorem dX7_status_63 : decode cX7_status 63 = .ok (.aload_n 0, 1) := by decide +kernel
theorem dX7_status_64 : decode cX7_status 64 = .ok (.getfield 105, 3) := by decide +kernel
theorem dX7_status_67 : decode cX7_status 67 = .ok (.ireturn, 1) := by decide +kernel
theorem dX7_status_68 : decode cX7_status 68 = .ok (.aload_n 0, 1) := by decide +kernel
theorem dX7_status_69 : decode cX7_status 69 = .ok (.getfield 210, 3) := by decide +kernel
theorem dX7_status_72 : decode cX7_status 72 = .ok (.ireturn, 1) := by decide +kernel
theorem dX7_status_73 : decode cX7_status 73 = .ok (.aload_n 0, 1) := by decide +kernel
theorem dX7_status_74 : decode cX7_status 74 = .ok (.invokevirtual 121, 3) := by decide +kernel
theorem dX7_status_77 : decode cX7_status 77 = .ok (.invokestatic 297, 3) := by decide +kernel
theorem dX7_status_80 : decode cX7_status 80 = .ok (.ireturn, 1) := by decide +kernel
theorem dX7_status_81 : decode cX7_status 81 = .ok (.aload_n 0, 1) := by decide +kernel
theorem dX7_status_82 : decode cX7_status 82 = .ok (.getfield 83, 3) := by decide +kernel
theorem dX7_status_85 : decode cX7_status 85 = .ok (.ireturn, 1) := by decide +kernel
theorem dX7_status_86 : decode cX7_status 86 = .ok (.aload_n 0, 1) := by decide +kernel
theorem dX7_status_87 : decode cX7_status 87 = .ok (.getfield 330, 3) := by decide +kernel
theorem dX7_status_90 : decode cX7_status 90 = .ok (.ireturn, 1) := by decide +kernel
theorem dX7_status_91 : decode cX7_status 91 = .ok (.iload_n 1, 1) := by decide +kernel
theorem dX7_status_92 : decode cX7_status 92 = .ok (.bipush 11, 2) := by decide +kernel
theorem dX7_status_94 : decode cX7_status 94 = .ok (.bipush 17, 2) := by decide +kernel
theorem dX7_status_96 : decode cX7_status 96 = .ok (.invokestatic 97, 3) := by decide +kernel
theorem dX7_status_99 : decode cX7_status 99 = .ok (.ifCond .eq 15, 3) := by decide +kernel
theorem dX7_status_102 : decode cX7_status 102 = .ok (.aload_n 0, 1) := by decide +kernel
theorem dX7_status_103 : decode cX7_status 103 = .ok (.getfield 53, 3) := by decide +kernel
theorem dX7_status_106 : decode cX7_status 106 = .ok (.iload_n 1, 1) := by decide +kernel
theorem dX7_status_107 : decode cX7_status 107 = .ok (.bipush 10, 2) := by decide +kernel
theorem dX7_status_109 : decode cX7_status 109 = .ok (.isub, 1) := by decide +kernel
theorem dX7_status_110 : decode cX7_status 110 = .ok (.iaload, 1) := by decide +kernel
theorem dX7_status_111 : decode cX7_status 111 = .ok (.goto 4, 3) := by decide +kernel
theorem dX7_status_114 : decode cX7_status 114 = .ok (.iconst (-1), 1) := by decide +kernel
theorem dX7_status_115 : decode cX7_status 115 = .ok (.ireturn, 1) := by decide +kernel
theorem dJ6_bitCount_0f7a4_0 : decode cJ6_bitCount_0f7a4 0 = .ok (.iload_n 0, 1) := by decide +kernel
theorem dJ6_bitCount_0f7a4_1 : decode cJ6_bitCount_0f7a4 1 = .ok (.iload_n 0, 1) := by decide +kernel
theorem dJ6_bitCount_0f7a4_2 : decode cJ6_bitCount_0f7a4 2 = .ok (.iconst 1, 1) := by decide +kernel
theorem dJ6_bitCount_0f7a4_3 : decode cJ6_bitCount_0f7a4 3 = .ok (.iushr, 1) := by decide +kernel
theorem dJ6_bitCount_0f7a4_4 : decode cJ6_bitCount_0f7a4 4 = .ok (.ldc_w 265, 3) := by decide +kernel
theorem dJ6_bitCount_0f7a4_7 : decode cJ6_bitCount_0f7a4 7 = .ok (.iand, 1) := by decide +kernel
theorem dJ6_bitCount_0f7a4_8 : decode cJ6_bitCount_0f7a4 8 = .ok (.isub, 1) := by decide +kernel
theorem dJ6_bitCount_0f7a4_9 : decode cJ6_bitCount_0f7a4 9 = .ok (.istore_n 0, 1) := by decide +kernel
theorem dJ6_bitCount_0f7a4_10 : decode cJ6_bitCount_0f7a4 10 = .ok (.iload_n 0, 1) := by decide +kernel
theorem dJ6_bitCount_0f7a4_11 : decode cJ6_bitCount_0f7a4 11 = .ok (.ldc_w 266, 3) := by decide +kernel
theorem dJ6_bitCount_0f7a4_14 : decode cJ6_bitCount_0f7a4 14 = .ok (.iand, 1) := by decide +kernel
theorem dJ6_bitCount_0f7a4_15 : decode cJ6_bitCount_0f7a4 15 = .ok (.iload_n 0, 1) := by decide +kernel
theorem dJ6_bitCount_0f7a4_16 : decode cJ6_bitCount_0f7a4 16 = .ok (.iconst 2, 1) := by decide +kernel
theorem dJ6_bitCount_0f7a4_17 : decode cJ6_bitCount_0f7a4 17 = .ok (.iushr, 1) := by decide +kernel
theorem dJ6_bitCount_0f7a4_18 : decode cJ6_bitCount_0f7a4 18 = .ok (.ldc_w 266, 3) := by decide +kernel
theorem dJ6_bitCount_0f7a4_21 : decode cJ6_bitCount_0f7a4 21 = .ok (.iand, 1) := by decide +kernel
theorem dJ6_bitCount_0f7a4_22 : decode cJ6_bitCount_0f7a4 22 = .ok (.iadd, 1) := by decide +kernel
theorem dJ6_bitCount_0f7a4_23 : decode cJ6_bitCount_0f7a4 23 = .ok (.istore_n 0, 1) := by decide +kernel
theorem dJ6_bitCount_0f7a4_24 : decode cJ6_bitCount_0f7a4 24 = .ok (.iload_n 0, 1) := by decide +kernel
theorem dJ6_bitCount_0f7a4_25 : decode cJ6_bitCount_0f7a4 25 = .ok (.iload_n 0, 1) := by decide +kernel
theorem dJ6_bitCount_0f7a4_26 : decode cJ6_bitCount_0f7a4 26 = .ok (.iconst 4, 1) := by decide +kernel
theorem dJ6_bitCount_0f7a4_27 : decode cJ6_bitCount_0f7a4 27 = .ok (.iushr, 1) := by decide +kernel
theorem dJ6_bitCount_0f7a4_28 : decode cJ6_bitCount_0f7a4 28 = .ok (.iadd, 1) := by decide +kernel
theorem dJ6_bitCount_0f7a4_29 : decode cJ6_bitCount_0f7a4 29 = .ok (.ldc_w 267, 3) := by decide +kernel
theorem dJ6_bitCount_0f7a4_32 : decode cJ6_bitCount_0f7a4 32 = .ok (.iand, 1) := by decide +kernel
theorem dJ6_bitCount_0f7a4_33 : decode cJ6_bitCount_0f7a4 33 = .ok (.istore_n 0, 1) := by decide +kernel
theorem dJ6_bitCount_0f7a4_34 : decode cJ6_bitCount_0f7a4 34 = .ok (.iload_n 0, 1) := by decide +kernel
theorem dJ6_bitCount_0f7a4_35 : decode cJ6_bitCount_0f7a4 35 = .ok (.iload_n 0, 1) := by decide +kernel
theorem dJ6_bitCount_0f7a4_36 : decode cJ6_bitCount_0f7a4 36 = .ok (.bipush 8, 2) := by decide +kernel
theorem dJ6_bitCount_0f7a4_38 : decode cJ6_bitCount_0f7a4 38 = .ok (.iushr, 1) := by decide +kernel
theorem dJ6_bitCount_0f7a4_39 : decode cJ6_bitCount_0f7a4 39 = .ok (.iadd, 1) := by decide +kernel
theorem dJ6_bitCount_0f7a4_40 : decode cJ6_bitCount_0f7a4 40 = .ok (.istore_n 0, 1) := by decide +kernel
theorem dJ6_bitCount_0f7a4_41 : decode cJ6_bitCount_0f7a4 41 = .ok (.iload_n 0, 1) := by decide +kernel
theorem dJ6_bitCount_0f7a4_42 : decode cJ6_bitCount_0f7a4 42 = .ok (.iload_n 0, 1) := by decide +kernel
theorem dJ6_bitCount_0f7a4_43 : decode cJ6_bitCount_0f7a4 43 = .ok (.bipush 16, 2) := by decide +kernel
theorem dJ6_bitCount_0f7a4_45 : decode cJ6_bitCount_0f7a4 45 = .ok (.iushr, 1) := by decide +kernel
theorem dJ6_bitCount_0f7a4_46 : decode cJ6_bitCount_0f7a4 46 = .ok (.iadd, 1) := by decide +kernel
theorem dJ6_bitCount_0f7a4_47 : decode cJ6_bitCount_0f7a4 47 = .ok (.istore_n 0, 1) := by decide +kernel
theorem dJ6_bitCount_0f7a4_48 : decode cJ6_bitCount_0f7a4 48 = .ok (.iload_n 0, 1) := by decide +kernel
theorem dJ6_bitCount_0f7a4_49 : decode cJ6_bitCount_0f7a4 49 = .ok (.bipush 63, 2) := by decide +kernel
theorem dJ6_bitCount_0f7a4_51 : decode cJ6_bitCount_0f7a4 51 = .ok (.iand, 1) := by decide +kernel
theorem dJ6_bitCount_0f7a4_52 : decode cJ6_bitCount_0f7a4 52 = .ok (.ireturn, 1) := by decide +kernel
theorem dJ9_abs_0f7a4_0 : decode cJ9_abs_0f7a4 0 = .ok (.iload_n 0, 1) := by decide +kernel
theorem dJ9_abs_0f7a4_1 : decode cJ9_abs_0f7a4 1 = .ok (.ifCond .ge 8, 3) := by decide +kernel
theorem dJ9_abs_0f7a4_4 : decode cJ9_abs_0f7a4 4 = .ok (.iload_n 0, 1) := by decide +kernel
theorem dJ9_abs_0f7a4_5 : decode cJ9_abs_0f7a4 5 = .ok (.ineg, 1) := by decide +kernel
theorem dJ9_abs_0f7a4_6 : decode cJ9_abs_0f7a4 6 = .ok (.goto 4, 3) := by decide +kernel
theorem dJ9_abs_0f7a4_9 : decode cJ9_abs_0f7a4 9 = .ok (.iload_n 0, 1) := by decide +kernel
theorem dJ9_abs_0f7a4_10 : decode cJ9_abs_0f7a4 10 = .ok (.ireturn, 1) := by decide +kernel
theorem dJ9_max_7cf53_0 : decode cJ9_max_7cf53 0 = .ok (.iload_n 0, 1) := by decide +kernel
theorem dJ9_max_7cf53_1 : decode cJ9_max_7cf53 1 = .ok (.iload_n 1, 1) := by decide +kernel
theorem dJ9_max_7cf53_2 : decode cJ9_max_7cf53 2 = .ok (.if_icmp .lt 7, 3) := by decide +kernel
theorem dJ9_max_7cf53_5 : decode cJ9_max_7cf53 5 = .ok (.iload_n 0, 1) := by decide +kernel
theorem dJ9_max_7cf53_6 : decode cJ9_max_7cf53 6 = .ok (.goto 4, 3) := by decide +kernel
theorem dJ9_max_7cf53_9 : decode cJ9_max_7cf53 9 = .ok (.iload_n 1, 1) := by decide +kernel
theorem dJ9_max_7cf53_10 : decode cJ9_max_7cf53 10 = .ok (.ireturn, 1) := by decide +kernel
theorem dJ9_min_7cf53_0 : decode cJ9_min_7cf53 0 = .ok (.iload_n 0, 1) := by decide +kernel
theorem dJ9_min_7cf53_1 : decode cJ9_min_7cf53 1 = .ok (.iload_n 1, 1) := by decide +kernel
theorem dJ9_min_7cf53_2 : decode cJ9_min_7cf53 2 = .ok (.if_icmp .gt 7, 3) := by decide +kernel
theorem dJ9_min_7cf53_5 : decode cJ9_min_7cf53 5 = .ok (.iload_n 0, 1) := by decide +kernel
theorem dJ9_min_7cf53_6 : decode cJ9_min_7cf53 6 = .ok (.goto 4, 3) := by decide +kernel
theorem dJ9_min_7cf53_9 : decode cJ9_min_7cf53 9 = .ok (.iload_n 1, 1) := by decide +kernel
theorem dJ9_min_7cf53_10 : decode cJ9_min_7cf53 10 = .ok (.ireturn, 1) := by decide +kernel
theorem dJ0_length_8abf5_0 : decode cJ0_length_8abf5 0 = .ok (.aload_n 0, 1) := by decide +kernel
theorem dJ0_length_8abf5_1 : decode cJ0_length_8abf5 1 = .ok (.getfield 9, 3) := by decide +kernel
theorem dJ0_length_8abf5_4 : decode cJ0_length_8abf5 4 = .ok (.arraylength, 1) := by decide +kernel
theorem dJ0_length_8abf5_5 : decode cJ0_length_8abf5 5 = .ok (.aload_n 0, 1) := by decide +kernel
theorem dJ0_length_8abf5_6 : decode cJ0_length_8abf5 6 = .ok (.invokevirtual 335, 3) := by decide +kernel
theorem dJ0_length_8abf5_9 : decode cJ0_length_8abf5 9 = .ok (.ishr, 1) := by decide +kernel
theorem dJ0_length_8abf5_10 : decode cJ0_length_8abf5 10 = .ok (.ireturn, 1) := by decide +kernel
theorem dJ0_charAt_5068e_0 : decode cJ0_charAt_5068e 0 = .ok (.aload_n 0, 1) := by decide +kernel
theorem dJ0_charAt_5068e_1 : decode cJ0_charAt_5068e 1 = .ok (.invokevirtual 492, 3) := by decide +kernel
theorem dJ0_charAt_5068e_4 : decode cJ0_charAt_5068e 4 = .ok (.ifCond .eq 12, 3) := by decide +kernel
theorem dJ0_charAt_5068e_7 : decode cJ0_charAt_5068e 7 = .ok (.aload_n 0, 1) := by decide +kernel
theorem dJ0_charAt_5068e_8 : decode cJ0_charAt_5068e 8 = .ok (.getfield 9, 3) := by decide +kernel
theorem dJ0_charAt_5068e_11 : decode cJ0_charAt_5068e 11 = .ok (.iload_n 1, 1) := by decide +kernel
theorem dJ0_charAt_5068e_12 : decode cJ0_charAt_5068e 12 = .ok (.invokestatic 495, 3) := by decide +kernel
theorem dJ0_charAt_5068e_15 : decode cJ0_charAt_5068e 15 = .ok (.ireturn, 1) := by decide +kernel
theorem dJ0_charAt_5068e_16 : decode cJ0_charAt_5068e 16 = .ok (.aload_n 0, 1) := by decide +kernel
theorem dJ0_charAt_5068e_17 : decode cJ0_charAt_5068e 17 = .ok (.getfield 9, 3) := by decide +kernel
theorem dJ0_charAt_5068e_20 : decode cJ0_charAt_5068e 20 = .ok (.iload_n 1, 1) := by decide +kernel
theorem dJ0_charAt_5068e_21 : decode cJ0_charAt_5068e 21 = .ok (.invokestatic 498, 3) := by decide +kernel
theorem dJ0_charAt_5068e_24 : decode cJ0_charAt_5068e 24 = .ok (.ireturn, 1) := by decide +kernel
theorem dJ0_coder_7d493_0 : decode cJ0_coder_7d493 0 = .ok (.getstatic 38, 3) := by decide +kernel
theorem dJ0_coder_7d493_3 : decode cJ0_coder_7d493 3 = .ok (.ifCond .eq 10, 3) := by decide +kernel
theorem dJ0_coder_7d493_6 : decode cJ0_coder_7d493 6 = .ok (.aload_n 0, 1) := by decide +kernel
theorem dJ0_coder_7d493_7 : decode cJ0_coder_7d493 7 = .ok (.getfield 15, 3) := by decide +kernel
theorem dJ0_coder_7d493_10 : decode cJ0_coder_7d493 10 = .ok (.goto 4, 3) := by decide +kernel
theorem dJ0_coder_7d493_13 : decode cJ0_coder_7d493 13 = .ok (.iconst 1, 1) := by decide +kernel
theorem dJ0_coder_7d493_14 : decode cJ0_coder_7d493 14 = .ok (.ireturn, 1) := by decide +kernel
theorem dJ0_isLatin1_aae02_0 : decode cJ0_isLatin1_aae02 0 = .ok (.getstatic 38, 3) := by decide +kernel
theorem dJ0_isLatin1_aae02_3 : decode cJ0_isLatin1_aae02 3 = .ok (.ifCond .eq 14, 3) := by decide +kernel
theorem dJ0_isLatin1_aae02_6 : decode cJ0_isLatin1_aae02 6 = .ok (.aload_n 0, 1) := by decide +kernel
theorem dJ0_isLatin1_aae02_7 : decode cJ0_isLatin1_aae02 7 = .ok (.getfield 15, 3) := by decide +kernel
theorem dJ0_isLatin1_aae02_10 : decode cJ0_isLatin1_aae02 10 = .ok (.ifCond .ne 7, 3) := by decide +kernel
theorem dJ0_isLatin1_aae02_13 : decode cJ0_isLatin1_aae02 13 = .ok (.iconst 1, 1) := by decide +kernel
theorem dJ0_isLatin1_aae02_14 : decode cJ0_isLatin1_aae02 14 = .ok (.goto 4, 3) := by decide +kernel
theorem dJ0_isLatin1_aae02_17 : decode cJ0_isLatin1_aae02 17 = .ok (.iconst 0, 1) := by decide +kernel
theorem dJ0_isLatin1_aae02_18 : decode cJ0_isLatin1_aae02 18 = .ok (.ireturn, 1) := by decide +kernel
