theorem dX0_init_0 : decode cX0_init 0 = .ok (.aload_n 0, 1) := by decide +kernel
theorem dX0_init_1 : decode cX0_init 1 = .ok (.invokespecial 3, 3) := by decide +kernel
theorem dX0_init_4 : decode cX0_init 4 = .ok (.aload_n 0, 1) := by decide +kernel
theorem dX0_init_5 : decode cX0_init 5 = .ok (.sipush 200, 3) := by decide +kernel
theorem dX0_init_8 : decode cX0_init 8 = .ok (.newarray .int, 2) := by decide +kernel
theorem dX0_init_10 : decode cX0_init 10 = .ok (.putfield 9, 3) := by decide +kernel
theorem dX0_init_13 : decode cX0_init 13 = .ok (.return_, 1) := by decide +kernel
theorem dX0_look_0 : decode cX0_look 0 = .ok (.iconst 0, 1) := by decide +kernel
theorem dX0_look_1 : decode cX0_look 1 = .ok (.istore_n 3, 1) := by decide +kernel
theorem dX0_look_2 : decode cX0_look 2 = .ok (.iload_n 3, 1) := by decide +kernel
theorem dX0_look_3 : decode cX0_look 3 = .ok (.iload_n 2, 1) := by decide +kernel
theorem dX0_look_4 : decode cX0_look 4 = .ok (.if_icmp .ge 32, 3) := by decide +kernel
theorem dX0_look_7 : decode cX0_look 7 = .ok (.iload_n 3, 1) := by decide +kernel
theorem dX0_look_8 : decode cX0_look 8 = .ok (.sipush 200, 3) := by decide +kernel
theorem dX0_look_11 : decode cX0_look 11 = .ok (.if_icmp .ge 25, 3) := by decide +kernel
theorem dX0_look_14 : decode cX0_look 14 = .ok (.aload_n 0, 1) := by decide +kernel
theorem dX0_look_15 : decode cX0_look 15 = .ok (.getfield 9, 3) := by decide +kernel
theorem dX0_look_18 : decode cX0_look 18 = .ok (.iload_n 3, 1) := by decide +kernel
theorem dX0_look_19 : decode cX0_look 19 = .ok (.aload_n 1, 1) := by decide +kernel
theorem dX0_look_20 : decode cX0_look 20 = .ok (.aload_n 1, 1) := by decide +kernel
theorem dX0_look_21 : decode cX0_look 21 = .ok (.getfield 15, 3) := by decide +kernel
theorem dX0_look_24 : decode cX0_look 24 = .ok (.iload_n 3, 1) := by decide +kernel
theorem dX0_look_25 : decode cX0_look 25 = .ok (.iadd, 1) := by decide +kernel
theorem dX0_look_26 : decode cX0_look 26 = .ok (.invokevirtual 21, 3) := by decide +kernel
theorem dX0_look_29 : decode cX0_look 29 = .ok (.iastore, 1) := by decide +kernel
theorem dX0_look_30 : decode cX0_look 30 = .ok (.iinc 3 1, 3) := by decide +kernel
theorem dX0_look_33 : decode cX0_look 33 = .ok (.goto (-31), 3) := by decide +kernel
theorem dX0_look_36 : decode cX0_look 36 = .ok (.return_, 1) := by decide +kernel
theorem dX0_yieldWithout_0 : decode cX0_yieldWithout 0 = .ok (.iconst 0, 1) := by decide +kernel
theorem dX0_yieldWithout_1 : decode cX0_yieldWithout 1 = .ok (.istore 4, 2) := by decide +kernel
theorem dX0_yieldWithout_3 : decode cX0_yieldWithout 3 = .ok (.iconst 0, 1) := by decide +kernel
theorem dX0_yieldWithout_4 : decode cX0_yieldWithout 4 = .ok (.istore 5, 2) := by decide +kernel
theorem dX0_yieldWithout_6 : decode cX0_yieldWithout 6 = .ok (.iload 5, 2) := by decide +kernel
theorem dX0_yieldWithout_8 : decode cX0_yieldWithout 8 = .ok (.iload_n 2, 1) := by decide +kernel
theorem dX0_yieldWithout_9 : decode cX0_yieldWithout 9 = .ok (.if_icmp .ge 37, 3) := by decide +kernel
theorem dX0_yieldWithout_12 : decode cX0_yieldWithout 12 = .ok (.iload 5, 2) := by decide +kernel
theorem dX0_yieldWithout_14 : decode cX0_yieldWithout 14 = .ok (.sipush 200, 3) := by decide +kernel
theorem dX0_yieldWithout_17 : decode cX0_yieldWithout 17 = .ok (.if_icmp .ge 29, 3) := by decide +kernel
theorem dX0_yieldWithout_20 : decode cX0_yieldWithout 20 = .ok (.iload 4, 2) := by decide +kernel
theorem dX0_yieldWithout_22 : decode cX0_yieldWithout 22 = .ok (.aload_n 1, 1) := by decide +kernel
theorem dX0_yieldWithout_23 : decode cX0_yieldWithout 23 = .ok (.aload_n 0, 1) := by decide +kernel
theorem dX0_yieldWithout_24 : decode cX0_yieldWithout 24 = .ok (.getfield 9, 3) := by decide +kernel
theorem dX0_yieldWithout_27 : decode cX0_yieldWithout 27 = .ok (.iload 5, 2) := by decide +kernel
theorem dX0_yieldWithout_29 : decode cX0_yieldWithout 29 = .ok (.iaload, 1) := by decide +kernel
theorem dX0_yieldWithout_30 : decode cX0_yieldWithout 30 = .ok (.iload_n 3, 1) := by decide +kernel
theorem dX0_yieldWithout_31 : decode cX0_yieldWithout 31 = .ok (.iconst (-1), 1) := by decide +kernel
theorem dX0_yieldWithout_32 : decode cX0_yieldWithout 32 = .ok (.ixor, 1) := by decide +kernel
theorem dX0_yieldWithout_33 : decode cX0_yieldWithout 33 = .ok (.iand, 1) := by decide +kernel
theorem dX0_yieldWithout_34 : decode cX0_yieldWithout 34 = .ok (.invokevirtual 24, 3) := by decide +kernel
theorem dX0_yieldWithout_37 : decode cX0_yieldWithout 37 = .ok (.iadd, 1) := by decide +kernel
theorem dX0_yieldWithout_38 : decode cX0_yieldWithout 38 = .ok (.istore 4, 2) := by decide +kernel
theorem dX0_yieldWithout_40 : decode cX0_yieldWithout 40 = .ok (.iinc 5 1, 3) := by decide +kernel
theorem dX0_yieldWithout_43 : decode cX0_yieldWithout 43 = .ok (.goto (-37), 3) := by decide +kernel
theorem dX0_yieldWithout_46 : decode cX0_yieldWithout 46 = .ok (.iload 4, 2) := by decide +kernel
theorem dX0_yieldWithout_48 : decode cX0_yieldWithout 48 = .ok (.ireturn, 1) := by decide +kernel
theorem dX0_poorestValley_0 : decode cX0_poorestValley 0 = .ok (.iconst (-1), 1) := by decide +kernel
theorem dX0_poorestValley_1 : decode cX0_poorestValley 1 = .ok (.istore_n 3, 1) := by decide +kernel
theorem dX0_poorestValley_2 : decode cX0_poorestValley 2 = .ok (.iconst 0, 1) := by decide +kernel
theorem dX0_poorestValley_3 : decode cX0_poorestValley 3 = .ok (.istore 4, 2) := by decide +kernel
theorem dX0_poorestValley_5 : decode cX0_poorestValley 5 = .ok (.iconst 0, 1) := by decide +kernel
theorem dX0_poorestValley_6 : decode cX0_poorestValley 6 = .ok (.istore 5, 2) := by decide +kernel
theorem dX0_poorestValley_8 : decode cX0_poorestValley 8 = .ok (.iload 5, 2) := by decide +kernel
theorem dX0_poorestValley_10 : decode cX0_poorestValley 10 = .ok (.aload_n 1, 1) := by decide +kernel
theorem dX0_poorestValley_11 : decode cX0_poorestValley 11 = .ok (.getfield 27, 3) := by decide +kernel
theorem dX0_poorestValley_14 : decode cX0_poorestValley 14 = .ok (.if_icmp .ge 38, 3) := by decide +kernel
theorem dX0_poorestValley_17 : decode cX0_poorestValley 17 = .ok (.aload_n 0, 1) := by decide +kernel
theorem dX0_poorestValley_18 : decode cX0_poorestValley 18 = .ok (.aload_n 1, 1) := by decide +kernel
theorem dX0_poorestValley_19 : decode cX0_poorestValley 19 = .ok (.iload_n 2, 1) := by decide +kernel
theorem dX0_poorestValley_20 : decode cX0_poorestValley 20 = .ok (.iload 5, 2) := by decide +kernel
theorem dX0_poorestValley_22 : decode cX0_poorestValley 22 = .ok (.invokevirtual 30, 3) := by decide +kernel
theorem dX0_poorestValley_25 : decode cX0_poorestValley 25 = .ok (.istore 6, 2) := by decide +kernel
theorem dX0_poorestValley_27 : decode cX0_poorestValley 27 = .ok (.iload_n 3, 1) := by decide +kernel
theorem dX0_poorestValley_28 : decode cX0_poorestValley 28 = .ok (.iconst (-1), 1) := by decide +kernel
theorem dX0_poorestValley_29 : decode cX0_poorestValley 29 = .ok (.if_icmp .eq 10, 3) := by decide +kernel
theorem dX0_poorestValley_32 : decode cX0_poorestValley 32 = .ok (.iload 6, 2) := by decide +kernel
theorem dX0_poorestValley_34 : decode cX0_poorestValley 34 = .ok (.iload 4, 2) := by decide +kernel
theorem dX0_poorestValley_36 : decode cX0_poorestValley 36 = .ok (.if_icmp .le 10, 3) := by decide +kernel
theorem dX0_poorestValley_39 : decode cX0_poorestValley 39 = .ok (.iload 5, 2) := by decide +kernel
theorem dX0_poorestValley_41 : decode cX0_poorestValley 41 = .ok (.istore_n 3, 1) := by decide +kernel
theorem dX0_poorestValley_42 : decode cX0_poorestValley 42 = .ok (.iload 6, 2) := by decide +kernel
theorem dX0_poorestValley_44 : decode cX0_poorestValley 44 = .ok (.istore 4, 2) := by decide +kernel
theorem dX0_poorestValley_46 : decode cX0_poorestValley 46 = .ok (.iinc 5 1, 3) := by decide +kernel
theorem dX0_poorestValley_49 : decode cX0_poorestValley 49 = .ok (.goto (-41), 3) := by decide +kernel
theorem dX0_poorestValley_52 : decode cX0_poorestValley 52 = .ok (.iload_n 3, 1) := by decide +kernel
theorem dX0_poorestValley_53 : decode cX0_poorestValley 53 = .ok (.ireturn, 1) := by decide +kernel
theorem dX0_yearsWithoutMilk_0 : decode cX0_yearsWithoutMilk 0 = .ok (.iconst 0, 1) := by decide +kernel
theorem dX0_yearsWithoutMilk_1 : decode cX0_yearsWithoutMilk 1 = .ok (.istore 4, 2) := by decide +kernel
theorem dX0_yearsWithoutMilk_3 : decode cX0_yearsWithoutMilk 3 = .ok (.iconst 0, 1) := by decide +kernel
theorem dX0_yearsWithoutMilk_4 : decode cX0_yearsWithoutMilk 4 = .ok (.istore 5, 2) := by decide +kernel
theorem dX0_yearsWithoutMilk_6 : decode cX0_yearsWithoutMilk 6 = .ok (.iload 5, 2) := by decide +kernel
theorem dX0_yearsWithoutMilk_8 : decode cX0_yearsWithoutMilk 8 = .ok (.iload_n 2, 1) := by decide +kernel
theorem dX0_yearsWithoutMilk_9 : decode cX0_yearsWithoutMilk 9 = .ok (.if_icmp .ge 35, 3) := by decide +kernel
theorem dX0_yearsWithoutMilk_12 : decode cX0_yearsWithoutMilk 12 = .ok (.iload 5, 2) := by decide +kernel
theorem dX0_yearsWithoutMilk_14 : decode cX0_yearsWithoutMilk 14 = .ok (.sipush 200, 3) := by decide +kernel
theorem dX0_yearsWithoutMilk_17 : decode cX0_yearsWithoutMilk 17 = .ok (.if_icmp .ge 27, 3) := by decide +kernel
theorem dX0_yearsWithoutMilk_20 : decode cX0_yearsWithoutMilk 20 = .ok (.aload_n 1, 1) := by decide +kernel
theorem dX0_yearsWithoutMilk_21 : decode cX0_yearsWithoutMilk 21 = .ok (.iload_n 3, 1) := by decide +kernel
theorem dX0_yearsWithoutMilk_22 : decode cX0_yearsWithoutMilk 22 = .ok (.aload_n 0, 1) := by decide +kernel
theorem dX0_yearsWithoutMilk_23 : decode cX0_yearsWithoutMilk 23 = .ok (.getfield 9, 3) := by decide +kernel
theorem dX0_yearsWithoutMilk_26 : decode cX0_yearsWithoutMilk 26 = .ok (.iload 5, 2) := by decide +kernel
theorem dX0_yearsWithoutMilk_28 : decode cX0_yearsWithoutMilk 28 = .ok (.iaload, 1) := by decide +kernel
theorem dX0_yearsWithoutMilk_29 : decode cX0_yearsWithoutMilk 29 = .ok (.invokevirtual 34, 3) := by decide +kernel
theorem dX0_yearsWithoutMilk_32 : decode cX0_yearsWithoutMilk 32 = .ok (.ifCond .ne 6, 3) := by decide +kernel
theorem dX0_yearsWithoutMilk_35 : decode cX0_yearsWithoutMilk 35 = .ok (.iinc 4 1, 3) := by decide +kernel
theorem dX0_yearsWithoutMilk_38 : decode cX0_yearsWithoutMilk 38 = .ok (.iinc 5 1, 3) := by decide +kernel
theorem dX0_yearsWithoutMilk_41 : decode cX0_yearsWithoutMilk 41 = .ok (.goto (-35), 3) := by decide +kernel
theorem dX0_yearsWithoutMilk_44 : decode cX0_yearsWithoutMilk 44 = .ok (.iload 4, 2) := by decide +kernel
theorem dX0_yearsWithoutMilk_46 : decode cX0_yearsWithoutMilk 46 = .ok (.ireturn, 1) := by decide +kernel
theorem dX0_savingPeak_0 : decode cX0_savingPeak 0 = .ok (.iconst (-1), 1) := by decide +kernel
theorem dX0_savingPeak_1 : decode cX0_savingPeak 1 = .ok (.istore_n 3, 1) := by decide +kernel
theorem dX0_savingPeak_2 : decode cX0_savingPeak 2 = .ok (.iconst 0, 1) := by decide +kernel
theorem dX0_savingPeak_3 : decode cX0_savingPeak 3 = .ok (.istore 4, 2) := by decide +kernel
theorem dX0_savingPeak_5 : decode cX0_savingPeak 5 = .ok (.iconst 0, 1) := by decide +kernel
theorem dX0_savingPeak_6 : decode cX0_savingPeak 6 = .ok (.istore 5, 2) := by decide +kernel
theorem dX0_savingPeak_8 : decode cX0_savingPeak 8 = .ok (.iload 5, 2) := by decide +kernel
theorem dX0_savingPeak_10 : decode cX0_savingPeak 10 = .ok (.aload_n 1, 1) := by decide +kernel
theorem dX0_savingPeak_11 : decode cX0_savingPeak 11 = .ok (.getfield 38, 3) := by decide +kernel
theorem dX0_savingPeak_14 : decode cX0_savingPeak 14 = .ok (.if_icmp .ge 40, 3) := by decide +kernel
theorem dX0_savingPeak_17 : decode cX0_savingPeak 17 = .ok (.aload_n 0, 1) := by decide +kernel
theorem dX0_savingPeak_18 : decode cX0_savingPeak 18 = .ok (.aload_n 1, 1) := by decide +kernel
theorem dX0_savingPeak_19 : decode cX0_savingPeak 19 = .ok (.iload_n 2, 1) := by decide +kernel
theorem dX0_savingPeak_20 : decode cX0_savingPeak 20 = .ok (.iconst 1, 1) := by decide +kernel
theorem dX0_savingPeak_21 : decode cX0_savingPeak 21 = .ok (.iload 5, 2) := by decide +kernel
theorem dX0_savingPeak_23 : decode cX0_savingPeak 23 = .ok (.ishl, 1) := by decide +kernel
theorem dX0_savingPeak_24 : decode cX0_savingPeak 24 = .ok (.invokevirtual 41, 3) := by decide +kernel
theorem dX0_savingPeak_27 : decode cX0_savingPeak 27 = .ok (.istore 6, 2) := by decide +kernel
theorem dX0_savingPeak_29 : decode cX0_savingPeak 29 = .ok (.iload_n 3, 1) := by decide +kernel
theorem dX0_savingPeak_30 : decode cX0_savingPeak 30 = .ok (.iconst (-1), 1) := by decide +kernel
theorem dX0_savingPeak_31 : decode cX0_savingPeak 31 = .ok (.if_icmp .eq 10, 3) := by decide +kernel
theorem dX0_savingPeak_34 : decode cX0_savingPeak 34 = .ok (.iload 6, 2) := by decide +kernel
theorem dX0_savingPeak_36 : decode cX0_savingPeak 36 = .ok (.iload 4, 2) := by decide +kernel
theorem dX0_savingPeak_38 : decode cX0_savingPeak 38 = .ok (.if_icmp .le 10, 3) := by decide +kernel
theorem dX0_savingPeak_41 : decode cX0_savingPeak 41 = .ok (.iload 5, 2) := by decide +kernel
theorem dX0_savingPeak_43 : decode cX0_savingPeak 43 = .ok (.istore_n 3, 1) := by decide +kernel
theorem dX0_savingPeak_44 : decode cX0_savingPeak 44 = .ok (.iload 6, 2) := by decide +kernel
theorem dX0_savingPeak_46 : decode cX0_savingPeak 46 = .ok (.istore 4, 2) := by decide +kernel
theorem dX0_savingPeak_48 : decode cX0_savingPeak 48 = .ok (.iinc 5 1, 3) := by decide +kernel
theorem dX0_savingPeak_51 : decode cX0_savingPeak 51 = .ok (.goto (-43), 3) := by decide +kernel
theorem dX0_savingPeak_54 : decode cX0_savingPeak 54 = .ok (.iload_n 3, 1) := by decide +kernel
theorem dX0_savingPeak_55 : decode cX0_savingPeak 55 = .ok (.ireturn, 1) := by decide +kernel
theorem dX1_init_0 : decode cX1_init 0 = .ok (.aload_n 0, 1) := by decide +kernel
theorem dX1_init_1 : decode cX1_init 1 = .ok (.invokespecial 3, 3) := by decide +kernel
theorem dX1_init_4 : decode cX1_init 4 = .ok (.aload_n 0, 1) := by decide +kernel
theorem dX1_init_5 : decode cX1_init 5 = .ok (.bipush 20, 2) := by decide +kernel
theorem dX1_init_7 : decode cX1_init 7 = .ok (.newarray .int, 2) := by decide +kernel
theorem dX1_init_9 : decode cX1_init 9 = .ok (.putfield 11, 3) := by decide +kernel
theorem dX1_init_12 : decode cX1_init 12 = .ok (.return_, 1) := by decide +kernel
theorem dX1_forget_0 : decode cX1_forget 0 = .ok (.aload_n 0, 1) := by decide +kernel
theorem dX1_forget_1 : decode cX1_forget 1 = .ok (.iconst 0, 1) := by decide +kernel
theorem dX1_forget_2 : decode cX1_forget 2 = .ok (.putfield 15, 3) := by decide +kernel
theorem dX1_forget_5 : decode cX1_forget 5 = .ok (.return_, 1) := by decide +kernel
theorem dX1_begin_0 : decode cX1_begin 0 = .ok (.aload_n 0, 1) := by decide +kernel
theorem dX1_begin_1 : decode cX1_begin 1 = .ok (.aload_n 1, 1) := by decide +kernel
theorem dX1_begin_2 : decode cX1_begin 2 = .ok (.getfield 19, 3) := by decide +kernel
theorem dX1_begin_5 : decode cX1_begin 5 = .ok (.iload_n 2, 1) := by decide +kernel
theorem dX1_begin_6 : decode cX1_begin 6 = .ok (.iaload, 1) := by decide +kernel
theorem dX1_begin_7 : decode cX1_begin 7 = .ok (.putfield 24, 3) := by decide +kernel
theorem dX1_begin_10 : decode cX1_begin 10 = .ok (.aload_n 0, 1) := by decide +kernel
theorem dX1_begin_11 : decode cX1_begin 11 = .ok (.iload_n 2, 1) := by decide +kernel
theorem dX1_begin_12 : decode cX1_begin 12 = .ok (.putfield 26, 3) := by decide +kernel
theorem dX1_begin_15 : decode cX1_begin 15 = .ok (.aload_n 0, 1) := by decide +kernel
theorem dX1_begin_16 : decode cX1_begin 16 = .ok (.aload_n 1, 1) := by decide +kernel
theorem dX1_begin_17 : decode cX1_begin 17 = .ok (.getfield 29, 3) := by decide +kernel
theorem dX1_begin_20 : decode cX1_begin 20 = .ok (.iload_n 2, 1) := by decide +kernel
theorem dX1_begin_21 : decode cX1_begin 21 = .ok (.iaload, 1) := by decide +kernel
theorem dX1_begin_22 : decode cX1_begin 22 = .ok (.putfield 32, 3) := by decide +kernel
theorem dX1_begin_25 : decode cX1_begin 25 = .ok (.aload_n 0, 1) := by decide +kernel
theorem dX1_begin_26 : decode cX1_begin 26 = .ok (.iload_n 3, 1) := by decide +kernel
theorem dX1_begin_27 : decode cX1_begin 27 = .ok (.iload 4, 2) := by decide +kernel
theorem dX1_begin_29 : decode cX1_begin 29 = .ok (.iconst 0, 1) := by decide +kernel
theorem dX1_begin_30 : decode cX1_begin 30 = .ok (.invokevirtual 35, 3) := by decide +kernel
theorem dX1_begin_33 : decode cX1_begin 33 = .ok (.ireturn, 1) := by decide +kernel
theorem dX1_own_0 : decode cX1_own 0 = .ok (.aload_n 0, 1) := by decide +kernel
theorem dX1_own_1 : decode cX1_own 1 = .ok (.aload_n 0, 1) := by decide +kernel
theorem dX1_own_2 : decode cX1_own 2 = .ok (.getfield 24, 3) := by decide +kernel
theorem dX1_own_5 : decode cX1_own 5 = .ok (.iload_n 1, 1) := by decide +kernel
theorem dX1_own_6 : decode cX1_own 6 = .ok (.iload_n 2, 1) := by decide +kernel
theorem dX1_own_7 : decode cX1_own 7 = .ok (.iload_n 3, 1) := by decide +kernel
theorem dX1_own_8 : decode cX1_own 8 = .ok (.invokevirtual 39, 3) := by decide +kernel
theorem dX1_own_11 : decode cX1_own 11 = .ok (.ireturn, 1) := by decide +kernel
theorem dX1_above_0 : decode cX1_above 0 = .ok (.aload_n 0, 1) := by decide +kernel
theorem dX1_above_1 : decode cX1_above 1 = .ok (.getstatic 43, 3) := by decide +kernel
theorem dX1_above_4 : decode cX1_above 4 = .ok (.iload_n 1, 1) := by decide +kernel
theorem dX1_above_5 : decode cX1_above 5 = .ok (.bipush 10, 2) := by decide +kernel
theorem dX1_above_7 : decode cX1_above 7 = .ok (.idiv, 1) := by decide +kernel
theorem dX1_above_8 : decode cX1_above 8 = .ok (.iconst 1, 1) := by decide +kernel
theorem dX1_above_9 : decode cX1_above 9 = .ok (.isub, 1) := by decide +kernel
theorem dX1_above_10 : decode cX1_above 10 = .ok (.iaload, 1) := by decide +kernel
theorem dX1_above_11 : decode cX1_above 11 = .ok (.iload_n 2, 1) := by decide +kernel
theorem dX1_above_12 : decode cX1_above 12 = .ok (.iload_n 3, 1) := by decide +kernel
theorem dX1_above_13 : decode cX1_above 13 = .ok (.iload 4, 2) := by decide +kernel
theorem dX1_above_15 : decode cX1_above 15 = .ok (.invokevirtual 39, 3) := by decide +kernel
theorem dX1_above_18 : decode cX1_above 18 = .ok (.ireturn, 1) := by decide +kernel
theorem dX1_run_0 : decode cX1_run 0 = .ok (.iload 4, 2) := by decide +kernel
theorem dX1_run_2 : decode cX1_run 2 = .ok (.bipush 40, 2) := by decide +kernel
theorem dX1_run_4 : decode cX1_run 4 = .ok (.if_icmp .gt 10, 3) := by decide +kernel
theorem dX1_run_7 : decode cX1_run 7 = .ok (.iload_n 1, 1) := by decide +kernel
theorem dX1_run_8 : decode cX1_run 8 = .ok (.invokestatic 46, 3) := by decide +kernel
theorem dX1_run_11 : decode cX1_run 11 = .ok (.ifCond .ne 5, 3) := by decide +kernel
theorem dX1_run_14 : decode cX1_run 14 = .ok (.iconst 0, 1) := by decide +kernel
theorem dX1_run_15 : decode cX1_run 15 = .ok (.ireturn, 1) := by decide +kernel
theorem dX1_run_16 : decode cX1_run 16 = .ok (.getstatic 50, 3) := by decide +kernel
theorem dX1_run_19 : decode cX1_run 19 = .ok (.iload_n 2, 1) := by decide +kernel
theorem dX1_run_20 : decode cX1_run 20 = .ok (.bipush 7, 2) := by decide +kernel
theorem dX1_run_22 : decode cX1_run 22 = .ok (.imul, 1) := by decide +kernel
theorem dX1_run_23 : decode cX1_run 23 = .ok (.iload_n 1, 1) := by decide +kernel
theorem dX1_run_24 : decode cX1_run 24 = .ok (.iadd, 1) := by decide +kernel
theorem dX1_run_25 : decode cX1_run 25 = .ok (.iaload, 1) := by decide +kernel
theorem dX1_run_26 : decode cX1_run 26 = .ok (.istore 5, 2) := by decide +kernel
theorem dX1_run_28 : decode cX1_run 28 = .ok (.aload_n 0, 1) := by decide +kernel
theorem dX1_run_29 : decode cX1_run 29 = .ok (.iload 5, 2) := by decide +kernel
theorem dX1_run_31 : decode cX1_run 31 = .ok (.invokevirtual 53, 3) := by decide +kernel
theorem dX1_run_34 : decode cX1_run 34 = .ok (.iload 4, 2) := by decide +kernel
theorem dX1_run_36 : decode cX1_run 36 = .ok (.iconst 1, 1) := by decide +kernel
theorem dX1_run_37 : decode cX1_run 37 = .ok (.iadd, 1) := by decide +kernel
theorem dX1_run_38 : decode cX1_run 38 = .ok (.istore 6, 2) := by decide +kernel
theorem dX1_run_40 : decode cX1_run 40 = .ok (.iload 5, 2) := by decide +kernel
theorem dX1_run_42 : decode cX1_run 42 = .ok (.lookupswitch 240 #[(11, 90), (12, 101), (20, 128), (30, 144), (40, 157), (50, 170), (51, 182), (60, 198), (70, 211), (71, 224)], 90) := by decide +kernel
theorem dX1_run_132 : decode cX1_run 132 = .ok (.aload_n 0, 1) := by decide +kernel
theorem dX1_run_133 : decode cX1_run 133 = .ok (.iconst 0, 1) := by decide +kernel
theorem dX1_run_134 : decode cX1_run 134 = .ok (.iload_n 3, 1) := by decide +kernel
theorem dX1_run_135 : decode cX1_run 135 = .ok (.iload 6, 2) := by decide +kernel
theorem dX1_run_137 : decode cX1_run 137 = .ok (.invokevirtual 35, 3) := by decide +kernel
theorem dX1_run_140 : decode cX1_run 140 = .ok (.iconst 2, 1) := by decide +kernel
theorem dX1_run_141 : decode cX1_run 141 = .ok (.imul, 1) := by decide +kernel
theorem dX1_run_142 : decode cX1_run 142 = .ok (.ireturn, 1) := by decide +kernel
theorem dX1_run_143 : decode cX1_run 143 = .ok (.aload_n 0, 1) := by decide +kernel
theorem dX1_run_144 : decode cX1_run 144 = .ok (.iconst 1, 1) := by decide +kernel
theorem dX1_run_145 : decode cX1_run 145 = .ok (.iload_n 3, 1) := by decide +kernel
theorem dX1_run_146 : decode cX1_run 146 = .ok (.iload 6, 2) := by decide +kernel
theorem dX1_run_148 : decode cX1_run 148 = .ok (.invokevirtual 35, 3) := by decide +kernel
theorem dX1_run_151 : decode cX1_run 151 = .ok (.istore 7, 2) := by decide +kernel
theorem dX1_run_153 : decode cX1_run 153 = .ok (.iload 7, 2) := by decide +kernel
theorem dX1_run_155 : decode cX1_run 155 = .ok (.aload_n 0, 1) := by decide +kernel
theorem dX1_run_156 : decode cX1_run 156 = .ok (.iconst 0, 1) := by decide +kernel
theorem dX1_run_157 : decode cX1_run 157 = .ok (.iload_n 3, 1) := by decide +kernel
theorem dX1_run_158 : decode cX1_run 158 = .ok (.aload_n 0, 1) := by decide +kernel
theorem dX1_run_159 : decode cX1_run 159 = .ok (.getfield 32, 3) := by decide +kernel
theorem dX1_run_162 : decode cX1_run 162 = .ok (.isub, 1) := by decide +kernel
theorem dX1_run_163 : decode cX1_run 163 = .ok (.iload 6, 2) := by decide +kernel
theorem dX1_run_165 : decode cX1_run 165 = .ok (.invokevirtual 35, 3) := by decide +kernel
theorem dX1_run_168 : decode cX1_run 168 = .ok (.ixor, 1) := by decide +kernel
theorem dX1_run_169 : decode cX1_run 169 = .ok (.ireturn, 1) := by decide +kernel
theorem dX1_run_170 : decode cX1_run 170 = .ok (.aload_n 0, 1) := by decide +kernel
theorem dX1_run_171 : decode cX1_run 171 = .ok (.iload 5, 2) := by decide +kernel
theorem dX1_run_173 : decode cX1_run 173 = .ok (.iconst 0, 1) := by decide +kernel
theorem dX1_run_174 : decode cX1_run 174 = .ok (.iload_n 3, 1) := by decide +kernel
theorem dX1_run_175 : decode cX1_run 175 = .ok (.iload 6, 2) := by decide +kernel
theorem dX1_run_177 : decode cX1_run 177 = .ok (.invokevirtual 57, 3) := by decide +kernel
theorem dX1_run_180 : decode cX1_run 180 = .ok (.aload_n 0, 1) := by decide +kernel
theorem dX1_run_181 : decode cX1_run 181 = .ok (.getfield 32, 3) := by decide +kernel
theorem dX1_run_184 : decode cX1_run 184 = .ok (.iadd, 1) := by decide +kernel
theorem dX1_run_185 : decode cX1_run 185 = .ok (.ireturn, 1) := by decide +kernel
theorem dX1_run_186 : decode cX1_run 186 = .ok (.aload_n 0, 1) := by decide +kernel
theorem dX1_run_187 : decode cX1_run 187 = .ok (.iload 5, 2) := by decide +kernel
theorem dX1_run_189 : decode cX1_run 189 = .ok (.iconst 1, 1) := by decide +kernel
theorem dX1_run_190 : decode cX1_run 190 = .ok (.iload_n 3, 1) := by decide +kernel
theorem dX1_run_191 : decode cX1_run 191 = .ok (.iload 6, 2) := by decide +kernel
theorem dX1_run_193 : decode cX1_run 193 = .ok (.invokevirtual 57, 3) := by decide +kernel
theorem dX1_run_196 : decode cX1_run 196 = .ok (.iconst 3, 1) := by decide +kernel
theorem dX1_run_197 : decode cX1_run 197 = .ok (.imul, 1) := by decide +kernel
theorem dX1_run_198 : decode cX1_run 198 = .ok (.ireturn, 1) := by decide +kernel
theorem dX1_run_199 : decode cX1_run 199 = .ok (.aload_n 0, 1) := by decide +kernel
theorem dX1_run_200 : decode cX1_run 200 = .ok (.iload 5, 2) := by decide +kernel
theorem dX1_run_202 : decode cX1_run 202 = .ok (.iconst 1, 1) := by decide +kernel
theorem dX1_run_203 : decode cX1_run 203 = .ok (.iload_n 3, 1) := by decide +kernel
theorem dX1_run_204 : decode cX1_run 204 = .ok (.iconst 1, 1) := by decide +kernel
theorem dX1_run_205 : decode cX1_run 205 = .ok (.iadd, 1) := by decide +kernel
theorem dX1_run_206 : decode cX1_run 206 = .ok (.iload 6, 2) := by decide +kernel
theorem dX1_run_208 : decode cX1_run 208 = .ok (.invokevirtual 57, 3) := by decide +kernel
theorem dX1_run_211 : decode cX1_run 211 = .ok (.ireturn, 1) := by decide +kernel
theorem dX1_run_212 : decode cX1_run 212 = .ok (.aload_n 0, 1) := by decide +kernel
theorem dX1_run_213 : decode cX1_run 213 = .ok (.iload 5, 2) := by decide +kernel
theorem dX1_run_215 : decode cX1_run 215 = .ok (.iconst 2, 1) := by decide +kernel
theorem dX1_run_216 : decode cX1_run 216 = .ok (.iload_n 3, 1) := by decide +kernel
theorem dX1_run_217 : decode cX1_run 217 = .ok (.iload 6, 2) := by decide +kernel
theorem dX1_run_219 : decode cX1_run 219 = .ok (.invokevirtual 57, 3) := by decide +kernel
theorem dX1_run_222 : decode cX1_run 222 = .ok (.ineg, 1) := by decide +kernel
theorem dX1_run_223 : decode cX1_run 223 = .ok (.ireturn, 1) := by decide +kernel
theorem dX1_run_224 : decode cX1_run 224 = .ok (.aload_n 0, 1) := by decide +kernel
theorem dX1_run_225 : decode cX1_run 225 = .ok (.iload 5, 2) := by decide +kernel
theorem dX1_run_227 : decode cX1_run 227 = .ok (.iconst 0, 1) := by decide +kernel
theorem dX1_run_228 : decode cX1_run 228 = .ok (.iload_n 3, 1) := by decide +kernel
theorem dX1_run_229 : decode cX1_run 229 = .ok (.iload 6, 2) := by decide +kernel
theorem dX1_run_231 : decode cX1_run 231 = .ok (.invokevirtual 57, 3) := by decide +kernel
theorem dX1_run_234 : decode cX1_run 234 = .ok (.aload_n 0, 1) := by decide +kernel
theorem dX1_run_235 : decode cX1_run 235 = .ok (.getfield 26, 3) := by decide +kernel
theorem dX1_run_238 : decode cX1_run 238 = .ok (.isub, 1) := by decide +kernel
theorem dX1_run_239 : decode cX1_run 239 = .ok (.ireturn, 1) := by decide +kernel
theorem dX1_run_240 : decode cX1_run 240 = .ok (.aload_n 0, 1) := by decide +kernel
theorem dX1_run_241 : decode cX1_run 241 = .ok (.iload 5, 2) := by decide +kernel
theorem dX1_run_243 : decode cX1_run 243 = .ok (.iconst 2, 1) := by decide +kernel
theorem dX1_run_244 : decode cX1_run 244 = .ok (.iload_n 3, 1) := by decide +kernel
theorem dX1_run_245 : decode cX1_run 245 = .ok (.iload 6, 2) := by decide +kernel
theorem dX1_run_247 : decode cX1_run 247 = .ok (.invokevirtual 57, 3) := by decide +kernel
theorem dX1_run_250 : decode cX1_run 250 = .ok (.iconst 5, 1) := by decide +kernel
theorem dX1_run_251 : decode cX1_run 251 = .ok (.ixor, 1) := by decide +kernel
theorem dX1_run_252 : decode cX1_run 252 = .ok (.ireturn, 1) := by decide +kernel
theorem dX1_run_253 : decode cX1_run 253 = .ok (.aload_n 0, 1) := by decide +kernel
theorem dX1_run_254 : decode cX1_run 254 = .ok (.iload 5, 2) := by decide +kernel
theorem dX1_run_256 : decode cX1_run 256 = .ok (.iconst 0, 1) := by decide +kernel
theorem dX1_run_257 : decode cX1_run 257 = .ok (.iload_n 3, 1) := by decide +kernel
theorem dX1_run_258 : decode cX1_run 258 = .ok (.iload 6, 2) := by decide +kernel
theorem dX1_run_260 : decode cX1_run 260 = .ok (.invokevirtual 57, 3) := by decide +kernel
theorem dX1_run_263 : decode cX1_run 263 = .ok (.iconst 2, 1) := by decide +kernel
theorem dX1_run_264 : decode cX1_run 264 = .ok (.imul, 1) := by decide +kernel
theorem dX1_run_265 : decode cX1_run 265 = .ok (.ireturn, 1) := by decide +kernel
theorem dX1_run_266 : decode cX1_run 266 = .ok (.aload_n 0, 1) := by decide +kernel
theorem dX1_run_267 : decode cX1_run 267 = .ok (.iload 5, 2) := by decide +kernel
theorem dX1_run_269 : decode cX1_run 269 = .ok (.iconst 1, 1) := by decide +kernel
theorem dX1_run_270 : decode cX1_run 270 = .ok (.iload_n 3, 1) := by decide +kernel
theorem dX1_run_271 : decode cX1_run 271 = .ok (.aload_n 0, 1) := by decide +kernel
theorem dX1_run_272 : decode cX1_run 272 = .ok (.getfield 32, 3) := by decide +kernel
theorem dX1_run_275 : decode cX1_run 275 = .ok (.isub, 1) := by decide +kernel
theorem dX1_run_276 : decode cX1_run 276 = .ok (.iload 6, 2) := by decide +kernel
theorem dX1_run_278 : decode cX1_run 278 = .ok (.invokevirtual 57, 3) := by decide +kernel
theorem dX1_run_281 : decode cX1_run 281 = .ok (.ireturn, 1) := by decide +kernel
theorem dX1_run_282 : decode cX1_run 282 = .ok (.iload_n 3, 1) := by decide +kernel
theorem dX1_run_283 : decode cX1_run 283 = .ok (.aload_n 0, 1) := by decide +kernel
theorem dX1_run_284 : decode cX1_run 284 = .ok (.getfield 26, 3) := by decide +kernel
theorem dX1_run_287 : decode cX1_run 287 = .ok (.iadd, 1) := by decide +kernel
theorem dX1_run_288 : decode cX1_run 288 = .ok (.ireturn, 1) := by decide +kernel
theorem dX1_note_0 : decode cX1_note 0 = .ok (.aload_n 0, 1) := by decide +kernel
theorem dX1_note_1 : decode cX1_note 1 = .ok (.getfield 15, 3) := by decide +kernel
theorem dX1_note_4 : decode cX1_note 4 = .ok (.bipush 20, 2) := by decide +kernel
theorem dX1_note_6 : decode cX1_note 6 = .ok (.if_icmp .ge 13, 3) := by decide +kernel
theorem dX1_note_9 : decode cX1_note 9 = .ok (.aload_n 0, 1) := by decide +kernel
theorem dX1_note_10 : decode cX1_note 10 = .ok (.getfield 11, 3) := by decide +kernel
theorem dX1_note_13 : decode cX1_note 13 = .ok (.aload_n 0, 1) := by decide +kernel
theorem dX1_note_14 : decode cX1_note 14 = .ok (.getfield 15, 3) := by decide +kernel
theorem dX1_note_17 : decode cX1_note 17 = .ok (.iload_n 1, 1) := by decide +kernel
theorem dX1_note_18 : decode cX1_note 18 = .ok (.iastore, 1) := by decide +kernel
theorem dX1_note_19 : decode cX1_note 19 = .ok (.aload_n 0, 1) := by decide +kernel
theorem dX1_note_20 : decode cX1_note 20 = .ok (.dup, 1) := by decide +kernel
theorem dX1_note_21 : decode cX1_note 21 = .ok (.getfield 15, 3) := by decide +kernel
theorem dX1_note_24 : decode cX1_note 24 = .ok (.iconst 1, 1) := by decide +kernel
theorem dX1_note_25 : decode cX1_note 25 = .ok (.iadd, 1) := by decide +kernel
theorem dX1_note_26 : decode cX1_note 26 = .ok (.putfield 15, 3) := by decide +kernel
theorem dX1_note_29 : decode cX1_note 29 = .ok (.return_, 1) := by decide +kernel
theorem dX2_init_0 : decode cX2_init 0 = .ok (.aload_n 0, 1) := by decide +kernel
theorem dX2_init_1 : decode cX2_init 1 = .ok (.invokespecial 3, 3) := by decide +kernel
theorem dX2_init_4 : decode cX2_init 4 = .ok (.aload_n 0, 1) := by decide +kernel
theorem dX2_init_5 : decode cX2_init 5 = .ok (.iconst 3, 1) := by decide +kernel
theorem dX2_init_6 : decode cX2_init 6 = .ok (.newarray .int, 2) := by decide +kernel
theorem dX2_init_8 : decode cX2_init 8 = .ok (.putfield 9, 3) := by decide +kernel
theorem dX2_init_11 : decode cX2_init 11 = .ok (.aload_n 0, 1) := by decide +kernel
theorem dX2_init_12 : decode cX2_init 12 = .ok (.iconst 3, 1) := by decide +kernel
theorem dX2_init_13 : decode cX2_init 13 = .ok (.newarray .int, 2) := by decide +kernel
theorem dX2_init_15 : decode cX2_init 15 = .ok (.putfield 15, 3) := by decide +kernel
theorem dX2_init_18 : decode cX2_init 18 = .ok (.aload_n 0, 1) := by decide +kernel
theorem dX2_init_19 : decode cX2_init 19 = .ok (.iconst 4, 1) := by decide +kernel
theorem dX2_init_20 : decode cX2_init 20 = .ok (.bipush 10, 2) := by decide +kernel
theorem dX2_init_22 : decode cX2_init 22 = .ok (.multianewarray 18 2, 4) := by decide +kernel
theorem dX2_init_26 : decode cX2_init 26 = .ok (.putfield 20, 3) := by decide +kernel
theorem dX2_init_29 : decode cX2_init 29 = .ok (.return_, 1) := by decide +kernel
theorem dX2_find_0 : decode cX2_find 0 = .ok (.aload_n 0, 1) := by decide +kernel
theorem dX2_find_1 : decode cX2_find 1 = .ok (.iconst 0, 1) := by decide +kernel
theorem dX2_find_2 : decode cX2_find 2 = .ok (.putfield 23, 3) := by decide +kernel
theorem dX2_find_5 : decode cX2_find 5 = .ok (.aload_n 0, 1) := by decide +kernel
theorem dX2_find_6 : decode cX2_find 6 = .ok (.iconst 0, 1) := by decide +kernel
theorem dX2_find_7 : decode cX2_find 7 = .ok (.putfield 27, 3) := by decide +kernel
theorem dX2_find_10 : decode cX2_find 10 = .ok (.aload_n 1, 1) := by decide +kernel
theorem dX2_find_11 : decode cX2_find 11 = .ok (.getfield 31, 3) := by decide +kernel
theorem dX2_find_14 : decode cX2_find 14 = .ok (.iconst 0, 1) := by decide +kernel
theorem dX2_find_15 : decode cX2_find 15 = .ok (.aload_n 0, 1) := by decide +kernel
theorem dX2_find_16 : decode cX2_find 16 = .ok (.getfield 20, 3) := by decide +kernel
theorem dX2_find_19 : decode cX2_find 19 = .ok (.iconst 0, 1) := by decide +kernel
theorem dX2_find_20 : decode cX2_find 20 = .ok (.aaload, 1) := by decide +kernel
theorem dX2_find_21 : decode cX2_find 21 = .ok (.iconst 0, 1) := by decide +kernel
theorem dX2_find_22 : decode cX2_find 22 = .ok (.bipush 10, 2) := by decide +kernel
theorem dX2_find_24 : decode cX2_find 24 = .ok (.invokestatic 36, 3) := by decide +kernel
theorem dX2_find_27 : decode cX2_find 27 = .ok (.aload_n 0, 1) := by decide +kernel
theorem dX2_find_28 : decode cX2_find 28 = .ok (.aload_n 1, 1) := by decide +kernel
theorem dX2_find_29 : decode cX2_find 29 = .ok (.iload_n 2, 1) := by decide +kernel
theorem dX2_find_30 : decode cX2_find 30 = .ok (.iconst 0, 1) := by decide +kernel
theorem dX2_find_31 : decode cX2_find 31 = .ok (.iconst 0, 1) := by decide +kernel
theorem dX2_find_32 : decode cX2_find 32 = .ok (.aload_n 1, 1) := by decide +kernel
theorem dX2_find_33 : decode cX2_find 33 = .ok (.getfield 42, 3) := by decide +kernel
theorem dX2_find_36 : decode cX2_find 36 = .ok (.invokestatic 45, 3) := by decide +kernel
theorem dX2_find_39 : decode cX2_find 39 = .ok (.return_, 1) := by decide +kernel
theorem dX2_search_0 : decode cX2_search 0 = .ok (.iload_n 3, 1) := by decide +kernel
theorem dX2_search_1 : decode cX2_search 1 = .ok (.iload_n 2, 1) := by decide +kernel
theorem dX2_search_2 : decode cX2_search 2 = .ok (.if_icmp .ge 8, 3) := by decide +kernel
theorem dX2_search_5 : decode cX2_search 5 = .ok (.iload_n 3, 1) := by decide +kernel
theorem dX2_search_6 : decode cX2_search 6 = .ok (.iconst 3, 1) := by decide +kernel
theorem dX2_search_7 : decode cX2_search 7 = .ok (.if_icmp .lt 10, 3) := by decide +kernel
theorem dX2_search_10 : decode cX2_search 10 = .ok (.aload_n 0, 1) := by decide +kernel
theorem dX2_search_11 : decode cX2_search 11 = .ok (.iload 4, 2) := by decide +kernel
theorem dX2_search_13 : decode cX2_search 13 = .ok (.invokevirtual 49, 3) := by decide +kernel
theorem dX2_search_16 : decode cX2_search 16 = .ok (.return_, 1) := by decide +kernel
theorem dX2_search_17 : decode cX2_search 17 = .ok (.iconst 0, 1) := by decide +kernel
theorem dX2_search_18 : decode cX2_search 18 = .ok (.istore 6, 2) := by decide +kernel
theorem dX2_search_20 : decode cX2_search 20 = .ok (.iload 6, 2) := by decide +kernel
theorem dX2_search_22 : decode cX2_search 22 = .ok (.aload_n 1, 1) := by decide +kernel
theorem dX2_search_23 : decode cX2_search 23 = .ok (.getfield 53, 3) := by decide +kernel
theorem dX2_search_26 : decode cX2_search 26 = .ok (.if_icmp .ge 67, 3) := by decide +kernel
theorem dX2_search_29 : decode cX2_search 29 = .ok (.iload 5, 2) := by decide +kernel
theorem dX2_search_31 : decode cX2_search 31 = .ok (.iload 6, 2) := by decide +kernel
theorem dX2_search_33 : decode cX2_search 33 = .ok (.invokestatic 56, 3) := by decide +kernel
theorem dX2_search_36 : decode cX2_search 36 = .ok (.iconst 1, 1) := by decide +kernel
theorem dX2_search_37 : decode cX2_search 37 = .ok (.if_icmp .ne 50, 3) := by decide +kernel
theorem dX2_search_40 : decode cX2_search 40 = .ok (.aload_n 0, 1) := by decide +kernel
theorem dX2_search_41 : decode cX2_search 41 = .ok (.getfield 15, 3) := by decide +kernel
theorem dX2_search_44 : decode cX2_search 44 = .ok (.iload_n 3, 1) := by decide +kernel
theorem dX2_search_45 : decode cX2_search 45 = .ok (.iload 6, 2) := by decide +kernel
theorem dX2_search_47 : decode cX2_search 47 = .ok (.iastore, 1) := by decide +kernel
theorem dX2_search_48 : decode cX2_search 48 = .ok (.iload 5, 2) := by decide +kernel
theorem dX2_search_50 : decode cX2_search 50 = .ok (.iconst 1, 1) := by decide +kernel
theorem dX2_search_51 : decode cX2_search 51 = .ok (.iload 6, 2) := by decide +kernel
theorem dX2_search_53 : decode cX2_search 53 = .ok (.ishl, 1) := by decide +kernel
theorem dX2_search_54 : decode cX2_search 54 = .ok (.iconst (-1), 1) := by decide +kernel
theorem dX2_search_55 : decode cX2_search 55 = .ok (.ixor, 1) := by decide +kernel
theorem dX2_search_56 : decode cX2_search 56 = .ok (.iand, 1) := by decide +kernel
theorem dX2_search_57 : decode cX2_search 57 = .ok (.istore 7, 2) := by decide +kernel
theorem dX2_search_59 : decode cX2_search 59 = .ok (.aload_n 0, 1) := by decide +kernel
theorem dX2_search_60 : decode cX2_search 60 = .ok (.aload_n 1, 1) := by decide +kernel
theorem dX2_search_61 : decode cX2_search 61 = .ok (.iload 6, 2) := by decide +kernel
theorem dX2_search_63 : decode cX2_search 63 = .ok (.iload_n 3, 1) := by decide +kernel
theorem dX2_search_64 : decode cX2_search 64 = .ok (.iload 7, 2) := by decide +kernel
theorem dX2_search_66 : decode cX2_search 66 = .ok (.invokevirtual 60, 3) := by decide +kernel
theorem dX2_search_69 : decode cX2_search 69 = .ok (.istore 8, 2) := by decide +kernel
theorem dX2_search_71 : decode cX2_search 71 = .ok (.aload_n 0, 1) := by decide +kernel
theorem dX2_search_72 : decode cX2_search 72 = .ok (.aload_n 1, 1) := by decide +kernel
theorem dX2_search_73 : decode cX2_search 73 = .ok (.iload_n 2, 1) := by decide +kernel
theorem dX2_search_74 : decode cX2_search 74 = .ok (.iload_n 3, 1) := by decide +kernel
theorem dX2_search_75 : decode cX2_search 75 = .ok (.iconst 1, 1) := by decide +kernel
theorem dX2_search_76 : decode cX2_search 76 = .ok (.iadd, 1) := by decide +kernel
theorem dX2_search_77 : decode cX2_search 77 = .ok (.iload 4, 2) := by decide +kernel
theorem dX2_search_79 : decode cX2_search 79 = .ok (.iload 8, 2) := by decide +kernel
theorem dX2_search_81 : decode cX2_search 81 = .ok (.iadd, 1) := by decide +kernel
theorem dX2_search_82 : decode cX2_search 82 = .ok (.iload 7, 2) := by decide +kernel
theorem dX2_search_84 : decode cX2_search 84 = .ok (.invokestatic 45, 3) := by decide +kernel
theorem dX2_search_87 : decode cX2_search 87 = .ok (.iinc 6 1, 3) := by decide +kernel
theorem dX2_search_90 : decode cX2_search 90 = .ok (.goto (-70), 3) := by decide +kernel
theorem dX2_search_93 : decode cX2_search 93 = .ok (.return_, 1) := by decide +kernel
theorem dX2_keep_0 : decode cX2_keep 0 = .ok (.aload_n 0, 1) := by decide +kernel
theorem dX2_keep_1 : decode cX2_keep 1 = .ok (.getfield 23, 3) := by decide +kernel
theorem dX2_keep_4 : decode cX2_keep 4 = .ok (.ifCond .eq 11, 3) := by decide +kernel
theorem dX2_keep_7 : decode cX2_keep 7 = .ok (.iload_n 1, 1) := by decide +kernel
theorem dX2_keep_8 : decode cX2_keep 8 = .ok (.aload_n 0, 1) := by decide +kernel
theorem dX2_keep_9 : decode cX2_keep 9 = .ok (.getfield 27, 3) := by decide +kernel
theorem dX2_keep_12 : decode cX2_keep 12 = .ok (.if_icmp .ge 27, 3) := by decide +kernel
theorem dX2_keep_15 : decode cX2_keep 15 = .ok (.aload_n 0, 1) := by decide +kernel
theorem dX2_keep_16 : decode cX2_keep 16 = .ok (.iconst 1, 1) := by decide +kernel
theorem dX2_keep_17 : decode cX2_keep 17 = .ok (.putfield 23, 3) := by decide +kernel
theorem dX2_keep_20 : decode cX2_keep 20 = .ok (.aload_n 0, 1) := by decide +kernel
theorem dX2_keep_21 : decode cX2_keep 21 = .ok (.iload_n 1, 1) := by decide +kernel
theorem dX2_keep_22 : decode cX2_keep 22 = .ok (.putfield 27, 3) := by decide +kernel
theorem dX2_keep_25 : decode cX2_keep 25 = .ok (.aload_n 0, 1) := by decide +kernel
theorem dX2_keep_26 : decode cX2_keep 26 = .ok (.getfield 15, 3) := by decide +kernel
theorem dX2_keep_29 : decode cX2_keep 29 = .ok (.iconst 0, 1) := by decide +kernel
theorem dX2_keep_30 : decode cX2_keep 30 = .ok (.aload_n 0, 1) := by decide +kernel
theorem dX2_keep_31 : decode cX2_keep 31 = .ok (.getfield 9, 3) := by decide +kernel
theorem dX2_keep_34 : decode cX2_keep 34 = .ok (.iconst 0, 1) := by decide +kernel
theorem dX2_keep_35 : decode cX2_keep 35 = .ok (.iconst 3, 1) := by decide +kernel
theorem dX2_keep_36 : decode cX2_keep 36 = .ok (.invokestatic 36, 3) := by decide +kernel
theorem dX2_keep_39 : decode cX2_keep 39 = .ok (.return_, 1) := by decide +kernel
theorem dX2_mournNext_0 : decode cX2_mournNext 0 = .ok (.iconst 0, 1) := by decide +kernel
theorem dX2_mournNext_1 : decode cX2_mournNext 1 = .ok (.istore 5, 2) := by decide +kernel
theorem dX2_mournNext_3 : decode cX2_mournNext 3 = .ok (.iconst 0, 1) := by decide +kernel
theorem dX2_mournNext_4 : decode cX2_mournNext 4 = .ok (.istore 6, 2) := by decide +kernel
theorem dX2_mournNext_6 : decode cX2_mournNext 6 = .ok (.iload 6, 2) := by decide +kernel
theorem dX2_mournNext_8 : decode cX2_mournNext 8 = .ok (.aload_n 1, 1) := by decide +kernel
theorem dX2_mournNext_9 : decode cX2_mournNext 9 = .ok (.getfield 53, 3) := by decide +kernel
theorem dX2_mournNext_12 : decode cX2_mournNext 12 = .ok (.if_icmp .ge 87, 3) := by decide +kernel
theorem dX2_mournNext_15 : decode cX2_mournNext 15 = .ok (.aload_n 0, 1) := by decide +kernel
theorem dX2_mournNext_16 : decode cX2_mournNext 16 = .ok (.getfield 20, 3) := by decide +kernel
theorem dX2_mournNext_19 : decode cX2_mournNext 19 = .ok (.iload_n 3, 1) := by decide +kernel
theorem dX2_mournNext_20 : decode cX2_mournNext 20 = .ok (.aaload, 1) := by decide +kernel
theorem dX2_mournNext_21 : decode cX2_mournNext 21 = .ok (.iload 6, 2) := by decide +kernel
theorem dX2_mournNext_23 : decode cX2_mournNext 23 = .ok (.iaload, 1) := by decide +kernel
theorem dX2_mournNext_24 : decode cX2_mournNext 24 = .ok (.istore 7, 2) := by decide +kernel
theorem dX2_mournNext_26 : decode cX2_mournNext 26 = .ok (.iload 7, 2) := by decide +kernel
theorem dX2_mournNext_28 : decode cX2_mournNext 28 = .ok (.istore 8, 2) := by decide +kernel
theorem dX2_mournNext_30 : decode cX2_mournNext 30 = .ok (.iload 4, 2) := by decide +kernel
theorem dX2_mournNext_32 : decode cX2_mournNext 32 = .ok (.iload 6, 2) := by decide +kernel
theorem dX2_mournNext_34 : decode cX2_mournNext 34 = .ok (.invokestatic 56, 3) := by decide +kernel
theorem dX2_mournNext_37 : decode cX2_mournNext 37 = .ok (.iconst 1, 1) := by decide +kernel
theorem dX2_mournNext_38 : decode cX2_mournNext 38 = .ok (.if_icmp .ne 42, 3) := by decide +kernel
theorem dX2_mournNext_41 : decode cX2_mournNext 41 = .ok (.aload_n 1, 1) := by decide +kernel
theorem dX2_mournNext_42 : decode cX2_mournNext 42 = .ok (.iload 7, 2) := by decide +kernel
theorem dX2_mournNext_44 : decode cX2_mournNext 44 = .ok (.iload 6, 2) := by decide +kernel
theorem dX2_mournNext_46 : decode cX2_mournNext 46 = .ok (.iload_n 2, 1) := by decide +kernel
theorem dX2_mournNext_47 : decode cX2_mournNext 47 = .ok (.aload_n 1, 1) := by decide +kernel
theorem dX2_mournNext_48 : decode cX2_mournNext 48 = .ok (.getfield 64, 3) := by decide +kernel
theorem dX2_mournNext_51 : decode cX2_mournNext 51 = .ok (.invokevirtual 67, 3) := by decide +kernel
theorem dX2_mournNext_54 : decode cX2_mournNext 54 = .ok (.istore 8, 2) := by decide +kernel
theorem dX2_mournNext_56 : decode cX2_mournNext 56 = .ok (.iload 5, 2) := by decide +kernel
theorem dX2_mournNext_58 : decode cX2_mournNext 58 = .ok (.iload 8, 2) := by decide +kernel
theorem dX2_mournNext_60 : decode cX2_mournNext 60 = .ok (.aload_n 1, 1) := by decide +kernel
theorem dX2_mournNext_61 : decode cX2_mournNext 61 = .ok (.getfield 64, 3) := by decide +kernel
theorem dX2_mournNext_64 : decode cX2_mournNext 64 = .ok (.invokestatic 71, 3) := by decide +kernel
theorem dX2_mournNext_67 : decode cX2_mournNext 67 = .ok (.iload 7, 2) := by decide +kernel
theorem dX2_mournNext_69 : decode cX2_mournNext 69 = .ok (.aload_n 1, 1) := by decide +kernel
theorem dX2_mournNext_70 : decode cX2_mournNext 70 = .ok (.getfield 64, 3) := by decide +kernel
theorem dX2_mournNext_73 : decode cX2_mournNext 73 = .ok (.invokestatic 71, 3) := by decide +kernel
theorem dX2_mournNext_76 : decode cX2_mournNext 76 = .ok (.isub, 1) := by decide +kernel
theorem dX2_mournNext_77 : decode cX2_mournNext 77 = .ok (.iadd, 1) := by decide +kernel
theorem dX2_mournNext_78 : decode cX2_mournNext 78 = .ok (.istore 5, 2) := by decide +kernel
theorem dX2_mournNext_80 : decode cX2_mournNext 80 = .ok (.aload_n 0, 1) := by decide +kernel
theorem dX2_mournNext_81 : decode cX2_mournNext 81 = .ok (.getfield 20, 3) := by decide +kernel
theorem dX2_mournNext_84 : decode cX2_mournNext 84 = .ok (.iload_n 3, 1) := by decide +kernel
theorem dX2_mournNext_85 : decode cX2_mournNext 85 = .ok (.iconst 1, 1) := by decide +kernel
theorem dX2_mournNext_86 : decode cX2_mournNext 86 = .ok (.iadd, 1) := by decide +kernel
theorem dX2_mournNext_87 : decode cX2_mournNext 87 = .ok (.aaload, 1) := by decide +kernel
theorem dX2_mournNext_88 : decode cX2_mournNext 88 = .ok (.iload 6, 2) := by decide +kernel
theorem dX2_mournNext_90 : decode cX2_mournNext 90 = .ok (.iload 8, 2) := by decide +kernel
theorem dX2_mournNext_92 : decode cX2_mournNext 92 = .ok (.iastore, 1) := by decide +kernel
theorem dX2_mournNext_93 : decode cX2_mournNext 93 = .ok (.iinc 6 1, 3) := by decide +kernel
theorem dX2_mournNext_96 : decode cX2_mournNext 96 = .ok (.goto (-90), 3) := by decide +kernel
theorem dX2_mournNext_99 : decode cX2_mournNext 99 = .ok (.iload 5, 2) := by decide +kernel
theorem dX2_mournNext_101 : decode cX2_mournNext 101 = .ok (.ireturn, 1) := by decide +kernel
theorem dX3_init_0 : decode cX3_init 0 = .ok (.aload_n 0, 1) := by decide +kernel
theorem dX3_init_1 : decode cX3_init 1 = .ok (.invokespecial 3, 3) := by decide +kernel
theorem dX3_init_4 : decode cX3_init 4 = .ok (.aload_n 0, 1) := by decide +kernel
theorem dX3_init_5 : decode cX3_init 5 = .ok (.bipush 10, 2) := by decide +kernel
theorem dX3_init_7 : decode cX3_init 7 = .ok (.newarray .int, 2) := by decide +kernel
theorem dX3_init_9 : decode cX3_init 9 = .ok (.putfield 9, 3) := by decide +kernel
theorem dX3_init_12 : decode cX3_init 12 = .ok (.aload_n 0, 1) := by decide +kernel
theorem dX3_init_13 : decode cX3_init 13 = .ok (.bipush 10, 2) := by decide +kernel
theorem dX3_init_15 : decode cX3_init 15 = .ok (.newarray .int, 2) := by decide +kernel
theorem dX3_init_17 : decode cX3_init 17 = .ok (.putfield 15, 3) := by decide +kernel
theorem dX3_init_20 : decode cX3_init 20 = .ok (.aload_n 0, 1) := by decide +kernel
theorem dX3_init_21 : decode cX3_init 21 = .ok (.bipush 10, 2) := by decide +kernel
theorem dX3_init_23 : decode cX3_init 23 = .ok (.newarray .int, 2) := by decide +kernel
theorem dX3_init_25 : decode cX3_init 25 = .ok (.putfield 18, 3) := by decide +kernel
theorem dX3_init_28 : decode cX3_init 28 = .ok (.aload_n 0, 1) := by decide +kernel
theorem dX3_init_29 : decode cX3_init 29 = .ok (.bipush 10, 2) := by decide +kernel
theorem dX3_init_31 : decode cX3_init 31 = .ok (.newarray .int, 2) := by decide +kernel
theorem dX3_init_33 : decode cX3_init 33 = .ok (.putfield 21, 3) := by decide +kernel
theorem dX3_init_36 : decode cX3_init 36 = .ok (.aload_n 0, 1) := by decide +kernel
theorem dX3_init_37 : decode cX3_init 37 = .ok (.bipush 10, 2) := by decide +kernel
theorem dX3_init_39 : decode cX3_init 39 = .ok (.newarray .int, 2) := by decide +kernel
theorem dX3_init_41 : decode cX3_init 41 = .ok (.putfield 24, 3) := by decide +kernel
theorem dX3_init_44 : decode cX3_init 44 = .ok (.aload_n 0, 1) := by decide +kernel
theorem dX3_init_45 : decode cX3_init 45 = .ok (.bipush 10, 2) := by decide +kernel
theorem dX3_init_47 : decode cX3_init 47 = .ok (.newarray .int, 2) := by decide +kernel
theorem dX3_init_49 : decode cX3_init 49 = .ok (.putfield 27, 3) := by decide +kernel
theorem dX3_init_52 : decode cX3_init 52 = .ok (.aload_n 0, 1) := by decide +kernel
theorem dX3_init_53 : decode cX3_init 53 = .ok (.bipush 100, 2) := by decide +kernel
theorem dX3_init_55 : decode cX3_init 55 = .ok (.newarray .int, 2) := by decide +kernel
theorem dX3_init_57 : decode cX3_init 57 = .ok (.putfield 30, 3) := by decide +kernel
theorem dX3_init_60 : decode cX3_init 60 = .ok (.aload_n 0, 1) := by decide +kernel
theorem dX3_init_61 : decode cX3_init 61 = .ok (.bipush 10, 2) := by decide +kernel
theorem dX3_init_63 : decode cX3_init 63 = .ok (.newarray .int, 2) := by decide +kernel
theorem dX3_init_65 : decode cX3_init 65 = .ok (.putfield 33, 3) := by decide +kernel
theorem dX3_init_68 : decode cX3_init 68 = .ok (.aload_n 0, 1) := by decide +kernel
theorem dX3_init_69 : decode cX3_init 69 = .ok (.bipush 6, 2) := by decide +kernel
theorem dX3_init_71 : decode cX3_init 71 = .ok (.newarray .int, 2) := by decide +kernel
theorem dX3_init_73 : decode cX3_init 73 = .ok (.putfield 36, 3) := by decide +kernel
theorem dX3_init_76 : decode cX3_init 76 = .ok (.aload_n 0, 1) := by decide +kernel
theorem dX3_init_77 : decode cX3_init 77 = .ok (.bipush 6, 2) := by decide +kernel
theorem dX3_init_79 : decode cX3_init 79 = .ok (.newarray .int, 2) := by decide +kernel
theorem dX3_init_81 : decode cX3_init 81 = .ok (.putfield 39, 3) := by decide +kernel
theorem dX3_init_84 : decode cX3_init 84 = .ok (.aload_n 0, 1) := by decide +kernel
theorem dX3_init_85 : decode cX3_init 85 = .ok (.bipush 8, 2) := by decide +kernel
theorem dX3_init_87 : decode cX3_init 87 = .ok (.newarray .int, 2) := by decide +kernel
theorem dX3_init_89 : decode cX3_init 89 = .ok (.putfield 42, 3) := by decide +kernel
theorem dX3_init_92 : decode cX3_init 92 = .ok (.aload_n 0, 1) := by decide +kernel
theorem dX3_init_93 : decode cX3_init 93 = .ok (.bipush 8, 2) := by decide +kernel
theorem dX3_init_95 : decode cX3_init 95 = .ok (.newarray .int, 2) := by decide +kernel
theorem dX3_init_97 : decode cX3_init 97 = .ok (.putfield 45, 3) := by decide +kernel
theorem dX3_init_100 : decode cX3_init 100 = .ok (.aload_n 0, 1) := by decide +kernel
theorem dX3_init_101 : decode cX3_init 101 = .ok (.iconst 1, 1) := by decide +kernel
theorem dX3_init_102 : decode cX3_init 102 = .ok (.putfield 48, 3) := by decide +kernel
theorem dX3_init_105 : decode cX3_init 105 = .ok (.return_, 1) := by decide +kernel
theorem dX3_become_0 : decode cX3_become 0 = .ok (.aload_n 0, 1) := by decide +kernel
theorem dX3_become_1 : decode cX3_become 1 = .ok (.aload_n 1, 1) := by decide +kernel
theorem dX3_become_2 : decode cX3_become 2 = .ok (.getfield 52, 3) := by decide +kernel
theorem dX3_become_5 : decode cX3_become 5 = .ok (.putfield 52, 3) := by decide +kernel
theorem dX3_become_8 : decode cX3_become 8 = .ok (.aload_n 0, 1) := by decide +kernel
theorem dX3_become_9 : decode cX3_become 9 = .ok (.aload_n 1, 1) := by decide +kernel
theorem dX3_become_10 : decode cX3_become 10 = .ok (.getfield 55, 3) := by decide +kernel
theorem dX3_become_13 : decode cX3_become 13 = .ok (.putfield 55, 3) := by decide +kernel
theorem dX3_become_16 : decode cX3_become 16 = .ok (.aload_n 1, 1) := by decide +kernel
theorem dX3_become_17 : decode cX3_become 17 = .ok (.getfield 9, 3) := by decide +kernel
theorem dX3_become_20 : decode cX3_become 20 = .ok (.iconst 0, 1) := by decide +kernel
theorem dX3_become_21 : decode cX3_become 21 = .ok (.aload_n 0, 1) := by decide +kernel
theorem dX3_become_22 : decode cX3_become 22 = .ok (.getfield 9, 3) := by decide +kernel
theorem dX3_become_25 : decode cX3_become 25 = .ok (.iconst 0, 1) := by decide +kernel
theorem dX3_become_26 : decode cX3_become 26 = .ok (.bipush 10, 2) := by decide +kernel
theorem dX3_become_28 : decode cX3_become 28 = .ok (.invokestatic 58, 3) := by decide +kernel
theorem dX3_become_31 : decode cX3_become 31 = .ok (.aload_n 1, 1) := by decide +kernel
theorem dX3_become_32 : decode cX3_become 32 = .ok (.getfield 15, 3) := by decide +kernel
theorem dX3_become_35 : decode cX3_become 35 = .ok (.iconst 0, 1) := by decide +kernel
theorem dX3_become_36 : decode cX3_become 36 = .ok (.aload_n 0, 1) := by decide +kernel
theorem dX3_become_37 : decode cX3_become 37 = .ok (.getfield 15, 3) := by decide +kernel
theorem dX3_become_40 : decode cX3_become 40 = .ok (.iconst 0, 1) := by decide +kernel
theorem dX3_become_41 : decode cX3_become 41 = .ok (.bipush 10, 2) := by decide +kernel
theorem dX3_become_43 : decode cX3_become 43 = .ok (.invokestatic 58, 3) := by decide +kernel
theorem dX3_become_46 : decode cX3_become 46 = .ok (.aload_n 1, 1) := by decide +kernel
theorem dX3_become_47 : decode cX3_become 47 = .ok (.getfield 18, 3) := by decide +kernel
theorem dX3_become_50 : decode cX3_become 50 = .ok (.iconst 0, 1) := by decide +kernel
theorem dX3_become_51 : decode cX3_become 51 = .ok (.aload_n 0, 1) := by decide +kernel
theorem dX3_become_52 : decode cX3_become 52 = .ok (.getfield 18, 3) := by decide +kernel
theorem dX3_become_55 : decode cX3_become 55 = .ok (.iconst 0, 1) := by decide +kernel
theorem dX3_become_56 : decode cX3_become 56 = .ok (.bipush 10, 2) := by decide +kernel
theorem dX3_become_58 : decode cX3_become 58 = .ok (.invokestatic 58, 3) := by decide +kernel
theorem dX3_become_61 : decode cX3_become 61 = .ok (.aload_n 1, 1) := by decide +kernel
theorem dX3_become_62 : decode cX3_become 62 = .ok (.getfield 21, 3) := by decide +kernel
theorem dX3_become_65 : decode cX3_become 65 = .ok (.iconst 0, 1) := by decide +kernel
theorem dX3_become_66 : decode cX3_become 66 = .ok (.aload_n 0, 1) := by decide +kernel
theorem dX3_become_67 : decode cX3_become 67 = .ok (.getfield 21, 3) := by decide +kernel
theorem dX3_become_70 : decode cX3_become 70 = .ok (.iconst 0, 1) := by decide +kernel
theorem dX3_become_71 : decode cX3_become 71 = .ok (.bipush 10, 2) := by decide +kernel
theorem dX3_become_73 : decode cX3_become 73 = .ok (.invokestatic 58, 3) := by decide +kernel
theorem dX3_become_76 : decode cX3_become 76 = .ok (.aload_n 1, 1) := by decide +kernel
theorem dX3_become_77 : decode cX3_become 77 = .ok (.getfield 24, 3) := by decide +kernel
theorem dX3_become_80 : decode cX3_become 80 = .ok (.iconst 0, 1) := by decide +kernel
theorem dX3_become_81 : decode cX3_become 81 = .ok (.aload_n 0, 1) := by decide +kernel
theorem dX3_become_82 : decode cX3_become 82 = .ok (.getfield 24, 3) := by decide +kernel
theorem dX3_become_85 : decode cX3_become 85 = .ok (.iconst 0, 1) := by decide +kernel
theorem dX3_become_86 : decode cX3_become 86 = .ok (.bipush 10, 2) := by decide +kernel
theorem dX3_become_88 : decode cX3_become 88 = .ok (.invokestatic 58, 3) := by decide +kernel
theorem dX3_become_91 : decode cX3_become 91 = .ok (.aload_n 1, 1) := by decide +kernel
theorem dX3_become_92 : decode cX3_become 92 = .ok (.getfield 27, 3) := by decide +kernel
theorem dX3_become_95 : decode cX3_become 95 = .ok (.iconst 0, 1) := by decide +kernel
theorem dX3_become_96 : decode cX3_become 96 = .ok (.aload_n 0, 1) := by decide +kernel
theorem dX3_become_97 : decode cX3_become 97 = .ok (.getfield 27, 3) := by decide +kernel
theorem dX3_become_100 : decode cX3_become 100 = .ok (.iconst 0, 1) := by decide +kernel
theorem dX3_become_101 : decode cX3_become 101 = .ok (.bipush 10, 2) := by decide +kernel
theorem dX3_become_103 : decode cX3_become 103 = .ok (.invokestatic 58, 3) := by decide +kernel
theorem dX3_become_106 : decode cX3_become 106 = .ok (.aload_n 1, 1) := by decide +kernel
theorem dX3_become_107 : decode cX3_become 107 = .ok (.getfield 30, 3) := by decide +kernel
theorem dX3_become_110 : decode cX3_become 110 = .ok (.iconst 0, 1) := by decide +kernel
theorem dX3_become_111 : decode cX3_become 111 = .ok (.aload_n 0, 1) := by decide +kernel
theorem dX3_become_112 : decode cX3_become 112 = .ok (.getfield 30, 3) := by decide +kernel
theorem dX3_become_115 : decode cX3_become 115 = .ok (.iconst 0, 1) := by decide +kernel
theorem dX3_become_116 : decode cX3_become 116 = .ok (.bipush 100, 2) := by decide +kernel
theorem dX3_become_118 : decode cX3_become 118 = .ok (.invokestatic 58, 3) := by decide +kernel
theorem dX3_become_121 : decode cX3_become 121 = .ok (.aload_n 0, 1) := by decide +kernel
theorem dX3_become_122 : decode cX3_become 122 = .ok (.aload_n 1, 1) := by decide +kernel
theorem dX3_become_123 : decode cX3_become 123 = .ok (.getfield 64, 3) := by decide +kernel
theorem dX3_become_126 : decode cX3_become 126 = .ok (.putfield 64, 3) := by decide +kernel
theorem dX3_become_129 : decode cX3_become 129 = .ok (.aload_n 1, 1) := by decide +kernel
theorem dX3_become_130 : decode cX3_become 130 = .ok (.getfield 36, 3) := by decide +kernel
theorem dX3_become_133 : decode cX3_become 133 = .ok (.iconst 0, 1) := by decide +kernel
theorem dX3_become_134 : decode cX3_become 134 = .ok (.aload_n 0, 1) := by decide +kernel
theorem dX3_become_135 : decode cX3_become 135 = .ok (.getfield 36, 3) := by decide +kernel
theorem dX3_become_138 : decode cX3_become 138 = .ok (.iconst 0, 1) := by decide +kernel
theorem dX3_become_139 : decode cX3_become 139 = .ok (.bipush 6, 2) := by decide +kernel
theorem dX3_become_141 : decode cX3_become 141 = .ok (.invokestatic 58, 3) := by decide +kernel
theorem dX3_become_144 : decode cX3_become 144 = .ok (.aload_n 1, 1) := by decide +kernel
theorem dX3_become_145 : decode cX3_become 145 = .ok (.getfield 39, 3) := by decide +kernel
theorem dX3_become_148 : decode cX3_become 148 = .ok (.iconst 0, 1) := by decide +kernel
theorem dX3_become_149 : decode cX3_become 149 = .ok (.aload_n 0, 1) := by decide +kernel
theorem dX3_become_150 : decode cX3_become 150 = .ok (.getfield 39, 3) := by decide +kernel
theorem dX3_become_153 : decode cX3_become 153 = .ok (.iconst 0, 1) := by decide +kernel
theorem dX3_become_154 : decode cX3_become 154 = .ok (.bipush 6, 2) := by decide +kernel
theorem dX3_become_156 : decode cX3_become 156 = .ok (.invokestatic 58, 3) := by decide +kernel
theorem dX3_become_159 : decode cX3_become 159 = .ok (.aload_n 0, 1) := by decide +kernel
theorem dX3_become_160 : decode cX3_become 160 = .ok (.aload_n 1, 1) := by decide +kernel
theorem dX3_become_161 : decode cX3_become 161 = .ok (.getfield 67, 3) := by decide +kernel
theorem dX3_become_164 : decode cX3_become 164 = .ok (.putfield 67, 3) := by decide +kernel
theorem dX3_become_167 : decode cX3_become 167 = .ok (.aload_n 1, 1) := by decide +kernel
theorem dX3_become_168 : decode cX3_become 168 = .ok (.getfield 42, 3) := by decide +kernel
theorem dX3_become_171 : decode cX3_become 171 = .ok (.iconst 0, 1) := by decide +kernel
theorem dX3_become_172 : decode cX3_become 172 = .ok (.aload_n 0, 1) := by decide +kernel
theorem dX3_become_173 : decode cX3_become 173 = .ok (.getfield 42, 3) := by decide +kernel
theorem dX3_become_176 : decode cX3_become 176 = .ok (.iconst 0, 1) := by decide +kernel
theorem dX3_become_177 : decode cX3_become 177 = .ok (.bipush 8, 2) := by decide +kernel
theorem dX3_become_179 : decode cX3_become 179 = .ok (.invokestatic 58, 3) := by decide +kernel
theorem dX3_become_182 : decode cX3_become 182 = .ok (.aload_n 1, 1) := by decide +kernel
theorem dX3_become_183 : decode cX3_become 183 = .ok (.getfield 45, 3) := by decide +kernel
theorem dX3_become_186 : decode cX3_become 186 = .ok (.iconst 0, 1) := by decide +kernel
theorem dX3_become_187 : decode cX3_become 187 = .ok (.aload_n 0, 1) := by decide +kernel
theorem dX3_become_188 : decode cX3_become 188 = .ok (.getfield 45, 3) := by decide +kernel
theorem dX3_become_191 : decode cX3_become 191 = .ok (.iconst 0, 1) := by decide +kernel
theorem dX3_become_192 : decode cX3_become 192 = .ok (.bipush 8, 2) := by decide +kernel
theorem dX3_become_194 : decode cX3_become 194 = .ok (.invokestatic 58, 3) := by decide +kernel
theorem dX3_become_197 : decode cX3_become 197 = .ok (.aload_n 0, 1) := by decide +kernel
theorem dX3_become_198 : decode cX3_become 198 = .ok (.aload_n 1, 1) := by decide +kernel
theorem dX3_become_199 : decode cX3_become 199 = .ok (.getfield 70, 3) := by decide +kernel
theorem dX3_become_202 : decode cX3_become 202 = .ok (.putfield 70, 3) := by decide +kernel
theorem dX3_become_205 : decode cX3_become 205 = .ok (.aload_n 0, 1) := by decide +kernel
theorem dX3_become_206 : decode cX3_become 206 = .ok (.aload_n 1, 1) := by decide +kernel
theorem dX3_become_207 : decode cX3_become 207 = .ok (.getfield 48, 3) := by decide +kernel
theorem dX3_become_210 : decode cX3_become 210 = .ok (.putfield 48, 3) := by decide +kernel
theorem dX3_become_213 : decode cX3_become 213 = .ok (.return_, 1) := by decide +kernel
theorem dX3_isPeak_0 : decode cX3_isPeak 0 = .ok (.iload_n 1, 1) := by decide +kernel
theorem dX3_isPeak_1 : decode cX3_isPeak 1 = .ok (.ifCond .lt 15, 3) := by decide +kernel
theorem dX3_isPeak_4 : decode cX3_isPeak 4 = .ok (.iload_n 1, 1) := by decide +kernel
theorem dX3_isPeak_5 : decode cX3_isPeak 5 = .ok (.aload_n 0, 1) := by decide +kernel
theorem dX3_isPeak_6 : decode cX3_isPeak 6 = .ok (.getfield 52, 3) := by decide +kernel
theorem dX3_isPeak_9 : decode cX3_isPeak 9 = .ok (.if_icmp .ge 7, 3) := by decide +kernel
theorem dX3_isPeak_12 : decode cX3_isPeak 12 = .ok (.iconst 1, 1) := by decide +kernel
theorem dX3_isPeak_13 : decode cX3_isPeak 13 = .ok (.goto 4, 3) := by decide +kernel
theorem dX3_isPeak_16 : decode cX3_isPeak 16 = .ok (.iconst 0, 1) := by decide +kernel
theorem dX3_isPeak_17 : decode cX3_isPeak 17 = .ok (.ireturn, 1) := by decide +kernel
theorem dX3_isStanding_0 : decode cX3_isStanding 0 = .ok (.aload_n 0, 1) := by decide +kernel
theorem dX3_isStanding_1 : decode cX3_isStanding 1 = .ok (.iload_n 1, 1) := by decide +kernel
theorem dX3_isStanding_2 : decode cX3_isStanding 2 = .ok (.invokevirtual 73, 3) := by decide +kernel
theorem dX3_isStanding_5 : decode cX3_isStanding 5 = .ok (.ifCond .eq 19, 3) := by decide +kernel
theorem dX3_isStanding_8 : decode cX3_isStanding 8 = .ok (.aload_n 0, 1) := by decide +kernel
theorem dX3_isStanding_9 : decode cX3_isStanding 9 = .ok (.getfield 55, 3) := by decide +kernel
theorem dX3_isStanding_12 : decode cX3_isStanding 12 = .ok (.iload_n 1, 1) := by decide +kernel
theorem dX3_isStanding_13 : decode cX3_isStanding 13 = .ok (.invokestatic 77, 3) := by decide +kernel
theorem dX3_isStanding_16 : decode cX3_isStanding 16 = .ok (.iconst 1, 1) := by decide +kernel
theorem dX3_isStanding_17 : decode cX3_isStanding 17 = .ok (.if_icmp .ne 7, 3) := by decide +kernel
theorem dX3_isStanding_20 : decode cX3_isStanding 20 = .ok (.iconst 1, 1) := by decide +kernel
theorem dX3_isStanding_21 : decode cX3_isStanding 21 = .ok (.goto 4, 3) := by decide +kernel
theorem dX3_isStanding_24 : decode cX3_isStanding 24 = .ok (.iconst 0, 1) := by decide +kernel
theorem dX3_isStanding_25 : decode cX3_isStanding 25 = .ok (.ireturn, 1) := by decide +kernel
theorem dX3_isValley_0 : decode cX3_isValley 0 = .ok (.iload_n 1, 1) := by decide +kernel
theorem dX3_isValley_1 : decode cX3_isValley 1 = .ok (.ifCond .lt 15, 3) := by decide +kernel
theorem dX3_isValley_4 : decode cX3_isValley 4 = .ok (.iload_n 1, 1) := by decide +kernel
theorem dX3_isValley_5 : decode cX3_isValley 5 = .ok (.aload_n 0, 1) := by decide +kernel
theorem dX3_isValley_6 : decode cX3_isValley 6 = .ok (.getfield 67, 3) := by decide +kernel
theorem dX3_isValley_9 : decode cX3_isValley 9 = .ok (.if_icmp .ge 7, 3) := by decide +kernel
theorem dX3_isValley_12 : decode cX3_isValley 12 = .ok (.iconst 1, 1) := by decide +kernel
theorem dX3_isValley_13 : decode cX3_isValley 13 = .ok (.goto 4, 3) := by decide +kernel
theorem dX3_isValley_16 : decode cX3_isValley 16 = .ok (.iconst 0, 1) := by decide +kernel
theorem dX3_isValley_17 : decode cX3_isValley 17 = .ok (.ireturn, 1) := by decide +kernel
theorem dX3_hasPeakAt_0 : decode cX3_hasPeakAt 0 = .ok (.iconst 0, 1) := by decide +kernel
theorem dX3_hasPeakAt_1 : decode cX3_hasPeakAt 1 = .ok (.istore_n 2, 1) := by decide +kernel
theorem dX3_hasPeakAt_2 : decode cX3_hasPeakAt 2 = .ok (.iload_n 2, 1) := by decide +kernel
theorem dX3_hasPeakAt_3 : decode cX3_hasPeakAt 3 = .ok (.aload_n 0, 1) := by decide +kernel
theorem dX3_hasPeakAt_4 : decode cX3_hasPeakAt 4 = .ok (.getfield 52, 3) := by decide +kernel
theorem dX3_hasPeakAt_7 : decode cX3_hasPeakAt 7 = .ok (.if_icmp .ge 21, 3) := by decide +kernel
theorem dX3_hasPeakAt_10 : decode cX3_hasPeakAt 10 = .ok (.aload_n 0, 1) := by decide +kernel
theorem dX3_hasPeakAt_11 : decode cX3_hasPeakAt 11 = .ok (.getfield 18, 3) := by decide +kernel
theorem dX3_hasPeakAt_14 : decode cX3_hasPeakAt 14 = .ok (.iload_n 2, 1) := by decide +kernel
theorem dX3_hasPeakAt_15 : decode cX3_hasPeakAt 15 = .ok (.iaload, 1) := by decide +kernel
theorem dX3_hasPeakAt_16 : decode cX3_hasPeakAt 16 = .ok (.iload_n 1, 1) := by decide +kernel
theorem dX3_hasPeakAt_17 : decode cX3_hasPeakAt 17 = .ok (.if_icmp .ne 5, 3) := by decide +kernel
theorem dX3_hasPeakAt_20 : decode cX3_hasPeakAt 20 = .ok (.iconst 1, 1) := by decide +kernel
theorem dX3_hasPeakAt_21 : decode cX3_hasPeakAt 21 = .ok (.ireturn, 1) := by decide +kernel
theorem dX3_hasPeakAt_22 : decode cX3_hasPeakAt 22 = .ok (.iinc 2 1, 3) := by decide +kernel
theorem dX3_hasPeakAt_25 : decode cX3_hasPeakAt 25 = .ok (.goto (-23), 3) := by decide +kernel
theorem dX3_hasPeakAt_28 : decode cX3_hasPeakAt 28 = .ok (.iconst 0, 1) := by decide +kernel
theorem dX3_hasPeakAt_29 : decode cX3_hasPeakAt 29 = .ok (.ireturn, 1) := by decide +kernel
theorem dX3_hasStandingPeakAt_0 : decode cX3_hasStandingPeakAt 0 = .ok (.iconst 0, 1) := by decide +kernel
theorem dX3_hasStandingPeakAt_1 : decode cX3_hasStandingPeakAt 1 = .ok (.istore_n 2, 1) := by decide +kernel
theorem dX3_hasStandingPeakAt_2 : decode cX3_hasStandingPeakAt 2 = .ok (.iload_n 2, 1) := by decide +kernel
theorem dX3_hasStandingPeakAt_3 : decode cX3_hasStandingPeakAt 3 = .ok (.aload_n 0, 1) := by decide +kernel
theorem dX3_hasStandingPeakAt_4 : decode cX3_hasStandingPeakAt 4 = .ok (.getfield 52, 3) := by decide +kernel
theorem dX3_hasStandingPeakAt_7 : decode cX3_hasStandingPeakAt 7 = .ok (.if_icmp .ge 29, 3) := by decide +kernel
theorem dX3_hasStandingPeakAt_10 : decode cX3_hasStandingPeakAt 10 = .ok (.aload_n 0, 1) := by decide +kernel
theorem dX3_hasStandingPeakAt_11 : decode cX3_hasStandingPeakAt 11 = .ok (.getfield 18, 3) := by decide +kernel
theorem dX3_hasStandingPeakAt_14 : decode cX3_hasStandingPeakAt 14 = .ok (.iload_n 2, 1) := by decide +kernel
theorem dX3_hasStandingPeakAt_15 : decode cX3_hasStandingPeakAt 15 = .ok (.iaload, 1) := by decide +kernel
theorem dX3_hasStandingPeakAt_16 : decode cX3_hasStandingPeakAt 16 = .ok (.iload_n 1, 1) := by decide +kernel
theorem dX3_hasStandingPeakAt_17 : decode cX3_hasStandingPeakAt 17 = .ok (.if_icmp .ne 13, 3) := by decide +kernel
theorem dX3_hasStandingPeakAt_20 : decode cX3_hasStandingPeakAt 20 = .ok (.aload_n 0, 1) := by decide +kernel
theorem dX3_hasStandingPeakAt_21 : decode cX3_hasStandingPeakAt 21 = .ok (.iload_n 2, 1) := by decide +kernel
theorem dX3_hasStandingPeakAt_22 : decode cX3_hasStandingPeakAt 22 = .ok (.invokevirtual 81, 3) := by decide +kernel
theorem dX3_hasStandingPeakAt_25 : decode cX3_hasStandingPeakAt 25 = .ok (.ifCond .eq 5, 3) := by decide +kernel
theorem dX3_hasStandingPeakAt_28 : decode cX3_hasStandingPeakAt 28 = .ok (.iconst 1, 1) := by decide +kernel
theorem dX3_hasStandingPeakAt_29 : decode cX3_hasStandingPeakAt 29 = .ok (.ireturn, 1) := by decide +kernel
theorem dX3_hasStandingPeakAt_30 : decode cX3_hasStandingPeakAt 30 = .ok (.iinc 2 1, 3) := by decide +kernel
theorem dX3_hasStandingPeakAt_33 : decode cX3_hasStandingPeakAt 33 = .ok (.goto (-31), 3) := by decide +kernel
theorem dX3_hasStandingPeakAt_36 : decode cX3_hasStandingPeakAt 36 = .ok (.iconst 0, 1) := by decide +kernel
theorem dX3_hasStandingPeakAt_37 : decode cX3_hasStandingPeakAt 37 = .ok (.ireturn, 1) := by decide +kernel
theorem dX3_addPeak_0 : decode cX3_addPeak 0 = .ok (.aload_n 0, 1) := by decide +kernel
theorem dX3_addPeak_1 : decode cX3_addPeak 1 = .ok (.getfield 52, 3) := by decide +kernel
theorem dX3_addPeak_4 : decode cX3_addPeak 4 = .ok (.bipush 10, 2) := by decide +kernel
theorem dX3_addPeak_6 : decode cX3_addPeak 6 = .ok (.if_icmp .lt 5, 3) := by decide +kernel
theorem dX3_addPeak_9 : decode cX3_addPeak 9 = .ok (.iconst (-1), 1) := by decide +kernel
theorem dX3_addPeak_10 : decode cX3_addPeak 10 = .ok (.ireturn, 1) := by decide +kernel
theorem dX3_addPeak_11 : decode cX3_addPeak 11 = .ok (.aload_n 0, 1) := by decide +kernel
theorem dX3_addPeak_12 : decode cX3_addPeak 12 = .ok (.getfield 52, 3) := by decide +kernel
theorem dX3_addPeak_15 : decode cX3_addPeak 15 = .ok (.istore 5, 2) := by decide +kernel
theorem dX3_addPeak_17 : decode cX3_addPeak 17 = .ok (.aload_n 0, 1) := by decide +kernel
theorem dX3_addPeak_18 : decode cX3_addPeak 18 = .ok (.getfield 9, 3) := by decide +kernel
theorem dX3_addPeak_21 : decode cX3_addPeak 21 = .ok (.iload 5, 2) := by decide +kernel
theorem dX3_addPeak_23 : decode cX3_addPeak 23 = .ok (.iload_n 1, 1) := by decide +kernel
theorem dX3_addPeak_24 : decode cX3_addPeak 24 = .ok (.iastore, 1) := by decide +kernel
theorem dX3_addPeak_25 : decode cX3_addPeak 25 = .ok (.aload_n 0, 1) := by decide +kernel
theorem dX3_addPeak_26 : decode cX3_addPeak 26 = .ok (.getfield 15, 3) := by decide +kernel
theorem dX3_addPeak_29 : decode cX3_addPeak 29 = .ok (.iload 5, 2) := by decide +kernel
theorem dX3_addPeak_31 : decode cX3_addPeak 31 = .ok (.iload_n 2, 1) := by decide +kernel
theorem dX3_addPeak_32 : decode cX3_addPeak 32 = .ok (.iastore, 1) := by decide +kernel
theorem dX3_addPeak_33 : decode cX3_addPeak 33 = .ok (.aload_n 0, 1) := by decide +kernel
theorem dX3_addPeak_34 : decode cX3_addPeak 34 = .ok (.getfield 18, 3) := by decide +kernel
theorem dX3_addPeak_37 : decode cX3_addPeak 37 = .ok (.iload 5, 2) := by decide +kernel
theorem dX3_addPeak_39 : decode cX3_addPeak 39 = .ok (.iload_n 3, 1) := by decide +kernel
theorem dX3_addPeak_40 : decode cX3_addPeak 40 = .ok (.iastore, 1) := by decide +kernel
theorem dX3_addPeak_41 : decode cX3_addPeak 41 = .ok (.aload_n 0, 1) := by decide +kernel
theorem dX3_addPeak_42 : decode cX3_addPeak 42 = .ok (.getfield 21, 3) := by decide +kernel
theorem dX3_addPeak_45 : decode cX3_addPeak 45 = .ok (.iload 5, 2) := by decide +kernel
theorem dX3_addPeak_47 : decode cX3_addPeak 47 = .ok (.iload 4, 2) := by decide +kernel
theorem dX3_addPeak_49 : decode cX3_addPeak 49 = .ok (.iastore, 1) := by decide +kernel
theorem dX3_addPeak_50 : decode cX3_addPeak 50 = .ok (.aload_n 0, 1) := by decide +kernel
theorem dX3_addPeak_51 : decode cX3_addPeak 51 = .ok (.getfield 24, 3) := by decide +kernel
theorem dX3_addPeak_54 : decode cX3_addPeak 54 = .ok (.iload 5, 2) := by decide +kernel
theorem dX3_addPeak_56 : decode cX3_addPeak 56 = .ok (.iconst 0, 1) := by decide +kernel
theorem dX3_addPeak_57 : decode cX3_addPeak 57 = .ok (.iastore, 1) := by decide +kernel
theorem dX3_addPeak_58 : decode cX3_addPeak 58 = .ok (.aload_n 0, 1) := by decide +kernel
theorem dX3_addPeak_59 : decode cX3_addPeak 59 = .ok (.getfield 27, 3) := by decide +kernel
theorem dX3_addPeak_62 : decode cX3_addPeak 62 = .ok (.iload 5, 2) := by decide +kernel
theorem dX3_addPeak_64 : decode cX3_addPeak 64 = .ok (.iconst 0, 1) := by decide +kernel
theorem dX3_addPeak_65 : decode cX3_addPeak 65 = .ok (.iastore, 1) := by decide +kernel
theorem dX3_addPeak_66 : decode cX3_addPeak 66 = .ok (.aload_n 0, 1) := by decide +kernel
theorem dX3_addPeak_67 : decode cX3_addPeak 67 = .ok (.dup, 1) := by decide +kernel
theorem dX3_addPeak_68 : decode cX3_addPeak 68 = .ok (.getfield 55, 3) := by decide +kernel
theorem dX3_addPeak_71 : decode cX3_addPeak 71 = .ok (.iconst 1, 1) := by decide +kernel
theorem dX3_addPeak_72 : decode cX3_addPeak 72 = .ok (.iload 5, 2) := by decide +kernel
theorem dX3_addPeak_74 : decode cX3_addPeak 74 = .ok (.ishl, 1) := by decide +kernel
theorem dX3_addPeak_75 : decode cX3_addPeak 75 = .ok (.ior, 1) := by decide +kernel
theorem dX3_addPeak_76 : decode cX3_addPeak 76 = .ok (.putfield 55, 3) := by decide +kernel
theorem dX3_addPeak_79 : decode cX3_addPeak 79 = .ok (.aload_n 0, 1) := by decide +kernel
theorem dX3_addPeak_80 : decode cX3_addPeak 80 = .ok (.dup, 1) := by decide +kernel
theorem dX3_addPeak_81 : decode cX3_addPeak 81 = .ok (.getfield 52, 3) := by decide +kernel
theorem dX3_addPeak_84 : decode cX3_addPeak 84 = .ok (.iconst 1, 1) := by decide +kernel
theorem dX3_addPeak_85 : decode cX3_addPeak 85 = .ok (.iadd, 1) := by decide +kernel
theorem dX3_addPeak_86 : decode cX3_addPeak 86 = .ok (.putfield 52, 3) := by decide +kernel
theorem dX3_addPeak_89 : decode cX3_addPeak 89 = .ok (.aload_n 0, 1) := by decide +kernel
theorem dX3_addPeak_90 : decode cX3_addPeak 90 = .ok (.invokevirtual 84, 3) := by decide +kernel
theorem dX3_addPeak_93 : decode cX3_addPeak 93 = .ok (.iload 5, 2) := by decide +kernel
theorem dX3_addPeak_95 : decode cX3_addPeak 95 = .ok (.ireturn, 1) := by decide +kernel
theorem dX3_addScreen_0 : decode cX3_addScreen 0 = .ok (.aload_n 0, 1) := by decide +kernel
theorem dX3_addScreen_1 : decode cX3_addScreen 1 = .ok (.getfield 64, 3) := by decide +kernel
theorem dX3_addScreen_4 : decode cX3_addScreen 4 = .ok (.bipush 6, 2) := by decide +kernel
theorem dX3_addScreen_6 : decode cX3_addScreen 6 = .ok (.if_icmp .lt 5, 3) := by decide +kernel
theorem dX3_addScreen_9 : decode cX3_addScreen 9 = .ok (.iconst (-1), 1) := by decide +kernel
theorem dX3_addScreen_10 : decode cX3_addScreen 10 = .ok (.ireturn, 1) := by decide +kernel
theorem dX3_addScreen_11 : decode cX3_addScreen 11 = .ok (.aload_n 0, 1) := by decide +kernel
theorem dX3_addScreen_12 : decode cX3_addScreen 12 = .ok (.getfield 36, 3) := by decide +kernel
theorem dX3_addScreen_15 : decode cX3_addScreen 15 = .ok (.aload_n 0, 1) := by decide +kernel
theorem dX3_addScreen_16 : decode cX3_addScreen 16 = .ok (.getfield 64, 3) := by decide +kernel
theorem dX3_addScreen_19 : decode cX3_addScreen 19 = .ok (.iload_n 1, 1) := by decide +kernel
theorem dX3_addScreen_20 : decode cX3_addScreen 20 = .ok (.iastore, 1) := by decide +kernel
theorem dX3_addScreen_21 : decode cX3_addScreen 21 = .ok (.aload_n 0, 1) := by decide +kernel
theorem dX3_addScreen_22 : decode cX3_addScreen 22 = .ok (.getfield 39, 3) := by decide +kernel
theorem dX3_addScreen_25 : decode cX3_addScreen 25 = .ok (.aload_n 0, 1) := by decide +kernel
theorem dX3_addScreen_26 : decode cX3_addScreen 26 = .ok (.getfield 64, 3) := by decide +kernel
theorem dX3_addScreen_29 : decode cX3_addScreen 29 = .ok (.iload_n 2, 1) := by decide +kernel
theorem dX3_addScreen_30 : decode cX3_addScreen 30 = .ok (.iastore, 1) := by decide +kernel
theorem dX3_addScreen_31 : decode cX3_addScreen 31 = .ok (.aload_n 0, 1) := by decide +kernel
theorem dX3_addScreen_32 : decode cX3_addScreen 32 = .ok (.dup, 1) := by decide +kernel
theorem dX3_addScreen_33 : decode cX3_addScreen 33 = .ok (.getfield 64, 3) := by decide +kernel
theorem dX3_addScreen_36 : decode cX3_addScreen 36 = .ok (.iconst 1, 1) := by decide +kernel
theorem dX3_addScreen_37 : decode cX3_addScreen 37 = .ok (.iadd, 1) := by decide +kernel
theorem dX3_addScreen_38 : decode cX3_addScreen 38 = .ok (.putfield 64, 3) := by decide +kernel
theorem dX3_addScreen_41 : decode cX3_addScreen 41 = .ok (.aload_n 0, 1) := by decide +kernel
theorem dX3_addScreen_42 : decode cX3_addScreen 42 = .ok (.invokevirtual 84, 3) := by decide +kernel
theorem dX3_addScreen_45 : decode cX3_addScreen 45 = .ok (.aload_n 0, 1) := by decide +kernel
theorem dX3_addScreen_46 : decode cX3_addScreen 46 = .ok (.getfield 64, 3) := by decide +kernel
theorem dX3_addScreen_49 : decode cX3_addScreen 49 = .ok (.iconst 1, 1) := by decide +kernel
theorem dX3_addScreen_50 : decode cX3_addScreen 50 = .ok (.isub, 1) := by decide +kernel
theorem dX3_addScreen_51 : decode cX3_addScreen 51 = .ok (.ireturn, 1) := by decide +kernel
theorem dX3_addValley_0 : decode cX3_addValley 0 = .ok (.aload_n 0, 1) := by decide +kernel
theorem dX3_addValley_1 : decode cX3_addValley 1 = .ok (.getfield 67, 3) := by decide +kernel
theorem dX3_addValley_4 : decode cX3_addValley 4 = .ok (.bipush 8, 2) := by decide +kernel
theorem dX3_addValley_6 : decode cX3_addValley 6 = .ok (.if_icmp .lt 5, 3) := by decide +kernel
theorem dX3_addValley_9 : decode cX3_addValley 9 = .ok (.iconst (-1), 1) := by decide +kernel
theorem dX3_addValley_10 : decode cX3_addValley 10 = .ok (.ireturn, 1) := by decide +kernel
theorem dX3_addValley_11 : decode cX3_addValley 11 = .ok (.aload_n 0, 1) := by decide +kernel
theorem dX3_addValley_12 : decode cX3_addValley 12 = .ok (.getfield 42, 3) := by decide +kernel
theorem dX3_addValley_15 : decode cX3_addValley 15 = .ok (.aload_n 0, 1) := by decide +kernel
theorem dX3_addValley_16 : decode cX3_addValley 16 = .ok (.getfield 67, 3) := by decide +kernel
theorem dX3_addValley_19 : decode cX3_addValley 19 = .ok (.iload_n 1, 1) := by decide +kernel
theorem dX3_addValley_20 : decode cX3_addValley 20 = .ok (.iastore, 1) := by decide +kernel
theorem dX3_addValley_21 : decode cX3_addValley 21 = .ok (.aload_n 0, 1) := by decide +kernel
theorem dX3_addValley_22 : decode cX3_addValley 22 = .ok (.getfield 45, 3) := by decide +kernel
theorem dX3_addValley_25 : decode cX3_addValley 25 = .ok (.aload_n 0, 1) := by decide +kernel
theorem dX3_addValley_26 : decode cX3_addValley 26 = .ok (.getfield 67, 3) := by decide +kernel
theorem dX3_addValley_29 : decode cX3_addValley 29 = .ok (.iconst 0, 1) := by decide +kernel
theorem dX3_addValley_30 : decode cX3_addValley 30 = .ok (.iastore, 1) := by decide +kernel
theorem dX3_addValley_31 : decode cX3_addValley 31 = .ok (.aload_n 0, 1) := by decide +kernel
theorem dX3_addValley_32 : decode cX3_addValley 32 = .ok (.dup, 1) := by decide +kernel
theorem dX3_addValley_33 : decode cX3_addValley 33 = .ok (.getfield 67, 3) := by decide +kernel
theorem dX3_addValley_36 : decode cX3_addValley 36 = .ok (.iconst 1, 1) := by decide +kernel
theorem dX3_addValley_37 : decode cX3_addValley 37 = .ok (.iadd, 1) := by decide +kernel
theorem dX3_addValley_38 : decode cX3_addValley 38 = .ok (.putfield 67, 3) := by decide +kernel
theorem dX3_addValley_41 : decode cX3_addValley 41 = .ok (.aload_n 0, 1) := by decide +kernel
theorem dX3_addValley_42 : decode cX3_addValley 42 = .ok (.getfield 67, 3) := by decide +kernel
theorem dX3_addValley_45 : decode cX3_addValley 45 = .ok (.iconst 1, 1) := by decide +kernel
theorem dX3_addValley_46 : decode cX3_addValley 46 = .ok (.isub, 1) := by decide +kernel
theorem dX3_addValley_47 : decode cX3_addValley 47 = .ok (.ireturn, 1) := by decide +kernel
theorem dX3_putUnder_0 : decode cX3_putUnder 0 = .ok (.iload_n 3, 1) := by decide +kernel
theorem dX3_putUnder_1 : decode cX3_putUnder 1 = .ok (.ifCond .eq 18, 3) := by decide +kernel
theorem dX3_putUnder_4 : decode cX3_putUnder 4 = .ok (.aload_n 0, 1) := by decide +kernel
theorem dX3_putUnder_5 : decode cX3_putUnder 5 = .ok (.getfield 45, 3) := by decide +kernel
theorem dX3_putUnder_8 : decode cX3_putUnder 8 = .ok (.iload_n 1, 1) := by decide +kernel
theorem dX3_putUnder_9 : decode cX3_putUnder 9 = .ok (.dup2, 1) := by decide +kernel
theorem dX3_putUnder_10 : decode cX3_putUnder 10 = .ok (.iaload, 1) := by decide +kernel
theorem dX3_putUnder_11 : decode cX3_putUnder 11 = .ok (.iconst 1, 1) := by decide +kernel
theorem dX3_putUnder_12 : decode cX3_putUnder 12 = .ok (.iload_n 2, 1) := by decide +kernel
theorem dX3_putUnder_13 : decode cX3_putUnder 13 = .ok (.ishl, 1) := by decide +kernel
theorem dX3_putUnder_14 : decode cX3_putUnder 14 = .ok (.ior, 1) := by decide +kernel
theorem dX3_putUnder_15 : decode cX3_putUnder 15 = .ok (.iastore, 1) := by decide +kernel
theorem dX3_putUnder_16 : decode cX3_putUnder 16 = .ok (.goto 17, 3) := by decide +kernel
theorem dX3_putUnder_19 : decode cX3_putUnder 19 = .ok (.aload_n 0, 1) := by decide +kernel
theorem dX3_putUnder_20 : decode cX3_putUnder 20 = .ok (.getfield 45, 3) := by decide +kernel
theorem dX3_putUnder_23 : decode cX3_putUnder 23 = .ok (.iload_n 1, 1) := by decide +kernel
theorem dX3_putUnder_24 : decode cX3_putUnder 24 = .ok (.dup2, 1) := by decide +kernel
theorem dX3_putUnder_25 : decode cX3_putUnder 25 = .ok (.iaload, 1) := by decide +kernel
theorem dX3_putUnder_26 : decode cX3_putUnder 26 = .ok (.iconst 1, 1) := by decide +kernel
theorem dX3_putUnder_27 : decode cX3_putUnder 27 = .ok (.iload_n 2, 1) := by decide +kernel
theorem dX3_putUnder_28 : decode cX3_putUnder 28 = .ok (.ishl, 1) := by decide +kernel
theorem dX3_putUnder_29 : decode cX3_putUnder 29 = .ok (.iconst (-1), 1) := by decide +kernel
theorem dX3_putUnder_30 : decode cX3_putUnder 30 = .ok (.ixor, 1) := by decide +kernel
theorem dX3_putUnder_31 : decode cX3_putUnder 31 = .ok (.iand, 1) := by decide +kernel
theorem dX3_putUnder_32 : decode cX3_putUnder 32 = .ok (.iastore, 1) := by decide +kernel
theorem dX3_putUnder_33 : decode cX3_putUnder 33 = .ok (.return_, 1) := by decide +kernel
theorem dX3_seesPeak_0 : decode cX3_seesPeak 0 = .ok (.aload_n 0, 1) := by decide +kernel
theorem dX3_seesPeak_1 : decode cX3_seesPeak 1 = .ok (.getfield 27, 3) := by decide +kernel
theorem dX3_seesPeak_4 : decode cX3_seesPeak 4 = .ok (.iload_n 1, 1) := by decide +kernel
theorem dX3_seesPeak_5 : decode cX3_seesPeak 5 = .ok (.iaload, 1) := by decide +kernel
theorem dX3_seesPeak_6 : decode cX3_seesPeak 6 = .ok (.iload_n 2, 1) := by decide +kernel
theorem dX3_seesPeak_7 : decode cX3_seesPeak 7 = .ok (.invokestatic 77, 3) := by decide +kernel
theorem dX3_seesPeak_10 : decode cX3_seesPeak 10 = .ok (.iconst 1, 1) := by decide +kernel
theorem dX3_seesPeak_11 : decode cX3_seesPeak 11 = .ok (.if_icmp .ne 7, 3) := by decide +kernel
theorem dX3_seesPeak_14 : decode cX3_seesPeak 14 = .ok (.iconst 1, 1) := by decide +kernel
theorem dX3_seesPeak_15 : decode cX3_seesPeak 15 = .ok (.goto 4, 3) := by decide +kernel
theorem dX3_seesPeak_18 : decode cX3_seesPeak 18 = .ok (.iconst 0, 1) := by decide +kernel
theorem dX3_seesPeak_19 : decode cX3_seesPeak 19 = .ok (.ireturn, 1) := by decide +kernel
theorem dX3_sinceOf_0 : decode cX3_sinceOf 0 = .ok (.aload_n 0, 1) := by decide +kernel
theorem dX3_sinceOf_1 : decode cX3_sinceOf 1 = .ok (.getfield 30, 3) := by decide +kernel
theorem dX3_sinceOf_4 : decode cX3_sinceOf 4 = .ok (.iload_n 1, 1) := by decide +kernel
theorem dX3_sinceOf_5 : decode cX3_sinceOf 5 = .ok (.bipush 10, 2) := by decide +kernel
theorem dX3_sinceOf_7 : decode cX3_sinceOf 7 = .ok (.imul, 1) := by decide +kernel
theorem dX3_sinceOf_8 : decode cX3_sinceOf 8 = .ok (.iload_n 2, 1) := by decide +kernel
theorem dX3_sinceOf_9 : decode cX3_sinceOf 9 = .ok (.iadd, 1) := by decide +kernel
theorem dX3_sinceOf_10 : decode cX3_sinceOf 10 = .ok (.iaload, 1) := by decide +kernel
theorem dX3_sinceOf_11 : decode cX3_sinceOf 11 = .ok (.ireturn, 1) := by decide +kernel
theorem dX3_sightOf_0 : decode cX3_sightOf 0 = .ok (.bipush 10, 2) := by decide +kernel
theorem dX3_sightOf_2 : decode cX3_sightOf 2 = .ok (.aload_n 0, 1) := by decide +kernel
theorem dX3_sightOf_3 : decode cX3_sightOf 3 = .ok (.getfield 15, 3) := by decide +kernel
theorem dX3_sightOf_6 : decode cX3_sightOf 6 = .ok (.iload_n 1, 1) := by decide +kernel
theorem dX3_sightOf_7 : decode cX3_sightOf 7 = .ok (.iaload, 1) := by decide +kernel
theorem dX3_sightOf_8 : decode cX3_sightOf 8 = .ok (.imul, 1) := by decide +kernel
theorem dX3_sightOf_9 : decode cX3_sightOf 9 = .ok (.bipush 10, 2) := by decide +kernel
theorem dX3_sightOf_11 : decode cX3_sightOf 11 = .ok (.iadd, 1) := by decide +kernel
theorem dX3_sightOf_12 : decode cX3_sightOf 12 = .ok (.ireturn, 1) := by decide +kernel
theorem dX3_lookAround_0 : decode cX3_lookAround 0 = .ok (.iconst 0, 1) := by decide +kernel
theorem dX3_lookAround_1 : decode cX3_lookAround 1 = .ok (.istore_n 1, 1) := by decide +kernel
theorem dX3_lookAround_2 : decode cX3_lookAround 2 = .ok (.iload_n 1, 1) := by decide +kernel
theorem dX3_lookAround_3 : decode cX3_lookAround 3 = .ok (.aload_n 0, 1) := by decide +kernel
theorem dX3_lookAround_4 : decode cX3_lookAround 4 = .ok (.getfield 52, 3) := by decide +kernel
theorem dX3_lookAround_7 : decode cX3_lookAround 7 = .ok (.if_icmp .ge 28, 3) := by decide +kernel
theorem dX3_lookAround_10 : decode cX3_lookAround 10 = .ok (.aload_n 0, 1) := by decide +kernel
theorem dX3_lookAround_11 : decode cX3_lookAround 11 = .ok (.getfield 33, 3) := by decide +kernel
theorem dX3_lookAround_14 : decode cX3_lookAround 14 = .ok (.iload_n 1, 1) := by decide +kernel
theorem dX3_lookAround_15 : decode cX3_lookAround 15 = .ok (.aload_n 0, 1) := by decide +kernel
theorem dX3_lookAround_16 : decode cX3_lookAround 16 = .ok (.getfield 27, 3) := by decide +kernel
theorem dX3_lookAround_19 : decode cX3_lookAround 19 = .ok (.iload_n 1, 1) := by decide +kernel
theorem dX3_lookAround_20 : decode cX3_lookAround 20 = .ok (.iaload, 1) := by decide +kernel
theorem dX3_lookAround_21 : decode cX3_lookAround 21 = .ok (.iastore, 1) := by decide +kernel
theorem dX3_lookAround_22 : decode cX3_lookAround 22 = .ok (.aload_n 0, 1) := by decide +kernel
theorem dX3_lookAround_23 : decode cX3_lookAround 23 = .ok (.getfield 27, 3) := by decide +kernel
theorem dX3_lookAround_26 : decode cX3_lookAround 26 = .ok (.iload_n 1, 1) := by decide +kernel
theorem dX3_lookAround_27 : decode cX3_lookAround 27 = .ok (.iconst 0, 1) := by decide +kernel
theorem dX3_lookAround_28 : decode cX3_lookAround 28 = .ok (.iastore, 1) := by decide +kernel
theorem dX3_lookAround_29 : decode cX3_lookAround 29 = .ok (.iinc 1 1, 3) := by decide +kernel
theorem dX3_lookAround_32 : decode cX3_lookAround 32 = .ok (.goto (-30), 3) := by decide +kernel
theorem dX3_lookAround_35 : decode cX3_lookAround 35 = .ok (.iconst 0, 1) := by decide +kernel
theorem dX3_lookAround_36 : decode cX3_lookAround 36 = .ok (.istore_n 1, 1) := by decide +kernel
theorem dX3_lookAround_37 : decode cX3_lookAround 37 = .ok (.iload_n 1, 1) := by decide +kernel
theorem dX3_lookAround_38 : decode cX3_lookAround 38 = .ok (.aload_n 0, 1) := by decide +kernel
theorem dX3_lookAround_39 : decode cX3_lookAround 39 = .ok (.getfield 52, 3) := by decide +kernel
theorem dX3_lookAround_42 : decode cX3_lookAround 42 = .ok (.if_icmp .ge 77, 3) := by decide +kernel
theorem dX3_lookAround_45 : decode cX3_lookAround 45 = .ok (.iconst 0, 1) := by decide +kernel
theorem dX3_lookAround_46 : decode cX3_lookAround 46 = .ok (.istore_n 2, 1) := by decide +kernel
theorem dX3_lookAround_47 : decode cX3_lookAround 47 = .ok (.iload_n 2, 1) := by decide +kernel
theorem dX3_lookAround_48 : decode cX3_lookAround 48 = .ok (.aload_n 0, 1) := by decide +kernel
theorem dX3_lookAround_49 : decode cX3_lookAround 49 = .ok (.getfield 52, 3) := by decide +kernel
theorem dX3_lookAround_52 : decode cX3_lookAround 52 = .ok (.if_icmp .ge 61, 3) := by decide +kernel
theorem dX3_lookAround_55 : decode cX3_lookAround 55 = .ok (.aload_n 0, 1) := by decide +kernel
theorem dX3_lookAround_56 : decode cX3_lookAround 56 = .ok (.getfield 18, 3) := by decide +kernel
theorem dX3_lookAround_59 : decode cX3_lookAround 59 = .ok (.iload_n 1, 1) := by decide +kernel
theorem dX3_lookAround_60 : decode cX3_lookAround 60 = .ok (.iaload, 1) := by decide +kernel
theorem dX3_lookAround_61 : decode cX3_lookAround 61 = .ok (.aload_n 0, 1) := by decide +kernel
theorem dX3_lookAround_62 : decode cX3_lookAround 62 = .ok (.getfield 18, 3) := by decide +kernel
theorem dX3_lookAround_65 : decode cX3_lookAround 65 = .ok (.iload_n 2, 1) := by decide +kernel
theorem dX3_lookAround_66 : decode cX3_lookAround 66 = .ok (.iaload, 1) := by decide +kernel
theorem dX3_lookAround_67 : decode cX3_lookAround 67 = .ok (.if_icmp .ge 40, 3) := by decide +kernel
theorem dX3_lookAround_70 : decode cX3_lookAround 70 = .ok (.aload_n 0, 1) := by decide +kernel
theorem dX3_lookAround_71 : decode cX3_lookAround 71 = .ok (.iload_n 1, 1) := by decide +kernel
theorem dX3_lookAround_72 : decode cX3_lookAround 72 = .ok (.invokevirtual 81, 3) := by decide +kernel
theorem dX3_lookAround_75 : decode cX3_lookAround 75 = .ok (.ifCond .eq 32, 3) := by decide +kernel
theorem dX3_lookAround_78 : decode cX3_lookAround 78 = .ok (.aload_n 0, 1) := by decide +kernel
theorem dX3_lookAround_79 : decode cX3_lookAround 79 = .ok (.iload_n 2, 1) := by decide +kernel
theorem dX3_lookAround_80 : decode cX3_lookAround 80 = .ok (.invokevirtual 81, 3) := by decide +kernel
theorem dX3_lookAround_83 : decode cX3_lookAround 83 = .ok (.ifCond .eq 24, 3) := by decide +kernel
theorem dX3_lookAround_86 : decode cX3_lookAround 86 = .ok (.aload_n 0, 1) := by decide +kernel
theorem dX3_lookAround_87 : decode cX3_lookAround 87 = .ok (.iload_n 1, 1) := by decide +kernel
theorem dX3_lookAround_88 : decode cX3_lookAround 88 = .ok (.iload_n 2, 1) := by decide +kernel
theorem dX3_lookAround_89 : decode cX3_lookAround 89 = .ok (.invokevirtual 87, 3) := by decide +kernel
theorem dX3_lookAround_92 : decode cX3_lookAround 92 = .ok (.ifCond .eq 15, 3) := by decide +kernel
theorem dX3_lookAround_95 : decode cX3_lookAround 95 = .ok (.aload_n 0, 1) := by decide +kernel
theorem dX3_lookAround_96 : decode cX3_lookAround 96 = .ok (.iload_n 1, 1) := by decide +kernel
theorem dX3_lookAround_97 : decode cX3_lookAround 97 = .ok (.iload_n 2, 1) := by decide +kernel
theorem dX3_lookAround_98 : decode cX3_lookAround 98 = .ok (.invokevirtual 91, 3) := by decide +kernel
theorem dX3_lookAround_101 : decode cX3_lookAround 101 = .ok (.aload_n 0, 1) := by decide +kernel
theorem dX3_lookAround_102 : decode cX3_lookAround 102 = .ok (.iload_n 2, 1) := by decide +kernel
theorem dX3_lookAround_103 : decode cX3_lookAround 103 = .ok (.iload_n 1, 1) := by decide +kernel
theorem dX3_lookAround_104 : decode cX3_lookAround 104 = .ok (.invokevirtual 91, 3) := by decide +kernel
theorem dX3_lookAround_107 : decode cX3_lookAround 107 = .ok (.iinc 2 1, 3) := by decide +kernel
theorem dX3_lookAround_110 : decode cX3_lookAround 110 = .ok (.goto (-63), 3) := by decide +kernel
theorem dX3_lookAround_113 : decode cX3_lookAround 113 = .ok (.iinc 1 1, 3) := by decide +kernel
theorem dX3_lookAround_116 : decode cX3_lookAround 116 = .ok (.goto (-79), 3) := by decide +kernel
theorem dX3_lookAround_119 : decode cX3_lookAround 119 = .ok (.return_, 1) := by decide +kernel
theorem dX3_lookFrom_0 : decode cX3_lookFrom 0 = .ok (.aload_n 0, 1) := by decide +kernel
theorem dX3_lookFrom_1 : decode cX3_lookFrom 1 = .ok (.getfield 9, 3) := by decide +kernel
theorem dX3_lookFrom_4 : decode cX3_lookFrom 4 = .ok (.iload_n 1, 1) := by decide +kernel
theorem dX3_lookFrom_5 : decode cX3_lookFrom 5 = .ok (.iaload, 1) := by decide +kernel
theorem dX3_lookFrom_6 : decode cX3_lookFrom 6 = .ok (.iconst 4, 1) := by decide +kernel
theorem dX3_lookFrom_7 : decode cX3_lookFrom 7 = .ok (.invokestatic 95, 3) := by decide +kernel
theorem dX3_lookFrom_10 : decode cX3_lookFrom 10 = .ok (.ifCond .eq 28, 3) := by decide +kernel
theorem dX3_lookFrom_13 : decode cX3_lookFrom 13 = .ok (.aload_n 0, 1) := by decide +kernel
theorem dX3_lookFrom_14 : decode cX3_lookFrom 14 = .ok (.getfield 18, 3) := by decide +kernel
theorem dX3_lookFrom_17 : decode cX3_lookFrom 17 = .ok (.iload_n 1, 1) := by decide +kernel
theorem dX3_lookFrom_18 : decode cX3_lookFrom 18 = .ok (.iaload, 1) := by decide +kernel
theorem dX3_lookFrom_19 : decode cX3_lookFrom 19 = .ok (.aload_n 0, 1) := by decide +kernel
theorem dX3_lookFrom_20 : decode cX3_lookFrom 20 = .ok (.getfield 18, 3) := by decide +kernel
theorem dX3_lookFrom_23 : decode cX3_lookFrom 23 = .ok (.iload_n 2, 1) := by decide +kernel
theorem dX3_lookFrom_24 : decode cX3_lookFrom 24 = .ok (.iaload, 1) := by decide +kernel
theorem dX3_lookFrom_25 : decode cX3_lookFrom 25 = .ok (.isub, 1) := by decide +kernel
theorem dX3_lookFrom_26 : decode cX3_lookFrom 26 = .ok (.invokestatic 98, 3) := by decide +kernel
theorem dX3_lookFrom_29 : decode cX3_lookFrom 29 = .ok (.aload_n 0, 1) := by decide +kernel
theorem dX3_lookFrom_30 : decode cX3_lookFrom 30 = .ok (.iload_n 1, 1) := by decide +kernel
theorem dX3_lookFrom_31 : decode cX3_lookFrom 31 = .ok (.invokevirtual 104, 3) := by decide +kernel
theorem dX3_lookFrom_34 : decode cX3_lookFrom 34 = .ok (.if_icmp .le 4, 3) := by decide +kernel
theorem dX3_lookFrom_37 : decode cX3_lookFrom 37 = .ok (.return_, 1) := by decide +kernel
theorem dX3_lookFrom_38 : decode cX3_lookFrom 38 = .ok (.aload_n 0, 1) := by decide +kernel
theorem dX3_lookFrom_39 : decode cX3_lookFrom 39 = .ok (.getfield 27, 3) := by decide +kernel
theorem dX3_lookFrom_42 : decode cX3_lookFrom 42 = .ok (.iload_n 1, 1) := by decide +kernel
theorem dX3_lookFrom_43 : decode cX3_lookFrom 43 = .ok (.dup2, 1) := by decide +kernel
theorem dX3_lookFrom_44 : decode cX3_lookFrom 44 = .ok (.iaload, 1) := by decide +kernel
theorem dX3_lookFrom_45 : decode cX3_lookFrom 45 = .ok (.iconst 1, 1) := by decide +kernel
theorem dX3_lookFrom_46 : decode cX3_lookFrom 46 = .ok (.iload_n 2, 1) := by decide +kernel
theorem dX3_lookFrom_47 : decode cX3_lookFrom 47 = .ok (.ishl, 1) := by decide +kernel
theorem dX3_lookFrom_48 : decode cX3_lookFrom 48 = .ok (.ior, 1) := by decide +kernel
theorem dX3_lookFrom_49 : decode cX3_lookFrom 49 = .ok (.iastore, 1) := by decide +kernel
theorem dX3_lookFrom_50 : decode cX3_lookFrom 50 = .ok (.aload_n 0, 1) := by decide +kernel
theorem dX3_lookFrom_51 : decode cX3_lookFrom 51 = .ok (.getfield 33, 3) := by decide +kernel
theorem dX3_lookFrom_54 : decode cX3_lookFrom 54 = .ok (.iload_n 1, 1) := by decide +kernel
theorem dX3_lookFrom_55 : decode cX3_lookFrom 55 = .ok (.iaload, 1) := by decide +kernel
theorem dX3_lookFrom_56 : decode cX3_lookFrom 56 = .ok (.iload_n 2, 1) := by decide +kernel
theorem dX3_lookFrom_57 : decode cX3_lookFrom 57 = .ok (.invokestatic 77, 3) := by decide +kernel
theorem dX3_lookFrom_60 : decode cX3_lookFrom 60 = .ok (.ifCond .ne 18, 3) := by decide +kernel
theorem dX3_lookFrom_63 : decode cX3_lookFrom 63 = .ok (.aload_n 0, 1) := by decide +kernel
theorem dX3_lookFrom_64 : decode cX3_lookFrom 64 = .ok (.getfield 30, 3) := by decide +kernel
theorem dX3_lookFrom_67 : decode cX3_lookFrom 67 = .ok (.iload_n 1, 1) := by decide +kernel
theorem dX3_lookFrom_68 : decode cX3_lookFrom 68 = .ok (.bipush 10, 2) := by decide +kernel
theorem dX3_lookFrom_70 : decode cX3_lookFrom 70 = .ok (.imul, 1) := by decide +kernel
theorem dX3_lookFrom_71 : decode cX3_lookFrom 71 = .ok (.iload_n 2, 1) := by decide +kernel
theorem dX3_lookFrom_72 : decode cX3_lookFrom 72 = .ok (.iadd, 1) := by decide +kernel
theorem dX3_lookFrom_73 : decode cX3_lookFrom 73 = .ok (.aload_n 0, 1) := by decide +kernel
theorem dX3_lookFrom_74 : decode cX3_lookFrom 74 = .ok (.getfield 70, 3) := by decide +kernel
theorem dX3_lookFrom_77 : decode cX3_lookFrom 77 = .ok (.iastore, 1) := by decide +kernel
theorem dX3_lookFrom_78 : decode cX3_lookFrom 78 = .ok (.return_, 1) := by decide +kernel
theorem dX3_isFreeBetween_0 : decode cX3_isFreeBetween 0 = .ok (.iconst 0, 1) := by decide +kernel
theorem dX3_isFreeBetween_1 : decode cX3_isFreeBetween 1 = .ok (.istore_n 3, 1) := by decide +kernel
theorem dX3_isFreeBetween_2 : decode cX3_isFreeBetween 2 = .ok (.iload_n 3, 1) := by decide +kernel
theorem dX3_isFreeBetween_3 : decode cX3_isFreeBetween 3 = .ok (.aload_n 0, 1) := by decide +kernel
theorem dX3_isFreeBetween_4 : decode cX3_isFreeBetween 4 = .ok (.getfield 52, 3) := by decide +kernel
theorem dX3_isFreeBetween_7 : decode cX3_isFreeBetween 7 = .ok (.if_icmp .ge 40, 3) := by decide +kernel
theorem dX3_isFreeBetween_10 : decode cX3_isFreeBetween 10 = .ok (.aload_n 0, 1) := by decide +kernel
theorem dX3_isFreeBetween_11 : decode cX3_isFreeBetween 11 = .ok (.iload_n 3, 1) := by decide +kernel
theorem dX3_isFreeBetween_12 : decode cX3_isFreeBetween 12 = .ok (.invokevirtual 81, 3) := by decide +kernel
theorem dX3_isFreeBetween_15 : decode cX3_isFreeBetween 15 = .ok (.ifCond .eq 26, 3) := by decide +kernel
theorem dX3_isFreeBetween_18 : decode cX3_isFreeBetween 18 = .ok (.aload_n 0, 1) := by decide +kernel
theorem dX3_isFreeBetween_19 : decode cX3_isFreeBetween 19 = .ok (.iload_n 1, 1) := by decide +kernel
theorem dX3_isFreeBetween_20 : decode cX3_isFreeBetween 20 = .ok (.iload_n 2, 1) := by decide +kernel
theorem dX3_isFreeBetween_21 : decode cX3_isFreeBetween 21 = .ok (.aload_n 0, 1) := by decide +kernel
theorem dX3_isFreeBetween_22 : decode cX3_isFreeBetween 22 = .ok (.getfield 18, 3) := by decide +kernel
theorem dX3_isFreeBetween_25 : decode cX3_isFreeBetween 25 = .ok (.iload_n 3, 1) := by decide +kernel
theorem dX3_isFreeBetween_26 : decode cX3_isFreeBetween 26 = .ok (.iaload, 1) := by decide +kernel
theorem dX3_isFreeBetween_27 : decode cX3_isFreeBetween 27 = .ok (.aload_n 0, 1) := by decide +kernel
theorem dX3_isFreeBetween_28 : decode cX3_isFreeBetween 28 = .ok (.getfield 21, 3) := by decide +kernel
theorem dX3_isFreeBetween_31 : decode cX3_isFreeBetween 31 = .ok (.iload_n 3, 1) := by decide +kernel
theorem dX3_isFreeBetween_32 : decode cX3_isFreeBetween 32 = .ok (.iaload, 1) := by decide +kernel
theorem dX3_isFreeBetween_33 : decode cX3_isFreeBetween 33 = .ok (.invokevirtual 107, 3) := by decide +kernel
theorem dX3_isFreeBetween_36 : decode cX3_isFreeBetween 36 = .ok (.ifCond .eq 5, 3) := by decide +kernel
theorem dX3_isFreeBetween_39 : decode cX3_isFreeBetween 39 = .ok (.iconst 0, 1) := by decide +kernel
theorem dX3_isFreeBetween_40 : decode cX3_isFreeBetween 40 = .ok (.ireturn, 1) := by decide +kernel
theorem dX3_isFreeBetween_41 : decode cX3_isFreeBetween 41 = .ok (.iinc 3 1, 3) := by decide +kernel
theorem dX3_isFreeBetween_44 : decode cX3_isFreeBetween 44 = .ok (.goto (-42), 3) := by decide +kernel
theorem dX3_isFreeBetween_47 : decode cX3_isFreeBetween 47 = .ok (.iconst 0, 1) := by decide +kernel
theorem dX3_isFreeBetween_48 : decode cX3_isFreeBetween 48 = .ok (.istore_n 3, 1) := by decide +kernel
theorem dX3_isFreeBetween_49 : decode cX3_isFreeBetween 49 = .ok (.iload_n 3, 1) := by decide +kernel
theorem dX3_isFreeBetween_50 : decode cX3_isFreeBetween 50 = .ok (.aload_n 0, 1) := by decide +kernel
theorem dX3_isFreeBetween_51 : decode cX3_isFreeBetween 51 = .ok (.getfield 64, 3) := by decide +kernel
theorem dX3_isFreeBetween_54 : decode cX3_isFreeBetween 54 = .ok (.if_icmp .ge 32, 3) := by decide +kernel
theorem dX3_isFreeBetween_57 : decode cX3_isFreeBetween 57 = .ok (.aload_n 0, 1) := by decide +kernel
theorem dX3_isFreeBetween_58 : decode cX3_isFreeBetween 58 = .ok (.iload_n 1, 1) := by decide +kernel
theorem dX3_isFreeBetween_59 : decode cX3_isFreeBetween 59 = .ok (.iload_n 2, 1) := by decide +kernel
theorem dX3_isFreeBetween_60 : decode cX3_isFreeBetween 60 = .ok (.aload_n 0, 1) := by decide +kernel
theorem dX3_isFreeBetween_61 : decode cX3_isFreeBetween 61 = .ok (.getfield 36, 3) := by decide +kernel
theorem dX3_isFreeBetween_64 : decode cX3_isFreeBetween 64 = .ok (.iload_n 3, 1) := by decide +kernel
theorem dX3_isFreeBetween_65 : decode cX3_isFreeBetween 65 = .ok (.iaload, 1) := by decide +kernel
theorem dX3_isFreeBetween_66 : decode cX3_isFreeBetween 66 = .ok (.aload_n 0, 1) := by decide +kernel
theorem dX3_isFreeBetween_67 : decode cX3_isFreeBetween 67 = .ok (.getfield 39, 3) := by decide +kernel
theorem dX3_isFreeBetween_70 : decode cX3_isFreeBetween 70 = .ok (.iload_n 3, 1) := by decide +kernel
theorem dX3_isFreeBetween_71 : decode cX3_isFreeBetween 71 = .ok (.iaload, 1) := by decide +kernel
theorem dX3_isFreeBetween_72 : decode cX3_isFreeBetween 72 = .ok (.invokevirtual 107, 3) := by decide +kernel
theorem dX3_isFreeBetween_75 : decode cX3_isFreeBetween 75 = .ok (.ifCond .eq 5, 3) := by decide +kernel
theorem dX3_isFreeBetween_78 : decode cX3_isFreeBetween 78 = .ok (.iconst 0, 1) := by decide +kernel
theorem dX3_isFreeBetween_79 : decode cX3_isFreeBetween 79 = .ok (.ireturn, 1) := by decide +kernel
theorem dX3_isFreeBetween_80 : decode cX3_isFreeBetween 80 = .ok (.iinc 3 1, 3) := by decide +kernel
theorem dX3_isFreeBetween_83 : decode cX3_isFreeBetween 83 = .ok (.goto (-34), 3) := by decide +kernel
theorem dX3_isFreeBetween_86 : decode cX3_isFreeBetween 86 = .ok (.iconst 1, 1) := by decide +kernel
theorem dX3_isFreeBetween_87 : decode cX3_isFreeBetween 87 = .ok (.ireturn, 1) := by decide +kernel
theorem dX3_blocks_0 : decode cX3_blocks 0 = .ok (.iload_n 3, 1) := by decide +kernel
theorem dX3_blocks_1 : decode cX3_blocks 1 = .ok (.aload_n 0, 1) := by decide +kernel
theorem dX3_blocks_2 : decode cX3_blocks 2 = .ok (.getfield 18, 3) := by decide +kernel
theorem dX3_blocks_5 : decode cX3_blocks 5 = .ok (.iload_n 1, 1) := by decide +kernel
theorem dX3_blocks_6 : decode cX3_blocks 6 = .ok (.iaload, 1) := by decide +kernel
theorem dX3_blocks_7 : decode cX3_blocks 7 = .ok (.if_icmp .le 43, 3) := by decide +kernel
theorem dX3_blocks_10 : decode cX3_blocks 10 = .ok (.iload_n 3, 1) := by decide +kernel
theorem dX3_blocks_11 : decode cX3_blocks 11 = .ok (.aload_n 0, 1) := by decide +kernel
theorem dX3_blocks_12 : decode cX3_blocks 12 = .ok (.getfield 18, 3) := by decide +kernel
theorem dX3_blocks_15 : decode cX3_blocks 15 = .ok (.iload_n 2, 1) := by decide +kernel
theorem dX3_blocks_16 : decode cX3_blocks 16 = .ok (.iaload, 1) := by decide +kernel
theorem dX3_blocks_17 : decode cX3_blocks 17 = .ok (.if_icmp .ge 33, 3) := by decide +kernel
theorem dX3_blocks_20 : decode cX3_blocks 20 = .ok (.iload 4, 2) := by decide +kernel
theorem dX3_blocks_22 : decode cX3_blocks 22 = .ok (.aload_n 0, 1) := by decide +kernel
theorem dX3_blocks_23 : decode cX3_blocks 23 = .ok (.getfield 18, 3) := by decide +kernel
theorem dX3_blocks_26 : decode cX3_blocks 26 = .ok (.iload_n 2, 1) := by decide +kernel
theorem dX3_blocks_27 : decode cX3_blocks 27 = .ok (.iaload, 1) := by decide +kernel
theorem dX3_blocks_28 : decode cX3_blocks 28 = .ok (.aload_n 0, 1) := by decide +kernel
theorem dX3_blocks_29 : decode cX3_blocks 29 = .ok (.getfield 18, 3) := by decide +kernel
theorem dX3_blocks_32 : decode cX3_blocks 32 = .ok (.iload_n 1, 1) := by decide +kernel
theorem dX3_blocks_33 : decode cX3_blocks 33 = .ok (.iaload, 1) := by decide +kernel
theorem dX3_blocks_34 : decode cX3_blocks 34 = .ok (.isub, 1) := by decide +kernel
theorem dX3_blocks_35 : decode cX3_blocks 35 = .ok (.imul, 1) := by decide +kernel
theorem dX3_blocks_36 : decode cX3_blocks 36 = .ok (.aload_n 0, 1) := by decide +kernel
theorem dX3_blocks_37 : decode cX3_blocks 37 = .ok (.iload_n 1, 1) := by decide +kernel
theorem dX3_blocks_38 : decode cX3_blocks 38 = .ok (.iload_n 2, 1) := by decide +kernel
theorem dX3_blocks_39 : decode cX3_blocks 39 = .ok (.iload_n 3, 1) := by decide +kernel
theorem dX3_blocks_40 : decode cX3_blocks 40 = .ok (.invokevirtual 111, 3) := by decide +kernel
theorem dX3_blocks_43 : decode cX3_blocks 43 = .ok (.if_icmp .lt 7, 3) := by decide +kernel
theorem dX3_blocks_46 : decode cX3_blocks 46 = .ok (.iconst 1, 1) := by decide +kernel
theorem dX3_blocks_47 : decode cX3_blocks 47 = .ok (.goto 4, 3) := by decide +kernel
theorem dX3_blocks_50 : decode cX3_blocks 50 = .ok (.iconst 0, 1) := by decide +kernel
theorem dX3_blocks_51 : decode cX3_blocks 51 = .ok (.ireturn, 1) := by decide +kernel
theorem dX3_lineOver_0 : decode cX3_lineOver 0 = .ok (.aload_n 0, 1) := by decide +kernel
theorem dX3_lineOver_1 : decode cX3_lineOver 1 = .ok (.getfield 21, 3) := by decide +kernel
theorem dX3_lineOver_4 : decode cX3_lineOver 4 = .ok (.iload_n 1, 1) := by decide +kernel
theorem dX3_lineOver_5 : decode cX3_lineOver 5 = .ok (.iaload, 1) := by decide +kernel
theorem dX3_lineOver_6 : decode cX3_lineOver 6 = .ok (.aload_n 0, 1) := by decide +kernel
theorem dX3_lineOver_7 : decode cX3_lineOver 7 = .ok (.getfield 18, 3) := by decide +kernel
theorem dX3_lineOver_10 : decode cX3_lineOver 10 = .ok (.iload_n 2, 1) := by decide +kernel
theorem dX3_lineOver_11 : decode cX3_lineOver 11 = .ok (.iaload, 1) := by decide +kernel
theorem dX3_lineOver_12 : decode cX3_lineOver 12 = .ok (.iload_n 3, 1) := by decide +kernel
theorem dX3_lineOver_13 : decode cX3_lineOver 13 = .ok (.isub, 1) := by decide +kernel
theorem dX3_lineOver_14 : decode cX3_lineOver 14 = .ok (.imul, 1) := by decide +kernel
theorem dX3_lineOver_15 : decode cX3_lineOver 15 = .ok (.aload_n 0, 1) := by decide +kernel
theorem dX3_lineOver_16 : decode cX3_lineOver 16 = .ok (.getfield 21, 3) := by decide +kernel
theorem dX3_lineOver_19 : decode cX3_lineOver 19 = .ok (.iload_n 2, 1) := by decide +kernel
theorem dX3_lineOver_20 : decode cX3_lineOver 20 = .ok (.iaload, 1) := by decide +kernel
theorem dX3_lineOver_21 : decode cX3_lineOver 21 = .ok (.iload_n 3, 1) := by decide +kernel
theorem dX3_lineOver_22 : decode cX3_lineOver 22 = .ok (.aload_n 0, 1) := by decide +kernel
theorem dX3_lineOver_23 : decode cX3_lineOver 23 = .ok (.getfield 18, 3) := by decide +kernel
theorem dX3_lineOver_26 : decode cX3_lineOver 26 = .ok (.iload_n 1, 1) := by decide +kernel
theorem dX3_lineOver_27 : decode cX3_lineOver 27 = .ok (.iaload, 1) := by decide +kernel
theorem dX3_lineOver_28 : decode cX3_lineOver 28 = .ok (.isub, 1) := by decide +kernel
theorem dX3_lineOver_29 : decode cX3_lineOver 29 = .ok (.imul, 1) := by decide +kernel
theorem dX3_lineOver_30 : decode cX3_lineOver 30 = .ok (.iadd, 1) := by decide +kernel
theorem dX3_lineOver_31 : decode cX3_lineOver 31 = .ok (.ireturn, 1) := by decide +kernel
theorem dX3_leastScreen_0 : decode cX3_leastScreen 0 = .ok (.aload_n 0, 1) := by decide +kernel
theorem dX3_leastScreen_1 : decode cX3_leastScreen 1 = .ok (.getfield 18, 3) := by decide +kernel
theorem dX3_leastScreen_4 : decode cX3_leastScreen 4 = .ok (.iload_n 1, 1) := by decide +kernel
theorem dX3_leastScreen_5 : decode cX3_leastScreen 5 = .ok (.iaload, 1) := by decide +kernel
theorem dX3_leastScreen_6 : decode cX3_leastScreen 6 = .ok (.aload_n 0, 1) := by decide +kernel
theorem dX3_leastScreen_7 : decode cX3_leastScreen 7 = .ok (.getfield 18, 3) := by decide +kernel
theorem dX3_leastScreen_10 : decode cX3_leastScreen 10 = .ok (.iload_n 2, 1) := by decide +kernel
theorem dX3_leastScreen_11 : decode cX3_leastScreen 11 = .ok (.iaload, 1) := by decide +kernel
theorem dX3_leastScreen_12 : decode cX3_leastScreen 12 = .ok (.if_icmp .ge 7, 3) := by decide +kernel
theorem dX3_leastScreen_15 : decode cX3_leastScreen 15 = .ok (.iload_n 1, 1) := by decide +kernel
theorem dX3_leastScreen_16 : decode cX3_leastScreen 16 = .ok (.goto 4, 3) := by decide +kernel
theorem dX3_leastScreen_19 : decode cX3_leastScreen 19 = .ok (.iload_n 2, 1) := by decide +kernel
theorem dX3_leastScreen_20 : decode cX3_leastScreen 20 = .ok (.istore 4, 2) := by decide +kernel
theorem dX3_leastScreen_22 : decode cX3_leastScreen 22 = .ok (.iload 4, 2) := by decide +kernel
theorem dX3_leastScreen_24 : decode cX3_leastScreen 24 = .ok (.iload_n 1, 1) := by decide +kernel
theorem dX3_leastScreen_25 : decode cX3_leastScreen 25 = .ok (.if_icmp .ne 7, 3) := by decide +kernel
theorem dX3_leastScreen_28 : decode cX3_leastScreen 28 = .ok (.iload_n 2, 1) := by decide +kernel
theorem dX3_leastScreen_29 : decode cX3_leastScreen 29 = .ok (.goto 4, 3) := by decide +kernel
theorem dX3_leastScreen_32 : decode cX3_leastScreen 32 = .ok (.iload_n 1, 1) := by decide +kernel
theorem dX3_leastScreen_33 : decode cX3_leastScreen 33 = .ok (.istore 5, 2) := by decide +kernel
theorem dX3_leastScreen_35 : decode cX3_leastScreen 35 = .ok (.aload_n 0, 1) := by decide +kernel
theorem dX3_leastScreen_36 : decode cX3_leastScreen 36 = .ok (.getfield 18, 3) := by decide +kernel
theorem dX3_leastScreen_39 : decode cX3_leastScreen 39 = .ok (.iload 5, 2) := by decide +kernel
theorem dX3_leastScreen_41 : decode cX3_leastScreen 41 = .ok (.iaload, 1) := by decide +kernel
theorem dX3_leastScreen_42 : decode cX3_leastScreen 42 = .ok (.aload_n 0, 1) := by decide +kernel
theorem dX3_leastScreen_43 : decode cX3_leastScreen 43 = .ok (.getfield 18, 3) := by decide +kernel
theorem dX3_leastScreen_46 : decode cX3_leastScreen 46 = .ok (.iload 4, 2) := by decide +kernel
theorem dX3_leastScreen_48 : decode cX3_leastScreen 48 = .ok (.iaload, 1) := by decide +kernel
theorem dX3_leastScreen_49 : decode cX3_leastScreen 49 = .ok (.isub, 1) := by decide +kernel
theorem dX3_leastScreen_50 : decode cX3_leastScreen 50 = .ok (.istore 6, 2) := by decide +kernel
theorem dX3_leastScreen_52 : decode cX3_leastScreen 52 = .ok (.iload 6, 2) := by decide +kernel
theorem dX3_leastScreen_54 : decode cX3_leastScreen 54 = .ok (.ifCond .le 25, 3) := by decide +kernel
theorem dX3_leastScreen_57 : decode cX3_leastScreen 57 = .ok (.iload_n 3, 1) := by decide +kernel
theorem dX3_leastScreen_58 : decode cX3_leastScreen 58 = .ok (.aload_n 0, 1) := by decide +kernel
theorem dX3_leastScreen_59 : decode cX3_leastScreen 59 = .ok (.getfield 18, 3) := by decide +kernel
theorem dX3_leastScreen_62 : decode cX3_leastScreen 62 = .ok (.iload 4, 2) := by decide +kernel
theorem dX3_leastScreen_64 : decode cX3_leastScreen 64 = .ok (.iaload, 1) := by decide +kernel
theorem dX3_leastScreen_65 : decode cX3_leastScreen 65 = .ok (.if_icmp .le 14, 3) := by decide +kernel
theorem dX3_leastScreen_68 : decode cX3_leastScreen 68 = .ok (.iload_n 3, 1) := by decide +kernel
theorem dX3_leastScreen_69 : decode cX3_leastScreen 69 = .ok (.aload_n 0, 1) := by decide +kernel
theorem dX3_leastScreen_70 : decode cX3_leastScreen 70 = .ok (.getfield 18, 3) := by decide +kernel
theorem dX3_leastScreen_73 : decode cX3_leastScreen 73 = .ok (.iload 5, 2) := by decide +kernel
theorem dX3_leastScreen_75 : decode cX3_leastScreen 75 = .ok (.iaload, 1) := by decide +kernel
theorem dX3_leastScreen_76 : decode cX3_leastScreen 76 = .ok (.if_icmp .lt 5, 3) := by decide +kernel
theorem dX3_leastScreen_79 : decode cX3_leastScreen 79 = .ok (.iconst (-1), 1) := by decide +kernel
theorem dX3_leastScreen_80 : decode cX3_leastScreen 80 = .ok (.ireturn, 1) := by decide +kernel
theorem dX3_leastScreen_81 : decode cX3_leastScreen 81 = .ok (.aload_n 0, 1) := by decide +kernel
theorem dX3_leastScreen_82 : decode cX3_leastScreen 82 = .ok (.iload 4, 2) := by decide +kernel
theorem dX3_leastScreen_84 : decode cX3_leastScreen 84 = .ok (.iload 5, 2) := by decide +kernel
theorem dX3_leastScreen_86 : decode cX3_leastScreen 86 = .ok (.iload_n 3, 1) := by decide +kernel
theorem dX3_leastScreen_87 : decode cX3_leastScreen 87 = .ok (.invokevirtual 111, 3) := by decide +kernel
theorem dX3_leastScreen_90 : decode cX3_leastScreen 90 = .ok (.iload 6, 2) := by decide +kernel
theorem dX3_leastScreen_92 : decode cX3_leastScreen 92 = .ok (.iadd, 1) := by decide +kernel
theorem dX3_leastScreen_93 : decode cX3_leastScreen 93 = .ok (.iconst 1, 1) := by decide +kernel
theorem dX3_leastScreen_94 : decode cX3_leastScreen 94 = .ok (.isub, 1) := by decide +kernel
theorem dX3_leastScreen_95 : decode cX3_leastScreen 95 = .ok (.iload 6, 2) := by decide +kernel
theorem dX3_leastScreen_97 : decode cX3_leastScreen 97 = .ok (.idiv, 1) := by decide +kernel
theorem dX3_leastScreen_98 : decode cX3_leastScreen 98 = .ok (.ireturn, 1) := by decide +kernel
theorem dX3_watchersOf_0 : decode cX3_watchersOf 0 = .ok (.iconst 0, 1) := by decide +kernel
theorem dX3_watchersOf_1 : decode cX3_watchersOf 1 = .ok (.istore_n 2, 1) := by decide +kernel
theorem dX3_watchersOf_2 : decode cX3_watchersOf 2 = .ok (.iconst 0, 1) := by decide +kernel
theorem dX3_watchersOf_3 : decode cX3_watchersOf 3 = .ok (.istore_n 3, 1) := by decide +kernel
theorem dX3_watchersOf_4 : decode cX3_watchersOf 4 = .ok (.iload_n 3, 1) := by decide +kernel
theorem dX3_watchersOf_5 : decode cX3_watchersOf 5 = .ok (.aload_n 0, 1) := by decide +kernel
theorem dX3_watchersOf_6 : decode cX3_watchersOf 6 = .ok (.getfield 52, 3) := by decide +kernel
theorem dX3_watchersOf_9 : decode cX3_watchersOf 9 = .ok (.if_icmp .ge 26, 3) := by decide +kernel
theorem dX3_watchersOf_12 : decode cX3_watchersOf 12 = .ok (.aload_n 0, 1) := by decide +kernel
theorem dX3_watchersOf_13 : decode cX3_watchersOf 13 = .ok (.getfield 27, 3) := by decide +kernel
theorem dX3_watchersOf_16 : decode cX3_watchersOf 16 = .ok (.iload_n 3, 1) := by decide +kernel
theorem dX3_watchersOf_17 : decode cX3_watchersOf 17 = .ok (.iaload, 1) := by decide +kernel
theorem dX3_watchersOf_18 : decode cX3_watchersOf 18 = .ok (.iload_n 1, 1) := by decide +kernel
theorem dX3_watchersOf_19 : decode cX3_watchersOf 19 = .ok (.iand, 1) := by decide +kernel
theorem dX3_watchersOf_20 : decode cX3_watchersOf 20 = .ok (.ifCond .eq 9, 3) := by decide +kernel
theorem dX3_watchersOf_23 : decode cX3_watchersOf 23 = .ok (.iload_n 2, 1) := by decide +kernel
theorem dX3_watchersOf_24 : decode cX3_watchersOf 24 = .ok (.iconst 1, 1) := by decide +kernel
theorem dX3_watchersOf_25 : decode cX3_watchersOf 25 = .ok (.iload_n 3, 1) := by decide +kernel
theorem dX3_watchersOf_26 : decode cX3_watchersOf 26 = .ok (.ishl, 1) := by decide +kernel
theorem dX3_watchersOf_27 : decode cX3_watchersOf 27 = .ok (.ior, 1) := by decide +kernel
theorem dX3_watchersOf_28 : decode cX3_watchersOf 28 = .ok (.istore_n 2, 1) := by decide +kernel
theorem dX3_watchersOf_29 : decode cX3_watchersOf 29 = .ok (.iinc 3 1, 3) := by decide +kernel
theorem dX3_watchersOf_32 : decode cX3_watchersOf 32 = .ok (.goto (-28), 3) := by decide +kernel
theorem dX3_watchersOf_35 : decode cX3_watchersOf 35 = .ok (.iload_n 2, 1) := by decide +kernel
theorem dX3_watchersOf_36 : decode cX3_watchersOf 36 = .ok (.ireturn, 1) := by decide +kernel
theorem dX3_allSeeOne_0 : decode cX3_allSeeOne 0 = .ok (.iconst 0, 1) := by decide +kernel
theorem dX3_allSeeOne_1 : decode cX3_allSeeOne 1 = .ok (.istore_n 3, 1) := by decide +kernel
theorem dX3_allSeeOne_2 : decode cX3_allSeeOne 2 = .ok (.iload_n 3, 1) := by decide +kernel
theorem dX3_allSeeOne_3 : decode cX3_allSeeOne 3 = .ok (.aload_n 0, 1) := by decide +kernel
theorem dX3_allSeeOne_4 : decode cX3_allSeeOne 4 = .ok (.getfield 52, 3) := by decide +kernel
theorem dX3_allSeeOne_7 : decode cX3_allSeeOne 7 = .ok (.if_icmp .ge 35, 3) := by decide +kernel
theorem dX3_allSeeOne_10 : decode cX3_allSeeOne 10 = .ok (.iload_n 1, 1) := by decide +kernel
theorem dX3_allSeeOne_11 : decode cX3_allSeeOne 11 = .ok (.iload_n 3, 1) := by decide +kernel
theorem dX3_allSeeOne_12 : decode cX3_allSeeOne 12 = .ok (.invokestatic 77, 3) := by decide +kernel
theorem dX3_allSeeOne_15 : decode cX3_allSeeOne 15 = .ok (.iconst 1, 1) := by decide +kernel
theorem dX3_allSeeOne_16 : decode cX3_allSeeOne 16 = .ok (.if_icmp .ne 20, 3) := by decide +kernel
theorem dX3_allSeeOne_19 : decode cX3_allSeeOne 19 = .ok (.aload_n 0, 1) := by decide +kernel
theorem dX3_allSeeOne_20 : decode cX3_allSeeOne 20 = .ok (.getfield 27, 3) := by decide +kernel
theorem dX3_allSeeOne_23 : decode cX3_allSeeOne 23 = .ok (.iload_n 3, 1) := by decide +kernel
theorem dX3_allSeeOne_24 : decode cX3_allSeeOne 24 = .ok (.iaload, 1) := by decide +kernel
theorem dX3_allSeeOne_25 : decode cX3_allSeeOne 25 = .ok (.iconst 1, 1) := by decide +kernel
theorem dX3_allSeeOne_26 : decode cX3_allSeeOne 26 = .ok (.iload_n 3, 1) := by decide +kernel
theorem dX3_allSeeOne_27 : decode cX3_allSeeOne 27 = .ok (.ishl, 1) := by decide +kernel
theorem dX3_allSeeOne_28 : decode cX3_allSeeOne 28 = .ok (.ior, 1) := by decide +kernel
theorem dX3_allSeeOne_29 : decode cX3_allSeeOne 29 = .ok (.iload_n 2, 1) := by decide +kernel
theorem dX3_allSeeOne_30 : decode cX3_allSeeOne 30 = .ok (.iand, 1) := by decide +kernel
theorem dX3_allSeeOne_31 : decode cX3_allSeeOne 31 = .ok (.ifCond .ne 5, 3) := by decide +kernel
theorem dX3_allSeeOne_34 : decode cX3_allSeeOne 34 = .ok (.iconst 0, 1) := by decide +kernel
theorem dX3_allSeeOne_35 : decode cX3_allSeeOne 35 = .ok (.ireturn, 1) := by decide +kernel
theorem dX3_allSeeOne_36 : decode cX3_allSeeOne 36 = .ok (.iinc 3 1, 3) := by decide +kernel
theorem dX3_allSeeOne_39 : decode cX3_allSeeOne 39 = .ok (.goto (-37), 3) := by decide +kernel
theorem dX3_allSeeOne_42 : decode cX3_allSeeOne 42 = .ok (.iconst 1, 1) := by decide +kernel
theorem dX3_allSeeOne_43 : decode cX3_allSeeOne 43 = .ok (.ireturn, 1) := by decide +kernel
theorem dX3_mournedYears_0 : decode cX3_mournedYears 0 = .ok (.aload_n 0, 1) := by decide +kernel
theorem dX3_mournedYears_1 : decode cX3_mournedYears 1 = .ok (.getfield 9, 3) := by decide +kernel
theorem dX3_mournedYears_4 : decode cX3_mournedYears 4 = .ok (.iload_n 1, 1) := by decide +kernel
theorem dX3_mournedYears_5 : decode cX3_mournedYears 5 = .ok (.iaload, 1) := by decide +kernel
theorem dX3_mournedYears_6 : decode cX3_mournedYears 6 = .ok (.tableswitch 55 2 6 #[34, 55, 55, 38, 51], 34) := by decide +kernel
theorem dX3_mournedYears_40 : decode cX3_mournedYears 40 = .ok (.iload_n 2, 1) := by decide +kernel
theorem dX3_mournedYears_41 : decode cX3_mournedYears 41 = .ok (.iconst 2, 1) := by decide +kernel
theorem dX3_mournedYears_42 : decode cX3_mournedYears 42 = .ok (.idiv, 1) := by decide +kernel
theorem dX3_mournedYears_43 : decode cX3_mournedYears 43 = .ok (.ireturn, 1) := by decide +kernel
theorem dX3_mournedYears_44 : decode cX3_mournedYears 44 = .ok (.iload_n 2, 1) := by decide +kernel
theorem dX3_mournedYears_45 : decode cX3_mournedYears 45 = .ok (.iconst 2, 1) := by decide +kernel
theorem dX3_mournedYears_46 : decode cX3_mournedYears 46 = .ok (.idiv, 1) := by decide +kernel
theorem dX3_mournedYears_47 : decode cX3_mournedYears 47 = .ok (.aload_n 0, 1) := by decide +kernel
theorem dX3_mournedYears_48 : decode cX3_mournedYears 48 = .ok (.getfield 15, 3) := by decide +kernel
theorem dX3_mournedYears_51 : decode cX3_mournedYears 51 = .ok (.iload_n 1, 1) := by decide +kernel
theorem dX3_mournedYears_52 : decode cX3_mournedYears 52 = .ok (.iaload, 1) := by decide +kernel
theorem dX3_mournedYears_53 : decode cX3_mournedYears 53 = .ok (.invokestatic 115, 3) := by decide +kernel
theorem dX3_mournedYears_56 : decode cX3_mournedYears 56 = .ok (.ireturn, 1) := by decide +kernel
theorem dX3_mournedYears_57 : decode cX3_mournedYears 57 = .ok (.iload_n 2, 1) := by decide +kernel
theorem dX3_mournedYears_58 : decode cX3_mournedYears 58 = .ok (.iconst 2, 1) := by decide +kernel
theorem dX3_mournedYears_59 : decode cX3_mournedYears 59 = .ok (.imul, 1) := by decide +kernel
theorem dX3_mournedYears_60 : decode cX3_mournedYears 60 = .ok (.ireturn, 1) := by decide +kernel
theorem dX3_mournedYears_61 : decode cX3_mournedYears 61 = .ok (.iload_n 2, 1) := by decide +kernel
theorem dX3_mournedYears_62 : decode cX3_mournedYears 62 = .ok (.ireturn, 1) := by decide +kernel
theorem dX3_untilBehind_0 : decode cX3_untilBehind 0 = .ok (.aload_n 0, 1) := by decide +kernel
theorem dX3_untilBehind_1 : decode cX3_untilBehind 1 = .ok (.iload_n 2, 1) := by decide +kernel
theorem dX3_untilBehind_2 : decode cX3_untilBehind 2 = .ok (.iload_n 3, 1) := by decide +kernel
theorem dX3_untilBehind_3 : decode cX3_untilBehind 3 = .ok (.invokevirtual 118, 3) := by decide +kernel
theorem dX3_untilBehind_6 : decode cX3_untilBehind 6 = .ok (.ifCond .ne 5, 3) := by decide +kernel
theorem dX3_untilBehind_9 : decode cX3_untilBehind 9 = .ok (.iload_n 1, 1) := by decide +kernel
theorem dX3_untilBehind_10 : decode cX3_untilBehind 10 = .ok (.ireturn, 1) := by decide +kernel
theorem dX3_untilBehind_11 : decode cX3_untilBehind 11 = .ok (.iload_n 1, 1) := by decide +kernel
theorem dX3_untilBehind_12 : decode cX3_untilBehind 12 = .ok (.iload 4, 2) := by decide +kernel
theorem dX3_untilBehind_14 : decode cX3_untilBehind 14 = .ok (.aload_n 0, 1) := by decide +kernel
theorem dX3_untilBehind_15 : decode cX3_untilBehind 15 = .ok (.iload_n 2, 1) := by decide +kernel
theorem dX3_untilBehind_16 : decode cX3_untilBehind 16 = .ok (.iload 4, 2) := by decide +kernel
theorem dX3_untilBehind_18 : decode cX3_untilBehind 18 = .ok (.aload_n 0, 1) := by decide +kernel
theorem dX3_untilBehind_19 : decode cX3_untilBehind 19 = .ok (.iload_n 2, 1) := by decide +kernel
theorem dX3_untilBehind_20 : decode cX3_untilBehind 20 = .ok (.iload_n 3, 1) := by decide +kernel
theorem dX3_untilBehind_21 : decode cX3_untilBehind 21 = .ok (.invokevirtual 121, 3) := by decide +kernel
theorem dX3_untilBehind_24 : decode cX3_untilBehind 24 = .ok (.isub, 1) := by decide +kernel
theorem dX3_untilBehind_25 : decode cX3_untilBehind 25 = .ok (.invokevirtual 124, 3) := by decide +kernel
theorem dX3_untilBehind_28 : decode cX3_untilBehind 28 = .ok (.iadd, 1) := by decide +kernel
theorem dX3_untilBehind_29 : decode cX3_untilBehind 29 = .ok (.invokestatic 127, 3) := by decide +kernel
theorem dX3_untilBehind_32 : decode cX3_untilBehind 32 = .ok (.ireturn, 1) := by decide +kernel
theorem dX3_griefOf_0 : decode cX3_griefOf 0 = .ok (.iconst 0, 1) := by decide +kernel
theorem dX3_griefOf_1 : decode cX3_griefOf 1 = .ok (.istore_n 3, 1) := by decide +kernel
theorem dX3_griefOf_2 : decode cX3_griefOf 2 = .ok (.iconst 0, 1) := by decide +kernel
theorem dX3_griefOf_3 : decode cX3_griefOf 3 = .ok (.istore 4, 2) := by decide +kernel
theorem dX3_griefOf_5 : decode cX3_griefOf 5 = .ok (.iload 4, 2) := by decide +kernel
theorem dX3_griefOf_7 : decode cX3_griefOf 7 = .ok (.aload_n 0, 1) := by decide +kernel
theorem dX3_griefOf_8 : decode cX3_griefOf 8 = .ok (.getfield 52, 3) := by decide +kernel
theorem dX3_griefOf_11 : decode cX3_griefOf 11 = .ok (.if_icmp .ge 43, 3) := by decide +kernel
theorem dX3_griefOf_14 : decode cX3_griefOf 14 = .ok (.iload_n 3, 1) := by decide +kernel
theorem dX3_griefOf_15 : decode cX3_griefOf 15 = .ok (.aload_n 0, 1) := by decide +kernel
theorem dX3_griefOf_16 : decode cX3_griefOf 16 = .ok (.aload_n 0, 1) := by decide +kernel
theorem dX3_griefOf_17 : decode cX3_griefOf 17 = .ok (.getfield 24, 3) := by decide +kernel
theorem dX3_griefOf_20 : decode cX3_griefOf 20 = .ok (.iload 4, 2) := by decide +kernel
theorem dX3_griefOf_22 : decode cX3_griefOf 22 = .ok (.iaload, 1) := by decide +kernel
theorem dX3_griefOf_23 : decode cX3_griefOf 23 = .ok (.iload 4, 2) := by decide +kernel
theorem dX3_griefOf_25 : decode cX3_griefOf 25 = .ok (.iload_n 1, 1) := by decide +kernel
theorem dX3_griefOf_26 : decode cX3_griefOf 26 = .ok (.iload_n 2, 1) := by decide +kernel
theorem dX3_griefOf_27 : decode cX3_griefOf 27 = .ok (.invokevirtual 130, 3) := by decide +kernel
theorem dX3_griefOf_30 : decode cX3_griefOf 30 = .ok (.iload_n 2, 1) := by decide +kernel
theorem dX3_griefOf_31 : decode cX3_griefOf 31 = .ok (.invokestatic 127, 3) := by decide +kernel
theorem dX3_griefOf_34 : decode cX3_griefOf 34 = .ok (.aload_n 0, 1) := by decide +kernel
theorem dX3_griefOf_35 : decode cX3_griefOf 35 = .ok (.getfield 24, 3) := by decide +kernel
theorem dX3_griefOf_38 : decode cX3_griefOf 38 = .ok (.iload 4, 2) := by decide +kernel
theorem dX3_griefOf_40 : decode cX3_griefOf 40 = .ok (.iaload, 1) := by decide +kernel
theorem dX3_griefOf_41 : decode cX3_griefOf 41 = .ok (.iload_n 2, 1) := by decide +kernel
theorem dX3_griefOf_42 : decode cX3_griefOf 42 = .ok (.invokestatic 127, 3) := by decide +kernel
theorem dX3_griefOf_45 : decode cX3_griefOf 45 = .ok (.isub, 1) := by decide +kernel
theorem dX3_griefOf_46 : decode cX3_griefOf 46 = .ok (.iadd, 1) := by decide +kernel
theorem dX3_griefOf_47 : decode cX3_griefOf 47 = .ok (.istore_n 3, 1) := by decide +kernel
theorem dX3_griefOf_48 : decode cX3_griefOf 48 = .ok (.iinc 4 1, 3) := by decide +kernel
theorem dX3_griefOf_51 : decode cX3_griefOf 51 = .ok (.goto (-46), 3) := by decide +kernel
theorem dX3_griefOf_54 : decode cX3_griefOf 54 = .ok (.iload_n 3, 1) := by decide +kernel
theorem dX3_griefOf_55 : decode cX3_griefOf 55 = .ok (.ireturn, 1) := by decide +kernel
theorem dX3_lose_0 : decode cX3_lose 0 = .ok (.aload_n 0, 1) := by decide +kernel
theorem dX3_lose_1 : decode cX3_lose 1 = .ok (.iload_n 1, 1) := by decide +kernel
theorem dX3_lose_2 : decode cX3_lose 2 = .ok (.aload_n 0, 1) := by decide +kernel
theorem dX3_lose_3 : decode cX3_lose 3 = .ok (.getfield 70, 3) := by decide +kernel
theorem dX3_lose_6 : decode cX3_lose 6 = .ok (.invokevirtual 134, 3) := by decide +kernel
theorem dX3_lose_9 : decode cX3_lose 9 = .ok (.istore_n 2, 1) := by decide +kernel
theorem dX3_lose_10 : decode cX3_lose 10 = .ok (.iconst 0, 1) := by decide +kernel
theorem dX3_lose_11 : decode cX3_lose 11 = .ok (.istore_n 3, 1) := by decide +kernel
theorem dX3_lose_12 : decode cX3_lose 12 = .ok (.iload_n 3, 1) := by decide +kernel
theorem dX3_lose_13 : decode cX3_lose 13 = .ok (.aload_n 0, 1) := by decide +kernel
theorem dX3_lose_14 : decode cX3_lose 14 = .ok (.getfield 52, 3) := by decide +kernel
theorem dX3_lose_17 : decode cX3_lose 17 = .ok (.if_icmp .ge 31, 3) := by decide +kernel
theorem dX3_lose_20 : decode cX3_lose 20 = .ok (.aload_n 0, 1) := by decide +kernel
theorem dX3_lose_21 : decode cX3_lose 21 = .ok (.getfield 24, 3) := by decide +kernel
theorem dX3_lose_24 : decode cX3_lose 24 = .ok (.iload_n 3, 1) := by decide +kernel
theorem dX3_lose_25 : decode cX3_lose 25 = .ok (.aload_n 0, 1) := by decide +kernel
theorem dX3_lose_26 : decode cX3_lose 26 = .ok (.aload_n 0, 1) := by decide +kernel
theorem dX3_lose_27 : decode cX3_lose 27 = .ok (.getfield 24, 3) := by decide +kernel
theorem dX3_lose_30 : decode cX3_lose 30 = .ok (.iload_n 3, 1) := by decide +kernel
theorem dX3_lose_31 : decode cX3_lose 31 = .ok (.iaload, 1) := by decide +kernel
theorem dX3_lose_32 : decode cX3_lose 32 = .ok (.iload_n 3, 1) := by decide +kernel
theorem dX3_lose_33 : decode cX3_lose 33 = .ok (.iload_n 1, 1) := by decide +kernel
theorem dX3_lose_34 : decode cX3_lose 34 = .ok (.aload_n 0, 1) := by decide +kernel
theorem dX3_lose_35 : decode cX3_lose 35 = .ok (.getfield 70, 3) := by decide +kernel
theorem dX3_lose_38 : decode cX3_lose 38 = .ok (.invokevirtual 130, 3) := by decide +kernel
theorem dX3_lose_41 : decode cX3_lose 41 = .ok (.iastore, 1) := by decide +kernel
theorem dX3_lose_42 : decode cX3_lose 42 = .ok (.iinc 3 1, 3) := by decide +kernel
theorem dX3_lose_45 : decode cX3_lose 45 = .ok (.goto (-33), 3) := by decide +kernel
theorem dX3_lose_48 : decode cX3_lose 48 = .ok (.aload_n 0, 1) := by decide +kernel
theorem dX3_lose_49 : decode cX3_lose 49 = .ok (.dup, 1) := by decide +kernel
theorem dX3_lose_50 : decode cX3_lose 50 = .ok (.getfield 55, 3) := by decide +kernel
theorem dX3_lose_53 : decode cX3_lose 53 = .ok (.iconst 1, 1) := by decide +kernel
theorem dX3_lose_54 : decode cX3_lose 54 = .ok (.iload_n 1, 1) := by decide +kernel
theorem dX3_lose_55 : decode cX3_lose 55 = .ok (.ishl, 1) := by decide +kernel
theorem dX3_lose_56 : decode cX3_lose 56 = .ok (.iconst (-1), 1) := by decide +kernel
theorem dX3_lose_57 : decode cX3_lose 57 = .ok (.ixor, 1) := by decide +kernel
theorem dX3_lose_58 : decode cX3_lose 58 = .ok (.iand, 1) := by decide +kernel
theorem dX3_lose_59 : decode cX3_lose 59 = .ok (.putfield 55, 3) := by decide +kernel
theorem dX3_lose_62 : decode cX3_lose 62 = .ok (.aload_n 0, 1) := by decide +kernel
theorem dX3_lose_63 : decode cX3_lose 63 = .ok (.invokevirtual 84, 3) := by decide +kernel
theorem dX3_lose_66 : decode cX3_lose 66 = .ok (.iload_n 2, 1) := by decide +kernel
theorem dX3_lose_67 : decode cX3_lose 67 = .ok (.ireturn, 1) := by decide +kernel
theorem dX3_comeToPass_0 : decode cX3_comeToPass 0 = .ok (.iconst 0, 1) := by decide +kernel
theorem dX3_comeToPass_1 : decode cX3_comeToPass 1 = .ok (.istore_n 3, 1) := by decide +kernel
theorem dX3_comeToPass_2 : decode cX3_comeToPass 2 = .ok (.iconst 0, 1) := by decide +kernel
theorem dX3_comeToPass_3 : decode cX3_comeToPass 3 = .ok (.istore 4, 2) := by decide +kernel
theorem dX3_comeToPass_5 : decode cX3_comeToPass 5 = .ok (.iload 4, 2) := by decide +kernel
theorem dX3_comeToPass_7 : decode cX3_comeToPass 7 = .ok (.iload_n 2, 1) := by decide +kernel
theorem dX3_comeToPass_8 : decode cX3_comeToPass 8 = .ok (.if_icmp .ge 59, 3) := by decide +kernel
theorem dX3_comeToPass_11 : decode cX3_comeToPass 11 = .ok (.aload_n 1, 1) := by decide +kernel
theorem dX3_comeToPass_12 : decode cX3_comeToPass 12 = .ok (.iload 4, 2) := by decide +kernel
theorem dX3_comeToPass_14 : decode cX3_comeToPass 14 = .ok (.invokevirtual 137, 3) := by decide +kernel
theorem dX3_comeToPass_17 : decode cX3_comeToPass 17 = .ok (.istore 5, 2) := by decide +kernel
theorem dX3_comeToPass_19 : decode cX3_comeToPass 19 = .ok (.iload 5, 2) := by decide +kernel
theorem dX3_comeToPass_21 : decode cX3_comeToPass 21 = .ok (.bipush 100, 2) := by decide +kernel
theorem dX3_comeToPass_23 : decode cX3_comeToPass 23 = .ok (.if_icmp .le 20, 3) := by decide +kernel
theorem dX3_comeToPass_26 : decode cX3_comeToPass 26 = .ok (.aload_n 0, 1) := by decide +kernel
theorem dX3_comeToPass_27 : decode cX3_comeToPass 27 = .ok (.dup, 1) := by decide +kernel
theorem dX3_comeToPass_28 : decode cX3_comeToPass 28 = .ok (.getfield 70, 3) := by decide +kernel
theorem dX3_comeToPass_31 : decode cX3_comeToPass 31 = .ok (.iload 5, 2) := by decide +kernel
theorem dX3_comeToPass_33 : decode cX3_comeToPass 33 = .ok (.bipush 100, 2) := by decide +kernel
theorem dX3_comeToPass_35 : decode cX3_comeToPass 35 = .ok (.isub, 1) := by decide +kernel
theorem dX3_comeToPass_36 : decode cX3_comeToPass 36 = .ok (.iadd, 1) := by decide +kernel
theorem dX3_comeToPass_37 : decode cX3_comeToPass 37 = .ok (.putfield 70, 3) := by decide +kernel
theorem dX3_comeToPass_40 : decode cX3_comeToPass 40 = .ok (.goto 21, 3) := by decide +kernel
theorem dX3_comeToPass_43 : decode cX3_comeToPass 43 = .ok (.aload_n 0, 1) := by decide +kernel
theorem dX3_comeToPass_44 : decode cX3_comeToPass 44 = .ok (.iload 5, 2) := by decide +kernel
theorem dX3_comeToPass_46 : decode cX3_comeToPass 46 = .ok (.invokevirtual 81, 3) := by decide +kernel
theorem dX3_comeToPass_49 : decode cX3_comeToPass 49 = .ok (.ifCond .eq 12, 3) := by decide +kernel
theorem dX3_comeToPass_52 : decode cX3_comeToPass 52 = .ok (.iload_n 3, 1) := by decide +kernel
theorem dX3_comeToPass_53 : decode cX3_comeToPass 53 = .ok (.aload_n 0, 1) := by decide +kernel
theorem dX3_comeToPass_54 : decode cX3_comeToPass 54 = .ok (.iload 5, 2) := by decide +kernel
theorem dX3_comeToPass_56 : decode cX3_comeToPass 56 = .ok (.invokevirtual 142, 3) := by decide +kernel
theorem dX3_comeToPass_59 : decode cX3_comeToPass 59 = .ok (.iadd, 1) := by decide +kernel
theorem dX3_comeToPass_60 : decode cX3_comeToPass 60 = .ok (.istore_n 3, 1) := by decide +kernel
theorem dX3_comeToPass_61 : decode cX3_comeToPass 61 = .ok (.iinc 4 1, 3) := by decide +kernel
theorem dX3_comeToPass_64 : decode cX3_comeToPass 64 = .ok (.goto (-59), 3) := by decide +kernel
theorem dX3_comeToPass_67 : decode cX3_comeToPass 67 = .ok (.iload_n 3, 1) := by decide +kernel
theorem dX3_comeToPass_68 : decode cX3_comeToPass 68 = .ok (.ireturn, 1) := by decide +kernel
theorem dX3_latestUntil_0 : decode cX3_latestUntil 0 = .ok (.iconst 0, 1) := by decide +kernel
theorem dX3_latestUntil_1 : decode cX3_latestUntil 1 = .ok (.istore_n 1, 1) := by decide +kernel
theorem dX3_latestUntil_2 : decode cX3_latestUntil 2 = .ok (.iconst 0, 1) := by decide +kernel
theorem dX3_latestUntil_3 : decode cX3_latestUntil 3 = .ok (.istore_n 2, 1) := by decide +kernel
theorem dX3_latestUntil_4 : decode cX3_latestUntil 4 = .ok (.iload_n 2, 1) := by decide +kernel
theorem dX3_latestUntil_5 : decode cX3_latestUntil 5 = .ok (.aload_n 0, 1) := by decide +kernel
theorem dX3_latestUntil_6 : decode cX3_latestUntil 6 = .ok (.getfield 52, 3) := by decide +kernel
theorem dX3_latestUntil_9 : decode cX3_latestUntil 9 = .ok (.if_icmp .ge 28, 3) := by decide +kernel
theorem dX3_latestUntil_12 : decode cX3_latestUntil 12 = .ok (.aload_n 0, 1) := by decide +kernel
theorem dX3_latestUntil_13 : decode cX3_latestUntil 13 = .ok (.iload_n 2, 1) := by decide +kernel
theorem dX3_latestUntil_14 : decode cX3_latestUntil 14 = .ok (.invokevirtual 81, 3) := by decide +kernel
theorem dX3_latestUntil_17 : decode cX3_latestUntil 17 = .ok (.ifCond .eq 14, 3) := by decide +kernel
theorem dX3_latestUntil_20 : decode cX3_latestUntil 20 = .ok (.iload_n 1, 1) := by decide +kernel
theorem dX3_latestUntil_21 : decode cX3_latestUntil 21 = .ok (.aload_n 0, 1) := by decide +kernel
theorem dX3_latestUntil_22 : decode cX3_latestUntil 22 = .ok (.getfield 24, 3) := by decide +kernel
theorem dX3_latestUntil_25 : decode cX3_latestUntil 25 = .ok (.iload_n 2, 1) := by decide +kernel
theorem dX3_latestUntil_26 : decode cX3_latestUntil 26 = .ok (.iaload, 1) := by decide +kernel
theorem dX3_latestUntil_27 : decode cX3_latestUntil 27 = .ok (.invokestatic 127, 3) := by decide +kernel
theorem dX3_latestUntil_30 : decode cX3_latestUntil 30 = .ok (.istore_n 1, 1) := by decide +kernel
theorem dX3_latestUntil_31 : decode cX3_latestUntil 31 = .ok (.iinc 2 1, 3) := by decide +kernel
theorem dX3_latestUntil_34 : decode cX3_latestUntil 34 = .ok (.goto (-30), 3) := by decide +kernel
theorem dX3_latestUntil_37 : decode cX3_latestUntil 37 = .ok (.iload_n 1, 1) := by decide +kernel
theorem dX3_latestUntil_38 : decode cX3_latestUntil 38 = .ok (.ireturn, 1) := by decide +kernel
theorem dX3_mourningIn_0 : decode cX3_mourningIn 0 = .ok (.iconst 0, 1) := by decide +kernel
theorem dX3_mourningIn_1 : decode cX3_mourningIn 1 = .ok (.istore_n 2, 1) := by decide +kernel
theorem dX3_mourningIn_2 : decode cX3_mourningIn 2 = .ok (.iconst 0, 1) := by decide +kernel
theorem dX3_mourningIn_3 : decode cX3_mourningIn 3 = .ok (.istore_n 3, 1) := by decide +kernel
theorem dX3_mourningIn_4 : decode cX3_mourningIn 4 = .ok (.iload_n 3, 1) := by decide +kernel
theorem dX3_mourningIn_5 : decode cX3_mourningIn 5 = .ok (.aload_n 0, 1) := by decide +kernel
theorem dX3_mourningIn_6 : decode cX3_mourningIn 6 = .ok (.getfield 52, 3) := by decide +kernel
theorem dX3_mourningIn_9 : decode cX3_mourningIn 9 = .ok (.if_icmp .ge 33, 3) := by decide +kernel
theorem dX3_mourningIn_12 : decode cX3_mourningIn 12 = .ok (.aload_n 0, 1) := by decide +kernel
theorem dX3_mourningIn_13 : decode cX3_mourningIn 13 = .ok (.iload_n 3, 1) := by decide +kernel
theorem dX3_mourningIn_14 : decode cX3_mourningIn 14 = .ok (.invokevirtual 81, 3) := by decide +kernel
theorem dX3_mourningIn_17 : decode cX3_mourningIn 17 = .ok (.ifCond .eq 19, 3) := by decide +kernel
theorem dX3_mourningIn_20 : decode cX3_mourningIn 20 = .ok (.iload_n 1, 1) := by decide +kernel
theorem dX3_mourningIn_21 : decode cX3_mourningIn 21 = .ok (.aload_n 0, 1) := by decide +kernel
theorem dX3_mourningIn_22 : decode cX3_mourningIn 22 = .ok (.getfield 24, 3) := by decide +kernel
theorem dX3_mourningIn_25 : decode cX3_mourningIn 25 = .ok (.iload_n 3, 1) := by decide +kernel
theorem dX3_mourningIn_26 : decode cX3_mourningIn 26 = .ok (.iaload, 1) := by decide +kernel
theorem dX3_mourningIn_27 : decode cX3_mourningIn 27 = .ok (.if_icmp .ge 9, 3) := by decide +kernel
theorem dX3_mourningIn_30 : decode cX3_mourningIn 30 = .ok (.iload_n 2, 1) := by decide +kernel
theorem dX3_mourningIn_31 : decode cX3_mourningIn 31 = .ok (.iconst 1, 1) := by decide +kernel
theorem dX3_mourningIn_32 : decode cX3_mourningIn 32 = .ok (.iload_n 3, 1) := by decide +kernel
theorem dX3_mourningIn_33 : decode cX3_mourningIn 33 = .ok (.ishl, 1) := by decide +kernel
theorem dX3_mourningIn_34 : decode cX3_mourningIn 34 = .ok (.ior, 1) := by decide +kernel
theorem dX3_mourningIn_35 : decode cX3_mourningIn 35 = .ok (.istore_n 2, 1) := by decide +kernel
theorem dX3_mourningIn_36 : decode cX3_mourningIn 36 = .ok (.iinc 3 1, 3) := by decide +kernel
theorem dX3_mourningIn_39 : decode cX3_mourningIn 39 = .ok (.goto (-35), 3) := by decide +kernel
theorem dX3_mourningIn_42 : decode cX3_mourningIn 42 = .ok (.iload_n 2, 1) := by decide +kernel
theorem dX3_mourningIn_43 : decode cX3_mourningIn 43 = .ok (.ireturn, 1) := by decide +kernel
theorem dX3_blackIn_0 : decode cX3_blackIn 0 = .ok (.aload_n 0, 1) := by decide +kernel
theorem dX3_blackIn_1 : decode cX3_blackIn 1 = .ok (.iload_n 1, 1) := by decide +kernel
theorem dX3_blackIn_2 : decode cX3_blackIn 2 = .ok (.invokevirtual 145, 3) := by decide +kernel
theorem dX3_blackIn_5 : decode cX3_blackIn 5 = .ok (.istore_n 2, 1) := by decide +kernel
theorem dX3_blackIn_6 : decode cX3_blackIn 6 = .ok (.iload_n 2, 1) := by decide +kernel
theorem dX3_blackIn_7 : decode cX3_blackIn 7 = .ok (.istore_n 3, 1) := by decide +kernel
theorem dX3_blackIn_8 : decode cX3_blackIn 8 = .ok (.iconst 0, 1) := by decide +kernel
theorem dX3_blackIn_9 : decode cX3_blackIn 9 = .ok (.istore 4, 2) := by decide +kernel
theorem dX3_blackIn_11 : decode cX3_blackIn 11 = .ok (.iload 4, 2) := by decide +kernel
theorem dX3_blackIn_13 : decode cX3_blackIn 13 = .ok (.aload_n 0, 1) := by decide +kernel
theorem dX3_blackIn_14 : decode cX3_blackIn 14 = .ok (.getfield 52, 3) := by decide +kernel
theorem dX3_blackIn_17 : decode cX3_blackIn 17 = .ok (.if_icmp .ge 42, 3) := by decide +kernel
theorem dX3_blackIn_20 : decode cX3_blackIn 20 = .ok (.aload_n 0, 1) := by decide +kernel
theorem dX3_blackIn_21 : decode cX3_blackIn 21 = .ok (.getfield 9, 3) := by decide +kernel
theorem dX3_blackIn_24 : decode cX3_blackIn 24 = .ok (.iload 4, 2) := by decide +kernel
theorem dX3_blackIn_26 : decode cX3_blackIn 26 = .ok (.iaload, 1) := by decide +kernel
theorem dX3_blackIn_27 : decode cX3_blackIn 27 = .ok (.iconst 1, 1) := by decide +kernel
theorem dX3_blackIn_28 : decode cX3_blackIn 28 = .ok (.invokestatic 95, 3) := by decide +kernel
theorem dX3_blackIn_31 : decode cX3_blackIn 31 = .ok (.ifCond .eq 22, 3) := by decide +kernel
theorem dX3_blackIn_34 : decode cX3_blackIn 34 = .ok (.aload_n 0, 1) := by decide +kernel
theorem dX3_blackIn_35 : decode cX3_blackIn 35 = .ok (.getfield 27, 3) := by decide +kernel
theorem dX3_blackIn_38 : decode cX3_blackIn 38 = .ok (.iload 4, 2) := by decide +kernel
theorem dX3_blackIn_40 : decode cX3_blackIn 40 = .ok (.iaload, 1) := by decide +kernel
theorem dX3_blackIn_41 : decode cX3_blackIn 41 = .ok (.iload_n 2, 1) := by decide +kernel
theorem dX3_blackIn_42 : decode cX3_blackIn 42 = .ok (.iand, 1) := by decide +kernel
theorem dX3_blackIn_43 : decode cX3_blackIn 43 = .ok (.ifCond .eq 10, 3) := by decide +kernel
theorem dX3_blackIn_46 : decode cX3_blackIn 46 = .ok (.iload_n 3, 1) := by decide +kernel
theorem dX3_blackIn_47 : decode cX3_blackIn 47 = .ok (.iconst 1, 1) := by decide +kernel
theorem dX3_blackIn_48 : decode cX3_blackIn 48 = .ok (.iload 4, 2) := by decide +kernel
theorem dX3_blackIn_50 : decode cX3_blackIn 50 = .ok (.ishl, 1) := by decide +kernel
theorem dX3_blackIn_51 : decode cX3_blackIn 51 = .ok (.ior, 1) := by decide +kernel
theorem dX3_blackIn_52 : decode cX3_blackIn 52 = .ok (.istore_n 3, 1) := by decide +kernel
theorem dX3_blackIn_53 : decode cX3_blackIn 53 = .ok (.iinc 4 1, 3) := by decide +kernel
theorem dX3_blackIn_56 : decode cX3_blackIn 56 = .ok (.goto (-45), 3) := by decide +kernel
theorem dX3_blackIn_59 : decode cX3_blackIn 59 = .ok (.iconst 0, 1) := by decide +kernel
theorem dX3_blackIn_60 : decode cX3_blackIn 60 = .ok (.istore 4, 2) := by decide +kernel
theorem dX3_blackIn_62 : decode cX3_blackIn 62 = .ok (.iload 4, 2) := by decide +kernel
theorem dX3_blackIn_64 : decode cX3_blackIn 64 = .ok (.aload_n 0, 1) := by decide +kernel
theorem dX3_blackIn_65 : decode cX3_blackIn 65 = .ok (.getfield 52, 3) := by decide +kernel
theorem dX3_blackIn_68 : decode cX3_blackIn 68 = .ok (.if_icmp .ge 28, 3) := by decide +kernel
theorem dX3_blackIn_71 : decode cX3_blackIn 71 = .ok (.aload_n 0, 1) := by decide +kernel
theorem dX3_blackIn_72 : decode cX3_blackIn 72 = .ok (.iload_n 3, 1) := by decide +kernel
theorem dX3_blackIn_73 : decode cX3_blackIn 73 = .ok (.invokevirtual 148, 3) := by decide +kernel
theorem dX3_blackIn_76 : decode cX3_blackIn 76 = .ok (.istore 5, 2) := by decide +kernel
theorem dX3_blackIn_78 : decode cX3_blackIn 78 = .ok (.iload 5, 2) := by decide +kernel
theorem dX3_blackIn_80 : decode cX3_blackIn 80 = .ok (.iload_n 3, 1) := by decide +kernel
theorem dX3_blackIn_81 : decode cX3_blackIn 81 = .ok (.if_icmp .ne 6, 3) := by decide +kernel
theorem dX3_blackIn_84 : decode cX3_blackIn 84 = .ok (.goto 12, 3) := by decide +kernel
theorem dX3_blackIn_87 : decode cX3_blackIn 87 = .ok (.iload 5, 2) := by decide +kernel
theorem dX3_blackIn_89 : decode cX3_blackIn 89 = .ok (.istore_n 3, 1) := by decide +kernel
theorem dX3_blackIn_90 : decode cX3_blackIn 90 = .ok (.iinc 4 1, 3) := by decide +kernel
theorem dX3_blackIn_93 : decode cX3_blackIn 93 = .ok (.goto (-31), 3) := by decide +kernel
theorem dX3_blackIn_96 : decode cX3_blackIn 96 = .ok (.iload_n 3, 1) := by decide +kernel
theorem dX3_blackIn_97 : decode cX3_blackIn 97 = .ok (.ireturn, 1) := by decide +kernel
theorem dX3_blackenCourtly_0 : decode cX3_blackenCourtly 0 = .ok (.iload_n 1, 1) := by decide +kernel
theorem dX3_blackenCourtly_1 : decode cX3_blackenCourtly 1 = .ok (.istore_n 2, 1) := by decide +kernel
theorem dX3_blackenCourtly_2 : decode cX3_blackenCourtly 2 = .ok (.iconst 0, 1) := by decide +kernel
theorem dX3_blackenCourtly_3 : decode cX3_blackenCourtly 3 = .ok (.istore_n 3, 1) := by decide +kernel
theorem dX3_blackenCourtly_4 : decode cX3_blackenCourtly 4 = .ok (.iload_n 3, 1) := by decide +kernel
theorem dX3_blackenCourtly_5 : decode cX3_blackenCourtly 5 = .ok (.aload_n 0, 1) := by decide +kernel
theorem dX3_blackenCourtly_6 : decode cX3_blackenCourtly 6 = .ok (.getfield 52, 3) := by decide +kernel
theorem dX3_blackenCourtly_9 : decode cX3_blackenCourtly 9 = .ok (.if_icmp .ge 36, 3) := by decide +kernel
theorem dX3_blackenCourtly_12 : decode cX3_blackenCourtly 12 = .ok (.aload_n 0, 1) := by decide +kernel
theorem dX3_blackenCourtly_13 : decode cX3_blackenCourtly 13 = .ok (.getfield 9, 3) := by decide +kernel
theorem dX3_blackenCourtly_16 : decode cX3_blackenCourtly 16 = .ok (.iload_n 3, 1) := by decide +kernel
theorem dX3_blackenCourtly_17 : decode cX3_blackenCourtly 17 = .ok (.iaload, 1) := by decide +kernel
theorem dX3_blackenCourtly_18 : decode cX3_blackenCourtly 18 = .ok (.iconst 3, 1) := by decide +kernel
theorem dX3_blackenCourtly_19 : decode cX3_blackenCourtly 19 = .ok (.if_icmp .ne 20, 3) := by decide +kernel
theorem dX3_blackenCourtly_22 : decode cX3_blackenCourtly 22 = .ok (.aload_n 0, 1) := by decide +kernel
theorem dX3_blackenCourtly_23 : decode cX3_blackenCourtly 23 = .ok (.getfield 27, 3) := by decide +kernel
theorem dX3_blackenCourtly_26 : decode cX3_blackenCourtly 26 = .ok (.iload_n 3, 1) := by decide +kernel
theorem dX3_blackenCourtly_27 : decode cX3_blackenCourtly 27 = .ok (.iaload, 1) := by decide +kernel
theorem dX3_blackenCourtly_28 : decode cX3_blackenCourtly 28 = .ok (.iload_n 2, 1) := by decide +kernel
theorem dX3_blackenCourtly_29 : decode cX3_blackenCourtly 29 = .ok (.iand, 1) := by decide +kernel
theorem dX3_blackenCourtly_30 : decode cX3_blackenCourtly 30 = .ok (.ifCond .eq 9, 3) := by decide +kernel
theorem dX3_blackenCourtly_33 : decode cX3_blackenCourtly 33 = .ok (.iload_n 2, 1) := by decide +kernel
theorem dX3_blackenCourtly_34 : decode cX3_blackenCourtly 34 = .ok (.iconst 1, 1) := by decide +kernel
theorem dX3_blackenCourtly_35 : decode cX3_blackenCourtly 35 = .ok (.iload_n 3, 1) := by decide +kernel
theorem dX3_blackenCourtly_36 : decode cX3_blackenCourtly 36 = .ok (.ishl, 1) := by decide +kernel
theorem dX3_blackenCourtly_37 : decode cX3_blackenCourtly 37 = .ok (.ior, 1) := by decide +kernel
theorem dX3_blackenCourtly_38 : decode cX3_blackenCourtly 38 = .ok (.istore_n 2, 1) := by decide +kernel
theorem dX3_blackenCourtly_39 : decode cX3_blackenCourtly 39 = .ok (.iinc 3 1, 3) := by decide +kernel
theorem dX3_blackenCourtly_42 : decode cX3_blackenCourtly 42 = .ok (.goto (-38), 3) := by decide +kernel
theorem dX3_blackenCourtly_45 : decode cX3_blackenCourtly 45 = .ok (.iload_n 2, 1) := by decide +kernel
theorem dX3_blackenCourtly_46 : decode cX3_blackenCourtly 46 = .ok (.ireturn, 1) := by decide +kernel
theorem dX3_milkOf_0 : decode cX3_milkOf 0 = .ok (.aload_n 0, 1) := by decide +kernel
theorem dX3_milkOf_1 : decode cX3_milkOf 1 = .ok (.getfield 45, 3) := by decide +kernel
theorem dX3_milkOf_4 : decode cX3_milkOf 4 = .ok (.iload_n 1, 1) := by decide +kernel
theorem dX3_milkOf_5 : decode cX3_milkOf 5 = .ok (.iaload, 1) := by decide +kernel
theorem dX3_milkOf_6 : decode cX3_milkOf 6 = .ok (.iload_n 2, 1) := by decide +kernel
theorem dX3_milkOf_7 : decode cX3_milkOf 7 = .ok (.iand, 1) := by decide +kernel
theorem dX3_milkOf_8 : decode cX3_milkOf 8 = .ok (.ifCond .ne 12, 3) := by decide +kernel
theorem dX3_milkOf_11 : decode cX3_milkOf 11 = .ok (.aload_n 0, 1) := by decide +kernel
theorem dX3_milkOf_12 : decode cX3_milkOf 12 = .ok (.getfield 42, 3) := by decide +kernel
theorem dX3_milkOf_15 : decode cX3_milkOf 15 = .ok (.iload_n 1, 1) := by decide +kernel
theorem dX3_milkOf_16 : decode cX3_milkOf 16 = .ok (.iaload, 1) := by decide +kernel
theorem dX3_milkOf_17 : decode cX3_milkOf 17 = .ok (.goto 4, 3) := by decide +kernel
theorem dX3_milkOf_20 : decode cX3_milkOf 20 = .ok (.iconst 0, 1) := by decide +kernel
theorem dX3_milkOf_21 : decode cX3_milkOf 21 = .ok (.ireturn, 1) := by decide +kernel
theorem dX3_milkOfAll_0 : decode cX3_milkOfAll 0 = .ok (.iconst 0, 1) := by decide +kernel
theorem dX3_milkOfAll_1 : decode cX3_milkOfAll 1 = .ok (.istore_n 2, 1) := by decide +kernel
theorem dX3_milkOfAll_2 : decode cX3_milkOfAll 2 = .ok (.iconst 0, 1) := by decide +kernel
theorem dX3_milkOfAll_3 : decode cX3_milkOfAll 3 = .ok (.istore_n 3, 1) := by decide +kernel
theorem dX3_milkOfAll_4 : decode cX3_milkOfAll 4 = .ok (.iload_n 3, 1) := by decide +kernel
theorem dX3_milkOfAll_5 : decode cX3_milkOfAll 5 = .ok (.aload_n 0, 1) := by decide +kernel
theorem dX3_milkOfAll_6 : decode cX3_milkOfAll 6 = .ok (.getfield 67, 3) := by decide +kernel
theorem dX3_milkOfAll_9 : decode cX3_milkOfAll 9 = .ok (.if_icmp .ge 18, 3) := by decide +kernel
theorem dX3_milkOfAll_12 : decode cX3_milkOfAll 12 = .ok (.iload_n 2, 1) := by decide +kernel
theorem dX3_milkOfAll_13 : decode cX3_milkOfAll 13 = .ok (.aload_n 0, 1) := by decide +kernel
theorem dX3_milkOfAll_14 : decode cX3_milkOfAll 14 = .ok (.iload_n 3, 1) := by decide +kernel
theorem dX3_milkOfAll_15 : decode cX3_milkOfAll 15 = .ok (.iload_n 1, 1) := by decide +kernel
theorem dX3_milkOfAll_16 : decode cX3_milkOfAll 16 = .ok (.invokevirtual 151, 3) := by decide +kernel
theorem dX3_milkOfAll_19 : decode cX3_milkOfAll 19 = .ok (.iadd, 1) := by decide +kernel
theorem dX3_milkOfAll_20 : decode cX3_milkOfAll 20 = .ok (.istore_n 2, 1) := by decide +kernel
theorem dX3_milkOfAll_21 : decode cX3_milkOfAll 21 = .ok (.iinc 3 1, 3) := by decide +kernel
theorem dX3_milkOfAll_24 : decode cX3_milkOfAll 24 = .ok (.goto (-20), 3) := by decide +kernel
theorem dX3_milkOfAll_27 : decode cX3_milkOfAll 27 = .ok (.iload_n 2, 1) := by decide +kernel
theorem dX3_milkOfAll_28 : decode cX3_milkOfAll 28 = .ok (.ireturn, 1) := by decide +kernel
theorem dX3_draw_0 : decode cX3_draw 0 = .ok (.aload_n 0, 1) := by decide +kernel
theorem dX3_draw_1 : decode cX3_draw 1 = .ok (.aload_n 0, 1) := by decide +kernel
theorem dX3_draw_2 : decode cX3_draw 2 = .ok (.getfield 48, 3) := by decide +kernel
theorem dX3_draw_5 : decode cX3_draw 5 = .ok (.ldc 154, 2) := by decide +kernel
theorem dX3_draw_7 : decode cX3_draw 7 = .ok (.imul, 1) := by decide +kernel
theorem dX3_draw_8 : decode cX3_draw 8 = .ok (.sipush 12345, 3) := by decide +kernel
theorem dX3_draw_11 : decode cX3_draw 11 = .ok (.iadd, 1) := by decide +kernel
theorem dX3_draw_12 : decode cX3_draw 12 = .ok (.putfield 48, 3) := by decide +kernel
theorem dX3_draw_15 : decode cX3_draw 15 = .ok (.iload_n 1, 1) := by decide +kernel
theorem dX3_draw_16 : decode cX3_draw 16 = .ok (.ifCond .le 15, 3) := by decide +kernel
theorem dX3_draw_19 : decode cX3_draw 19 = .ok (.aload_n 0, 1) := by decide +kernel
theorem dX3_draw_20 : decode cX3_draw 20 = .ok (.getfield 48, 3) := by decide +kernel
theorem dX3_draw_23 : decode cX3_draw 23 = .ok (.bipush 16, 2) := by decide +kernel
theorem dX3_draw_25 : decode cX3_draw 25 = .ok (.iushr, 1) := by decide +kernel
theorem dX3_draw_26 : decode cX3_draw 26 = .ok (.iload_n 1, 1) := by decide +kernel
theorem dX3_draw_27 : decode cX3_draw 27 = .ok (.irem, 1) := by decide +kernel
theorem dX3_draw_28 : decode cX3_draw 28 = .ok (.goto 4, 3) := by decide +kernel
theorem dX3_draw_31 : decode cX3_draw 31 = .ok (.iconst 0, 1) := by decide +kernel
theorem dX3_draw_32 : decode cX3_draw 32 = .ok (.ireturn, 1) := by decide +kernel
theorem dX3_standingAt_0 : decode cX3_standingAt 0 = .ok (.iconst 0, 1) := by decide +kernel
theorem dX3_standingAt_1 : decode cX3_standingAt 1 = .ok (.istore_n 2, 1) := by decide +kernel
theorem dX3_standingAt_2 : decode cX3_standingAt 2 = .ok (.iconst 0, 1) := by decide +kernel
theorem dX3_standingAt_3 : decode cX3_standingAt 3 = .ok (.istore_n 3, 1) := by decide +kernel
theorem dX3_standingAt_4 : decode cX3_standingAt 4 = .ok (.iload_n 3, 1) := by decide +kernel
theorem dX3_standingAt_5 : decode cX3_standingAt 5 = .ok (.aload_n 0, 1) := by decide +kernel
theorem dX3_standingAt_6 : decode cX3_standingAt 6 = .ok (.getfield 52, 3) := by decide +kernel
theorem dX3_standingAt_9 : decode cX3_standingAt 9 = .ok (.if_icmp .ge 27, 3) := by decide +kernel
theorem dX3_standingAt_12 : decode cX3_standingAt 12 = .ok (.aload_n 0, 1) := by decide +kernel
theorem dX3_standingAt_13 : decode cX3_standingAt 13 = .ok (.iload_n 3, 1) := by decide +kernel
theorem dX3_standingAt_14 : decode cX3_standingAt 14 = .ok (.invokevirtual 81, 3) := by decide +kernel
theorem dX3_standingAt_17 : decode cX3_standingAt 17 = .ok (.ifCond .eq 13, 3) := by decide +kernel
theorem dX3_standingAt_20 : decode cX3_standingAt 20 = .ok (.iload_n 2, 1) := by decide +kernel
theorem dX3_standingAt_21 : decode cX3_standingAt 21 = .ok (.iload_n 1, 1) := by decide +kernel
theorem dX3_standingAt_22 : decode cX3_standingAt 22 = .ok (.if_icmp .ne 5, 3) := by decide +kernel
theorem dX3_standingAt_25 : decode cX3_standingAt 25 = .ok (.iload_n 3, 1) := by decide +kernel
theorem dX3_standingAt_26 : decode cX3_standingAt 26 = .ok (.ireturn, 1) := by decide +kernel
theorem dX3_standingAt_27 : decode cX3_standingAt 27 = .ok (.iinc 2 1, 3) := by decide +kernel
theorem dX3_standingAt_30 : decode cX3_standingAt 30 = .ok (.iinc 3 1, 3) := by decide +kernel
theorem dX3_standingAt_33 : decode cX3_standingAt 33 = .ok (.goto (-29), 3) := by decide +kernel
theorem dX3_standingAt_36 : decode cX3_standingAt 36 = .ok (.iconst (-1), 1) := by decide +kernel
theorem dX3_standingAt_37 : decode cX3_standingAt 37 = .ok (.ireturn, 1) := by decide +kernel
theorem dX4_init_0 : decode cX4_init 0 = .ok (.aload_n 0, 1) := by decide +kernel
theorem dX4_init_1 : decode cX4_init 1 = .ok (.invokespecial 3, 3) := by decide +kernel
theorem dX4_init_4 : decode cX4_init 4 = .ok (.aload_n 0, 1) := by decide +kernel
theorem dX4_init_5 : decode cX4_init 5 = .ok (.iconst (-1), 1) := by decide +kernel
theorem dX4_init_6 : decode cX4_init 6 = .ok (.putfield 9, 3) := by decide +kernel
theorem dX4_init_9 : decode cX4_init 9 = .ok (.aload_n 0, 1) := by decide +kernel
theorem dX4_init_10 : decode cX4_init 10 = .ok (.iconst 4, 1) := by decide +kernel
theorem dX4_init_11 : decode cX4_init 11 = .ok (.newarray .int, 2) := by decide +kernel
theorem dX4_init_13 : decode cX4_init 13 = .ok (.putfield 15, 3) := by decide +kernel
theorem dX4_init_16 : decode cX4_init 16 = .ok (.return_, 1) := by decide +kernel
theorem dX4_begin_0 : decode cX4_begin 0 = .ok (.aload_n 0, 1) := by decide +kernel
theorem dX4_begin_1 : decode cX4_begin 1 = .ok (.aload_n 1, 1) := by decide +kernel
theorem dX4_begin_2 : decode cX4_begin 2 = .ok (.putfield 19, 3) := by decide +kernel
theorem dX4_begin_5 : decode cX4_begin 5 = .ok (.aload_n 0, 1) := by decide +kernel
theorem dX4_begin_6 : decode cX4_begin 6 = .ok (.iconst 0, 1) := by decide +kernel
theorem dX4_begin_7 : decode cX4_begin 7 = .ok (.putfield 23, 3) := by decide +kernel
theorem dX4_begin_10 : decode cX4_begin 10 = .ok (.aload_n 0, 1) := by decide +kernel
theorem dX4_begin_11 : decode cX4_begin 11 = .ok (.iconst (-1), 1) := by decide +kernel
theorem dX4_begin_12 : decode cX4_begin 12 = .ok (.putfield 9, 3) := by decide +kernel
theorem dX4_begin_15 : decode cX4_begin 15 = .ok (.return_, 1) := by decide +kernel
theorem dX4_readItem_0 : decode cX4_readItem 0 = .ok (.aload_n 0, 1) := by decide +kernel
theorem dX4_readItem_1 : decode cX4_readItem 1 = .ok (.getfield 23, 3) := by decide +kernel
theorem dX4_readItem_4 : decode cX4_readItem 4 = .ok (.istore_n 2, 1) := by decide +kernel
theorem dX4_readItem_5 : decode cX4_readItem 5 = .ok (.aload_n 0, 1) := by decide +kernel
theorem dX4_readItem_6 : decode cX4_readItem 6 = .ok (.aload_n 0, 1) := by decide +kernel
theorem dX4_readItem_7 : decode cX4_readItem 7 = .ok (.invokevirtual 26, 3) := by decide +kernel
theorem dX4_readItem_10 : decode cX4_readItem 10 = .ok (.putfield 30, 3) := by decide +kernel
theorem dX4_readItem_13 : decode cX4_readItem 13 = .ok (.aload_n 0, 1) := by decide +kernel
theorem dX4_readItem_14 : decode cX4_readItem 14 = .ok (.getfield 30, 3) := by decide +kernel
theorem dX4_readItem_17 : decode cX4_readItem 17 = .ok (.iconst (-1), 1) := by decide +kernel
theorem dX4_readItem_18 : decode cX4_readItem 18 = .ok (.if_icmp .ne 12, 3) := by decide +kernel
theorem dX4_readItem_21 : decode cX4_readItem 21 = .ok (.aload_n 0, 1) := by decide +kernel
theorem dX4_readItem_22 : decode cX4_readItem 22 = .ok (.aload_n 0, 1) := by decide +kernel
theorem dX4_readItem_23 : decode cX4_readItem 23 = .ok (.getfield 23, 3) := by decide +kernel
theorem dX4_readItem_26 : decode cX4_readItem 26 = .ok (.invokevirtual 33, 3) := by decide +kernel
theorem dX4_readItem_29 : decode cX4_readItem 29 = .ok (.ireturn, 1) := by decide +kernel
theorem dX4_readItem_30 : decode cX4_readItem 30 = .ok (.aload_n 0, 1) := by decide +kernel
theorem dX4_readItem_31 : decode cX4_readItem 31 = .ok (.getfield 30, 3) := by decide +kernel
theorem dX4_readItem_34 : decode cX4_readItem 34 = .ok (.invokestatic 37, 3) := by decide +kernel
theorem dX4_readItem_37 : decode cX4_readItem 37 = .ok (.astore_n 3, 1) := by decide +kernel
theorem dX4_readItem_38 : decode cX4_readItem 38 = .ok (.iconst 0, 1) := by decide +kernel
theorem dX4_readItem_39 : decode cX4_readItem 39 = .ok (.istore 4, 2) := by decide +kernel
theorem dX4_readItem_41 : decode cX4_readItem 41 = .ok (.iload 4, 2) := by decide +kernel
theorem dX4_readItem_43 : decode cX4_readItem 43 = .ok (.aload_n 3, 1) := by decide +kernel
theorem dX4_readItem_44 : decode cX4_readItem 44 = .ok (.invokevirtual 41, 3) := by decide +kernel
theorem dX4_readItem_47 : decode cX4_readItem 47 = .ok (.if_icmp .ge 24, 3) := by decide +kernel
theorem dX4_readItem_50 : decode cX4_readItem 50 = .ok (.aload_n 0, 1) := by decide +kernel
theorem dX4_readItem_51 : decode cX4_readItem 51 = .ok (.aload_n 3, 1) := by decide +kernel
theorem dX4_readItem_52 : decode cX4_readItem 52 = .ok (.iload 4, 2) := by decide +kernel
theorem dX4_readItem_54 : decode cX4_readItem 54 = .ok (.invokevirtual 46, 3) := by decide +kernel
theorem dX4_readItem_57 : decode cX4_readItem 57 = .ok (.invokevirtual 50, 3) := by decide +kernel
theorem dX4_readItem_60 : decode cX4_readItem 60 = .ok (.ifCond .ne 5, 3) := by decide +kernel
theorem dX4_readItem_63 : decode cX4_readItem 63 = .ok (.iconst 0, 1) := by decide +kernel
theorem dX4_readItem_64 : decode cX4_readItem 64 = .ok (.ireturn, 1) := by decide +kernel
theorem dX4_readItem_65 : decode cX4_readItem 65 = .ok (.iinc 4 1, 3) := by decide +kernel
theorem dX4_readItem_68 : decode cX4_readItem 68 = .ok (.goto (-27), 3) := by decide +kernel
theorem dX4_readItem_71 : decode cX4_readItem 71 = .ok (.aload_n 0, 1) := by decide +kernel
theorem dX4_readItem_72 : decode cX4_readItem 72 = .ok (.aload_n 1, 1) := by decide +kernel
theorem dX4_readItem_73 : decode cX4_readItem 73 = .ok (.invokevirtual 53, 3) := by decide +kernel
theorem dX4_readItem_76 : decode cX4_readItem 76 = .ok (.ifCond .ne 9, 3) := by decide +kernel
theorem dX4_readItem_79 : decode cX4_readItem 79 = .ok (.aload_n 0, 1) := by decide +kernel
theorem dX4_readItem_80 : decode cX4_readItem 80 = .ok (.iload_n 2, 1) := by decide +kernel
theorem dX4_readItem_81 : decode cX4_readItem 81 = .ok (.invokevirtual 33, 3) := by decide +kernel
theorem dX4_readItem_84 : decode cX4_readItem 84 = .ok (.ireturn, 1) := by decide +kernel
theorem dX4_readItem_85 : decode cX4_readItem 85 = .ok (.iconst 0, 1) := by decide +kernel
theorem dX4_readItem_86 : decode cX4_readItem 86 = .ok (.istore 4, 2) := by decide +kernel
theorem dX4_readItem_88 : decode cX4_readItem 88 = .ok (.iload 4, 2) := by decide +kernel
theorem dX4_readItem_90 : decode cX4_readItem 90 = .ok (.getstatic 57, 3) := by decide +kernel
theorem dX4_readItem_93 : decode cX4_readItem 93 = .ok (.aload_n 0, 1) := by decide +kernel
theorem dX4_readItem_94 : decode cX4_readItem 94 = .ok (.getfield 30, 3) := by decide +kernel
theorem dX4_readItem_97 : decode cX4_readItem 97 = .ok (.iaload, 1) := by decide +kernel
theorem dX4_readItem_98 : decode cX4_readItem 98 = .ok (.if_icmp .ge 30, 3) := by decide +kernel
theorem dX4_readItem_101 : decode cX4_readItem 101 = .ok (.aload_n 0, 1) := by decide +kernel
theorem dX4_readItem_102 : decode cX4_readItem 102 = .ok (.bipush 32, 2) := by decide +kernel
theorem dX4_readItem_104 : decode cX4_readItem 104 = .ok (.invokevirtual 50, 3) := by decide +kernel
theorem dX4_readItem_107 : decode cX4_readItem 107 = .ok (.ifCond .eq 13, 3) := by decide +kernel
theorem dX4_readItem_110 : decode cX4_readItem 110 = .ok (.aload_n 0, 1) := by decide +kernel
theorem dX4_readItem_111 : decode cX4_readItem 111 = .ok (.aload_n 1, 1) := by decide +kernel
theorem dX4_readItem_112 : decode cX4_readItem 112 = .ok (.iload 4, 2) := by decide +kernel
theorem dX4_readItem_114 : decode cX4_readItem 114 = .ok (.invokevirtual 60, 3) := by decide +kernel
theorem dX4_readItem_117 : decode cX4_readItem 117 = .ok (.ifCond .ne 5, 3) := by decide +kernel
theorem dX4_readItem_120 : decode cX4_readItem 120 = .ok (.iconst 0, 1) := by decide +kernel
theorem dX4_readItem_121 : decode cX4_readItem 121 = .ok (.ireturn, 1) := by decide +kernel
theorem dX4_readItem_122 : decode cX4_readItem 122 = .ok (.iinc 4 1, 3) := by decide +kernel
theorem dX4_readItem_125 : decode cX4_readItem 125 = .ok (.goto (-37), 3) := by decide +kernel
theorem dX4_readItem_128 : decode cX4_readItem 128 = .ok (.iconst 1, 1) := by decide +kernel
theorem dX4_readItem_129 : decode cX4_readItem 129 = .ok (.ireturn, 1) := by decide +kernel
theorem dX4_goesOn_0 : decode cX4_goesOn 0 = .ok (.aload_n 0, 1) := by decide +kernel
theorem dX4_goesOn_1 : decode cX4_goesOn 1 = .ok (.getfield 19, 3) := by decide +kernel
theorem dX4_goesOn_4 : decode cX4_goesOn 4 = .ok (.ifnull 30, 3) := by decide +kernel
theorem dX4_goesOn_7 : decode cX4_goesOn 7 = .ok (.aload_n 0, 1) := by decide +kernel
theorem dX4_goesOn_8 : decode cX4_goesOn 8 = .ok (.getfield 23, 3) := by decide +kernel
theorem dX4_goesOn_11 : decode cX4_goesOn 11 = .ok (.aload_n 0, 1) := by decide +kernel
theorem dX4_goesOn_12 : decode cX4_goesOn 12 = .ok (.getfield 19, 3) := by decide +kernel
theorem dX4_goesOn_15 : decode cX4_goesOn 15 = .ok (.getfield 64, 3) := by decide +kernel
theorem dX4_goesOn_18 : decode cX4_goesOn 18 = .ok (.if_icmp .ge 16, 3) := by decide +kernel
theorem dX4_goesOn_21 : decode cX4_goesOn 21 = .ok (.aload_n 0, 1) := by decide +kernel
theorem dX4_goesOn_22 : decode cX4_goesOn 22 = .ok (.bipush 59, 2) := by decide +kernel
theorem dX4_goesOn_24 : decode cX4_goesOn 24 = .ok (.invokevirtual 50, 3) := by decide +kernel
theorem dX4_goesOn_27 : decode cX4_goesOn 27 = .ok (.ifCond .eq 7, 3) := by decide +kernel
theorem dX4_goesOn_30 : decode cX4_goesOn 30 = .ok (.iconst 1, 1) := by decide +kernel
theorem dX4_goesOn_31 : decode cX4_goesOn 31 = .ok (.goto 4, 3) := by decide +kernel
theorem dX4_goesOn_34 : decode cX4_goesOn 34 = .ok (.iconst 0, 1) := by decide +kernel
theorem dX4_goesOn_35 : decode cX4_goesOn 35 = .ok (.ireturn, 1) := by decide +kernel
theorem dX4_wordHere_0 : decode cX4_wordHere 0 = .ok (.iconst 0, 1) := by decide +kernel
theorem dX4_wordHere_1 : decode cX4_wordHere 1 = .ok (.istore_n 1, 1) := by decide +kernel
theorem dX4_wordHere_2 : decode cX4_wordHere 2 = .ok (.iload_n 1, 1) := by decide +kernel
theorem dX4_wordHere_3 : decode cX4_wordHere 3 = .ok (.bipush 6, 2) := by decide +kernel
theorem dX4_wordHere_5 : decode cX4_wordHere 5 = .ok (.if_icmp .ge 26, 3) := by decide +kernel
theorem dX4_wordHere_8 : decode cX4_wordHere 8 = .ok (.aload_n 0, 1) := by decide +kernel
theorem dX4_wordHere_9 : decode cX4_wordHere 9 = .ok (.invokevirtual 68, 3) := by decide +kernel
theorem dX4_wordHere_12 : decode cX4_wordHere 12 = .ok (.iload_n 1, 1) := by decide +kernel
theorem dX4_wordHere_13 : decode cX4_wordHere 13 = .ok (.invokestatic 37, 3) := by decide +kernel
theorem dX4_wordHere_16 : decode cX4_wordHere 16 = .ok (.iconst 0, 1) := by decide +kernel
theorem dX4_wordHere_17 : decode cX4_wordHere 17 = .ok (.invokevirtual 46, 3) := by decide +kernel
theorem dX4_wordHere_20 : decode cX4_wordHere 20 = .ok (.if_icmp .ne 5, 3) := by decide +kernel
theorem dX4_wordHere_23 : decode cX4_wordHere 23 = .ok (.iload_n 1, 1) := by decide +kernel
theorem dX4_wordHere_24 : decode cX4_wordHere 24 = .ok (.ireturn, 1) := by decide +kernel
theorem dX4_wordHere_25 : decode cX4_wordHere 25 = .ok (.iinc 1 1, 3) := by decide +kernel
theorem dX4_wordHere_28 : decode cX4_wordHere 28 = .ok (.goto (-26), 3) := by decide +kernel
theorem dX4_wordHere_31 : decode cX4_wordHere 31 = .ok (.iconst (-1), 1) := by decide +kernel
theorem dX4_wordHere_32 : decode cX4_wordHere 32 = .ok (.ireturn, 1) := by decide +kernel
theorem dX4_lettersOf_0 : decode cX4_lettersOf 0 = .ok (.iload_n 0, 1) := by decide +kernel
theorem dX4_lettersOf_1 : decode cX4_lettersOf 1 = .ok (.tableswitch 50 0 4 #[35, 38, 41, 44, 47], 35) := by decide +kernel
theorem dX4_lettersOf_36 : decode cX4_lettersOf 36 = .ok (.ldc 71, 2) := by decide +kernel
theorem dX4_lettersOf_38 : decode cX4_lettersOf 38 = .ok (.areturn, 1) := by decide +kernel
theorem dX4_lettersOf_39 : decode cX4_lettersOf 39 = .ok (.ldc 73, 2) := by decide +kernel
theorem dX4_lettersOf_41 : decode cX4_lettersOf 41 = .ok (.areturn, 1) := by decide +kernel
theorem dX4_lettersOf_42 : decode cX4_lettersOf 42 = .ok (.ldc 75, 2) := by decide +kernel
theorem dX4_lettersOf_44 : decode cX4_lettersOf 44 = .ok (.areturn, 1) := by decide +kernel
theorem dX4_lettersOf_45 : decode cX4_lettersOf 45 = .ok (.ldc 77, 2) := by decide +kernel
theorem dX4_lettersOf_47 : decode cX4_lettersOf 47 = .ok (.areturn, 1) := by decide +kernel
theorem dX4_lettersOf_48 : decode cX4_lettersOf 48 = .ok (.ldc 79, 2) := by decide +kernel
theorem dX4_lettersOf_50 : decode cX4_lettersOf 50 = .ok (.areturn, 1) := by decide +kernel
theorem dX4_lettersOf_51 : decode cX4_lettersOf 51 = .ok (.ldc 81, 2) := by decide +kernel
theorem dX4_lettersOf_53 : decode cX4_lettersOf 53 = .ok (.areturn, 1) := by decide +kernel
theorem dX4_hasRoom_0 : decode cX4_hasRoom 0 = .ok (.aload_n 0, 1) := by decide +kernel
theorem dX4_hasRoom_1 : decode cX4_hasRoom 1 = .ok (.getfield 30, 3) := by decide +kernel
theorem dX4_hasRoom_4 : decode cX4_hasRoom 4 = .ok (.tableswitch 73 0 2 #[28, 43, 58], 28) := by decide +kernel
theorem dX4_hasRoom_32 : decode cX4_hasRoom 32 = .ok (.aload_n 1, 1) := by decide +kernel
theorem dX4_hasRoom_33 : decode cX4_hasRoom 33 = .ok (.getfield 83, 3) := by decide +kernel
theorem dX4_hasRoom_36 : decode cX4_hasRoom 36 = .ok (.bipush 10, 2) := by decide +kernel
theorem dX4_hasRoom_38 : decode cX4_hasRoom 38 = .ok (.if_icmp .ge 7, 3) := by decide +kernel
theorem dX4_hasRoom_41 : decode cX4_hasRoom 41 = .ok (.iconst 1, 1) := by decide +kernel
theorem dX4_hasRoom_42 : decode cX4_hasRoom 42 = .ok (.goto 4, 3) := by decide +kernel
theorem dX4_hasRoom_45 : decode cX4_hasRoom 45 = .ok (.iconst 0, 1) := by decide +kernel
theorem dX4_hasRoom_46 : decode cX4_hasRoom 46 = .ok (.ireturn, 1) := by decide +kernel
theorem dX4_hasRoom_47 : decode cX4_hasRoom 47 = .ok (.aload_n 1, 1) := by decide +kernel
theorem dX4_hasRoom_48 : decode cX4_hasRoom 48 = .ok (.getfield 88, 3) := by decide +kernel
theorem dX4_hasRoom_51 : decode cX4_hasRoom 51 = .ok (.bipush 6, 2) := by decide +kernel
theorem dX4_hasRoom_53 : decode cX4_hasRoom 53 = .ok (.if_icmp .ge 7, 3) := by decide +kernel
theorem dX4_hasRoom_56 : decode cX4_hasRoom 56 = .ok (.iconst 1, 1) := by decide +kernel
theorem dX4_hasRoom_57 : decode cX4_hasRoom 57 = .ok (.goto 4, 3) := by decide +kernel
theorem dX4_hasRoom_60 : decode cX4_hasRoom 60 = .ok (.iconst 0, 1) := by decide +kernel
theorem dX4_hasRoom_61 : decode cX4_hasRoom 61 = .ok (.ireturn, 1) := by decide +kernel
theorem dX4_hasRoom_62 : decode cX4_hasRoom 62 = .ok (.aload_n 1, 1) := by decide +kernel
theorem dX4_hasRoom_63 : decode cX4_hasRoom 63 = .ok (.getfield 91, 3) := by decide +kernel
theorem dX4_hasRoom_66 : decode cX4_hasRoom 66 = .ok (.bipush 8, 2) := by decide +kernel
theorem dX4_hasRoom_68 : decode cX4_hasRoom 68 = .ok (.if_icmp .ge 7, 3) := by decide +kernel
theorem dX4_hasRoom_71 : decode cX4_hasRoom 71 = .ok (.iconst 1, 1) := by decide +kernel
theorem dX4_hasRoom_72 : decode cX4_hasRoom 72 = .ok (.goto 4, 3) := by decide +kernel
theorem dX4_hasRoom_75 : decode cX4_hasRoom 75 = .ok (.iconst 0, 1) := by decide +kernel
theorem dX4_hasRoom_76 : decode cX4_hasRoom 76 = .ok (.ireturn, 1) := by decide +kernel
theorem dX4_hasRoom_77 : decode cX4_hasRoom 77 = .ok (.iconst 1, 1) := by decide +kernel
theorem dX4_hasRoom_78 : decode cX4_hasRoom 78 = .ok (.ireturn, 1) := by decide +kernel
theorem dX4_readNumber_0 : decode cX4_readNumber 0 = .ok (.aload_n 0, 1) := by decide +kernel
theorem dX4_readNumber_1 : decode cX4_readNumber 1 = .ok (.getfield 23, 3) := by decide +kernel
theorem dX4_readNumber_4 : decode cX4_readNumber 4 = .ok (.istore_n 3, 1) := by decide +kernel
theorem dX4_readNumber_5 : decode cX4_readNumber 5 = .ok (.iconst 0, 1) := by decide +kernel
theorem dX4_readNumber_6 : decode cX4_readNumber 6 = .ok (.istore 4, 2) := by decide +kernel
theorem dX4_readNumber_8 : decode cX4_readNumber 8 = .ok (.aload_n 0, 1) := by decide +kernel
theorem dX4_readNumber_9 : decode cX4_readNumber 9 = .ok (.getfield 23, 3) := by decide +kernel
theorem dX4_readNumber_12 : decode cX4_readNumber 12 = .ok (.iload_n 3, 1) := by decide +kernel
theorem dX4_readNumber_13 : decode cX4_readNumber 13 = .ok (.isub, 1) := by decide +kernel
theorem dX4_readNumber_14 : decode cX4_readNumber 14 = .ok (.iconst 3, 1) := by decide +kernel
theorem dX4_readNumber_15 : decode cX4_readNumber 15 = .ok (.if_icmp .ge 36, 3) := by decide +kernel
theorem dX4_readNumber_18 : decode cX4_readNumber 18 = .ok (.aload_n 0, 1) := by decide +kernel
theorem dX4_readNumber_19 : decode cX4_readNumber 19 = .ok (.invokevirtual 94, 3) := by decide +kernel
theorem dX4_readNumber_22 : decode cX4_readNumber 22 = .ok (.iconst (-1), 1) := by decide +kernel
theorem dX4_readNumber_23 : decode cX4_readNumber 23 = .ok (.if_icmp .eq 28, 3) := by decide +kernel
theorem dX4_readNumber_26 : decode cX4_readNumber 26 = .ok (.bipush 10, 2) := by decide +kernel
theorem dX4_readNumber_28 : decode cX4_readNumber 28 = .ok (.iload 4, 2) := by decide +kernel
theorem dX4_readNumber_30 : decode cX4_readNumber 30 = .ok (.imul, 1) := by decide +kernel
theorem dX4_readNumber_31 : decode cX4_readNumber 31 = .ok (.aload_n 0, 1) := by decide +kernel
theorem dX4_readNumber_32 : decode cX4_readNumber 32 = .ok (.invokevirtual 94, 3) := by decide +kernel
theorem dX4_readNumber_35 : decode cX4_readNumber 35 = .ok (.iadd, 1) := by decide +kernel
theorem dX4_readNumber_36 : decode cX4_readNumber 36 = .ok (.istore 4, 2) := by decide +kernel
theorem dX4_readNumber_38 : decode cX4_readNumber 38 = .ok (.aload_n 0, 1) := by decide +kernel
theorem dX4_readNumber_39 : decode cX4_readNumber 39 = .ok (.dup, 1) := by decide +kernel
theorem dX4_readNumber_40 : decode cX4_readNumber 40 = .ok (.getfield 23, 3) := by decide +kernel
theorem dX4_readNumber_43 : decode cX4_readNumber 43 = .ok (.iconst 1, 1) := by decide +kernel
theorem dX4_readNumber_44 : decode cX4_readNumber 44 = .ok (.iadd, 1) := by decide +kernel
theorem dX4_readNumber_45 : decode cX4_readNumber 45 = .ok (.putfield 23, 3) := by decide +kernel
theorem dX4_readNumber_48 : decode cX4_readNumber 48 = .ok (.goto (-40), 3) := by decide +kernel
theorem dX4_readNumber_51 : decode cX4_readNumber 51 = .ok (.aload_n 0, 1) := by decide +kernel
theorem dX4_readNumber_52 : decode cX4_readNumber 52 = .ok (.getfield 23, 3) := by decide +kernel
theorem dX4_readNumber_55 : decode cX4_readNumber 55 = .ok (.iload_n 3, 1) := by decide +kernel
theorem dX4_readNumber_56 : decode cX4_readNumber 56 = .ok (.if_icmp .ne 12, 3) := by decide +kernel
theorem dX4_readNumber_59 : decode cX4_readNumber 59 = .ok (.aload_n 0, 1) := by decide +kernel
theorem dX4_readNumber_60 : decode cX4_readNumber 60 = .ok (.aload_n 0, 1) := by decide +kernel
theorem dX4_readNumber_61 : decode cX4_readNumber 61 = .ok (.getfield 23, 3) := by decide +kernel
theorem dX4_readNumber_64 : decode cX4_readNumber 64 = .ok (.invokevirtual 33, 3) := by decide +kernel
theorem dX4_readNumber_67 : decode cX4_readNumber 67 = .ok (.ireturn, 1) := by decide +kernel
theorem dX4_readNumber_68 : decode cX4_readNumber 68 = .ok (.aload_n 0, 1) := by decide +kernel
theorem dX4_readNumber_69 : decode cX4_readNumber 69 = .ok (.getfield 15, 3) := by decide +kernel
theorem dX4_readNumber_72 : decode cX4_readNumber 72 = .ok (.iload_n 2, 1) := by decide +kernel
theorem dX4_readNumber_73 : decode cX4_readNumber 73 = .ok (.iload 4, 2) := by decide +kernel
theorem dX4_readNumber_75 : decode cX4_readNumber 75 = .ok (.iastore, 1) := by decide +kernel
theorem dX4_readNumber_76 : decode cX4_readNumber 76 = .ok (.aload_n 0, 1) := by decide +kernel
theorem dX4_readNumber_77 : decode cX4_readNumber 77 = .ok (.aload_n 1, 1) := by decide +kernel
theorem dX4_readNumber_78 : decode cX4_readNumber 78 = .ok (.iload_n 2, 1) := by decide +kernel
theorem dX4_readNumber_79 : decode cX4_readNumber 79 = .ok (.iload 4, 2) := by decide +kernel
theorem dX4_readNumber_81 : decode cX4_readNumber 81 = .ok (.invokevirtual 97, 3) := by decide +kernel
theorem dX4_readNumber_84 : decode cX4_readNumber 84 = .ok (.ifCond .ne 11, 3) := by decide +kernel
theorem dX4_readNumber_87 : decode cX4_readNumber 87 = .ok (.aload_n 0, 1) := by decide +kernel
theorem dX4_readNumber_88 : decode cX4_readNumber 88 = .ok (.iload_n 3, 1) := by decide +kernel
theorem dX4_readNumber_89 : decode cX4_readNumber 89 = .ok (.invokevirtual 33, 3) := by decide +kernel
theorem dX4_readNumber_92 : decode cX4_readNumber 92 = .ok (.ifCond .eq 7, 3) := by decide +kernel
theorem dX4_readNumber_95 : decode cX4_readNumber 95 = .ok (.iconst 1, 1) := by decide +kernel
theorem dX4_readNumber_96 : decode cX4_readNumber 96 = .ok (.goto 4, 3) := by decide +kernel
theorem dX4_readNumber_99 : decode cX4_readNumber 99 = .ok (.iconst 0, 1) := by decide +kernel
theorem dX4_readNumber_100 : decode cX4_readNumber 100 = .ok (.ireturn, 1) := by decide +kernel
theorem dX4_mayBe_0 : decode cX4_mayBe 0 = .ok (.aload_n 0, 1) := by decide +kernel
theorem dX4_mayBe_1 : decode cX4_mayBe 1 = .ok (.getfield 30, 3) := by decide +kernel
theorem dX4_mayBe_4 : decode cX4_mayBe 4 = .ok (.tableswitch 108 0 4 #[36, 43, 59, 72, 90], 36) := by decide +kernel
theorem dX4_mayBe_40 : decode cX4_mayBe 40 = .ok (.aload_n 1, 1) := by decide +kernel
theorem dX4_mayBe_41 : decode cX4_mayBe 41 = .ok (.iload_n 2, 1) := by decide +kernel
theorem dX4_mayBe_42 : decode cX4_mayBe 42 = .ok (.iload_n 3, 1) := by decide +kernel
theorem dX4_mayBe_43 : decode cX4_mayBe 43 = .ok (.invokestatic 101, 3) := by decide +kernel
theorem dX4_mayBe_46 : decode cX4_mayBe 46 = .ok (.ireturn, 1) := by decide +kernel
theorem dX4_mayBe_47 : decode cX4_mayBe 47 = .ok (.iload_n 2, 1) := by decide +kernel
theorem dX4_mayBe_48 : decode cX4_mayBe 48 = .ok (.ifCond .ne 10, 3) := by decide +kernel
theorem dX4_mayBe_51 : decode cX4_mayBe 51 = .ok (.iload_n 3, 1) := by decide +kernel
theorem dX4_mayBe_52 : decode cX4_mayBe 52 = .ok (.invokestatic 104, 3) := by decide +kernel
theorem dX4_mayBe_55 : decode cX4_mayBe 55 = .ok (.goto 7, 3) := by decide +kernel
theorem dX4_mayBe_58 : decode cX4_mayBe 58 = .ok (.iload_n 3, 1) := by decide +kernel
theorem dX4_mayBe_59 : decode cX4_mayBe 59 = .ok (.invokestatic 107, 3) := by decide +kernel
theorem dX4_mayBe_62 : decode cX4_mayBe 62 = .ok (.ireturn, 1) := by decide +kernel
theorem dX4_mayBe_63 : decode cX4_mayBe 63 = .ok (.iload_n 3, 1) := by decide +kernel
theorem dX4_mayBe_64 : decode cX4_mayBe 64 = .ok (.sipush 999, 3) := by decide +kernel
theorem dX4_mayBe_67 : decode cX4_mayBe 67 = .ok (.if_icmp .gt 7, 3) := by decide +kernel
theorem dX4_mayBe_70 : decode cX4_mayBe 70 = .ok (.iconst 1, 1) := by decide +kernel
theorem dX4_mayBe_71 : decode cX4_mayBe 71 = .ok (.goto 4, 3) := by decide +kernel
theorem dX4_mayBe_74 : decode cX4_mayBe 74 = .ok (.iconst 0, 1) := by decide +kernel
theorem dX4_mayBe_75 : decode cX4_mayBe 75 = .ok (.ireturn, 1) := by decide +kernel
theorem dX4_mayBe_76 : decode cX4_mayBe 76 = .ok (.iload_n 2, 1) := by decide +kernel
theorem dX4_mayBe_77 : decode cX4_mayBe 77 = .ok (.ifCond .ne 11, 3) := by decide +kernel
theorem dX4_mayBe_80 : decode cX4_mayBe 80 = .ok (.aload_n 1, 1) := by decide +kernel
theorem dX4_mayBe_81 : decode cX4_mayBe 81 = .ok (.iload_n 3, 1) := by decide +kernel
theorem dX4_mayBe_82 : decode cX4_mayBe 82 = .ok (.invokevirtual 110, 3) := by decide +kernel
theorem dX4_mayBe_85 : decode cX4_mayBe 85 = .ok (.goto 8, 3) := by decide +kernel
theorem dX4_mayBe_88 : decode cX4_mayBe 88 = .ok (.aload_n 1, 1) := by decide +kernel
theorem dX4_mayBe_89 : decode cX4_mayBe 89 = .ok (.iload_n 3, 1) := by decide +kernel
theorem dX4_mayBe_90 : decode cX4_mayBe 90 = .ok (.invokevirtual 113, 3) := by decide +kernel
theorem dX4_mayBe_93 : decode cX4_mayBe 93 = .ok (.ireturn, 1) := by decide +kernel
theorem dX4_mayBe_94 : decode cX4_mayBe 94 = .ok (.iload_n 3, 1) := by decide +kernel
theorem dX4_mayBe_95 : decode cX4_mayBe 95 = .ok (.iconst 1, 1) := by decide +kernel
theorem dX4_mayBe_96 : decode cX4_mayBe 96 = .ok (.if_icmp .lt 14, 3) := by decide +kernel
theorem dX4_mayBe_99 : decode cX4_mayBe 99 = .ok (.iload_n 3, 1) := by decide +kernel
theorem dX4_mayBe_100 : decode cX4_mayBe 100 = .ok (.sipush 999, 3) := by decide +kernel
theorem dX4_mayBe_103 : decode cX4_mayBe 103 = .ok (.if_icmp .gt 7, 3) := by decide +kernel
theorem dX4_mayBe_106 : decode cX4_mayBe 106 = .ok (.iconst 1, 1) := by decide +kernel
theorem dX4_mayBe_107 : decode cX4_mayBe 107 = .ok (.goto 4, 3) := by decide +kernel
theorem dX4_mayBe_110 : decode cX4_mayBe 110 = .ok (.iconst 0, 1) := by decide +kernel
theorem dX4_mayBe_111 : decode cX4_mayBe 111 = .ok (.ireturn, 1) := by decide +kernel
theorem dX4_mayBe_112 : decode cX4_mayBe 112 = .ok (.aload_n 1, 1) := by decide +kernel
theorem dX4_mayBe_113 : decode cX4_mayBe 113 = .ok (.iload_n 3, 1) := by decide +kernel
theorem dX4_mayBe_114 : decode cX4_mayBe 114 = .ok (.invokevirtual 116, 3) := by decide +kernel
theorem dX4_mayBe_117 : decode cX4_mayBe 117 = .ok (.ireturn, 1) := by decide +kernel
theorem dX4_mayBeOfPeak_0 : decode cX4_mayBeOfPeak 0 = .ok (.iload_n 1, 1) := by decide +kernel
theorem dX4_mayBeOfPeak_1 : decode cX4_mayBeOfPeak 1 = .ok (.tableswitch 58 0 2 #[27, 32, 37], 27) := by decide +kernel
theorem dX4_mayBeOfPeak_28 : decode cX4_mayBeOfPeak 28 = .ok (.iload_n 2, 1) := by decide +kernel
theorem dX4_mayBeOfPeak_29 : decode cX4_mayBeOfPeak 29 = .ok (.invokestatic 119, 3) := by decide +kernel
theorem dX4_mayBeOfPeak_32 : decode cX4_mayBeOfPeak 32 = .ok (.ireturn, 1) := by decide +kernel
theorem dX4_mayBeOfPeak_33 : decode cX4_mayBeOfPeak 33 = .ok (.iload_n 2, 1) := by decide +kernel
theorem dX4_mayBeOfPeak_34 : decode cX4_mayBeOfPeak 34 = .ok (.invokestatic 122, 3) := by decide +kernel
theorem dX4_mayBeOfPeak_37 : decode cX4_mayBeOfPeak 37 = .ok (.ireturn, 1) := by decide +kernel
theorem dX4_mayBeOfPeak_38 : decode cX4_mayBeOfPeak 38 = .ok (.iload_n 2, 1) := by decide +kernel
theorem dX4_mayBeOfPeak_39 : decode cX4_mayBeOfPeak 39 = .ok (.invokestatic 104, 3) := by decide +kernel
theorem dX4_mayBeOfPeak_42 : decode cX4_mayBeOfPeak 42 = .ok (.ifCond .eq 15, 3) := by decide +kernel
theorem dX4_mayBeOfPeak_45 : decode cX4_mayBeOfPeak 45 = .ok (.aload_n 0, 1) := by decide +kernel
theorem dX4_mayBeOfPeak_46 : decode cX4_mayBeOfPeak 46 = .ok (.iload_n 2, 1) := by decide +kernel
theorem dX4_mayBeOfPeak_47 : decode cX4_mayBeOfPeak 47 = .ok (.invokevirtual 125, 3) := by decide +kernel
theorem dX4_mayBeOfPeak_50 : decode cX4_mayBeOfPeak 50 = .ok (.ifCond .ne 7, 3) := by decide +kernel
theorem dX4_mayBeOfPeak_53 : decode cX4_mayBeOfPeak 53 = .ok (.iconst 1, 1) := by decide +kernel
theorem dX4_mayBeOfPeak_54 : decode cX4_mayBeOfPeak 54 = .ok (.goto 4, 3) := by decide +kernel
theorem dX4_mayBeOfPeak_57 : decode cX4_mayBeOfPeak 57 = .ok (.iconst 0, 1) := by decide +kernel
theorem dX4_mayBeOfPeak_58 : decode cX4_mayBeOfPeak 58 = .ok (.ireturn, 1) := by decide +kernel
theorem dX4_mayBeOfPeak_59 : decode cX4_mayBeOfPeak 59 = .ok (.iload_n 2, 1) := by decide +kernel
theorem dX4_mayBeOfPeak_60 : decode cX4_mayBeOfPeak 60 = .ok (.invokestatic 107, 3) := by decide +kernel
theorem dX4_mayBeOfPeak_63 : decode cX4_mayBeOfPeak 63 = .ok (.ireturn, 1) := by decide +kernel
theorem dX4_comeTrue_0 : decode cX4_comeTrue 0 = .ok (.aload_n 0, 1) := by decide +kernel
theorem dX4_comeTrue_1 : decode cX4_comeTrue 1 = .ok (.getfield 30, 3) := by decide +kernel
theorem dX4_comeTrue_4 : decode cX4_comeTrue 4 = .ok (.tableswitch 140 0 4 #[36, 68, 88, 102, 122], 36) := by decide +kernel
theorem dX4_comeTrue_40 : decode cX4_comeTrue 40 = .ok (.aload_n 1, 1) := by decide +kernel
theorem dX4_comeTrue_41 : decode cX4_comeTrue 41 = .ok (.aload_n 0, 1) := by decide +kernel
theorem dX4_comeTrue_42 : decode cX4_comeTrue 42 = .ok (.getfield 15, 3) := by decide +kernel
theorem dX4_comeTrue_45 : decode cX4_comeTrue 45 = .ok (.iconst 0, 1) := by decide +kernel
theorem dX4_comeTrue_46 : decode cX4_comeTrue 46 = .ok (.iaload, 1) := by decide +kernel
theorem dX4_comeTrue_47 : decode cX4_comeTrue 47 = .ok (.aload_n 0, 1) := by decide +kernel
theorem dX4_comeTrue_48 : decode cX4_comeTrue 48 = .ok (.getfield 15, 3) := by decide +kernel
theorem dX4_comeTrue_51 : decode cX4_comeTrue 51 = .ok (.iconst 1, 1) := by decide +kernel
theorem dX4_comeTrue_52 : decode cX4_comeTrue 52 = .ok (.iaload, 1) := by decide +kernel
theorem dX4_comeTrue_53 : decode cX4_comeTrue 53 = .ok (.aload_n 0, 1) := by decide +kernel
theorem dX4_comeTrue_54 : decode cX4_comeTrue 54 = .ok (.getfield 15, 3) := by decide +kernel
theorem dX4_comeTrue_57 : decode cX4_comeTrue 57 = .ok (.iconst 2, 1) := by decide +kernel
theorem dX4_comeTrue_58 : decode cX4_comeTrue 58 = .ok (.iaload, 1) := by decide +kernel
theorem dX4_comeTrue_59 : decode cX4_comeTrue 59 = .ok (.aload_n 0, 1) := by decide +kernel
theorem dX4_comeTrue_60 : decode cX4_comeTrue 60 = .ok (.getfield 15, 3) := by decide +kernel
theorem dX4_comeTrue_63 : decode cX4_comeTrue 63 = .ok (.iconst 3, 1) := by decide +kernel
theorem dX4_comeTrue_64 : decode cX4_comeTrue 64 = .ok (.iaload, 1) := by decide +kernel
theorem dX4_comeTrue_65 : decode cX4_comeTrue 65 = .ok (.invokevirtual 128, 3) := by decide +kernel
theorem dX4_comeTrue_68 : decode cX4_comeTrue 68 = .ok (.pop, 1) := by decide +kernel
theorem dX4_comeTrue_69 : decode cX4_comeTrue 69 = .ok (.goto 86, 3) := by decide +kernel
theorem dX4_comeTrue_72 : decode cX4_comeTrue 72 = .ok (.aload_n 1, 1) := by decide +kernel
theorem dX4_comeTrue_73 : decode cX4_comeTrue 73 = .ok (.aload_n 0, 1) := by decide +kernel
theorem dX4_comeTrue_74 : decode cX4_comeTrue 74 = .ok (.getfield 15, 3) := by decide +kernel
theorem dX4_comeTrue_77 : decode cX4_comeTrue 77 = .ok (.iconst 0, 1) := by decide +kernel
theorem dX4_comeTrue_78 : decode cX4_comeTrue 78 = .ok (.iaload, 1) := by decide +kernel
theorem dX4_comeTrue_79 : decode cX4_comeTrue 79 = .ok (.aload_n 0, 1) := by decide +kernel
theorem dX4_comeTrue_80 : decode cX4_comeTrue 80 = .ok (.getfield 15, 3) := by decide +kernel
theorem dX4_comeTrue_83 : decode cX4_comeTrue 83 = .ok (.iconst 1, 1) := by decide +kernel
theorem dX4_comeTrue_84 : decode cX4_comeTrue 84 = .ok (.iaload, 1) := by decide +kernel
theorem dX4_comeTrue_85 : decode cX4_comeTrue 85 = .ok (.invokevirtual 132, 3) := by decide +kernel
theorem dX4_comeTrue_88 : decode cX4_comeTrue 88 = .ok (.pop, 1) := by decide +kernel
theorem dX4_comeTrue_89 : decode cX4_comeTrue 89 = .ok (.goto 66, 3) := by decide +kernel
theorem dX4_comeTrue_92 : decode cX4_comeTrue 92 = .ok (.aload_n 1, 1) := by decide +kernel
theorem dX4_comeTrue_93 : decode cX4_comeTrue 93 = .ok (.aload_n 0, 1) := by decide +kernel
theorem dX4_comeTrue_94 : decode cX4_comeTrue 94 = .ok (.getfield 15, 3) := by decide +kernel
theorem dX4_comeTrue_97 : decode cX4_comeTrue 97 = .ok (.iconst 0, 1) := by decide +kernel
theorem dX4_comeTrue_98 : decode cX4_comeTrue 98 = .ok (.iaload, 1) := by decide +kernel
theorem dX4_comeTrue_99 : decode cX4_comeTrue 99 = .ok (.invokevirtual 136, 3) := by decide +kernel
theorem dX4_comeTrue_102 : decode cX4_comeTrue 102 = .ok (.pop, 1) := by decide +kernel
theorem dX4_comeTrue_103 : decode cX4_comeTrue 103 = .ok (.goto 52, 3) := by decide +kernel
theorem dX4_comeTrue_106 : decode cX4_comeTrue 106 = .ok (.aload_n 1, 1) := by decide +kernel
theorem dX4_comeTrue_107 : decode cX4_comeTrue 107 = .ok (.aload_n 0, 1) := by decide +kernel
theorem dX4_comeTrue_108 : decode cX4_comeTrue 108 = .ok (.getfield 15, 3) := by decide +kernel
theorem dX4_comeTrue_111 : decode cX4_comeTrue 111 = .ok (.iconst 0, 1) := by decide +kernel
theorem dX4_comeTrue_112 : decode cX4_comeTrue 112 = .ok (.iaload, 1) := by decide +kernel
theorem dX4_comeTrue_113 : decode cX4_comeTrue 113 = .ok (.aload_n 0, 1) := by decide +kernel
theorem dX4_comeTrue_114 : decode cX4_comeTrue 114 = .ok (.getfield 15, 3) := by decide +kernel
theorem dX4_comeTrue_117 : decode cX4_comeTrue 117 = .ok (.iconst 1, 1) := by decide +kernel
theorem dX4_comeTrue_118 : decode cX4_comeTrue 118 = .ok (.iaload, 1) := by decide +kernel
theorem dX4_comeTrue_119 : decode cX4_comeTrue 119 = .ok (.iconst 1, 1) := by decide +kernel
theorem dX4_comeTrue_120 : decode cX4_comeTrue 120 = .ok (.invokevirtual 140, 3) := by decide +kernel
theorem dX4_comeTrue_123 : decode cX4_comeTrue 123 = .ok (.goto 32, 3) := by decide +kernel
theorem dX4_comeTrue_126 : decode cX4_comeTrue 126 = .ok (.aload_n 1, 1) := by decide +kernel
theorem dX4_comeTrue_127 : decode cX4_comeTrue 127 = .ok (.dup, 1) := by decide +kernel
theorem dX4_comeTrue_128 : decode cX4_comeTrue 128 = .ok (.getfield 144, 3) := by decide +kernel
theorem dX4_comeTrue_131 : decode cX4_comeTrue 131 = .ok (.aload_n 0, 1) := by decide +kernel
theorem dX4_comeTrue_132 : decode cX4_comeTrue 132 = .ok (.getfield 15, 3) := by decide +kernel
theorem dX4_comeTrue_135 : decode cX4_comeTrue 135 = .ok (.iconst 0, 1) := by decide +kernel
theorem dX4_comeTrue_136 : decode cX4_comeTrue 136 = .ok (.iaload, 1) := by decide +kernel
theorem dX4_comeTrue_137 : decode cX4_comeTrue 137 = .ok (.iadd, 1) := by decide +kernel
theorem dX4_comeTrue_138 : decode cX4_comeTrue 138 = .ok (.putfield 144, 3) := by decide +kernel
theorem dX4_comeTrue_141 : decode cX4_comeTrue 141 = .ok (.goto 14, 3) := by decide +kernel
theorem dX4_comeTrue_144 : decode cX4_comeTrue 144 = .ok (.aload_n 1, 1) := by decide +kernel
theorem dX4_comeTrue_145 : decode cX4_comeTrue 145 = .ok (.aload_n 0, 1) := by decide +kernel
theorem dX4_comeTrue_146 : decode cX4_comeTrue 146 = .ok (.getfield 15, 3) := by decide +kernel
theorem dX4_comeTrue_149 : decode cX4_comeTrue 149 = .ok (.iconst 0, 1) := by decide +kernel
theorem dX4_comeTrue_150 : decode cX4_comeTrue 150 = .ok (.iaload, 1) := by decide +kernel
theorem dX4_comeTrue_151 : decode cX4_comeTrue 151 = .ok (.invokevirtual 147, 3) := by decide +kernel
theorem dX4_comeTrue_154 : decode cX4_comeTrue 154 = .ok (.pop, 1) := by decide +kernel
theorem dX4_comeTrue_155 : decode cX4_comeTrue 155 = .ok (.return_, 1) := by decide +kernel
theorem dX4_elementHere_0 : decode cX4_elementHere 0 = .ok (.aload_n 0, 1) := by decide +kernel
theorem dX4_elementHere_1 : decode cX4_elementHere 1 = .ok (.getfield 19, 3) := by decide +kernel
theorem dX4_elementHere_4 : decode cX4_elementHere 4 = .ok (.ifnonnull 7, 3) := by decide +kernel
theorem dX4_elementHere_7 : decode cX4_elementHere 7 = .ok (.iconst 0, 1) := by decide +kernel
theorem dX4_elementHere_8 : decode cX4_elementHere 8 = .ok (.goto 14, 3) := by decide +kernel
theorem dX4_elementHere_11 : decode cX4_elementHere 11 = .ok (.aload_n 0, 1) := by decide +kernel
theorem dX4_elementHere_12 : decode cX4_elementHere 12 = .ok (.getfield 19, 3) := by decide +kernel
theorem dX4_elementHere_15 : decode cX4_elementHere 15 = .ok (.aload_n 0, 1) := by decide +kernel
theorem dX4_elementHere_16 : decode cX4_elementHere 16 = .ok (.getfield 23, 3) := by decide +kernel
theorem dX4_elementHere_19 : decode cX4_elementHere 19 = .ok (.invokevirtual 150, 3) := by decide +kernel
theorem dX4_elementHere_22 : decode cX4_elementHere 22 = .ok (.ireturn, 1) := by decide +kernel
theorem dX4_digitHere_0 : decode cX4_digitHere 0 = .ok (.aload_n 0, 1) := by decide +kernel
theorem dX4_digitHere_1 : decode cX4_digitHere 1 = .ok (.invokevirtual 68, 3) := by decide +kernel
theorem dX4_digitHere_4 : decode cX4_digitHere 4 = .ok (.bipush 48, 2) := by decide +kernel
theorem dX4_digitHere_6 : decode cX4_digitHere 6 = .ok (.isub, 1) := by decide +kernel
theorem dX4_digitHere_7 : decode cX4_digitHere 7 = .ok (.istore_n 1, 1) := by decide +kernel
theorem dX4_digitHere_8 : decode cX4_digitHere 8 = .ok (.iload_n 1, 1) := by decide +kernel
theorem dX4_digitHere_9 : decode cX4_digitHere 9 = .ok (.ifCond .lt 13, 3) := by decide +kernel
theorem dX4_digitHere_12 : decode cX4_digitHere 12 = .ok (.iload_n 1, 1) := by decide +kernel
theorem dX4_digitHere_13 : decode cX4_digitHere 13 = .ok (.bipush 9, 2) := by decide +kernel
theorem dX4_digitHere_15 : decode cX4_digitHere 15 = .ok (.if_icmp .gt 7, 3) := by decide +kernel
theorem dX4_digitHere_18 : decode cX4_digitHere 18 = .ok (.iload_n 1, 1) := by decide +kernel
theorem dX4_digitHere_19 : decode cX4_digitHere 19 = .ok (.goto 4, 3) := by decide +kernel
theorem dX4_digitHere_22 : decode cX4_digitHere 22 = .ok (.iconst (-1), 1) := by decide +kernel
theorem dX4_digitHere_23 : decode cX4_digitHere 23 = .ok (.ireturn, 1) := by decide +kernel
theorem dX4_passLetter_0 : decode cX4_passLetter 0 = .ok (.aload_n 0, 1) := by decide +kernel
theorem dX4_passLetter_1 : decode cX4_passLetter 1 = .ok (.invokevirtual 68, 3) := by decide +kernel
theorem dX4_passLetter_4 : decode cX4_passLetter 4 = .ok (.iload_n 1, 1) := by decide +kernel
theorem dX4_passLetter_5 : decode cX4_passLetter 5 = .ok (.if_icmp .eq 12, 3) := by decide +kernel
theorem dX4_passLetter_8 : decode cX4_passLetter 8 = .ok (.aload_n 0, 1) := by decide +kernel
theorem dX4_passLetter_9 : decode cX4_passLetter 9 = .ok (.aload_n 0, 1) := by decide +kernel
theorem dX4_passLetter_10 : decode cX4_passLetter 10 = .ok (.getfield 23, 3) := by decide +kernel
theorem dX4_passLetter_13 : decode cX4_passLetter 13 = .ok (.invokevirtual 33, 3) := by decide +kernel
theorem dX4_passLetter_16 : decode cX4_passLetter 16 = .ok (.ireturn, 1) := by decide +kernel
theorem dX4_passLetter_17 : decode cX4_passLetter 17 = .ok (.aload_n 0, 1) := by decide +kernel
theorem dX4_passLetter_18 : decode cX4_passLetter 18 = .ok (.dup, 1) := by decide +kernel
theorem dX4_passLetter_19 : decode cX4_passLetter 19 = .ok (.getfield 23, 3) := by decide +kernel
theorem dX4_passLetter_22 : decode cX4_passLetter 22 = .ok (.iconst 1, 1) := by decide +kernel
theorem dX4_passLetter_23 : decode cX4_passLetter 23 = .ok (.iadd, 1) := by decide +kernel
theorem dX4_passLetter_24 : decode cX4_passLetter 24 = .ok (.putfield 23, 3) := by decide +kernel
theorem dX4_passLetter_27 : decode cX4_passLetter 27 = .ok (.iconst 1, 1) := by decide +kernel
theorem dX4_passLetter_28 : decode cX4_passLetter 28 = .ok (.ireturn, 1) := by decide +kernel
theorem dX4_faultAt_0 : decode cX4_faultAt 0 = .ok (.aload_n 0, 1) := by decide +kernel
theorem dX4_faultAt_1 : decode cX4_faultAt 1 = .ok (.iload_n 1, 1) := by decide +kernel
theorem dX4_faultAt_2 : decode cX4_faultAt 2 = .ok (.putfield 9, 3) := by decide +kernel
theorem dX4_faultAt_5 : decode cX4_faultAt 5 = .ok (.iconst 0, 1) := by decide +kernel
theorem dX4_faultAt_6 : decode cX4_faultAt 6 = .ok (.ireturn, 1) := by decide +kernel
theorem dX5_init_0 : decode cX5_init 0 = .ok (.aload_n 0, 1) := by decide +kernel
theorem dX5_init_1 : decode cX5_init 1 = .ok (.invokespecial 3, 3) := by decide +kernel
theorem dX5_init_4 : decode cX5_init 4 = .ok (.aload_n 0, 1) := by decide +kernel
theorem dX5_init_5 : decode cX5_init 5 = .ok (.sipush 160, 3) := by decide +kernel
theorem dX5_init_8 : decode cX5_init 8 = .ok (.newarray .long, 2) := by decide +kernel
theorem dX5_init_10 : decode cX5_init 10 = .ok (.putfield 9, 3) := by decide +kernel
theorem dX5_init_13 : decode cX5_init 13 = .ok (.return_, 1) := by decide +kernel
theorem dX5_begin_0 : decode cX5_begin 0 = .ok (.aload_n 0, 1) := by decide +kernel
theorem dX5_begin_1 : decode cX5_begin 1 = .ok (.iload_n 1, 1) := by decide +kernel
theorem dX5_begin_2 : decode cX5_begin 2 = .ok (.putfield 15, 3) := by decide +kernel
theorem dX5_begin_5 : decode cX5_begin 5 = .ok (.aload_n 0, 1) := by decide +kernel
theorem dX5_begin_6 : decode cX5_begin 6 = .ok (.iload_n 2, 1) := by decide +kernel
theorem dX5_begin_7 : decode cX5_begin 7 = .ok (.putfield 19, 3) := by decide +kernel
theorem dX5_begin_10 : decode cX5_begin 10 = .ok (.iconst 0, 1) := by decide +kernel
theorem dX5_begin_11 : decode cX5_begin 11 = .ok (.istore_n 3, 1) := by decide +kernel
theorem dX5_begin_12 : decode cX5_begin 12 = .ok (.iload_n 3, 1) := by decide +kernel
theorem dX5_begin_13 : decode cX5_begin 13 = .ok (.iload_n 2, 1) := by decide +kernel
theorem dX5_begin_14 : decode cX5_begin 14 = .ok (.if_icmp .ge 16, 3) := by decide +kernel
theorem dX5_begin_17 : decode cX5_begin 17 = .ok (.aload_n 0, 1) := by decide +kernel
theorem dX5_begin_18 : decode cX5_begin 18 = .ok (.getfield 9, 3) := by decide +kernel
theorem dX5_begin_21 : decode cX5_begin 21 = .ok (.iload_n 3, 1) := by decide +kernel
theorem dX5_begin_22 : decode cX5_begin 22 = .ok (.lconst 0, 1) := by decide +kernel
theorem dX5_begin_23 : decode cX5_begin 23 = .ok (.lastore, 1) := by decide +kernel
theorem dX5_begin_24 : decode cX5_begin 24 = .ok (.iinc 3 1, 3) := by decide +kernel
theorem dX5_begin_27 : decode cX5_begin 27 = .ok (.goto (-15), 3) := by decide +kernel
theorem dX5_begin_30 : decode cX5_begin 30 = .ok (.return_, 1) := by decide +kernel
theorem dX5_has_0 : decode cX5_has 0 = .ok (.iload_n 1, 1) := by decide +kernel
theorem dX5_has_1 : decode cX5_has 1 = .ok (.ifCond .lt 15, 3) := by decide +kernel
theorem dX5_has_4 : decode cX5_has 4 = .ok (.iload_n 1, 1) := by decide +kernel
theorem dX5_has_5 : decode cX5_has 5 = .ok (.aload_n 0, 1) := by decide +kernel
theorem dX5_has_6 : decode cX5_has 6 = .ok (.getfield 19, 3) := by decide +kernel
theorem dX5_has_9 : decode cX5_has 9 = .ok (.if_icmp .ge 7, 3) := by decide +kernel
theorem dX5_has_12 : decode cX5_has 12 = .ok (.iconst 1, 1) := by decide +kernel
theorem dX5_has_13 : decode cX5_has 13 = .ok (.goto 4, 3) := by decide +kernel
theorem dX5_has_16 : decode cX5_has 16 = .ok (.iconst 0, 1) := by decide +kernel
theorem dX5_has_17 : decode cX5_has 17 = .ok (.ireturn, 1) := by decide +kernel
theorem dX5_hasRun_0 : decode cX5_hasRun 0 = .ok (.iload_n 1, 1) := by decide +kernel
theorem dX5_hasRun_1 : decode cX5_hasRun 1 = .ok (.ifCond .lt 17, 3) := by decide +kernel
theorem dX5_hasRun_4 : decode cX5_hasRun 4 = .ok (.iload_n 1, 1) := by decide +kernel
theorem dX5_hasRun_5 : decode cX5_hasRun 5 = .ok (.aload_n 0, 1) := by decide +kernel
theorem dX5_hasRun_6 : decode cX5_hasRun 6 = .ok (.getfield 19, 3) := by decide +kernel
theorem dX5_hasRun_9 : decode cX5_hasRun 9 = .ok (.iload_n 2, 1) := by decide +kernel
theorem dX5_hasRun_10 : decode cX5_hasRun 10 = .ok (.isub, 1) := by decide +kernel
theorem dX5_hasRun_11 : decode cX5_hasRun 11 = .ok (.if_icmp .gt 7, 3) := by decide +kernel
theorem dX5_hasRun_14 : decode cX5_hasRun 14 = .ok (.iconst 1, 1) := by decide +kernel
theorem dX5_hasRun_15 : decode cX5_hasRun 15 = .ok (.goto 4, 3) := by decide +kernel
theorem dX5_hasRun_18 : decode cX5_hasRun 18 = .ok (.iconst 0, 1) := by decide +kernel
theorem dX5_hasRun_19 : decode cX5_hasRun 19 = .ok (.ireturn, 1) := by decide +kernel
