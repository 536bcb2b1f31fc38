theorem dX5_get_0 : decode cX5_get 0 = .ok (.aload_n 0, 1) := by decide +kernel
theorem dX5_get_1 : decode cX5_get 1 = .ok (.iload_n 1, 1) := by decide +kernel
theorem dX5_get_2 : decode cX5_get 2 = .ok (.invokevirtual 22, 3) := by decide +kernel
theorem dX5_get_5 : decode cX5_get 5 = .ok (.ifCond .eq 12, 3) := by decide +kernel
theorem dX5_get_8 : decode cX5_get 8 = .ok (.aload_n 0, 1) := by decide +kernel
theorem dX5_get_9 : decode cX5_get 9 = .ok (.getfield 9, 3) := by decide +kernel
theorem dX5_get_12 : decode cX5_get 12 = .ok (.iload_n 1, 1) := by decide +kernel
theorem dX5_get_13 : decode cX5_get 13 = .ok (.laload, 1) := by decide +kernel
theorem dX5_get_14 : decode cX5_get 14 = .ok (.goto 4, 3) := by decide +kernel
theorem dX5_get_17 : decode cX5_get 17 = .ok (.lconst 0, 1) := by decide +kernel
theorem dX5_get_18 : decode cX5_get 18 = .ok (.lreturn, 1) := by decide +kernel
theorem dX5_intAt_0 : decode cX5_intAt 0 = .ok (.aload_n 0, 1) := by decide +kernel
theorem dX5_intAt_1 : decode cX5_intAt 1 = .ok (.iload_n 1, 1) := by decide +kernel
theorem dX5_intAt_2 : decode cX5_intAt 2 = .ok (.invokevirtual 22, 3) := by decide +kernel
theorem dX5_intAt_5 : decode cX5_intAt 5 = .ok (.ifCond .eq 13, 3) := by decide +kernel
theorem dX5_intAt_8 : decode cX5_intAt 8 = .ok (.aload_n 0, 1) := by decide +kernel
theorem dX5_intAt_9 : decode cX5_intAt 9 = .ok (.getfield 9, 3) := by decide +kernel
theorem dX5_intAt_12 : decode cX5_intAt 12 = .ok (.iload_n 1, 1) := by decide +kernel
theorem dX5_intAt_13 : decode cX5_intAt 13 = .ok (.laload, 1) := by decide +kernel
theorem dX5_intAt_14 : decode cX5_intAt 14 = .ok (.l2i, 1) := by decide +kernel
theorem dX5_intAt_15 : decode cX5_intAt 15 = .ok (.goto 4, 3) := by decide +kernel
theorem dX5_intAt_18 : decode cX5_intAt 18 = .ok (.iconst 0, 1) := by decide +kernel
theorem dX5_intAt_19 : decode cX5_intAt 19 = .ok (.ireturn, 1) := by decide +kernel
theorem dX5_put_0 : decode cX5_put 0 = .ok (.aload_n 0, 1) := by decide +kernel
theorem dX5_put_1 : decode cX5_put 1 = .ok (.iload_n 1, 1) := by decide +kernel
theorem dX5_put_2 : decode cX5_put 2 = .ok (.invokevirtual 22, 3) := by decide +kernel
theorem dX5_put_5 : decode cX5_put 5 = .ok (.ifCond .eq 14, 3) := by decide +kernel
theorem dX5_put_8 : decode cX5_put 8 = .ok (.aload_n 0, 1) := by decide +kernel
theorem dX5_put_9 : decode cX5_put 9 = .ok (.getfield 9, 3) := by decide +kernel
theorem dX5_put_12 : decode cX5_put 12 = .ok (.iload_n 1, 1) := by decide +kernel
theorem dX5_put_13 : decode cX5_put 13 = .ok (.aload_n 0, 1) := by decide +kernel
theorem dX5_put_14 : decode cX5_put 14 = .ok (.lload_n 2, 1) := by decide +kernel
theorem dX5_put_15 : decode cX5_put 15 = .ok (.invokevirtual 26, 3) := by decide +kernel
theorem dX5_put_18 : decode cX5_put 18 = .ok (.lastore, 1) := by decide +kernel
theorem dX5_put_19 : decode cX5_put 19 = .ok (.return_, 1) := by decide +kernel
theorem dX5_cut_0 : decode cX5_cut 0 = .ok (.aload_n 0, 1) := by decide +kernel
theorem dX5_cut_1 : decode cX5_cut 1 = .ok (.getfield 15, 3) := by decide +kernel
theorem dX5_cut_4 : decode cX5_cut 4 = .ok (.tableswitch 42 0 2 #[28, 33, 38], 28) := by decide +kernel
theorem dX5_cut_32 : decode cX5_cut 32 = .ok (.lload_n 1, 1) := by decide +kernel
theorem dX5_cut_33 : decode cX5_cut 33 = .ok (.l2i, 1) := by decide +kernel
theorem dX5_cut_34 : decode cX5_cut 34 = .ok (.i2b, 1) := by decide +kernel
theorem dX5_cut_35 : decode cX5_cut 35 = .ok (.i2l, 1) := by decide +kernel
theorem dX5_cut_36 : decode cX5_cut 36 = .ok (.lreturn, 1) := by decide +kernel
theorem dX5_cut_37 : decode cX5_cut 37 = .ok (.lload_n 1, 1) := by decide +kernel
theorem dX5_cut_38 : decode cX5_cut 38 = .ok (.l2i, 1) := by decide +kernel
theorem dX5_cut_39 : decode cX5_cut 39 = .ok (.i2s, 1) := by decide +kernel
theorem dX5_cut_40 : decode cX5_cut 40 = .ok (.i2l, 1) := by decide +kernel
theorem dX5_cut_41 : decode cX5_cut 41 = .ok (.lreturn, 1) := by decide +kernel
theorem dX5_cut_42 : decode cX5_cut 42 = .ok (.lload_n 1, 1) := by decide +kernel
theorem dX5_cut_43 : decode cX5_cut 43 = .ok (.l2i, 1) := by decide +kernel
theorem dX5_cut_44 : decode cX5_cut 44 = .ok (.i2l, 1) := by decide +kernel
theorem dX5_cut_45 : decode cX5_cut 45 = .ok (.lreturn, 1) := by decide +kernel
theorem dX5_cut_46 : decode cX5_cut 46 = .ok (.lload_n 1, 1) := by decide +kernel
theorem dX5_cut_47 : decode cX5_cut 47 = .ok (.lreturn, 1) := by decide +kernel
theorem dX5_fillFrom_0 : decode cX5_fillFrom 0 = .ok (.aload_n 1, 1) := by decide +kernel
theorem dX5_fillFrom_1 : decode cX5_fillFrom 1 = .ok (.getfield 9, 3) := by decide +kernel
theorem dX5_fillFrom_4 : decode cX5_fillFrom 4 = .ok (.iload_n 2, 1) := by decide +kernel
theorem dX5_fillFrom_5 : decode cX5_fillFrom 5 = .ok (.aload_n 0, 1) := by decide +kernel
theorem dX5_fillFrom_6 : decode cX5_fillFrom 6 = .ok (.getfield 9, 3) := by decide +kernel
theorem dX5_fillFrom_9 : decode cX5_fillFrom 9 = .ok (.iload_n 3, 1) := by decide +kernel
theorem dX5_fillFrom_10 : decode cX5_fillFrom 10 = .ok (.iload 4, 2) := by decide +kernel
theorem dX5_fillFrom_12 : decode cX5_fillFrom 12 = .ok (.invokestatic 30, 3) := by decide +kernel
theorem dX5_fillFrom_15 : decode cX5_fillFrom 15 = .ok (.return_, 1) := by decide +kernel
theorem dX6_init_0 : decode cX6_init 0 = .ok (.aload_n 0, 1) := by decide +kernel
theorem dX6_init_1 : decode cX6_init 1 = .ok (.invokespecial 1, 3) := by decide +kernel
theorem dX6_init_4 : decode cX6_init 4 = .ok (.aload_n 0, 1) := by decide +kernel
theorem dX6_init_5 : decode cX6_init 5 = .ok (.new 7, 3) := by decide +kernel
theorem dX6_init_8 : decode cX6_init 8 = .ok (.dup, 1) := by decide +kernel
theorem dX6_init_9 : decode cX6_init 9 = .ok (.invokespecial 9, 3) := by decide +kernel
theorem dX6_init_12 : decode cX6_init 12 = .ok (.putfield 10, 3) := by decide +kernel
theorem dX6_init_15 : decode cX6_init 15 = .ok (.aload_n 0, 1) := by decide +kernel
theorem dX6_init_16 : decode cX6_init 16 = .ok (.new 7, 3) := by decide +kernel
theorem dX6_init_19 : decode cX6_init 19 = .ok (.dup, 1) := by decide +kernel
theorem dX6_init_20 : decode cX6_init 20 = .ok (.invokespecial 9, 3) := by decide +kernel
theorem dX6_init_23 : decode cX6_init 23 = .ok (.putfield 16, 3) := by decide +kernel
theorem dX6_init_26 : decode cX6_init 26 = .ok (.aload_n 0, 1) := by decide +kernel
theorem dX6_init_27 : decode cX6_init 27 = .ok (.new 7, 3) := by decide +kernel
theorem dX6_init_30 : decode cX6_init 30 = .ok (.dup, 1) := by decide +kernel
theorem dX6_init_31 : decode cX6_init 31 = .ok (.invokespecial 9, 3) := by decide +kernel
theorem dX6_init_34 : decode cX6_init 34 = .ok (.putfield 19, 3) := by decide +kernel
theorem dX6_init_37 : decode cX6_init 37 = .ok (.aload_n 0, 1) := by decide +kernel
theorem dX6_init_38 : decode cX6_init 38 = .ok (.bipush 8, 2) := by decide +kernel
theorem dX6_init_40 : decode cX6_init 40 = .ok (.anewarray 22, 3) := by decide +kernel
theorem dX6_init_43 : decode cX6_init 43 = .ok (.putfield 24, 3) := by decide +kernel
theorem dX6_init_46 : decode cX6_init 46 = .ok (.aload_n 0, 1) := by decide +kernel
theorem dX6_init_47 : decode cX6_init 47 = .ok (.bipush 8, 2) := by decide +kernel
theorem dX6_init_49 : decode cX6_init 49 = .ok (.newarray .int, 2) := by decide +kernel
theorem dX6_init_51 : decode cX6_init 51 = .ok (.putfield 28, 3) := by decide +kernel
theorem dX6_init_54 : decode cX6_init 54 = .ok (.aload_n 0, 1) := by decide +kernel
theorem dX6_init_55 : decode cX6_init 55 = .ok (.bipush 8, 2) := by decide +kernel
theorem dX6_init_57 : decode cX6_init 57 = .ok (.newarray .int, 2) := by decide +kernel
theorem dX6_init_59 : decode cX6_init 59 = .ok (.putfield 32, 3) := by decide +kernel
theorem dX6_init_62 : decode cX6_init 62 = .ok (.aload_n 0, 1) := by decide +kernel
theorem dX6_init_63 : decode cX6_init 63 = .ok (.iconst (-1), 1) := by decide +kernel
theorem dX6_init_64 : decode cX6_init 64 = .ok (.putfield 35, 3) := by decide +kernel
theorem dX6_init_67 : decode cX6_init 67 = .ok (.aload_n 0, 1) := by decide +kernel
theorem dX6_init_68 : decode cX6_init 68 = .ok (.new 39, 3) := by decide +kernel
theorem dX6_init_71 : decode cX6_init 71 = .ok (.dup, 1) := by decide +kernel
theorem dX6_init_72 : decode cX6_init 72 = .ok (.invokespecial 41, 3) := by decide +kernel
theorem dX6_init_75 : decode cX6_init 75 = .ok (.putfield 42, 3) := by decide +kernel
theorem dX6_init_78 : decode cX6_init 78 = .ok (.aload_n 0, 1) := by decide +kernel
theorem dX6_init_79 : decode cX6_init 79 = .ok (.new 46, 3) := by decide +kernel
theorem dX6_init_82 : decode cX6_init 82 = .ok (.dup, 1) := by decide +kernel
theorem dX6_init_83 : decode cX6_init 83 = .ok (.invokespecial 48, 3) := by decide +kernel
theorem dX6_init_86 : decode cX6_init 86 = .ok (.putfield 49, 3) := by decide +kernel
theorem dX6_init_89 : decode cX6_init 89 = .ok (.aload_n 0, 1) := by decide +kernel
theorem dX6_init_90 : decode cX6_init 90 = .ok (.new 53, 3) := by decide +kernel
theorem dX6_init_93 : decode cX6_init 93 = .ok (.dup, 1) := by decide +kernel
theorem dX6_init_94 : decode cX6_init 94 = .ok (.invokespecial 55, 3) := by decide +kernel
theorem dX6_init_97 : decode cX6_init 97 = .ok (.putfield 56, 3) := by decide +kernel
theorem dX6_init_100 : decode cX6_init 100 = .ok (.aload_n 0, 1) := by decide +kernel
theorem dX6_init_101 : decode cX6_init 101 = .ok (.new 60, 3) := by decide +kernel
theorem dX6_init_104 : decode cX6_init 104 = .ok (.dup, 1) := by decide +kernel
theorem dX6_init_105 : decode cX6_init 105 = .ok (.invokespecial 62, 3) := by decide +kernel
theorem dX6_init_108 : decode cX6_init 108 = .ok (.putfield 63, 3) := by decide +kernel
theorem dX6_init_111 : decode cX6_init 111 = .ok (.iconst 0, 1) := by decide +kernel
theorem dX6_init_112 : decode cX6_init 112 = .ok (.istore_n 1, 1) := by decide +kernel
theorem dX6_init_113 : decode cX6_init 113 = .ok (.iload_n 1, 1) := by decide +kernel
theorem dX6_init_114 : decode cX6_init 114 = .ok (.bipush 8, 2) := by decide +kernel
theorem dX6_init_116 : decode cX6_init 116 = .ok (.if_icmp .ge 29, 3) := by decide +kernel
theorem dX6_init_119 : decode cX6_init 119 = .ok (.aload_n 0, 1) := by decide +kernel
theorem dX6_init_120 : decode cX6_init 120 = .ok (.getfield 24, 3) := by decide +kernel
theorem dX6_init_123 : decode cX6_init 123 = .ok (.iload_n 1, 1) := by decide +kernel
theorem dX6_init_124 : decode cX6_init 124 = .ok (.new 22, 3) := by decide +kernel
theorem dX6_init_127 : decode cX6_init 127 = .ok (.dup, 1) := by decide +kernel
theorem dX6_init_128 : decode cX6_init 128 = .ok (.invokespecial 67, 3) := by decide +kernel
theorem dX6_init_131 : decode cX6_init 131 = .ok (.aastore, 1) := by decide +kernel
theorem dX6_init_132 : decode cX6_init 132 = .ok (.aload_n 0, 1) := by decide +kernel
theorem dX6_init_133 : decode cX6_init 133 = .ok (.getfield 28, 3) := by decide +kernel
theorem dX6_init_136 : decode cX6_init 136 = .ok (.iload_n 1, 1) := by decide +kernel
theorem dX6_init_137 : decode cX6_init 137 = .ok (.iconst (-1), 1) := by decide +kernel
theorem dX6_init_138 : decode cX6_init 138 = .ok (.iastore, 1) := by decide +kernel
theorem dX6_init_139 : decode cX6_init 139 = .ok (.iinc 1 1, 3) := by decide +kernel
theorem dX6_init_142 : decode cX6_init 142 = .ok (.goto (-29), 3) := by decide +kernel
theorem dX6_init_145 : decode cX6_init 145 = .ok (.return_, 1) := by decide +kernel
theorem dX6_row_0 : decode cX6_row 0 = .ok (.iload_n 1, 1) := by decide +kernel
theorem dX6_row_1 : decode cX6_row 1 = .ok (.invokestatic 68, 3) := by decide +kernel
theorem dX6_row_4 : decode cX6_row 4 = .ok (.ifCond .ne 9, 3) := by decide +kernel
theorem dX6_row_7 : decode cX6_row 7 = .ok (.aload_n 0, 1) := by decide +kernel
theorem dX6_row_8 : decode cX6_row 8 = .ok (.iconst 1, 1) := by decide +kernel
theorem dX6_row_9 : decode cX6_row 9 = .ok (.invokevirtual 72, 3) := by decide +kernel
theorem dX6_row_12 : decode cX6_row 12 = .ok (.ireturn, 1) := by decide +kernel
theorem dX6_row_13 : decode cX6_row 13 = .ok (.iload_n 3, 1) := by decide +kernel
theorem dX6_row_14 : decode cX6_row 14 = .ok (.ifCond .ge 9, 3) := by decide +kernel
theorem dX6_row_17 : decode cX6_row 17 = .ok (.aload_n 0, 1) := by decide +kernel
theorem dX6_row_18 : decode cX6_row 18 = .ok (.iconst 4, 1) := by decide +kernel
theorem dX6_row_19 : decode cX6_row 19 = .ok (.invokevirtual 72, 3) := by decide +kernel
theorem dX6_row_22 : decode cX6_row 22 = .ok (.ireturn, 1) := by decide +kernel
theorem dX6_row_23 : decode cX6_row 23 = .ok (.iload_n 2, 1) := by decide +kernel
theorem dX6_row_24 : decode cX6_row 24 = .ok (.ifCond .lt 8, 3) := by decide +kernel
theorem dX6_row_27 : decode cX6_row 27 = .ok (.iload_n 2, 1) := by decide +kernel
theorem dX6_row_28 : decode cX6_row 28 = .ok (.iconst 4, 1) := by decide +kernel
theorem dX6_row_29 : decode cX6_row 29 = .ok (.if_icmp .lt 10, 3) := by decide +kernel
theorem dX6_row_32 : decode cX6_row 32 = .ok (.aload_n 0, 1) := by decide +kernel
theorem dX6_row_33 : decode cX6_row 33 = .ok (.bipush 6, 2) := by decide +kernel
theorem dX6_row_35 : decode cX6_row 35 = .ok (.invokevirtual 72, 3) := by decide +kernel
theorem dX6_row_38 : decode cX6_row 38 = .ok (.ireturn, 1) := by decide +kernel
theorem dX6_row_39 : decode cX6_row 39 = .ok (.iload_n 3, 1) := by decide +kernel
theorem dX6_row_40 : decode cX6_row 40 = .ok (.sipush 160, 3) := by decide +kernel
theorem dX6_row_43 : decode cX6_row 43 = .ok (.if_icmp .le 10, 3) := by decide +kernel
theorem dX6_row_46 : decode cX6_row 46 = .ok (.aload_n 0, 1) := by decide +kernel
theorem dX6_row_47 : decode cX6_row 47 = .ok (.bipush 7, 2) := by decide +kernel
theorem dX6_row_49 : decode cX6_row 49 = .ok (.invokevirtual 72, 3) := by decide +kernel
theorem dX6_row_52 : decode cX6_row 52 = .ok (.ireturn, 1) := by decide +kernel
theorem dX6_row_53 : decode cX6_row 53 = .ok (.aload_n 0, 1) := by decide +kernel
theorem dX6_row_54 : decode cX6_row 54 = .ok (.getfield 24, 3) := by decide +kernel
theorem dX6_row_57 : decode cX6_row 57 = .ok (.iload_n 1, 1) := by decide +kernel
theorem dX6_row_58 : decode cX6_row 58 = .ok (.aaload, 1) := by decide +kernel
theorem dX6_row_59 : decode cX6_row 59 = .ok (.iload_n 2, 1) := by decide +kernel
theorem dX6_row_60 : decode cX6_row 60 = .ok (.iload_n 3, 1) := by decide +kernel
theorem dX6_row_61 : decode cX6_row 61 = .ok (.invokevirtual 76, 3) := by decide +kernel
theorem dX6_row_64 : decode cX6_row 64 = .ok (.aload_n 0, 1) := by decide +kernel
theorem dX6_row_65 : decode cX6_row 65 = .ok (.getfield 28, 3) := by decide +kernel
theorem dX6_row_68 : decode cX6_row 68 = .ok (.iload_n 1, 1) := by decide +kernel
theorem dX6_row_69 : decode cX6_row 69 = .ok (.bipush 100, 2) := by decide +kernel
theorem dX6_row_71 : decode cX6_row 71 = .ok (.iload_n 2, 1) := by decide +kernel
theorem dX6_row_72 : decode cX6_row 72 = .ok (.iadd, 1) := by decide +kernel
theorem dX6_row_73 : decode cX6_row 73 = .ok (.iastore, 1) := by decide +kernel
theorem dX6_row_74 : decode cX6_row 74 = .ok (.iconst 1, 1) := by decide +kernel
theorem dX6_row_75 : decode cX6_row 75 = .ok (.ireturn, 1) := by decide +kernel
theorem dX6_set_0 : decode cX6_set 0 = .ok (.aload_n 0, 1) := by decide +kernel
theorem dX6_set_1 : decode cX6_set 1 = .ok (.iload_n 1, 1) := by decide +kernel
theorem dX6_set_2 : decode cX6_set 2 = .ok (.invokevirtual 80, 3) := by decide +kernel
theorem dX6_set_5 : decode cX6_set 5 = .ok (.istore 5, 2) := by decide +kernel
theorem dX6_set_7 : decode cX6_set 7 = .ok (.iload 5, 2) := by decide +kernel
theorem dX6_set_9 : decode cX6_set 9 = .ok (.ifCond .eq 10, 3) := by decide +kernel
theorem dX6_set_12 : decode cX6_set 12 = .ok (.aload_n 0, 1) := by decide +kernel
theorem dX6_set_13 : decode cX6_set 13 = .ok (.iload 5, 2) := by decide +kernel
theorem dX6_set_15 : decode cX6_set 15 = .ok (.invokevirtual 72, 3) := by decide +kernel
theorem dX6_set_18 : decode cX6_set 18 = .ok (.ireturn, 1) := by decide +kernel
theorem dX6_set_19 : decode cX6_set 19 = .ok (.aload_n 0, 1) := by decide +kernel
theorem dX6_set_20 : decode cX6_set 20 = .ok (.getfield 24, 3) := by decide +kernel
theorem dX6_set_23 : decode cX6_set 23 = .ok (.iload_n 1, 1) := by decide +kernel
theorem dX6_set_24 : decode cX6_set 24 = .ok (.aaload, 1) := by decide +kernel
theorem dX6_set_25 : decode cX6_set 25 = .ok (.iload_n 2, 1) := by decide +kernel
theorem dX6_set_26 : decode cX6_set 26 = .ok (.invokevirtual 83, 3) := by decide +kernel
theorem dX6_set_29 : decode cX6_set 29 = .ok (.ifCond .ne 9, 3) := by decide +kernel
theorem dX6_set_32 : decode cX6_set 32 = .ok (.aload_n 0, 1) := by decide +kernel
theorem dX6_set_33 : decode cX6_set 33 = .ok (.iconst 5, 1) := by decide +kernel
theorem dX6_set_34 : decode cX6_set 34 = .ok (.invokevirtual 72, 3) := by decide +kernel
theorem dX6_set_37 : decode cX6_set 37 = .ok (.ireturn, 1) := by decide +kernel
theorem dX6_set_38 : decode cX6_set 38 = .ok (.aload_n 0, 1) := by decide +kernel
theorem dX6_set_39 : decode cX6_set 39 = .ok (.getfield 24, 3) := by decide +kernel
theorem dX6_set_42 : decode cX6_set 42 = .ok (.iload_n 1, 1) := by decide +kernel
theorem dX6_set_43 : decode cX6_set 43 = .ok (.aaload, 1) := by decide +kernel
theorem dX6_set_44 : decode cX6_set 44 = .ok (.iload_n 2, 1) := by decide +kernel
theorem dX6_set_45 : decode cX6_set 45 = .ok (.lload_n 3, 1) := by decide +kernel
theorem dX6_set_46 : decode cX6_set 46 = .ok (.invokevirtual 86, 3) := by decide +kernel
theorem dX6_set_49 : decode cX6_set 49 = .ok (.iconst 1, 1) := by decide +kernel
theorem dX6_set_50 : decode cX6_set 50 = .ok (.ireturn, 1) := by decide +kernel
theorem dX6_copy_0 : decode cX6_copy 0 = .ok (.aload_n 0, 1) := by decide +kernel
theorem dX6_copy_1 : decode cX6_copy 1 = .ok (.iload_n 1, 1) := by decide +kernel
theorem dX6_copy_2 : decode cX6_copy 2 = .ok (.iload_n 2, 1) := by decide +kernel
theorem dX6_copy_3 : decode cX6_copy 3 = .ok (.invokevirtual 90, 3) := by decide +kernel
theorem dX6_copy_6 : decode cX6_copy 6 = .ok (.istore 6, 2) := by decide +kernel
theorem dX6_copy_8 : decode cX6_copy 8 = .ok (.iload 6, 2) := by decide +kernel
theorem dX6_copy_10 : decode cX6_copy 10 = .ok (.ifCond .eq 10, 3) := by decide +kernel
theorem dX6_copy_13 : decode cX6_copy 13 = .ok (.aload_n 0, 1) := by decide +kernel
theorem dX6_copy_14 : decode cX6_copy 14 = .ok (.iload 6, 2) := by decide +kernel
theorem dX6_copy_16 : decode cX6_copy 16 = .ok (.invokevirtual 72, 3) := by decide +kernel
theorem dX6_copy_19 : decode cX6_copy 19 = .ok (.ireturn, 1) := by decide +kernel
theorem dX6_copy_20 : decode cX6_copy 20 = .ok (.iload 5, 2) := by decide +kernel
theorem dX6_copy_22 : decode cX6_copy 22 = .ok (.ifCond .ge 9, 3) := by decide +kernel
theorem dX6_copy_25 : decode cX6_copy 25 = .ok (.aload_n 0, 1) := by decide +kernel
theorem dX6_copy_26 : decode cX6_copy 26 = .ok (.iconst 4, 1) := by decide +kernel
theorem dX6_copy_27 : decode cX6_copy 27 = .ok (.invokevirtual 72, 3) := by decide +kernel
theorem dX6_copy_30 : decode cX6_copy 30 = .ok (.ireturn, 1) := by decide +kernel
theorem dX6_copy_31 : decode cX6_copy 31 = .ok (.aload_n 0, 1) := by decide +kernel
theorem dX6_copy_32 : decode cX6_copy 32 = .ok (.getfield 24, 3) := by decide +kernel
theorem dX6_copy_35 : decode cX6_copy 35 = .ok (.iload_n 1, 1) := by decide +kernel
theorem dX6_copy_36 : decode cX6_copy 36 = .ok (.aaload, 1) := by decide +kernel
theorem dX6_copy_37 : decode cX6_copy 37 = .ok (.iload_n 3, 1) := by decide +kernel
theorem dX6_copy_38 : decode cX6_copy 38 = .ok (.iload 5, 2) := by decide +kernel
theorem dX6_copy_40 : decode cX6_copy 40 = .ok (.invokevirtual 94, 3) := by decide +kernel
theorem dX6_copy_43 : decode cX6_copy 43 = .ok (.ifCond .eq 19, 3) := by decide +kernel
theorem dX6_copy_46 : decode cX6_copy 46 = .ok (.aload_n 0, 1) := by decide +kernel
theorem dX6_copy_47 : decode cX6_copy 47 = .ok (.getfield 24, 3) := by decide +kernel
theorem dX6_copy_50 : decode cX6_copy 50 = .ok (.iload_n 2, 1) := by decide +kernel
theorem dX6_copy_51 : decode cX6_copy 51 = .ok (.aaload, 1) := by decide +kernel
theorem dX6_copy_52 : decode cX6_copy 52 = .ok (.iload 4, 2) := by decide +kernel
theorem dX6_copy_54 : decode cX6_copy 54 = .ok (.iload 5, 2) := by decide +kernel
theorem dX6_copy_56 : decode cX6_copy 56 = .ok (.invokevirtual 94, 3) := by decide +kernel
theorem dX6_copy_59 : decode cX6_copy 59 = .ok (.ifCond .ne 9, 3) := by decide +kernel
theorem dX6_copy_62 : decode cX6_copy 62 = .ok (.aload_n 0, 1) := by decide +kernel
theorem dX6_copy_63 : decode cX6_copy 63 = .ok (.iconst 5, 1) := by decide +kernel
theorem dX6_copy_64 : decode cX6_copy 64 = .ok (.invokevirtual 72, 3) := by decide +kernel
theorem dX6_copy_67 : decode cX6_copy 67 = .ok (.ireturn, 1) := by decide +kernel
theorem dX6_copy_68 : decode cX6_copy 68 = .ok (.aload_n 0, 1) := by decide +kernel
theorem dX6_copy_69 : decode cX6_copy 69 = .ok (.getfield 24, 3) := by decide +kernel
theorem dX6_copy_72 : decode cX6_copy 72 = .ok (.iload_n 2, 1) := by decide +kernel
theorem dX6_copy_73 : decode cX6_copy 73 = .ok (.aaload, 1) := by decide +kernel
theorem dX6_copy_74 : decode cX6_copy 74 = .ok (.aload_n 0, 1) := by decide +kernel
theorem dX6_copy_75 : decode cX6_copy 75 = .ok (.getfield 24, 3) := by decide +kernel
theorem dX6_copy_78 : decode cX6_copy 78 = .ok (.iload_n 1, 1) := by decide +kernel
theorem dX6_copy_79 : decode cX6_copy 79 = .ok (.aaload, 1) := by decide +kernel
theorem dX6_copy_80 : decode cX6_copy 80 = .ok (.iload_n 3, 1) := by decide +kernel
theorem dX6_copy_81 : decode cX6_copy 81 = .ok (.iload 4, 2) := by decide +kernel
theorem dX6_copy_83 : decode cX6_copy 83 = .ok (.iload 5, 2) := by decide +kernel
theorem dX6_copy_85 : decode cX6_copy 85 = .ok (.invokevirtual 98, 3) := by decide +kernel
theorem dX6_copy_88 : decode cX6_copy 88 = .ok (.iconst 1, 1) := by decide +kernel
theorem dX6_copy_89 : decode cX6_copy 89 = .ok (.ireturn, 1) := by decide +kernel
theorem dX6_element_0 : decode cX6_element 0 = .ok (.iload_n 1, 1) := by decide +kernel
theorem dX6_element_1 : decode cX6_element 1 = .ok (.invokestatic 68, 3) := by decide +kernel
theorem dX6_element_4 : decode cX6_element 4 = .ok (.ifCond .eq 27, 3) := by decide +kernel
theorem dX6_element_7 : decode cX6_element 7 = .ok (.aload_n 0, 1) := by decide +kernel
theorem dX6_element_8 : decode cX6_element 8 = .ok (.getfield 28, 3) := by decide +kernel
theorem dX6_element_11 : decode cX6_element 11 = .ok (.iload_n 1, 1) := by decide +kernel
theorem dX6_element_12 : decode cX6_element 12 = .ok (.iaload, 1) := by decide +kernel
theorem dX6_element_13 : decode cX6_element 13 = .ok (.bipush 100, 2) := by decide +kernel
theorem dX6_element_15 : decode cX6_element 15 = .ok (.if_icmp .lt 16, 3) := by decide +kernel
theorem dX6_element_18 : decode cX6_element 18 = .ok (.aload_n 0, 1) := by decide +kernel
theorem dX6_element_19 : decode cX6_element 19 = .ok (.getfield 24, 3) := by decide +kernel
theorem dX6_element_22 : decode cX6_element 22 = .ok (.iload_n 1, 1) := by decide +kernel
theorem dX6_element_23 : decode cX6_element 23 = .ok (.aaload, 1) := by decide +kernel
theorem dX6_element_24 : decode cX6_element 24 = .ok (.iload_n 2, 1) := by decide +kernel
theorem dX6_element_25 : decode cX6_element 25 = .ok (.invokevirtual 102, 3) := by decide +kernel
theorem dX6_element_28 : decode cX6_element 28 = .ok (.goto 4, 3) := by decide +kernel
theorem dX6_element_31 : decode cX6_element 31 = .ok (.lconst 0, 1) := by decide +kernel
theorem dX6_element_32 : decode cX6_element 32 = .ok (.lreturn, 1) := by decide +kernel
theorem dX6_show_0 : decode cX6_show 0 = .ok (.iload_n 1, 1) := by decide +kernel
theorem dX6_show_1 : decode cX6_show 1 = .ok (.invokestatic 68, 3) := by decide +kernel
theorem dX6_show_4 : decode cX6_show 4 = .ok (.ifCond .eq 19, 3) := by decide +kernel
theorem dX6_show_7 : decode cX6_show 7 = .ok (.iload_n 2, 1) := by decide +kernel
theorem dX6_show_8 : decode cX6_show 8 = .ok (.iconst (-1), 1) := by decide +kernel
theorem dX6_show_9 : decode cX6_show 9 = .ok (.if_icmp .eq 20, 3) := by decide +kernel
theorem dX6_show_12 : decode cX6_show 12 = .ok (.aload_n 0, 1) := by decide +kernel
theorem dX6_show_13 : decode cX6_show 13 = .ok (.getfield 10, 3) := by decide +kernel
theorem dX6_show_16 : decode cX6_show 16 = .ok (.iload_n 2, 1) := by decide +kernel
theorem dX6_show_17 : decode cX6_show 17 = .ok (.invokevirtual 106, 3) := by decide +kernel
theorem dX6_show_20 : decode cX6_show 20 = .ok (.ifCond .ne 9, 3) := by decide +kernel
theorem dX6_show_23 : decode cX6_show 23 = .ok (.aload_n 0, 1) := by decide +kernel
theorem dX6_show_24 : decode cX6_show 24 = .ok (.iconst 1, 1) := by decide +kernel
theorem dX6_show_25 : decode cX6_show 25 = .ok (.invokevirtual 72, 3) := by decide +kernel
theorem dX6_show_28 : decode cX6_show 28 = .ok (.ireturn, 1) := by decide +kernel
theorem dX6_show_29 : decode cX6_show 29 = .ok (.aload_n 0, 1) := by decide +kernel
theorem dX6_show_30 : decode cX6_show 30 = .ok (.getfield 28, 3) := by decide +kernel
theorem dX6_show_33 : decode cX6_show 33 = .ok (.iload_n 1, 1) := by decide +kernel
theorem dX6_show_34 : decode cX6_show 34 = .ok (.iload_n 2, 1) := by decide +kernel
theorem dX6_show_35 : decode cX6_show 35 = .ok (.iastore, 1) := by decide +kernel
theorem dX6_show_36 : decode cX6_show 36 = .ok (.iload_n 2, 1) := by decide +kernel
theorem dX6_show_37 : decode cX6_show 37 = .ok (.iconst (-1), 1) := by decide +kernel
theorem dX6_show_38 : decode cX6_show 38 = .ok (.if_icmp .ne 7, 3) := by decide +kernel
theorem dX6_show_41 : decode cX6_show 41 = .ok (.iconst 0, 1) := by decide +kernel
theorem dX6_show_42 : decode cX6_show 42 = .ok (.goto 4, 3) := by decide +kernel
theorem dX6_show_45 : decode cX6_show 45 = .ok (.iconst 1, 1) := by decide +kernel
theorem dX6_show_46 : decode cX6_show 46 = .ok (.ireturn, 1) := by decide +kernel
theorem dX6_holds_0 : decode cX6_holds 0 = .ok (.iload_n 1, 1) := by decide +kernel
theorem dX6_holds_1 : decode cX6_holds 1 = .ok (.invokestatic 68, 3) := by decide +kernel
theorem dX6_holds_4 : decode cX6_holds 4 = .ok (.ifCond .eq 12, 3) := by decide +kernel
theorem dX6_holds_7 : decode cX6_holds 7 = .ok (.aload_n 0, 1) := by decide +kernel
theorem dX6_holds_8 : decode cX6_holds 8 = .ok (.getfield 28, 3) := by decide +kernel
theorem dX6_holds_11 : decode cX6_holds 11 = .ok (.iload_n 1, 1) := by decide +kernel
theorem dX6_holds_12 : decode cX6_holds 12 = .ok (.iaload, 1) := by decide +kernel
theorem dX6_holds_13 : decode cX6_holds 13 = .ok (.goto 4, 3) := by decide +kernel
theorem dX6_holds_16 : decode cX6_holds 16 = .ok (.iconst (-1), 1) := by decide +kernel
theorem dX6_holds_17 : decode cX6_holds 17 = .ok (.ireturn, 1) := by decide +kernel
theorem dX6_says_0 : decode cX6_says 0 = .ok (.iload_n 1, 1) := by decide +kernel
theorem dX6_says_1 : decode cX6_says 1 = .ok (.invokestatic 68, 3) := by decide +kernel
theorem dX6_says_4 : decode cX6_says 4 = .ok (.ifCond .eq 10, 3) := by decide +kernel
theorem dX6_says_7 : decode cX6_says 7 = .ok (.iload_n 2, 1) := by decide +kernel
theorem dX6_says_8 : decode cX6_says 8 = .ok (.invokestatic 109, 3) := by decide +kernel
theorem dX6_says_11 : decode cX6_says 11 = .ok (.ifCond .ne 9, 3) := by decide +kernel
theorem dX6_says_14 : decode cX6_says 14 = .ok (.aload_n 0, 1) := by decide +kernel
theorem dX6_says_15 : decode cX6_says 15 = .ok (.iconst 1, 1) := by decide +kernel
theorem dX6_says_16 : decode cX6_says 16 = .ok (.invokevirtual 72, 3) := by decide +kernel
theorem dX6_says_19 : decode cX6_says 19 = .ok (.ireturn, 1) := by decide +kernel
theorem dX6_says_20 : decode cX6_says 20 = .ok (.aload_n 0, 1) := by decide +kernel
theorem dX6_says_21 : decode cX6_says 21 = .ok (.getfield 28, 3) := by decide +kernel
theorem dX6_says_24 : decode cX6_says 24 = .ok (.iload_n 1, 1) := by decide +kernel
theorem dX6_says_25 : decode cX6_says 25 = .ok (.iaload, 1) := by decide +kernel
theorem dX6_says_26 : decode cX6_says 26 = .ok (.istore_n 3, 1) := by decide +kernel
theorem dX6_says_27 : decode cX6_says 27 = .ok (.iload_n 3, 1) := by decide +kernel
theorem dX6_says_28 : decode cX6_says 28 = .ok (.iconst (-1), 1) := by decide +kernel
theorem dX6_says_29 : decode cX6_says 29 = .ok (.if_icmp .ne 9, 3) := by decide +kernel
theorem dX6_says_32 : decode cX6_says 32 = .ok (.aload_n 0, 1) := by decide +kernel
theorem dX6_says_33 : decode cX6_says 33 = .ok (.iconst 3, 1) := by decide +kernel
theorem dX6_says_34 : decode cX6_says 34 = .ok (.invokevirtual 72, 3) := by decide +kernel
theorem dX6_says_37 : decode cX6_says 37 = .ok (.ireturn, 1) := by decide +kernel
theorem dX6_says_38 : decode cX6_says 38 = .ok (.aload_n 0, 1) := by decide +kernel
theorem dX6_says_39 : decode cX6_says 39 = .ok (.getfield 10, 3) := by decide +kernel
theorem dX6_says_42 : decode cX6_says 42 = .ok (.iload_n 3, 1) := by decide +kernel
theorem dX6_says_43 : decode cX6_says 43 = .ok (.invokevirtual 106, 3) := by decide +kernel
theorem dX6_says_46 : decode cX6_says 46 = .ok (.ifCond .eq 19, 3) := by decide +kernel
theorem dX6_says_49 : decode cX6_says 49 = .ok (.aload_n 0, 1) := by decide +kernel
theorem dX6_says_50 : decode cX6_says 50 = .ok (.getfield 10, 3) := by decide +kernel
theorem dX6_says_53 : decode cX6_says 53 = .ok (.getfield 112, 3) := by decide +kernel
theorem dX6_says_56 : decode cX6_says 56 = .ok (.iload_n 3, 1) := by decide +kernel
theorem dX6_says_57 : decode cX6_says 57 = .ok (.iaload, 1) := by decide +kernel
theorem dX6_says_58 : decode cX6_says 58 = .ok (.iload_n 2, 1) := by decide +kernel
theorem dX6_says_59 : decode cX6_says 59 = .ok (.invokestatic 115, 3) := by decide +kernel
theorem dX6_says_62 : decode cX6_says 62 = .ok (.ifCond .ne 9, 3) := by decide +kernel
theorem dX6_says_65 : decode cX6_says 65 = .ok (.aload_n 0, 1) := by decide +kernel
theorem dX6_says_66 : decode cX6_says 66 = .ok (.iconst 2, 1) := by decide +kernel
theorem dX6_says_67 : decode cX6_says 67 = .ok (.invokevirtual 72, 3) := by decide +kernel
theorem dX6_says_70 : decode cX6_says 70 = .ok (.ireturn, 1) := by decide +kernel
theorem dX6_says_71 : decode cX6_says 71 = .ok (.aload_n 0, 1) := by decide +kernel
theorem dX6_says_72 : decode cX6_says 72 = .ok (.iload_n 3, 1) := by decide +kernel
theorem dX6_says_73 : decode cX6_says 73 = .ok (.iload_n 2, 1) := by decide +kernel
theorem dX6_says_74 : decode cX6_says 74 = .ok (.invokevirtual 118, 3) := by decide +kernel
theorem dX6_says_77 : decode cX6_says 77 = .ok (.ireturn, 1) := by decide +kernel
theorem dX6_said_0 : decode cX6_said 0 = .ok (.iload_n 2, 1) := by decide +kernel
theorem dX6_said_1 : decode cX6_said 1 = .ok (.tableswitch 82 0 6 #[82, 43, 62, 43, 73, 62, 62], 43) := by decide +kernel
theorem dX6_said_44 : decode cX6_said 44 = .ok (.aload_n 0, 1) := by decide +kernel
theorem dX6_said_45 : decode cX6_said 45 = .ok (.getfield 10, 3) := by decide +kernel
theorem dX6_said_48 : decode cX6_said 48 = .ok (.aload_n 0, 1) := by decide +kernel
theorem dX6_said_49 : decode cX6_said 49 = .ok (.getfield 10, 3) := by decide +kernel
theorem dX6_said_52 : decode cX6_said 52 = .ok (.getfield 121, 3) := by decide +kernel
theorem dX6_said_55 : decode cX6_said 55 = .ok (.invokevirtual 124, 3) := by decide +kernel
theorem dX6_said_58 : decode cX6_said 58 = .ok (.iload_n 1, 1) := by decide +kernel
theorem dX6_said_59 : decode cX6_said 59 = .ok (.invokestatic 127, 3) := by decide +kernel
theorem dX6_said_62 : decode cX6_said 62 = .ok (.ireturn, 1) := by decide +kernel
theorem dX6_said_63 : decode cX6_said 63 = .ok (.aload_n 0, 1) := by decide +kernel
theorem dX6_said_64 : decode cX6_said 64 = .ok (.getfield 10, 3) := by decide +kernel
theorem dX6_said_67 : decode cX6_said 67 = .ok (.iload_n 1, 1) := by decide +kernel
theorem dX6_said_68 : decode cX6_said 68 = .ok (.bipush 100, 2) := by decide +kernel
theorem dX6_said_70 : decode cX6_said 70 = .ok (.invokevirtual 130, 3) := by decide +kernel
theorem dX6_said_73 : decode cX6_said 73 = .ok (.ireturn, 1) := by decide +kernel
theorem dX6_said_74 : decode cX6_said 74 = .ok (.aload_n 0, 1) := by decide +kernel
theorem dX6_said_75 : decode cX6_said 75 = .ok (.getfield 10, 3) := by decide +kernel
theorem dX6_said_78 : decode cX6_said 78 = .ok (.iload_n 1, 1) := by decide +kernel
theorem dX6_said_79 : decode cX6_said 79 = .ok (.invokevirtual 133, 3) := by decide +kernel
theorem dX6_said_82 : decode cX6_said 82 = .ok (.ireturn, 1) := by decide +kernel
theorem dX6_said_83 : decode cX6_said 83 = .ok (.aload_n 0, 1) := by decide +kernel
theorem dX6_said_84 : decode cX6_said 84 = .ok (.getfield 10, 3) := by decide +kernel
theorem dX6_said_87 : decode cX6_said 87 = .ok (.getfield 136, 3) := by decide +kernel
theorem dX6_said_90 : decode cX6_said 90 = .ok (.iload_n 1, 1) := by decide +kernel
theorem dX6_said_91 : decode cX6_said 91 = .ok (.iaload, 1) := by decide +kernel
theorem dX6_said_92 : decode cX6_said 92 = .ok (.ireturn, 1) := by decide +kernel
theorem dX6_rowRefusal_0 : decode cX6_rowRefusal 0 = .ok (.iload_n 1, 1) := by decide +kernel
theorem dX6_rowRefusal_1 : decode cX6_rowRefusal 1 = .ok (.invokestatic 68, 3) := by decide +kernel
theorem dX6_rowRefusal_4 : decode cX6_rowRefusal 4 = .ok (.ifCond .ne 5, 3) := by decide +kernel
theorem dX6_rowRefusal_7 : decode cX6_rowRefusal 7 = .ok (.iconst 1, 1) := by decide +kernel
theorem dX6_rowRefusal_8 : decode cX6_rowRefusal 8 = .ok (.ireturn, 1) := by decide +kernel
theorem dX6_rowRefusal_9 : decode cX6_rowRefusal 9 = .ok (.aload_n 0, 1) := by decide +kernel
theorem dX6_rowRefusal_10 : decode cX6_rowRefusal 10 = .ok (.getfield 28, 3) := by decide +kernel
theorem dX6_rowRefusal_13 : decode cX6_rowRefusal 13 = .ok (.iload_n 1, 1) := by decide +kernel
theorem dX6_rowRefusal_14 : decode cX6_rowRefusal 14 = .ok (.iaload, 1) := by decide +kernel
theorem dX6_rowRefusal_15 : decode cX6_rowRefusal 15 = .ok (.iconst (-1), 1) := by decide +kernel
theorem dX6_rowRefusal_16 : decode cX6_rowRefusal 16 = .ok (.if_icmp .ne 5, 3) := by decide +kernel
theorem dX6_rowRefusal_19 : decode cX6_rowRefusal 19 = .ok (.iconst 3, 1) := by decide +kernel
theorem dX6_rowRefusal_20 : decode cX6_rowRefusal 20 = .ok (.ireturn, 1) := by decide +kernel
theorem dX6_rowRefusal_21 : decode cX6_rowRefusal 21 = .ok (.aload_n 0, 1) := by decide +kernel
theorem dX6_rowRefusal_22 : decode cX6_rowRefusal 22 = .ok (.getfield 28, 3) := by decide +kernel
theorem dX6_rowRefusal_25 : decode cX6_rowRefusal 25 = .ok (.iload_n 1, 1) := by decide +kernel
theorem dX6_rowRefusal_26 : decode cX6_rowRefusal 26 = .ok (.iaload, 1) := by decide +kernel
theorem dX6_rowRefusal_27 : decode cX6_rowRefusal 27 = .ok (.bipush 100, 2) := by decide +kernel
theorem dX6_rowRefusal_29 : decode cX6_rowRefusal 29 = .ok (.if_icmp .ge 7, 3) := by decide +kernel
theorem dX6_rowRefusal_32 : decode cX6_rowRefusal 32 = .ok (.iconst 2, 1) := by decide +kernel
theorem dX6_rowRefusal_33 : decode cX6_rowRefusal 33 = .ok (.goto 4, 3) := by decide +kernel
theorem dX6_rowRefusal_36 : decode cX6_rowRefusal 36 = .ok (.iconst 0, 1) := by decide +kernel
theorem dX6_rowRefusal_37 : decode cX6_rowRefusal 37 = .ok (.ireturn, 1) := by decide +kernel
theorem dX6_copyRefusal_0 : decode cX6_copyRefusal 0 = .ok (.aload_n 0, 1) := by decide +kernel
theorem dX6_copyRefusal_1 : decode cX6_copyRefusal 1 = .ok (.iload_n 1, 1) := by decide +kernel
theorem dX6_copyRefusal_2 : decode cX6_copyRefusal 2 = .ok (.invokevirtual 80, 3) := by decide +kernel
theorem dX6_copyRefusal_5 : decode cX6_copyRefusal 5 = .ok (.istore_n 3, 1) := by decide +kernel
theorem dX6_copyRefusal_6 : decode cX6_copyRefusal 6 = .ok (.aload_n 0, 1) := by decide +kernel
theorem dX6_copyRefusal_7 : decode cX6_copyRefusal 7 = .ok (.iload_n 2, 1) := by decide +kernel
theorem dX6_copyRefusal_8 : decode cX6_copyRefusal 8 = .ok (.invokevirtual 80, 3) := by decide +kernel
theorem dX6_copyRefusal_11 : decode cX6_copyRefusal 11 = .ok (.istore 4, 2) := by decide +kernel
theorem dX6_copyRefusal_13 : decode cX6_copyRefusal 13 = .ok (.iload_n 3, 1) := by decide +kernel
theorem dX6_copyRefusal_14 : decode cX6_copyRefusal 14 = .ok (.iconst 1, 1) := by decide +kernel
theorem dX6_copyRefusal_15 : decode cX6_copyRefusal 15 = .ok (.if_icmp .eq 9, 3) := by decide +kernel
theorem dX6_copyRefusal_18 : decode cX6_copyRefusal 18 = .ok (.iload 4, 2) := by decide +kernel
theorem dX6_copyRefusal_20 : decode cX6_copyRefusal 20 = .ok (.iconst 1, 1) := by decide +kernel
theorem dX6_copyRefusal_21 : decode cX6_copyRefusal 21 = .ok (.if_icmp .ne 5, 3) := by decide +kernel
theorem dX6_copyRefusal_24 : decode cX6_copyRefusal 24 = .ok (.iconst 1, 1) := by decide +kernel
theorem dX6_copyRefusal_25 : decode cX6_copyRefusal 25 = .ok (.ireturn, 1) := by decide +kernel
theorem dX6_copyRefusal_26 : decode cX6_copyRefusal 26 = .ok (.iload_n 3, 1) := by decide +kernel
theorem dX6_copyRefusal_27 : decode cX6_copyRefusal 27 = .ok (.iconst 2, 1) := by decide +kernel
theorem dX6_copyRefusal_28 : decode cX6_copyRefusal 28 = .ok (.if_icmp .eq 9, 3) := by decide +kernel
theorem dX6_copyRefusal_31 : decode cX6_copyRefusal 31 = .ok (.iload 4, 2) := by decide +kernel
theorem dX6_copyRefusal_33 : decode cX6_copyRefusal 33 = .ok (.iconst 2, 1) := by decide +kernel
theorem dX6_copyRefusal_34 : decode cX6_copyRefusal 34 = .ok (.if_icmp .ne 5, 3) := by decide +kernel
theorem dX6_copyRefusal_37 : decode cX6_copyRefusal 37 = .ok (.iconst 2, 1) := by decide +kernel
theorem dX6_copyRefusal_38 : decode cX6_copyRefusal 38 = .ok (.ireturn, 1) := by decide +kernel
theorem dX6_copyRefusal_39 : decode cX6_copyRefusal 39 = .ok (.iload_n 3, 1) := by decide +kernel
theorem dX6_copyRefusal_40 : decode cX6_copyRefusal 40 = .ok (.iconst 3, 1) := by decide +kernel
theorem dX6_copyRefusal_41 : decode cX6_copyRefusal 41 = .ok (.if_icmp .eq 9, 3) := by decide +kernel
theorem dX6_copyRefusal_44 : decode cX6_copyRefusal 44 = .ok (.iload 4, 2) := by decide +kernel
theorem dX6_copyRefusal_46 : decode cX6_copyRefusal 46 = .ok (.iconst 3, 1) := by decide +kernel
theorem dX6_copyRefusal_47 : decode cX6_copyRefusal 47 = .ok (.if_icmp .ne 5, 3) := by decide +kernel
theorem dX6_copyRefusal_50 : decode cX6_copyRefusal 50 = .ok (.iconst 3, 1) := by decide +kernel
theorem dX6_copyRefusal_51 : decode cX6_copyRefusal 51 = .ok (.ireturn, 1) := by decide +kernel
theorem dX6_copyRefusal_52 : decode cX6_copyRefusal 52 = .ok (.aload_n 0, 1) := by decide +kernel
theorem dX6_copyRefusal_53 : decode cX6_copyRefusal 53 = .ok (.getfield 28, 3) := by decide +kernel
theorem dX6_copyRefusal_56 : decode cX6_copyRefusal 56 = .ok (.iload_n 1, 1) := by decide +kernel
theorem dX6_copyRefusal_57 : decode cX6_copyRefusal 57 = .ok (.iaload, 1) := by decide +kernel
theorem dX6_copyRefusal_58 : decode cX6_copyRefusal 58 = .ok (.aload_n 0, 1) := by decide +kernel
theorem dX6_copyRefusal_59 : decode cX6_copyRefusal 59 = .ok (.getfield 28, 3) := by decide +kernel
theorem dX6_copyRefusal_62 : decode cX6_copyRefusal 62 = .ok (.iload_n 2, 1) := by decide +kernel
theorem dX6_copyRefusal_63 : decode cX6_copyRefusal 63 = .ok (.iaload, 1) := by decide +kernel
theorem dX6_copyRefusal_64 : decode cX6_copyRefusal 64 = .ok (.if_icmp .ne 7, 3) := by decide +kernel
theorem dX6_copyRefusal_67 : decode cX6_copyRefusal 67 = .ok (.iconst 0, 1) := by decide +kernel
theorem dX6_copyRefusal_68 : decode cX6_copyRefusal 68 = .ok (.goto 4, 3) := by decide +kernel
theorem dX6_copyRefusal_71 : decode cX6_copyRefusal 71 = .ok (.iconst 2, 1) := by decide +kernel
theorem dX6_copyRefusal_72 : decode cX6_copyRefusal 72 = .ok (.ireturn, 1) := by decide +kernel
theorem dX6_peak_0 : decode cX6_peak 0 = .ok (.iload_n 1, 1) := by decide +kernel
theorem dX6_peak_1 : decode cX6_peak 1 = .ok (.invokestatic 109, 3) := by decide +kernel
theorem dX6_peak_4 : decode cX6_peak 4 = .ok (.ifCond .ne 9, 3) := by decide +kernel
theorem dX6_peak_7 : decode cX6_peak 7 = .ok (.aload_n 0, 1) := by decide +kernel
theorem dX6_peak_8 : decode cX6_peak 8 = .ok (.iconst 1, 1) := by decide +kernel
theorem dX6_peak_9 : decode cX6_peak 9 = .ok (.invokevirtual 72, 3) := by decide +kernel
theorem dX6_peak_12 : decode cX6_peak 12 = .ok (.ireturn, 1) := by decide +kernel
theorem dX6_peak_13 : decode cX6_peak 13 = .ok (.iload_n 2, 1) := by decide +kernel
theorem dX6_peak_14 : decode cX6_peak 14 = .ok (.invokestatic 139, 3) := by decide +kernel
theorem dX6_peak_17 : decode cX6_peak 17 = .ok (.ifCond .eq 29, 3) := by decide +kernel
theorem dX6_peak_20 : decode cX6_peak 20 = .ok (.iload_n 3, 1) := by decide +kernel
theorem dX6_peak_21 : decode cX6_peak 21 = .ok (.invokestatic 142, 3) := by decide +kernel
theorem dX6_peak_24 : decode cX6_peak 24 = .ok (.ifCond .eq 22, 3) := by decide +kernel
theorem dX6_peak_27 : decode cX6_peak 27 = .ok (.iload 4, 2) := by decide +kernel
theorem dX6_peak_29 : decode cX6_peak 29 = .ok (.invokestatic 145, 3) := by decide +kernel
theorem dX6_peak_32 : decode cX6_peak 32 = .ok (.ifCond .eq 14, 3) := by decide +kernel
theorem dX6_peak_35 : decode cX6_peak 35 = .ok (.aload_n 0, 1) := by decide +kernel
theorem dX6_peak_36 : decode cX6_peak 36 = .ok (.getfield 10, 3) := by decide +kernel
theorem dX6_peak_39 : decode cX6_peak 39 = .ok (.iload_n 3, 1) := by decide +kernel
theorem dX6_peak_40 : decode cX6_peak 40 = .ok (.invokevirtual 148, 3) := by decide +kernel
theorem dX6_peak_43 : decode cX6_peak 43 = .ok (.ifCond .eq 10, 3) := by decide +kernel
theorem dX6_peak_46 : decode cX6_peak 46 = .ok (.aload_n 0, 1) := by decide +kernel
theorem dX6_peak_47 : decode cX6_peak 47 = .ok (.bipush 6, 2) := by decide +kernel
theorem dX6_peak_49 : decode cX6_peak 49 = .ok (.invokevirtual 72, 3) := by decide +kernel
theorem dX6_peak_52 : decode cX6_peak 52 = .ok (.ireturn, 1) := by decide +kernel
theorem dX6_peak_53 : decode cX6_peak 53 = .ok (.aload_n 0, 1) := by decide +kernel
theorem dX6_peak_54 : decode cX6_peak 54 = .ok (.getfield 10, 3) := by decide +kernel
theorem dX6_peak_57 : decode cX6_peak 57 = .ok (.getfield 151, 3) := by decide +kernel
theorem dX6_peak_60 : decode cX6_peak 60 = .ok (.bipush 10, 2) := by decide +kernel
theorem dX6_peak_62 : decode cX6_peak 62 = .ok (.if_icmp .lt 10, 3) := by decide +kernel
theorem dX6_peak_65 : decode cX6_peak 65 = .ok (.aload_n 0, 1) := by decide +kernel
theorem dX6_peak_66 : decode cX6_peak 66 = .ok (.bipush 7, 2) := by decide +kernel
theorem dX6_peak_68 : decode cX6_peak 68 = .ok (.invokevirtual 72, 3) := by decide +kernel
theorem dX6_peak_71 : decode cX6_peak 71 = .ok (.ireturn, 1) := by decide +kernel
theorem dX6_peak_72 : decode cX6_peak 72 = .ok (.aload_n 0, 1) := by decide +kernel
theorem dX6_peak_73 : decode cX6_peak 73 = .ok (.getfield 10, 3) := by decide +kernel
theorem dX6_peak_76 : decode cX6_peak 76 = .ok (.iload_n 1, 1) := by decide +kernel
theorem dX6_peak_77 : decode cX6_peak 77 = .ok (.iload_n 2, 1) := by decide +kernel
theorem dX6_peak_78 : decode cX6_peak 78 = .ok (.iload_n 3, 1) := by decide +kernel
theorem dX6_peak_79 : decode cX6_peak 79 = .ok (.iload 4, 2) := by decide +kernel
theorem dX6_peak_81 : decode cX6_peak 81 = .ok (.invokevirtual 154, 3) := by decide +kernel
theorem dX6_peak_84 : decode cX6_peak 84 = .ok (.ireturn, 1) := by decide +kernel
theorem dX6_screen_0 : decode cX6_screen 0 = .ok (.iload_n 1, 1) := by decide +kernel
theorem dX6_screen_1 : decode cX6_screen 1 = .ok (.invokestatic 142, 3) := by decide +kernel
theorem dX6_screen_4 : decode cX6_screen 4 = .ok (.ifCond .eq 10, 3) := by decide +kernel
theorem dX6_screen_7 : decode cX6_screen 7 = .ok (.iload_n 2, 1) := by decide +kernel
theorem dX6_screen_8 : decode cX6_screen 8 = .ok (.invokestatic 145, 3) := by decide +kernel
theorem dX6_screen_11 : decode cX6_screen 11 = .ok (.ifCond .ne 10, 3) := by decide +kernel
theorem dX6_screen_14 : decode cX6_screen 14 = .ok (.aload_n 0, 1) := by decide +kernel
theorem dX6_screen_15 : decode cX6_screen 15 = .ok (.bipush 6, 2) := by decide +kernel
theorem dX6_screen_17 : decode cX6_screen 17 = .ok (.invokevirtual 72, 3) := by decide +kernel
theorem dX6_screen_20 : decode cX6_screen 20 = .ok (.ireturn, 1) := by decide +kernel
theorem dX6_screen_21 : decode cX6_screen 21 = .ok (.aload_n 0, 1) := by decide +kernel
theorem dX6_screen_22 : decode cX6_screen 22 = .ok (.getfield 10, 3) := by decide +kernel
theorem dX6_screen_25 : decode cX6_screen 25 = .ok (.getfield 158, 3) := by decide +kernel
theorem dX6_screen_28 : decode cX6_screen 28 = .ok (.bipush 6, 2) := by decide +kernel
theorem dX6_screen_30 : decode cX6_screen 30 = .ok (.if_icmp .lt 10, 3) := by decide +kernel
theorem dX6_screen_33 : decode cX6_screen 33 = .ok (.aload_n 0, 1) := by decide +kernel
theorem dX6_screen_34 : decode cX6_screen 34 = .ok (.bipush 7, 2) := by decide +kernel
theorem dX6_screen_36 : decode cX6_screen 36 = .ok (.invokevirtual 72, 3) := by decide +kernel
theorem dX6_screen_39 : decode cX6_screen 39 = .ok (.ireturn, 1) := by decide +kernel
theorem dX6_screen_40 : decode cX6_screen 40 = .ok (.aload_n 0, 1) := by decide +kernel
theorem dX6_screen_41 : decode cX6_screen 41 = .ok (.getfield 10, 3) := by decide +kernel
theorem dX6_screen_44 : decode cX6_screen 44 = .ok (.iload_n 1, 1) := by decide +kernel
theorem dX6_screen_45 : decode cX6_screen 45 = .ok (.iload_n 2, 1) := by decide +kernel
theorem dX6_screen_46 : decode cX6_screen 46 = .ok (.invokevirtual 161, 3) := by decide +kernel
theorem dX6_screen_49 : decode cX6_screen 49 = .ok (.ireturn, 1) := by decide +kernel
theorem dX6_valley_0 : decode cX6_valley 0 = .ok (.iload_n 1, 1) := by decide +kernel
theorem dX6_valley_1 : decode cX6_valley 1 = .ok (.ifCond .lt 10, 3) := by decide +kernel
theorem dX6_valley_4 : decode cX6_valley 4 = .ok (.iload_n 1, 1) := by decide +kernel
theorem dX6_valley_5 : decode cX6_valley 5 = .ok (.sipush 999, 3) := by decide +kernel
theorem dX6_valley_8 : decode cX6_valley 8 = .ok (.if_icmp .le 10, 3) := by decide +kernel
theorem dX6_valley_11 : decode cX6_valley 11 = .ok (.aload_n 0, 1) := by decide +kernel
theorem dX6_valley_12 : decode cX6_valley 12 = .ok (.bipush 6, 2) := by decide +kernel
theorem dX6_valley_14 : decode cX6_valley 14 = .ok (.invokevirtual 72, 3) := by decide +kernel
theorem dX6_valley_17 : decode cX6_valley 17 = .ok (.ireturn, 1) := by decide +kernel
theorem dX6_valley_18 : decode cX6_valley 18 = .ok (.aload_n 0, 1) := by decide +kernel
theorem dX6_valley_19 : decode cX6_valley 19 = .ok (.getfield 10, 3) := by decide +kernel
theorem dX6_valley_22 : decode cX6_valley 22 = .ok (.getfield 164, 3) := by decide +kernel
theorem dX6_valley_25 : decode cX6_valley 25 = .ok (.bipush 8, 2) := by decide +kernel
theorem dX6_valley_27 : decode cX6_valley 27 = .ok (.if_icmp .lt 10, 3) := by decide +kernel
theorem dX6_valley_30 : decode cX6_valley 30 = .ok (.aload_n 0, 1) := by decide +kernel
theorem dX6_valley_31 : decode cX6_valley 31 = .ok (.bipush 7, 2) := by decide +kernel
theorem dX6_valley_33 : decode cX6_valley 33 = .ok (.invokevirtual 72, 3) := by decide +kernel
theorem dX6_valley_36 : decode cX6_valley 36 = .ok (.ireturn, 1) := by decide +kernel
theorem dX6_valley_37 : decode cX6_valley 37 = .ok (.aload_n 0, 1) := by decide +kernel
theorem dX6_valley_38 : decode cX6_valley 38 = .ok (.getfield 10, 3) := by decide +kernel
theorem dX6_valley_41 : decode cX6_valley 41 = .ok (.iload_n 1, 1) := by decide +kernel
theorem dX6_valley_42 : decode cX6_valley 42 = .ok (.invokevirtual 167, 3) := by decide +kernel
theorem dX6_valley_45 : decode cX6_valley 45 = .ok (.ireturn, 1) := by decide +kernel
theorem dX6_under_0 : decode cX6_under 0 = .ok (.aload_n 0, 1) := by decide +kernel
theorem dX6_under_1 : decode cX6_under 1 = .ok (.getfield 10, 3) := by decide +kernel
theorem dX6_under_4 : decode cX6_under 4 = .ok (.iload_n 1, 1) := by decide +kernel
theorem dX6_under_5 : decode cX6_under 5 = .ok (.invokevirtual 170, 3) := by decide +kernel
theorem dX6_under_8 : decode cX6_under 8 = .ok (.ifCond .eq 14, 3) := by decide +kernel
theorem dX6_under_11 : decode cX6_under 11 = .ok (.aload_n 0, 1) := by decide +kernel
theorem dX6_under_12 : decode cX6_under 12 = .ok (.getfield 10, 3) := by decide +kernel
theorem dX6_under_15 : decode cX6_under 15 = .ok (.iload_n 2, 1) := by decide +kernel
theorem dX6_under_16 : decode cX6_under 16 = .ok (.invokevirtual 106, 3) := by decide +kernel
theorem dX6_under_19 : decode cX6_under 19 = .ok (.ifCond .ne 9, 3) := by decide +kernel
theorem dX6_under_22 : decode cX6_under 22 = .ok (.aload_n 0, 1) := by decide +kernel
theorem dX6_under_23 : decode cX6_under 23 = .ok (.iconst 1, 1) := by decide +kernel
theorem dX6_under_24 : decode cX6_under 24 = .ok (.invokevirtual 72, 3) := by decide +kernel
theorem dX6_under_27 : decode cX6_under 27 = .ok (.ireturn, 1) := by decide +kernel
theorem dX6_under_28 : decode cX6_under 28 = .ok (.aload_n 0, 1) := by decide +kernel
theorem dX6_under_29 : decode cX6_under 29 = .ok (.getfield 10, 3) := by decide +kernel
theorem dX6_under_32 : decode cX6_under 32 = .ok (.getfield 173, 3) := by decide +kernel
theorem dX6_under_35 : decode cX6_under 35 = .ok (.iload_n 1, 1) := by decide +kernel
theorem dX6_under_36 : decode cX6_under 36 = .ok (.iaload, 1) := by decide +kernel
theorem dX6_under_37 : decode cX6_under 37 = .ok (.iload_n 2, 1) := by decide +kernel
theorem dX6_under_38 : decode cX6_under 38 = .ok (.invokestatic 127, 3) := by decide +kernel
theorem dX6_under_41 : decode cX6_under 41 = .ok (.istore 4, 2) := by decide +kernel
theorem dX6_under_43 : decode cX6_under 43 = .ok (.aload_n 0, 1) := by decide +kernel
theorem dX6_under_44 : decode cX6_under 44 = .ok (.getfield 10, 3) := by decide +kernel
theorem dX6_under_47 : decode cX6_under 47 = .ok (.iload_n 1, 1) := by decide +kernel
theorem dX6_under_48 : decode cX6_under 48 = .ok (.iload_n 2, 1) := by decide +kernel
theorem dX6_under_49 : decode cX6_under 49 = .ok (.iload_n 3, 1) := by decide +kernel
theorem dX6_under_50 : decode cX6_under 50 = .ok (.invokevirtual 176, 3) := by decide +kernel
theorem dX6_under_53 : decode cX6_under 53 = .ok (.iload 4, 2) := by decide +kernel
theorem dX6_under_55 : decode cX6_under 55 = .ok (.ireturn, 1) := by decide +kernel
theorem dX6_peakOf_0 : decode cX6_peakOf 0 = .ok (.aload_n 0, 1) := by decide +kernel
theorem dX6_peakOf_1 : decode cX6_peakOf 1 = .ok (.getfield 10, 3) := by decide +kernel
theorem dX6_peakOf_4 : decode cX6_peakOf 4 = .ok (.iload_n 1, 1) := by decide +kernel
theorem dX6_peakOf_5 : decode cX6_peakOf 5 = .ok (.invokevirtual 106, 3) := by decide +kernel
theorem dX6_peakOf_8 : decode cX6_peakOf 8 = .ok (.ifCond .ne 9, 3) := by decide +kernel
theorem dX6_peakOf_11 : decode cX6_peakOf 11 = .ok (.aload_n 0, 1) := by decide +kernel
theorem dX6_peakOf_12 : decode cX6_peakOf 12 = .ok (.iconst 5, 1) := by decide +kernel
theorem dX6_peakOf_13 : decode cX6_peakOf 13 = .ok (.invokevirtual 72, 3) := by decide +kernel
theorem dX6_peakOf_16 : decode cX6_peakOf 16 = .ok (.ireturn, 1) := by decide +kernel
theorem dX6_peakOf_17 : decode cX6_peakOf 17 = .ok (.iload_n 2, 1) := by decide +kernel
theorem dX6_peakOf_18 : decode cX6_peakOf 18 = .ok (.tableswitch 114 0 6 #[42, 52, 62, 72, 82, 94, 104], 42) := by decide +kernel
theorem dX6_peakOf_60 : decode cX6_peakOf 60 = .ok (.aload_n 0, 1) := by decide +kernel
theorem dX6_peakOf_61 : decode cX6_peakOf 61 = .ok (.getfield 10, 3) := by decide +kernel
theorem dX6_peakOf_64 : decode cX6_peakOf 64 = .ok (.getfield 112, 3) := by decide +kernel
theorem dX6_peakOf_67 : decode cX6_peakOf 67 = .ok (.iload_n 1, 1) := by decide +kernel
theorem dX6_peakOf_68 : decode cX6_peakOf 68 = .ok (.iaload, 1) := by decide +kernel
theorem dX6_peakOf_69 : decode cX6_peakOf 69 = .ok (.ireturn, 1) := by decide +kernel
theorem dX6_peakOf_70 : decode cX6_peakOf 70 = .ok (.aload_n 0, 1) := by decide +kernel
theorem dX6_peakOf_71 : decode cX6_peakOf 71 = .ok (.getfield 10, 3) := by decide +kernel
theorem dX6_peakOf_74 : decode cX6_peakOf 74 = .ok (.getfield 180, 3) := by decide +kernel
theorem dX6_peakOf_77 : decode cX6_peakOf 77 = .ok (.iload_n 1, 1) := by decide +kernel
theorem dX6_peakOf_78 : decode cX6_peakOf 78 = .ok (.iaload, 1) := by decide +kernel
theorem dX6_peakOf_79 : decode cX6_peakOf 79 = .ok (.ireturn, 1) := by decide +kernel
theorem dX6_peakOf_80 : decode cX6_peakOf 80 = .ok (.aload_n 0, 1) := by decide +kernel
theorem dX6_peakOf_81 : decode cX6_peakOf 81 = .ok (.getfield 10, 3) := by decide +kernel
theorem dX6_peakOf_84 : decode cX6_peakOf 84 = .ok (.getfield 183, 3) := by decide +kernel
theorem dX6_peakOf_87 : decode cX6_peakOf 87 = .ok (.iload_n 1, 1) := by decide +kernel
theorem dX6_peakOf_88 : decode cX6_peakOf 88 = .ok (.iaload, 1) := by decide +kernel
theorem dX6_peakOf_89 : decode cX6_peakOf 89 = .ok (.ireturn, 1) := by decide +kernel
theorem dX6_peakOf_90 : decode cX6_peakOf 90 = .ok (.aload_n 0, 1) := by decide +kernel
theorem dX6_peakOf_91 : decode cX6_peakOf 91 = .ok (.getfield 10, 3) := by decide +kernel
theorem dX6_peakOf_94 : decode cX6_peakOf 94 = .ok (.getfield 136, 3) := by decide +kernel
theorem dX6_peakOf_97 : decode cX6_peakOf 97 = .ok (.iload_n 1, 1) := by decide +kernel
theorem dX6_peakOf_98 : decode cX6_peakOf 98 = .ok (.iaload, 1) := by decide +kernel
theorem dX6_peakOf_99 : decode cX6_peakOf 99 = .ok (.ireturn, 1) := by decide +kernel
theorem dX6_peakOf_100 : decode cX6_peakOf 100 = .ok (.aload_n 0, 1) := by decide +kernel
theorem dX6_peakOf_101 : decode cX6_peakOf 101 = .ok (.getfield 10, 3) := by decide +kernel
theorem dX6_peakOf_104 : decode cX6_peakOf 104 = .ok (.getfield 186, 3) := by decide +kernel
theorem dX6_peakOf_107 : decode cX6_peakOf 107 = .ok (.iload_n 1, 1) := by decide +kernel
theorem dX6_peakOf_108 : decode cX6_peakOf 108 = .ok (.invokestatic 127, 3) := by decide +kernel
theorem dX6_peakOf_111 : decode cX6_peakOf 111 = .ok (.ireturn, 1) := by decide +kernel
theorem dX6_peakOf_112 : decode cX6_peakOf 112 = .ok (.aload_n 0, 1) := by decide +kernel
theorem dX6_peakOf_113 : decode cX6_peakOf 113 = .ok (.getfield 10, 3) := by decide +kernel
theorem dX6_peakOf_116 : decode cX6_peakOf 116 = .ok (.getfield 189, 3) := by decide +kernel
theorem dX6_peakOf_119 : decode cX6_peakOf 119 = .ok (.iload_n 1, 1) := by decide +kernel
theorem dX6_peakOf_120 : decode cX6_peakOf 120 = .ok (.iaload, 1) := by decide +kernel
theorem dX6_peakOf_121 : decode cX6_peakOf 121 = .ok (.ireturn, 1) := by decide +kernel
theorem dX6_peakOf_122 : decode cX6_peakOf 122 = .ok (.aload_n 0, 1) := by decide +kernel
theorem dX6_peakOf_123 : decode cX6_peakOf 123 = .ok (.getfield 10, 3) := by decide +kernel
theorem dX6_peakOf_126 : decode cX6_peakOf 126 = .ok (.getfield 192, 3) := by decide +kernel
theorem dX6_peakOf_129 : decode cX6_peakOf 129 = .ok (.iload_n 1, 1) := by decide +kernel
theorem dX6_peakOf_130 : decode cX6_peakOf 130 = .ok (.iaload, 1) := by decide +kernel
theorem dX6_peakOf_131 : decode cX6_peakOf 131 = .ok (.ireturn, 1) := by decide +kernel
theorem dX6_peakOf_132 : decode cX6_peakOf 132 = .ok (.aload_n 0, 1) := by decide +kernel
theorem dX6_peakOf_133 : decode cX6_peakOf 133 = .ok (.iconst 5, 1) := by decide +kernel
theorem dX6_peakOf_134 : decode cX6_peakOf 134 = .ok (.invokevirtual 72, 3) := by decide +kernel
theorem dX6_peakOf_137 : decode cX6_peakOf 137 = .ok (.ireturn, 1) := by decide +kernel
theorem dX6_valleyOf_0 : decode cX6_valleyOf 0 = .ok (.aload_n 0, 1) := by decide +kernel
theorem dX6_valleyOf_1 : decode cX6_valleyOf 1 = .ok (.getfield 10, 3) := by decide +kernel
theorem dX6_valleyOf_4 : decode cX6_valleyOf 4 = .ok (.iload_n 1, 1) := by decide +kernel
theorem dX6_valleyOf_5 : decode cX6_valleyOf 5 = .ok (.invokevirtual 170, 3) := by decide +kernel
theorem dX6_valleyOf_8 : decode cX6_valleyOf 8 = .ok (.ifCond .ne 9, 3) := by decide +kernel
theorem dX6_valleyOf_11 : decode cX6_valleyOf 11 = .ok (.aload_n 0, 1) := by decide +kernel
theorem dX6_valleyOf_12 : decode cX6_valleyOf 12 = .ok (.iconst 5, 1) := by decide +kernel
theorem dX6_valleyOf_13 : decode cX6_valleyOf 13 = .ok (.invokevirtual 72, 3) := by decide +kernel
theorem dX6_valleyOf_16 : decode cX6_valleyOf 16 = .ok (.ireturn, 1) := by decide +kernel
theorem dX6_valleyOf_17 : decode cX6_valleyOf 17 = .ok (.iload_n 2, 1) := by decide +kernel
theorem dX6_valleyOf_18 : decode cX6_valleyOf 18 = .ok (.tableswitch 69 0 2 #[26, 36, 46], 26) := by decide +kernel
theorem dX6_valleyOf_44 : decode cX6_valleyOf 44 = .ok (.aload_n 0, 1) := by decide +kernel
theorem dX6_valleyOf_45 : decode cX6_valleyOf 45 = .ok (.getfield 10, 3) := by decide +kernel
theorem dX6_valleyOf_48 : decode cX6_valleyOf 48 = .ok (.getfield 195, 3) := by decide +kernel
theorem dX6_valleyOf_51 : decode cX6_valleyOf 51 = .ok (.iload_n 1, 1) := by decide +kernel
theorem dX6_valleyOf_52 : decode cX6_valleyOf 52 = .ok (.iaload, 1) := by decide +kernel
theorem dX6_valleyOf_53 : decode cX6_valleyOf 53 = .ok (.ireturn, 1) := by decide +kernel
theorem dX6_valleyOf_54 : decode cX6_valleyOf 54 = .ok (.aload_n 0, 1) := by decide +kernel
theorem dX6_valleyOf_55 : decode cX6_valleyOf 55 = .ok (.getfield 10, 3) := by decide +kernel
theorem dX6_valleyOf_58 : decode cX6_valleyOf 58 = .ok (.getfield 173, 3) := by decide +kernel
theorem dX6_valleyOf_61 : decode cX6_valleyOf 61 = .ok (.iload_n 1, 1) := by decide +kernel
theorem dX6_valleyOf_62 : decode cX6_valleyOf 62 = .ok (.iaload, 1) := by decide +kernel
theorem dX6_valleyOf_63 : decode cX6_valleyOf 63 = .ok (.ireturn, 1) := by decide +kernel
theorem dX6_valleyOf_64 : decode cX6_valleyOf 64 = .ok (.aload_n 0, 1) := by decide +kernel
theorem dX6_valleyOf_65 : decode cX6_valleyOf 65 = .ok (.getfield 10, 3) := by decide +kernel
theorem dX6_valleyOf_68 : decode cX6_valleyOf 68 = .ok (.iload_n 1, 1) := by decide +kernel
theorem dX6_valleyOf_69 : decode cX6_valleyOf 69 = .ok (.aload_n 0, 1) := by decide +kernel
theorem dX6_valleyOf_70 : decode cX6_valleyOf 70 = .ok (.getfield 10, 3) := by decide +kernel
theorem dX6_valleyOf_73 : decode cX6_valleyOf 73 = .ok (.aload_n 0, 1) := by decide +kernel
theorem dX6_valleyOf_74 : decode cX6_valleyOf 74 = .ok (.getfield 10, 3) := by decide +kernel
theorem dX6_valleyOf_77 : decode cX6_valleyOf 77 = .ok (.getfield 121, 3) := by decide +kernel
theorem dX6_valleyOf_80 : decode cX6_valleyOf 80 = .ok (.invokevirtual 124, 3) := by decide +kernel
theorem dX6_valleyOf_83 : decode cX6_valleyOf 83 = .ok (.invokevirtual 198, 3) := by decide +kernel
theorem dX6_valleyOf_86 : decode cX6_valleyOf 86 = .ok (.ireturn, 1) := by decide +kernel
theorem dX6_valleyOf_87 : decode cX6_valleyOf 87 = .ok (.aload_n 0, 1) := by decide +kernel
theorem dX6_valleyOf_88 : decode cX6_valleyOf 88 = .ok (.iconst 5, 1) := by decide +kernel
theorem dX6_valleyOf_89 : decode cX6_valleyOf 89 = .ok (.invokevirtual 72, 3) := by decide +kernel
theorem dX6_valleyOf_92 : decode cX6_valleyOf 92 = .ok (.ireturn, 1) := by decide +kernel
theorem dX6_range_0 : decode cX6_range 0 = .ok (.aload_n 0, 1) := by decide +kernel
theorem dX6_range_1 : decode cX6_range 1 = .ok (.iload_n 1, 1) := by decide +kernel
theorem dX6_range_2 : decode cX6_range 2 = .ok (.invokevirtual 80, 3) := by decide +kernel
theorem dX6_range_5 : decode cX6_range 5 = .ok (.istore_n 2, 1) := by decide +kernel
theorem dX6_range_6 : decode cX6_range 6 = .ok (.iload_n 2, 1) := by decide +kernel
theorem dX6_range_7 : decode cX6_range 7 = .ok (.ifCond .eq 9, 3) := by decide +kernel
theorem dX6_range_10 : decode cX6_range 10 = .ok (.aload_n 0, 1) := by decide +kernel
theorem dX6_range_11 : decode cX6_range 11 = .ok (.iload_n 2, 1) := by decide +kernel
theorem dX6_range_12 : decode cX6_range 12 = .ok (.invokevirtual 72, 3) := by decide +kernel
theorem dX6_range_15 : decode cX6_range 15 = .ok (.ireturn, 1) := by decide +kernel
theorem dX6_range_16 : decode cX6_range 16 = .ok (.aload_n 0, 1) := by decide +kernel
theorem dX6_range_17 : decode cX6_range 17 = .ok (.getfield 19, 3) := by decide +kernel
theorem dX6_range_20 : decode cX6_range 20 = .ok (.aload_n 0, 1) := by decide +kernel
theorem dX6_range_21 : decode cX6_range 21 = .ok (.getfield 10, 3) := by decide +kernel
theorem dX6_range_24 : decode cX6_range 24 = .ok (.invokevirtual 201, 3) := by decide +kernel
theorem dX6_range_27 : decode cX6_range 27 = .ok (.aload_n 0, 1) := by decide +kernel
theorem dX6_range_28 : decode cX6_range 28 = .ok (.getfield 42, 3) := by decide +kernel
theorem dX6_range_31 : decode cX6_range 31 = .ok (.aload_n 0, 1) := by decide +kernel
theorem dX6_range_32 : decode cX6_range 32 = .ok (.getfield 24, 3) := by decide +kernel
theorem dX6_range_35 : decode cX6_range 35 = .ok (.iload_n 1, 1) := by decide +kernel
theorem dX6_range_36 : decode cX6_range 36 = .ok (.aaload, 1) := by decide +kernel
theorem dX6_range_37 : decode cX6_range 37 = .ok (.invokevirtual 205, 3) := by decide +kernel
theorem dX6_range_40 : decode cX6_range 40 = .ok (.iconst 0, 1) := by decide +kernel
theorem dX6_range_41 : decode cX6_range 41 = .ok (.istore_n 3, 1) := by decide +kernel
theorem dX6_range_42 : decode cX6_range 42 = .ok (.iload_n 3, 1) := by decide +kernel
theorem dX6_range_43 : decode cX6_range 43 = .ok (.sipush 160, 3) := by decide +kernel
theorem dX6_range_46 : decode cX6_range 46 = .ok (.if_icmp .ge 44, 3) := by decide +kernel
theorem dX6_range_49 : decode cX6_range 49 = .ok (.aload_n 0, 1) := by decide +kernel
theorem dX6_range_50 : decode cX6_range 50 = .ok (.getfield 42, 3) := by decide +kernel
theorem dX6_range_53 : decode cX6_range 53 = .ok (.aload_n 0, 1) := by decide +kernel
theorem dX6_range_54 : decode cX6_range 54 = .ok (.getfield 19, 3) := by decide +kernel
theorem dX6_range_57 : decode cX6_range 57 = .ok (.invokevirtual 208, 3) := by decide +kernel
theorem dX6_range_60 : decode cX6_range 60 = .ok (.ifCond .eq 30, 3) := by decide +kernel
theorem dX6_range_63 : decode cX6_range 63 = .ok (.aload_n 0, 1) := by decide +kernel
theorem dX6_range_64 : decode cX6_range 64 = .ok (.getfield 42, 3) := by decide +kernel
theorem dX6_range_67 : decode cX6_range 67 = .ok (.aload_n 0, 1) := by decide +kernel
theorem dX6_range_68 : decode cX6_range 68 = .ok (.getfield 19, 3) := by decide +kernel
theorem dX6_range_71 : decode cX6_range 71 = .ok (.invokevirtual 212, 3) := by decide +kernel
theorem dX6_range_74 : decode cX6_range 74 = .ok (.iinc 3 1, 3) := by decide +kernel
theorem dX6_range_77 : decode cX6_range 77 = .ok (.aload_n 0, 1) := by decide +kernel
theorem dX6_range_78 : decode cX6_range 78 = .ok (.getfield 42, 3) := by decide +kernel
theorem dX6_range_81 : decode cX6_range 81 = .ok (.invokevirtual 215, 3) := by decide +kernel
theorem dX6_range_84 : decode cX6_range 84 = .ok (.ifCond .ne (-42), 3) := by decide +kernel
theorem dX6_range_87 : decode cX6_range 87 = .ok (.goto 3, 3) := by decide +kernel
theorem dX6_range_90 : decode cX6_range 90 = .ok (.aload_n 0, 1) := by decide +kernel
theorem dX6_range_91 : decode cX6_range 91 = .ok (.aload_n 0, 1) := by decide +kernel
theorem dX6_range_92 : decode cX6_range 92 = .ok (.getfield 42, 3) := by decide +kernel
theorem dX6_range_95 : decode cX6_range 95 = .ok (.getfield 219, 3) := by decide +kernel
theorem dX6_range_98 : decode cX6_range 98 = .ok (.putfield 35, 3) := by decide +kernel
theorem dX6_range_101 : decode cX6_range 101 = .ok (.aload_n 0, 1) := by decide +kernel
theorem dX6_range_102 : decode cX6_range 102 = .ok (.getfield 35, 3) := by decide +kernel
theorem dX6_range_105 : decode cX6_range 105 = .ok (.iconst (-1), 1) := by decide +kernel
theorem dX6_range_106 : decode cX6_range 106 = .ok (.if_icmp .eq 10, 3) := by decide +kernel
theorem dX6_range_109 : decode cX6_range 109 = .ok (.aload_n 0, 1) := by decide +kernel
theorem dX6_range_110 : decode cX6_range 110 = .ok (.bipush 6, 2) := by decide +kernel
theorem dX6_range_112 : decode cX6_range 112 = .ok (.invokevirtual 72, 3) := by decide +kernel
theorem dX6_range_115 : decode cX6_range 115 = .ok (.ireturn, 1) := by decide +kernel
theorem dX6_range_116 : decode cX6_range 116 = .ok (.aload_n 0, 1) := by decide +kernel
theorem dX6_range_117 : decode cX6_range 117 = .ok (.getfield 10, 3) := by decide +kernel
theorem dX6_range_120 : decode cX6_range 120 = .ok (.aload_n 0, 1) := by decide +kernel
theorem dX6_range_121 : decode cX6_range 121 = .ok (.getfield 19, 3) := by decide +kernel
theorem dX6_range_124 : decode cX6_range 124 = .ok (.invokevirtual 201, 3) := by decide +kernel
theorem dX6_range_127 : decode cX6_range 127 = .ok (.iload_n 3, 1) := by decide +kernel
theorem dX6_range_128 : decode cX6_range 128 = .ok (.ireturn, 1) := by decide +kernel
theorem dX6_fault_0 : decode cX6_fault 0 = .ok (.aload_n 0, 1) := by decide +kernel
theorem dX6_fault_1 : decode cX6_fault 1 = .ok (.getfield 35, 3) := by decide +kernel
theorem dX6_fault_4 : decode cX6_fault 4 = .ok (.ireturn, 1) := by decide +kernel
theorem dX6_since_0 : decode cX6_since 0 = .ok (.aload_n 0, 1) := by decide +kernel
theorem dX6_since_1 : decode cX6_since 1 = .ok (.getfield 10, 3) := by decide +kernel
theorem dX6_since_4 : decode cX6_since 4 = .ok (.iload_n 1, 1) := by decide +kernel
theorem dX6_since_5 : decode cX6_since 5 = .ok (.invokevirtual 106, 3) := by decide +kernel
theorem dX6_since_8 : decode cX6_since 8 = .ok (.ifCond .eq 14, 3) := by decide +kernel
theorem dX6_since_11 : decode cX6_since 11 = .ok (.aload_n 0, 1) := by decide +kernel
theorem dX6_since_12 : decode cX6_since 12 = .ok (.getfield 10, 3) := by decide +kernel
theorem dX6_since_15 : decode cX6_since 15 = .ok (.iload_n 2, 1) := by decide +kernel
theorem dX6_since_16 : decode cX6_since 16 = .ok (.invokevirtual 106, 3) := by decide +kernel
theorem dX6_since_19 : decode cX6_since 19 = .ok (.ifCond .ne 12, 3) := by decide +kernel
theorem dX6_since_22 : decode cX6_since 22 = .ok (.aload_n 0, 1) := by decide +kernel
theorem dX6_since_23 : decode cX6_since 23 = .ok (.iconst 1, 1) := by decide +kernel
theorem dX6_since_24 : decode cX6_since 24 = .ok (.invokevirtual 72, 3) := by decide +kernel
theorem dX6_since_27 : decode cX6_since 27 = .ok (.bipush 10, 2) := by decide +kernel
theorem dX6_since_29 : decode cX6_since 29 = .ok (.isub, 1) := by decide +kernel
theorem dX6_since_30 : decode cX6_since 30 = .ok (.ireturn, 1) := by decide +kernel
theorem dX6_since_31 : decode cX6_since 31 = .ok (.aload_n 0, 1) := by decide +kernel
theorem dX6_since_32 : decode cX6_since 32 = .ok (.getfield 10, 3) := by decide +kernel
theorem dX6_since_35 : decode cX6_since 35 = .ok (.iload_n 1, 1) := by decide +kernel
theorem dX6_since_36 : decode cX6_since 36 = .ok (.iload_n 2, 1) := by decide +kernel
theorem dX6_since_37 : decode cX6_since 37 = .ok (.invokevirtual 222, 3) := by decide +kernel
theorem dX6_since_40 : decode cX6_since 40 = .ok (.ifCond .eq 15, 3) := by decide +kernel
theorem dX6_since_43 : decode cX6_since 43 = .ok (.aload_n 0, 1) := by decide +kernel
theorem dX6_since_44 : decode cX6_since 44 = .ok (.getfield 10, 3) := by decide +kernel
theorem dX6_since_47 : decode cX6_since 47 = .ok (.iload_n 1, 1) := by decide +kernel
theorem dX6_since_48 : decode cX6_since 48 = .ok (.iload_n 2, 1) := by decide +kernel
theorem dX6_since_49 : decode cX6_since 49 = .ok (.invokevirtual 225, 3) := by decide +kernel
theorem dX6_since_52 : decode cX6_since 52 = .ok (.goto 4, 3) := by decide +kernel
theorem dX6_since_55 : decode cX6_since 55 = .ok (.iconst (-1), 1) := by decide +kernel
theorem dX6_since_56 : decode cX6_since 56 = .ok (.ireturn, 1) := by decide +kernel
theorem dX6_black_0 : decode cX6_black 0 = .ok (.aload_n 0, 1) := by decide +kernel
theorem dX6_black_1 : decode cX6_black 1 = .ok (.getfield 10, 3) := by decide +kernel
theorem dX6_black_4 : decode cX6_black 4 = .ok (.iload_n 1, 1) := by decide +kernel
theorem dX6_black_5 : decode cX6_black 5 = .ok (.invokevirtual 106, 3) := by decide +kernel
theorem dX6_black_8 : decode cX6_black 8 = .ok (.ifCond .ne 9, 3) := by decide +kernel
theorem dX6_black_11 : decode cX6_black 11 = .ok (.aload_n 0, 1) := by decide +kernel
theorem dX6_black_12 : decode cX6_black 12 = .ok (.iconst 1, 1) := by decide +kernel
theorem dX6_black_13 : decode cX6_black 13 = .ok (.invokevirtual 72, 3) := by decide +kernel
theorem dX6_black_16 : decode cX6_black 16 = .ok (.ireturn, 1) := by decide +kernel
theorem dX6_black_17 : decode cX6_black 17 = .ok (.iload_n 2, 1) := by decide +kernel
theorem dX6_black_18 : decode cX6_black 18 = .ok (.ifCond .lt 10, 3) := by decide +kernel
theorem dX6_black_21 : decode cX6_black 21 = .ok (.iload_n 2, 1) := by decide +kernel
theorem dX6_black_22 : decode cX6_black 22 = .ok (.sipush 999, 3) := by decide +kernel
theorem dX6_black_25 : decode cX6_black 25 = .ok (.if_icmp .le 10, 3) := by decide +kernel
theorem dX6_black_28 : decode cX6_black 28 = .ok (.aload_n 0, 1) := by decide +kernel
theorem dX6_black_29 : decode cX6_black 29 = .ok (.bipush 6, 2) := by decide +kernel
theorem dX6_black_31 : decode cX6_black 31 = .ok (.invokevirtual 72, 3) := by decide +kernel
theorem dX6_black_34 : decode cX6_black 34 = .ok (.ireturn, 1) := by decide +kernel
theorem dX6_black_35 : decode cX6_black 35 = .ok (.aload_n 0, 1) := by decide +kernel
theorem dX6_black_36 : decode cX6_black 36 = .ok (.getfield 10, 3) := by decide +kernel
theorem dX6_black_39 : decode cX6_black 39 = .ok (.aload_n 0, 1) := by decide +kernel
theorem dX6_black_40 : decode cX6_black 40 = .ok (.getfield 10, 3) := by decide +kernel
theorem dX6_black_43 : decode cX6_black 43 = .ok (.getfield 121, 3) := by decide +kernel
theorem dX6_black_46 : decode cX6_black 46 = .ok (.iload_n 2, 1) := by decide +kernel
theorem dX6_black_47 : decode cX6_black 47 = .ok (.iadd, 1) := by decide +kernel
theorem dX6_black_48 : decode cX6_black 48 = .ok (.invokevirtual 124, 3) := by decide +kernel
theorem dX6_black_51 : decode cX6_black 51 = .ok (.iload_n 1, 1) := by decide +kernel
theorem dX6_black_52 : decode cX6_black 52 = .ok (.invokestatic 127, 3) := by decide +kernel
theorem dX6_black_55 : decode cX6_black 55 = .ok (.ireturn, 1) := by decide +kernel
theorem dX6_behind_0 : decode cX6_behind 0 = .ok (.iload_n 2, 1) := by decide +kernel
theorem dX6_behind_1 : decode cX6_behind 1 = .ok (.ifCond .eq 14, 3) := by decide +kernel
theorem dX6_behind_4 : decode cX6_behind 4 = .ok (.iload_n 2, 1) := by decide +kernel
theorem dX6_behind_5 : decode cX6_behind 5 = .ok (.iconst 1, 1) := by decide +kernel
theorem dX6_behind_6 : decode cX6_behind 6 = .ok (.if_icmp .eq 9, 3) := by decide +kernel
theorem dX6_behind_9 : decode cX6_behind 9 = .ok (.aload_n 0, 1) := by decide +kernel
theorem dX6_behind_10 : decode cX6_behind 10 = .ok (.iconst 5, 1) := by decide +kernel
theorem dX6_behind_11 : decode cX6_behind 11 = .ok (.invokevirtual 72, 3) := by decide +kernel
theorem dX6_behind_14 : decode cX6_behind 14 = .ok (.ireturn, 1) := by decide +kernel
theorem dX6_behind_15 : decode cX6_behind 15 = .ok (.iload_n 1, 1) := by decide +kernel
theorem dX6_behind_16 : decode cX6_behind 16 = .ok (.ifCond .lt 10, 3) := by decide +kernel
theorem dX6_behind_19 : decode cX6_behind 19 = .ok (.iload_n 1, 1) := by decide +kernel
theorem dX6_behind_20 : decode cX6_behind 20 = .ok (.sipush 999, 3) := by decide +kernel
theorem dX6_behind_23 : decode cX6_behind 23 = .ok (.if_icmp .le 10, 3) := by decide +kernel
theorem dX6_behind_26 : decode cX6_behind 26 = .ok (.aload_n 0, 1) := by decide +kernel
theorem dX6_behind_27 : decode cX6_behind 27 = .ok (.bipush 6, 2) := by decide +kernel
theorem dX6_behind_29 : decode cX6_behind 29 = .ok (.invokevirtual 72, 3) := by decide +kernel
theorem dX6_behind_32 : decode cX6_behind 32 = .ok (.ireturn, 1) := by decide +kernel
theorem dX6_behind_33 : decode cX6_behind 33 = .ok (.aload_n 0, 1) := by decide +kernel
theorem dX6_behind_34 : decode cX6_behind 34 = .ok (.getfield 10, 3) := by decide +kernel
theorem dX6_behind_37 : decode cX6_behind 37 = .ok (.aload_n 0, 1) := by decide +kernel
theorem dX6_behind_38 : decode cX6_behind 38 = .ok (.getfield 10, 3) := by decide +kernel
theorem dX6_behind_41 : decode cX6_behind 41 = .ok (.getfield 121, 3) := by decide +kernel
theorem dX6_behind_44 : decode cX6_behind 44 = .ok (.iload_n 1, 1) := by decide +kernel
theorem dX6_behind_45 : decode cX6_behind 45 = .ok (.iadd, 1) := by decide +kernel
theorem dX6_behind_46 : decode cX6_behind 46 = .ok (.invokevirtual 124, 3) := by decide +kernel
theorem dX6_behind_49 : decode cX6_behind 49 = .ok (.istore_n 3, 1) := by decide +kernel
theorem dX6_behind_50 : decode cX6_behind 50 = .ok (.iload_n 2, 1) := by decide +kernel
theorem dX6_behind_51 : decode cX6_behind 51 = .ok (.ifCond .ne 7, 3) := by decide +kernel
theorem dX6_behind_54 : decode cX6_behind 54 = .ok (.iload_n 3, 1) := by decide +kernel
theorem dX6_behind_55 : decode cX6_behind 55 = .ok (.goto 11, 3) := by decide +kernel
theorem dX6_behind_58 : decode cX6_behind 58 = .ok (.aload_n 0, 1) := by decide +kernel
theorem dX6_behind_59 : decode cX6_behind 59 = .ok (.getfield 10, 3) := by decide +kernel
theorem dX6_behind_62 : decode cX6_behind 62 = .ok (.iload_n 3, 1) := by decide +kernel
theorem dX6_behind_63 : decode cX6_behind 63 = .ok (.invokevirtual 228, 3) := by decide +kernel
theorem dX6_behind_66 : decode cX6_behind 66 = .ok (.ireturn, 1) := by decide +kernel
theorem dX6_white_0 : decode cX6_white 0 = .ok (.aload_n 0, 1) := by decide +kernel
theorem dX6_white_1 : decode cX6_white 1 = .ok (.getfield 10, 3) := by decide +kernel
theorem dX6_white_4 : decode cX6_white 4 = .ok (.invokevirtual 231, 3) := by decide +kernel
theorem dX6_white_7 : decode cX6_white 7 = .ok (.aload_n 0, 1) := by decide +kernel
theorem dX6_white_8 : decode cX6_white 8 = .ok (.getfield 10, 3) := by decide +kernel
theorem dX6_white_11 : decode cX6_white 11 = .ok (.getfield 121, 3) := by decide +kernel
theorem dX6_white_14 : decode cX6_white 14 = .ok (.isub, 1) := by decide +kernel
theorem dX6_white_15 : decode cX6_white 15 = .ok (.iconst 0, 1) := by decide +kernel
theorem dX6_white_16 : decode cX6_white 16 = .ok (.invokestatic 235, 3) := by decide +kernel
theorem dX6_white_19 : decode cX6_white 19 = .ok (.istore_n 1, 1) := by decide +kernel
theorem dX6_white_20 : decode cX6_white 20 = .ok (.iload_n 1, 1) := by decide +kernel
theorem dX6_white_21 : decode cX6_white 21 = .ok (.sipush 999, 3) := by decide +kernel
theorem dX6_white_24 : decode cX6_white 24 = .ok (.if_icmp .le 7, 3) := by decide +kernel
theorem dX6_white_27 : decode cX6_white 27 = .ok (.iconst (-1), 1) := by decide +kernel
theorem dX6_white_28 : decode cX6_white 28 = .ok (.goto 4, 3) := by decide +kernel
theorem dX6_white_31 : decode cX6_white 31 = .ok (.iload_n 1, 1) := by decide +kernel
theorem dX6_white_32 : decode cX6_white 32 = .ok (.ireturn, 1) := by decide +kernel
theorem dX6_yields_0 : decode cX6_yields 0 = .ok (.iload_n 1, 1) := by decide +kernel
theorem dX6_yields_1 : decode cX6_yields 1 = .ok (.ifCond .lt 10, 3) := by decide +kernel
theorem dX6_yields_4 : decode cX6_yields 4 = .ok (.iload_n 1, 1) := by decide +kernel
theorem dX6_yields_5 : decode cX6_yields 5 = .ok (.sipush 200, 3) := by decide +kernel
theorem dX6_yields_8 : decode cX6_yields 8 = .ok (.if_icmp .le 10, 3) := by decide +kernel
theorem dX6_yields_11 : decode cX6_yields 11 = .ok (.aload_n 0, 1) := by decide +kernel
theorem dX6_yields_12 : decode cX6_yields 12 = .ok (.bipush 6, 2) := by decide +kernel
theorem dX6_yields_14 : decode cX6_yields 14 = .ok (.invokevirtual 72, 3) := by decide +kernel
theorem dX6_yields_17 : decode cX6_yields 17 = .ok (.ireturn, 1) := by decide +kernel
theorem dX6_yields_18 : decode cX6_yields 18 = .ok (.aload_n 0, 1) := by decide +kernel
theorem dX6_yields_19 : decode cX6_yields 19 = .ok (.getfield 56, 3) := by decide +kernel
theorem dX6_yields_22 : decode cX6_yields 22 = .ok (.aload_n 0, 1) := by decide +kernel
theorem dX6_yields_23 : decode cX6_yields 23 = .ok (.getfield 10, 3) := by decide +kernel
theorem dX6_yields_26 : decode cX6_yields 26 = .ok (.iload_n 1, 1) := by decide +kernel
theorem dX6_yields_27 : decode cX6_yields 27 = .ok (.invokevirtual 240, 3) := by decide +kernel
theorem dX6_yields_30 : decode cX6_yields 30 = .ok (.aload_n 0, 1) := by decide +kernel
theorem dX6_yields_31 : decode cX6_yields 31 = .ok (.getfield 56, 3) := by decide +kernel
theorem dX6_yields_34 : decode cX6_yields 34 = .ok (.aload_n 0, 1) := by decide +kernel
theorem dX6_yields_35 : decode cX6_yields 35 = .ok (.getfield 10, 3) := by decide +kernel
theorem dX6_yields_38 : decode cX6_yields 38 = .ok (.iload_n 1, 1) := by decide +kernel
theorem dX6_yields_39 : decode cX6_yields 39 = .ok (.iconst 0, 1) := by decide +kernel
theorem dX6_yields_40 : decode cX6_yields 40 = .ok (.invokevirtual 244, 3) := by decide +kernel
theorem dX6_yields_43 : decode cX6_yields 43 = .ok (.ireturn, 1) := by decide +kernel
theorem dX6_grief_0 : decode cX6_grief 0 = .ok (.aload_n 0, 1) := by decide +kernel
theorem dX6_grief_1 : decode cX6_grief 1 = .ok (.getfield 10, 3) := by decide +kernel
theorem dX6_grief_4 : decode cX6_grief 4 = .ok (.iload_n 1, 1) := by decide +kernel
theorem dX6_grief_5 : decode cX6_grief 5 = .ok (.invokevirtual 106, 3) := by decide +kernel
theorem dX6_grief_8 : decode cX6_grief 8 = .ok (.ifCond .ne 9, 3) := by decide +kernel
theorem dX6_grief_11 : decode cX6_grief 11 = .ok (.aload_n 0, 1) := by decide +kernel
theorem dX6_grief_12 : decode cX6_grief 12 = .ok (.iconst 1, 1) := by decide +kernel
theorem dX6_grief_13 : decode cX6_grief 13 = .ok (.invokevirtual 72, 3) := by decide +kernel
theorem dX6_grief_16 : decode cX6_grief 16 = .ok (.ireturn, 1) := by decide +kernel
theorem dX6_grief_17 : decode cX6_grief 17 = .ok (.aload_n 0, 1) := by decide +kernel
theorem dX6_grief_18 : decode cX6_grief 18 = .ok (.getfield 10, 3) := by decide +kernel
theorem dX6_grief_21 : decode cX6_grief 21 = .ok (.iload_n 1, 1) := by decide +kernel
theorem dX6_grief_22 : decode cX6_grief 22 = .ok (.invokevirtual 248, 3) := by decide +kernel
theorem dX6_grief_25 : decode cX6_grief 25 = .ok (.ifCond .ne 10, 3) := by decide +kernel
theorem dX6_grief_28 : decode cX6_grief 28 = .ok (.aload_n 0, 1) := by decide +kernel
theorem dX6_grief_29 : decode cX6_grief 29 = .ok (.bipush 6, 2) := by decide +kernel
theorem dX6_grief_31 : decode cX6_grief 31 = .ok (.invokevirtual 72, 3) := by decide +kernel
theorem dX6_grief_34 : decode cX6_grief 34 = .ok (.ireturn, 1) := by decide +kernel
theorem dX6_grief_35 : decode cX6_grief 35 = .ok (.aload_n 0, 1) := by decide +kernel
theorem dX6_grief_36 : decode cX6_grief 36 = .ok (.getfield 10, 3) := by decide +kernel
theorem dX6_grief_39 : decode cX6_grief 39 = .ok (.iload_n 1, 1) := by decide +kernel
theorem dX6_grief_40 : decode cX6_grief 40 = .ok (.aload_n 0, 1) := by decide +kernel
theorem dX6_grief_41 : decode cX6_grief 41 = .ok (.getfield 10, 3) := by decide +kernel
theorem dX6_grief_44 : decode cX6_grief 44 = .ok (.getfield 121, 3) := by decide +kernel
theorem dX6_grief_47 : decode cX6_grief 47 = .ok (.invokevirtual 251, 3) := by decide +kernel
theorem dX6_grief_50 : decode cX6_grief 50 = .ok (.ireturn, 1) := by decide +kernel
theorem dX6_least_0 : decode cX6_least 0 = .ok (.iconst (-1), 1) := by decide +kernel
theorem dX6_least_1 : decode cX6_least 1 = .ok (.istore_n 1, 1) := by decide +kernel
theorem dX6_least_2 : decode cX6_least 2 = .ok (.iconst 0, 1) := by decide +kernel
theorem dX6_least_3 : decode cX6_least 3 = .ok (.istore_n 2, 1) := by decide +kernel
theorem dX6_least_4 : decode cX6_least 4 = .ok (.iconst 0, 1) := by decide +kernel
theorem dX6_least_5 : decode cX6_least 5 = .ok (.istore_n 3, 1) := by decide +kernel
theorem dX6_least_6 : decode cX6_least 6 = .ok (.iload_n 3, 1) := by decide +kernel
theorem dX6_least_7 : decode cX6_least 7 = .ok (.aload_n 0, 1) := by decide +kernel
theorem dX6_least_8 : decode cX6_least 8 = .ok (.getfield 10, 3) := by decide +kernel
theorem dX6_least_11 : decode cX6_least 11 = .ok (.getfield 151, 3) := by decide +kernel
theorem dX6_least_14 : decode cX6_least 14 = .ok (.if_icmp .ge 53, 3) := by decide +kernel
theorem dX6_least_17 : decode cX6_least 17 = .ok (.aload_n 0, 1) := by decide +kernel
theorem dX6_least_18 : decode cX6_least 18 = .ok (.getfield 10, 3) := by decide +kernel
theorem dX6_least_21 : decode cX6_least 21 = .ok (.iload_n 3, 1) := by decide +kernel
theorem dX6_least_22 : decode cX6_least 22 = .ok (.invokevirtual 248, 3) := by decide +kernel
theorem dX6_least_25 : decode cX6_least 25 = .ok (.ifCond .eq 36, 3) := by decide +kernel
theorem dX6_least_28 : decode cX6_least 28 = .ok (.aload_n 0, 1) := by decide +kernel
theorem dX6_least_29 : decode cX6_least 29 = .ok (.getfield 10, 3) := by decide +kernel
theorem dX6_least_32 : decode cX6_least 32 = .ok (.iload_n 3, 1) := by decide +kernel
theorem dX6_least_33 : decode cX6_least 33 = .ok (.aload_n 0, 1) := by decide +kernel
theorem dX6_least_34 : decode cX6_least 34 = .ok (.getfield 10, 3) := by decide +kernel
theorem dX6_least_37 : decode cX6_least 37 = .ok (.getfield 121, 3) := by decide +kernel
theorem dX6_least_40 : decode cX6_least 40 = .ok (.invokevirtual 251, 3) := by decide +kernel
theorem dX6_least_43 : decode cX6_least 43 = .ok (.istore 4, 2) := by decide +kernel
theorem dX6_least_45 : decode cX6_least 45 = .ok (.iload_n 1, 1) := by decide +kernel
theorem dX6_least_46 : decode cX6_least 46 = .ok (.iconst (-1), 1) := by decide +kernel
theorem dX6_least_47 : decode cX6_least 47 = .ok (.if_icmp .eq 9, 3) := by decide +kernel
theorem dX6_least_50 : decode cX6_least 50 = .ok (.iload 4, 2) := by decide +kernel
theorem dX6_least_52 : decode cX6_least 52 = .ok (.iload_n 2, 1) := by decide +kernel
theorem dX6_least_53 : decode cX6_least 53 = .ok (.if_icmp .ge 8, 3) := by decide +kernel
theorem dX6_least_56 : decode cX6_least 56 = .ok (.iload_n 3, 1) := by decide +kernel
theorem dX6_least_57 : decode cX6_least 57 = .ok (.istore_n 1, 1) := by decide +kernel
theorem dX6_least_58 : decode cX6_least 58 = .ok (.iload 4, 2) := by decide +kernel
theorem dX6_least_60 : decode cX6_least 60 = .ok (.istore_n 2, 1) := by decide +kernel
theorem dX6_least_61 : decode cX6_least 61 = .ok (.iinc 3 1, 3) := by decide +kernel
theorem dX6_least_64 : decode cX6_least 64 = .ok (.goto (-58), 3) := by decide +kernel
theorem dX6_least_67 : decode cX6_least 67 = .ok (.iload_n 1, 1) := by decide +kernel
theorem dX6_least_68 : decode cX6_least 68 = .ok (.ireturn, 1) := by decide +kernel
theorem dX6_order_0 : decode cX6_order 0 = .ok (.iload_n 1, 1) := by decide +kernel
theorem dX6_order_1 : decode cX6_order 1 = .ok (.iconst 1, 1) := by decide +kernel
theorem dX6_order_2 : decode cX6_order 2 = .ok (.if_icmp .lt 22, 3) := by decide +kernel
theorem dX6_order_5 : decode cX6_order 5 = .ok (.iload_n 1, 1) := by decide +kernel
theorem dX6_order_6 : decode cX6_order 6 = .ok (.iconst 3, 1) := by decide +kernel
theorem dX6_order_7 : decode cX6_order 7 = .ok (.if_icmp .gt 17, 3) := by decide +kernel
theorem dX6_order_10 : decode cX6_order 10 = .ok (.aload_n 0, 1) := by decide +kernel
theorem dX6_order_11 : decode cX6_order 11 = .ok (.getfield 10, 3) := by decide +kernel
theorem dX6_order_14 : decode cX6_order 14 = .ok (.getfield 186, 3) := by decide +kernel
theorem dX6_order_17 : decode cX6_order 17 = .ok (.invokestatic 254, 3) := by decide +kernel
theorem dX6_order_20 : decode cX6_order 20 = .ok (.iload_n 1, 1) := by decide +kernel
theorem dX6_order_21 : decode cX6_order 21 = .ok (.if_icmp .ge 10, 3) := by decide +kernel
theorem dX6_order_24 : decode cX6_order 24 = .ok (.aload_n 0, 1) := by decide +kernel
theorem dX6_order_25 : decode cX6_order 25 = .ok (.bipush 6, 2) := by decide +kernel
theorem dX6_order_27 : decode cX6_order 27 = .ok (.invokevirtual 72, 3) := by decide +kernel
theorem dX6_order_30 : decode cX6_order 30 = .ok (.ireturn, 1) := by decide +kernel
theorem dX6_order_31 : decode cX6_order 31 = .ok (.iload_n 2, 1) := by decide +kernel
theorem dX6_order_32 : decode cX6_order 32 = .ok (.iconst (-1), 1) := by decide +kernel
theorem dX6_order_33 : decode cX6_order 33 = .ok (.if_icmp .lt 8, 3) := by decide +kernel
theorem dX6_order_36 : decode cX6_order 36 = .ok (.iload_n 2, 1) := by decide +kernel
theorem dX6_order_37 : decode cX6_order 37 = .ok (.iload_n 1, 1) := by decide +kernel
theorem dX6_order_38 : decode cX6_order 38 = .ok (.if_icmp .lt 9, 3) := by decide +kernel
theorem dX6_order_41 : decode cX6_order 41 = .ok (.aload_n 0, 1) := by decide +kernel
theorem dX6_order_42 : decode cX6_order 42 = .ok (.iconst 5, 1) := by decide +kernel
theorem dX6_order_43 : decode cX6_order 43 = .ok (.invokevirtual 72, 3) := by decide +kernel
theorem dX6_order_46 : decode cX6_order 46 = .ok (.ireturn, 1) := by decide +kernel
theorem dX6_order_47 : decode cX6_order 47 = .ok (.aload_n 0, 1) := by decide +kernel
theorem dX6_order_48 : decode cX6_order 48 = .ok (.getfield 63, 3) := by decide +kernel
theorem dX6_order_51 : decode cX6_order 51 = .ok (.aload_n 0, 1) := by decide +kernel
theorem dX6_order_52 : decode cX6_order 52 = .ok (.getfield 10, 3) := by decide +kernel
theorem dX6_order_55 : decode cX6_order 55 = .ok (.iload_n 1, 1) := by decide +kernel
theorem dX6_order_56 : decode cX6_order 56 = .ok (.invokevirtual 259, 3) := by decide +kernel
theorem dX6_order_59 : decode cX6_order 59 = .ok (.iload_n 2, 1) := by decide +kernel
theorem dX6_order_60 : decode cX6_order 60 = .ok (.iconst (-1), 1) := by decide +kernel
theorem dX6_order_61 : decode cX6_order 61 = .ok (.if_icmp .ne 13, 3) := by decide +kernel
theorem dX6_order_64 : decode cX6_order 64 = .ok (.aload_n 0, 1) := by decide +kernel
theorem dX6_order_65 : decode cX6_order 65 = .ok (.getfield 63, 3) := by decide +kernel
theorem dX6_order_68 : decode cX6_order 68 = .ok (.getfield 262, 3) := by decide +kernel
theorem dX6_order_71 : decode cX6_order 71 = .ok (.goto 12, 3) := by decide +kernel
theorem dX6_order_74 : decode cX6_order 74 = .ok (.aload_n 0, 1) := by decide +kernel
theorem dX6_order_75 : decode cX6_order 75 = .ok (.getfield 63, 3) := by decide +kernel
theorem dX6_order_78 : decode cX6_order 78 = .ok (.getfield 265, 3) := by decide +kernel
theorem dX6_order_81 : decode cX6_order 81 = .ok (.iload_n 2, 1) := by decide +kernel
theorem dX6_order_82 : decode cX6_order 82 = .ok (.iaload, 1) := by decide +kernel
theorem dX6_order_83 : decode cX6_order 83 = .ok (.ireturn, 1) := by decide +kernel
theorem dX6_cost_0 : decode cX6_cost 0 = .ok (.aload_n 0, 1) := by decide +kernel
theorem dX6_cost_1 : decode cX6_cost 1 = .ok (.getfield 10, 3) := by decide +kernel
theorem dX6_cost_4 : decode cX6_cost 4 = .ok (.iload_n 1, 1) := by decide +kernel
theorem dX6_cost_5 : decode cX6_cost 5 = .ok (.invokevirtual 106, 3) := by decide +kernel
theorem dX6_cost_8 : decode cX6_cost 8 = .ok (.ifCond .ne 13, 3) := by decide +kernel
theorem dX6_cost_11 : decode cX6_cost 11 = .ok (.aload_n 0, 1) := by decide +kernel
theorem dX6_cost_12 : decode cX6_cost 12 = .ok (.iconst 1, 1) := by decide +kernel
theorem dX6_cost_13 : decode cX6_cost 13 = .ok (.invokevirtual 72, 3) := by decide +kernel
theorem dX6_cost_16 : decode cX6_cost 16 = .ok (.ldc_w 268, 3) := by decide +kernel
theorem dX6_cost_19 : decode cX6_cost 19 = .ok (.isub, 1) := by decide +kernel
theorem dX6_cost_20 : decode cX6_cost 20 = .ok (.ireturn, 1) := by decide +kernel
theorem dX6_cost_21 : decode cX6_cost 21 = .ok (.aload_n 0, 1) := by decide +kernel
theorem dX6_cost_22 : decode cX6_cost 22 = .ok (.getfield 10, 3) := by decide +kernel
theorem dX6_cost_25 : decode cX6_cost 25 = .ok (.iload_n 1, 1) := by decide +kernel
theorem dX6_cost_26 : decode cX6_cost 26 = .ok (.invokevirtual 248, 3) := by decide +kernel
theorem dX6_cost_29 : decode cX6_cost 29 = .ok (.ifCond .ne 14, 3) := by decide +kernel
theorem dX6_cost_32 : decode cX6_cost 32 = .ok (.aload_n 0, 1) := by decide +kernel
theorem dX6_cost_33 : decode cX6_cost 33 = .ok (.bipush 6, 2) := by decide +kernel
theorem dX6_cost_35 : decode cX6_cost 35 = .ok (.invokevirtual 72, 3) := by decide +kernel
theorem dX6_cost_38 : decode cX6_cost 38 = .ok (.ldc_w 268, 3) := by decide +kernel
theorem dX6_cost_41 : decode cX6_cost 41 = .ok (.isub, 1) := by decide +kernel
theorem dX6_cost_42 : decode cX6_cost 42 = .ok (.ireturn, 1) := by decide +kernel
theorem dX6_cost_43 : decode cX6_cost 43 = .ok (.aload_n 0, 1) := by decide +kernel
theorem dX6_cost_44 : decode cX6_cost 44 = .ok (.getfield 56, 3) := by decide +kernel
theorem dX6_cost_47 : decode cX6_cost 47 = .ok (.aload_n 0, 1) := by decide +kernel
theorem dX6_cost_48 : decode cX6_cost 48 = .ok (.getfield 10, 3) := by decide +kernel
theorem dX6_cost_51 : decode cX6_cost 51 = .ok (.bipush 100, 2) := by decide +kernel
theorem dX6_cost_53 : decode cX6_cost 53 = .ok (.invokevirtual 240, 3) := by decide +kernel
theorem dX6_cost_56 : decode cX6_cost 56 = .ok (.aload_n 0, 1) := by decide +kernel
theorem dX6_cost_57 : decode cX6_cost 57 = .ok (.getfield 56, 3) := by decide +kernel
theorem dX6_cost_60 : decode cX6_cost 60 = .ok (.aload_n 0, 1) := by decide +kernel
theorem dX6_cost_61 : decode cX6_cost 61 = .ok (.getfield 10, 3) := by decide +kernel
theorem dX6_cost_64 : decode cX6_cost 64 = .ok (.bipush 100, 2) := by decide +kernel
theorem dX6_cost_66 : decode cX6_cost 66 = .ok (.iconst 0, 1) := by decide +kernel
theorem dX6_cost_67 : decode cX6_cost 67 = .ok (.invokevirtual 244, 3) := by decide +kernel
theorem dX6_cost_70 : decode cX6_cost 70 = .ok (.istore_n 2, 1) := by decide +kernel
theorem dX6_cost_71 : decode cX6_cost 71 = .ok (.aload_n 0, 1) := by decide +kernel
theorem dX6_cost_72 : decode cX6_cost 72 = .ok (.getfield 19, 3) := by decide +kernel
theorem dX6_cost_75 : decode cX6_cost 75 = .ok (.aload_n 0, 1) := by decide +kernel
theorem dX6_cost_76 : decode cX6_cost 76 = .ok (.getfield 10, 3) := by decide +kernel
theorem dX6_cost_79 : decode cX6_cost 79 = .ok (.invokevirtual 201, 3) := by decide +kernel
theorem dX6_cost_82 : decode cX6_cost 82 = .ok (.aload_n 0, 1) := by decide +kernel
theorem dX6_cost_83 : decode cX6_cost 83 = .ok (.getfield 19, 3) := by decide +kernel
theorem dX6_cost_86 : decode cX6_cost 86 = .ok (.iload_n 1, 1) := by decide +kernel
theorem dX6_cost_87 : decode cX6_cost 87 = .ok (.invokevirtual 269, 3) := by decide +kernel
theorem dX6_cost_90 : decode cX6_cost 90 = .ok (.pop, 1) := by decide +kernel
theorem dX6_cost_91 : decode cX6_cost 91 = .ok (.aload_n 0, 1) := by decide +kernel
theorem dX6_cost_92 : decode cX6_cost 92 = .ok (.getfield 56, 3) := by decide +kernel
theorem dX6_cost_95 : decode cX6_cost 95 = .ok (.aload_n 0, 1) := by decide +kernel
theorem dX6_cost_96 : decode cX6_cost 96 = .ok (.getfield 19, 3) := by decide +kernel
theorem dX6_cost_99 : decode cX6_cost 99 = .ok (.bipush 100, 2) := by decide +kernel
theorem dX6_cost_101 : decode cX6_cost 101 = .ok (.invokevirtual 240, 3) := by decide +kernel
theorem dX6_cost_104 : decode cX6_cost 104 = .ok (.iload_n 2, 1) := by decide +kernel
theorem dX6_cost_105 : decode cX6_cost 105 = .ok (.aload_n 0, 1) := by decide +kernel
theorem dX6_cost_106 : decode cX6_cost 106 = .ok (.getfield 56, 3) := by decide +kernel
theorem dX6_cost_109 : decode cX6_cost 109 = .ok (.aload_n 0, 1) := by decide +kernel
theorem dX6_cost_110 : decode cX6_cost 110 = .ok (.getfield 19, 3) := by decide +kernel
theorem dX6_cost_113 : decode cX6_cost 113 = .ok (.bipush 100, 2) := by decide +kernel
theorem dX6_cost_115 : decode cX6_cost 115 = .ok (.iconst 0, 1) := by decide +kernel
theorem dX6_cost_116 : decode cX6_cost 116 = .ok (.invokevirtual 244, 3) := by decide +kernel
theorem dX6_cost_119 : decode cX6_cost 119 = .ok (.isub, 1) := by decide +kernel
theorem dX6_cost_120 : decode cX6_cost 120 = .ok (.ireturn, 1) := by decide +kernel
theorem dX6_screened_0 : decode cX6_screened 0 = .ok (.aload_n 0, 1) := by decide +kernel
theorem dX6_screened_1 : decode cX6_screened 1 = .ok (.getfield 10, 3) := by decide +kernel
theorem dX6_screened_4 : decode cX6_screened 4 = .ok (.iload_n 1, 1) := by decide +kernel
theorem dX6_screened_5 : decode cX6_screened 5 = .ok (.invokevirtual 106, 3) := by decide +kernel
theorem dX6_screened_8 : decode cX6_screened 8 = .ok (.ifCond .eq 14, 3) := by decide +kernel
theorem dX6_screened_11 : decode cX6_screened 11 = .ok (.aload_n 0, 1) := by decide +kernel
theorem dX6_screened_12 : decode cX6_screened 12 = .ok (.getfield 10, 3) := by decide +kernel
theorem dX6_screened_15 : decode cX6_screened 15 = .ok (.iload_n 2, 1) := by decide +kernel
theorem dX6_screened_16 : decode cX6_screened 16 = .ok (.invokevirtual 106, 3) := by decide +kernel
theorem dX6_screened_19 : decode cX6_screened 19 = .ok (.ifCond .ne 12, 3) := by decide +kernel
theorem dX6_screened_22 : decode cX6_screened 22 = .ok (.aload_n 0, 1) := by decide +kernel
theorem dX6_screened_23 : decode cX6_screened 23 = .ok (.iconst 1, 1) := by decide +kernel
theorem dX6_screened_24 : decode cX6_screened 24 = .ok (.invokevirtual 72, 3) := by decide +kernel
theorem dX6_screened_27 : decode cX6_screened 27 = .ok (.bipush 10, 2) := by decide +kernel
theorem dX6_screened_29 : decode cX6_screened 29 = .ok (.isub, 1) := by decide +kernel
theorem dX6_screened_30 : decode cX6_screened 30 = .ok (.ireturn, 1) := by decide +kernel
theorem dX6_screened_31 : decode cX6_screened 31 = .ok (.aload_n 0, 1) := by decide +kernel
theorem dX6_screened_32 : decode cX6_screened 32 = .ok (.getfield 10, 3) := by decide +kernel
theorem dX6_screened_35 : decode cX6_screened 35 = .ok (.iload_n 1, 1) := by decide +kernel
theorem dX6_screened_36 : decode cX6_screened 36 = .ok (.iload_n 2, 1) := by decide +kernel
theorem dX6_screened_37 : decode cX6_screened 37 = .ok (.invokevirtual 222, 3) := by decide +kernel
theorem dX6_screened_40 : decode cX6_screened 40 = .ok (.ifCond .eq 10, 3) := by decide +kernel
theorem dX6_screened_43 : decode cX6_screened 43 = .ok (.iload_n 3, 1) := by decide +kernel
theorem dX6_screened_44 : decode cX6_screened 44 = .ok (.invokestatic 142, 3) := by decide +kernel
theorem dX6_screened_47 : decode cX6_screened 47 = .ok (.ifCond .ne 13, 3) := by decide +kernel
theorem dX6_screened_50 : decode cX6_screened 50 = .ok (.aload_n 0, 1) := by decide +kernel
theorem dX6_screened_51 : decode cX6_screened 51 = .ok (.bipush 6, 2) := by decide +kernel
theorem dX6_screened_53 : decode cX6_screened 53 = .ok (.invokevirtual 72, 3) := by decide +kernel
theorem dX6_screened_56 : decode cX6_screened 56 = .ok (.bipush 10, 2) := by decide +kernel
theorem dX6_screened_58 : decode cX6_screened 58 = .ok (.isub, 1) := by decide +kernel
theorem dX6_screened_59 : decode cX6_screened 59 = .ok (.ireturn, 1) := by decide +kernel
theorem dX6_screened_60 : decode cX6_screened 60 = .ok (.aload_n 0, 1) := by decide +kernel
theorem dX6_screened_61 : decode cX6_screened 61 = .ok (.getfield 10, 3) := by decide +kernel
theorem dX6_screened_64 : decode cX6_screened 64 = .ok (.iload_n 1, 1) := by decide +kernel
theorem dX6_screened_65 : decode cX6_screened 65 = .ok (.iload_n 2, 1) := by decide +kernel
theorem dX6_screened_66 : decode cX6_screened 66 = .ok (.iload_n 3, 1) := by decide +kernel
theorem dX6_screened_67 : decode cX6_screened 67 = .ok (.invokevirtual 272, 3) := by decide +kernel
theorem dX6_screened_70 : decode cX6_screened 70 = .ok (.ireturn, 1) := by decide +kernel
theorem dX6_hide_0 : decode cX6_hide 0 = .ok (.aload_n 0, 1) := by decide +kernel
theorem dX6_hide_1 : decode cX6_hide 1 = .ok (.getfield 10, 3) := by decide +kernel
theorem dX6_hide_4 : decode cX6_hide 4 = .ok (.iload_n 1, 1) := by decide +kernel
theorem dX6_hide_5 : decode cX6_hide 5 = .ok (.invokevirtual 106, 3) := by decide +kernel
theorem dX6_hide_8 : decode cX6_hide 8 = .ok (.ifCond .eq 14, 3) := by decide +kernel
theorem dX6_hide_11 : decode cX6_hide 11 = .ok (.aload_n 0, 1) := by decide +kernel
theorem dX6_hide_12 : decode cX6_hide 12 = .ok (.getfield 10, 3) := by decide +kernel
theorem dX6_hide_15 : decode cX6_hide 15 = .ok (.iload_n 2, 1) := by decide +kernel
theorem dX6_hide_16 : decode cX6_hide 16 = .ok (.invokevirtual 106, 3) := by decide +kernel
theorem dX6_hide_19 : decode cX6_hide 19 = .ok (.ifCond .ne 12, 3) := by decide +kernel
theorem dX6_hide_22 : decode cX6_hide 22 = .ok (.aload_n 0, 1) := by decide +kernel
theorem dX6_hide_23 : decode cX6_hide 23 = .ok (.iconst 1, 1) := by decide +kernel
theorem dX6_hide_24 : decode cX6_hide 24 = .ok (.invokevirtual 72, 3) := by decide +kernel
theorem dX6_hide_27 : decode cX6_hide 27 = .ok (.bipush 10, 2) := by decide +kernel
theorem dX6_hide_29 : decode cX6_hide 29 = .ok (.isub, 1) := by decide +kernel
theorem dX6_hide_30 : decode cX6_hide 30 = .ok (.ireturn, 1) := by decide +kernel
theorem dX6_hide_31 : decode cX6_hide 31 = .ok (.aload_n 0, 1) := by decide +kernel
theorem dX6_hide_32 : decode cX6_hide 32 = .ok (.getfield 10, 3) := by decide +kernel
theorem dX6_hide_35 : decode cX6_hide 35 = .ok (.iload_n 1, 1) := by decide +kernel
theorem dX6_hide_36 : decode cX6_hide 36 = .ok (.iload_n 2, 1) := by decide +kernel
theorem dX6_hide_37 : decode cX6_hide 37 = .ok (.invokevirtual 222, 3) := by decide +kernel
theorem dX6_hide_40 : decode cX6_hide 40 = .ok (.ifCond .ne 13, 3) := by decide +kernel
theorem dX6_hide_43 : decode cX6_hide 43 = .ok (.aload_n 0, 1) := by decide +kernel
theorem dX6_hide_44 : decode cX6_hide 44 = .ok (.bipush 6, 2) := by decide +kernel
theorem dX6_hide_46 : decode cX6_hide 46 = .ok (.invokevirtual 72, 3) := by decide +kernel
theorem dX6_hide_49 : decode cX6_hide 49 = .ok (.bipush 10, 2) := by decide +kernel
theorem dX6_hide_51 : decode cX6_hide 51 = .ok (.isub, 1) := by decide +kernel
theorem dX6_hide_52 : decode cX6_hide 52 = .ok (.ireturn, 1) := by decide +kernel
theorem dX6_hide_53 : decode cX6_hide 53 = .ok (.iconst (-1), 1) := by decide +kernel
theorem dX6_hide_54 : decode cX6_hide 54 = .ok (.istore_n 3, 1) := by decide +kernel
theorem dX6_hide_55 : decode cX6_hide 55 = .ok (.iconst (-1), 1) := by decide +kernel
theorem dX6_hide_56 : decode cX6_hide 56 = .ok (.istore 4, 2) := by decide +kernel
theorem dX6_hide_58 : decode cX6_hide 58 = .ok (.iconst 0, 1) := by decide +kernel
theorem dX6_hide_59 : decode cX6_hide 59 = .ok (.istore 5, 2) := by decide +kernel
theorem dX6_hide_61 : decode cX6_hide 61 = .ok (.iload 5, 2) := by decide +kernel
theorem dX6_hide_63 : decode cX6_hide 63 = .ok (.bipush 100, 2) := by decide +kernel
theorem dX6_hide_65 : decode cX6_hide 65 = .ok (.if_icmp .ge 63, 3) := by decide +kernel
theorem dX6_hide_68 : decode cX6_hide 68 = .ok (.aload_n 0, 1) := by decide +kernel
theorem dX6_hide_69 : decode cX6_hide 69 = .ok (.getfield 10, 3) := by decide +kernel
theorem dX6_hide_72 : decode cX6_hide 72 = .ok (.iload 5, 2) := by decide +kernel
theorem dX6_hide_74 : decode cX6_hide 74 = .ok (.invokevirtual 276, 3) := by decide +kernel
theorem dX6_hide_77 : decode cX6_hide 77 = .ok (.ifCond .eq 7, 3) := by decide +kernel
theorem dX6_hide_80 : decode cX6_hide 80 = .ok (.iconst (-1), 1) := by decide +kernel
theorem dX6_hide_81 : decode cX6_hide 81 = .ok (.goto 14, 3) := by decide +kernel
theorem dX6_hide_84 : decode cX6_hide 84 = .ok (.aload_n 0, 1) := by decide +kernel
theorem dX6_hide_85 : decode cX6_hide 85 = .ok (.getfield 10, 3) := by decide +kernel
theorem dX6_hide_88 : decode cX6_hide 88 = .ok (.iload_n 1, 1) := by decide +kernel
theorem dX6_hide_89 : decode cX6_hide 89 = .ok (.iload_n 2, 1) := by decide +kernel
theorem dX6_hide_90 : decode cX6_hide 90 = .ok (.iload 5, 2) := by decide +kernel
theorem dX6_hide_92 : decode cX6_hide 92 = .ok (.invokevirtual 272, 3) := by decide +kernel
theorem dX6_hide_95 : decode cX6_hide 95 = .ok (.istore 6, 2) := by decide +kernel
theorem dX6_hide_97 : decode cX6_hide 97 = .ok (.iload 6, 2) := by decide +kernel
theorem dX6_hide_99 : decode cX6_hide 99 = .ok (.iconst (-1), 1) := by decide +kernel
theorem dX6_hide_100 : decode cX6_hide 100 = .ok (.if_icmp .eq 22, 3) := by decide +kernel
theorem dX6_hide_103 : decode cX6_hide 103 = .ok (.iload_n 3, 1) := by decide +kernel
theorem dX6_hide_104 : decode cX6_hide 104 = .ok (.iconst (-1), 1) := by decide +kernel
theorem dX6_hide_105 : decode cX6_hide 105 = .ok (.if_icmp .eq 10, 3) := by decide +kernel
theorem dX6_hide_108 : decode cX6_hide 108 = .ok (.iload 6, 2) := by decide +kernel
theorem dX6_hide_110 : decode cX6_hide 110 = .ok (.iload 4, 2) := by decide +kernel
theorem dX6_hide_112 : decode cX6_hide 112 = .ok (.if_icmp .ge 10, 3) := by decide +kernel
theorem dX6_hide_115 : decode cX6_hide 115 = .ok (.iload 5, 2) := by decide +kernel
theorem dX6_hide_117 : decode cX6_hide 117 = .ok (.istore_n 3, 1) := by decide +kernel
theorem dX6_hide_118 : decode cX6_hide 118 = .ok (.iload 6, 2) := by decide +kernel
theorem dX6_hide_120 : decode cX6_hide 120 = .ok (.istore 4, 2) := by decide +kernel
theorem dX6_hide_122 : decode cX6_hide 122 = .ok (.iinc 5 1, 3) := by decide +kernel
theorem dX6_hide_125 : decode cX6_hide 125 = .ok (.goto (-64), 3) := by decide +kernel
theorem dX6_hide_128 : decode cX6_hide 128 = .ok (.iload_n 3, 1) := by decide +kernel
theorem dX6_hide_129 : decode cX6_hide 129 = .ok (.ireturn, 1) := by decide +kernel
theorem dX6_fits_0 : decode cX6_fits 0 = .ok (.aload_n 0, 1) := by decide +kernel
theorem dX6_fits_1 : decode cX6_fits 1 = .ok (.iload_n 1, 1) := by decide +kernel
theorem dX6_fits_2 : decode cX6_fits 2 = .ok (.invokevirtual 80, 3) := by decide +kernel
theorem dX6_fits_5 : decode cX6_fits 5 = .ok (.istore_n 2, 1) := by decide +kernel
theorem dX6_fits_6 : decode cX6_fits 6 = .ok (.iload_n 2, 1) := by decide +kernel
theorem dX6_fits_7 : decode cX6_fits 7 = .ok (.ifCond .eq 9, 3) := by decide +kernel
theorem dX6_fits_10 : decode cX6_fits 10 = .ok (.aload_n 0, 1) := by decide +kernel
theorem dX6_fits_11 : decode cX6_fits 11 = .ok (.iload_n 2, 1) := by decide +kernel
theorem dX6_fits_12 : decode cX6_fits 12 = .ok (.invokevirtual 72, 3) := by decide +kernel
theorem dX6_fits_15 : decode cX6_fits 15 = .ok (.ireturn, 1) := by decide +kernel
theorem dX6_fits_16 : decode cX6_fits 16 = .ok (.aload_n 0, 1) := by decide +kernel
theorem dX6_fits_17 : decode cX6_fits 17 = .ok (.getfield 24, 3) := by decide +kernel
theorem dX6_fits_20 : decode cX6_fits 20 = .ok (.iload_n 1, 1) := by decide +kernel
theorem dX6_fits_21 : decode cX6_fits 21 = .ok (.aaload, 1) := by decide +kernel
theorem dX6_fits_22 : decode cX6_fits 22 = .ok (.getfield 279, 3) := by decide +kernel
theorem dX6_fits_25 : decode cX6_fits 25 = .ok (.aload_n 0, 1) := by decide +kernel
theorem dX6_fits_26 : decode cX6_fits 26 = .ok (.getfield 10, 3) := by decide +kernel
theorem dX6_fits_29 : decode cX6_fits 29 = .ok (.getfield 151, 3) := by decide +kernel
theorem dX6_fits_32 : decode cX6_fits 32 = .ok (.if_icmp .ge 9, 3) := by decide +kernel
theorem dX6_fits_35 : decode cX6_fits 35 = .ok (.aload_n 0, 1) := by decide +kernel
theorem dX6_fits_36 : decode cX6_fits 36 = .ok (.iconst 5, 1) := by decide +kernel
theorem dX6_fits_37 : decode cX6_fits 37 = .ok (.invokevirtual 72, 3) := by decide +kernel
theorem dX6_fits_40 : decode cX6_fits 40 = .ok (.ireturn, 1) := by decide +kernel
theorem dX6_fits_41 : decode cX6_fits 41 = .ok (.iconst 0, 1) := by decide +kernel
theorem dX6_fits_42 : decode cX6_fits 42 = .ok (.istore_n 3, 1) := by decide +kernel
theorem dX6_fits_43 : decode cX6_fits 43 = .ok (.iconst 0, 1) := by decide +kernel
theorem dX6_fits_44 : decode cX6_fits 44 = .ok (.istore 4, 2) := by decide +kernel
theorem dX6_fits_46 : decode cX6_fits 46 = .ok (.iload 4, 2) := by decide +kernel
theorem dX6_fits_48 : decode cX6_fits 48 = .ok (.aload_n 0, 1) := by decide +kernel
theorem dX6_fits_49 : decode cX6_fits 49 = .ok (.getfield 10, 3) := by decide +kernel
theorem dX6_fits_52 : decode cX6_fits 52 = .ok (.getfield 151, 3) := by decide +kernel
theorem dX6_fits_55 : decode cX6_fits 55 = .ok (.if_icmp .ge 43, 3) := by decide +kernel
theorem dX6_fits_58 : decode cX6_fits 58 = .ok (.aload_n 0, 1) := by decide +kernel
theorem dX6_fits_59 : decode cX6_fits 59 = .ok (.getfield 10, 3) := by decide +kernel
theorem dX6_fits_62 : decode cX6_fits 62 = .ok (.iload 4, 2) := by decide +kernel
theorem dX6_fits_64 : decode cX6_fits 64 = .ok (.invokevirtual 248, 3) := by decide +kernel
theorem dX6_fits_67 : decode cX6_fits 67 = .ok (.ifCond .eq 25, 3) := by decide +kernel
theorem dX6_fits_70 : decode cX6_fits 70 = .ok (.aload_n 0, 1) := by decide +kernel
theorem dX6_fits_71 : decode cX6_fits 71 = .ok (.iload 4, 2) := by decide +kernel
theorem dX6_fits_73 : decode cX6_fits 73 = .ok (.aload_n 0, 1) := by decide +kernel
theorem dX6_fits_74 : decode cX6_fits 74 = .ok (.getfield 24, 3) := by decide +kernel
theorem dX6_fits_77 : decode cX6_fits 77 = .ok (.iload_n 1, 1) := by decide +kernel
theorem dX6_fits_78 : decode cX6_fits 78 = .ok (.aaload, 1) := by decide +kernel
theorem dX6_fits_79 : decode cX6_fits 79 = .ok (.invokevirtual 282, 3) := by decide +kernel
theorem dX6_fits_82 : decode cX6_fits 82 = .ok (.ifCond .eq 10, 3) := by decide +kernel
theorem dX6_fits_85 : decode cX6_fits 85 = .ok (.iload_n 3, 1) := by decide +kernel
theorem dX6_fits_86 : decode cX6_fits 86 = .ok (.iconst 1, 1) := by decide +kernel
theorem dX6_fits_87 : decode cX6_fits 87 = .ok (.iload 4, 2) := by decide +kernel
theorem dX6_fits_89 : decode cX6_fits 89 = .ok (.ishl, 1) := by decide +kernel
theorem dX6_fits_90 : decode cX6_fits 90 = .ok (.ior, 1) := by decide +kernel
theorem dX6_fits_91 : decode cX6_fits 91 = .ok (.istore_n 3, 1) := by decide +kernel
theorem dX6_fits_92 : decode cX6_fits 92 = .ok (.iinc 4 1, 3) := by decide +kernel
theorem dX6_fits_95 : decode cX6_fits 95 = .ok (.goto (-49), 3) := by decide +kernel
theorem dX6_fits_98 : decode cX6_fits 98 = .ok (.iload_n 3, 1) := by decide +kernel
theorem dX6_fits_99 : decode cX6_fits 99 = .ok (.ireturn, 1) := by decide +kernel
theorem dX6_lossFits_0 : decode cX6_lossFits 0 = .ok (.iconst 0, 1) := by decide +kernel
theorem dX6_lossFits_1 : decode cX6_lossFits 1 = .ok (.istore_n 3, 1) := by decide +kernel
theorem dX6_lossFits_2 : decode cX6_lossFits 2 = .ok (.iload_n 3, 1) := by decide +kernel
theorem dX6_lossFits_3 : decode cX6_lossFits 3 = .ok (.aload_n 0, 1) := by decide +kernel
theorem dX6_lossFits_4 : decode cX6_lossFits 4 = .ok (.getfield 10, 3) := by decide +kernel
theorem dX6_lossFits_7 : decode cX6_lossFits 7 = .ok (.getfield 151, 3) := by decide +kernel
theorem dX6_lossFits_10 : decode cX6_lossFits 10 = .ok (.if_icmp .ge 70, 3) := by decide +kernel
theorem dX6_lossFits_13 : decode cX6_lossFits 13 = .ok (.aload_n 2, 1) := by decide +kernel
theorem dX6_lossFits_14 : decode cX6_lossFits 14 = .ok (.iload_n 3, 1) := by decide +kernel
theorem dX6_lossFits_15 : decode cX6_lossFits 15 = .ok (.invokevirtual 286, 3) := by decide +kernel
theorem dX6_lossFits_18 : decode cX6_lossFits 18 = .ok (.istore 4, 2) := by decide +kernel
theorem dX6_lossFits_20 : decode cX6_lossFits 20 = .ok (.iload_n 3, 1) := by decide +kernel
theorem dX6_lossFits_21 : decode cX6_lossFits 21 = .ok (.iload_n 1, 1) := by decide +kernel
theorem dX6_lossFits_22 : decode cX6_lossFits 22 = .ok (.if_icmp .eq 52, 3) := by decide +kernel
theorem dX6_lossFits_25 : decode cX6_lossFits 25 = .ok (.aload_n 0, 1) := by decide +kernel
theorem dX6_lossFits_26 : decode cX6_lossFits 26 = .ok (.getfield 10, 3) := by decide +kernel
theorem dX6_lossFits_29 : decode cX6_lossFits 29 = .ok (.iload_n 3, 1) := by decide +kernel
theorem dX6_lossFits_30 : decode cX6_lossFits 30 = .ok (.invokevirtual 248, 3) := by decide +kernel
theorem dX6_lossFits_33 : decode cX6_lossFits 33 = .ok (.ifCond .eq 41, 3) := by decide +kernel
theorem dX6_lossFits_36 : decode cX6_lossFits 36 = .ok (.iload 4, 2) := by decide +kernel
theorem dX6_lossFits_38 : decode cX6_lossFits 38 = .ok (.iconst (-1), 1) := by decide +kernel
theorem dX6_lossFits_39 : decode cX6_lossFits 39 = .ok (.if_icmp .eq 35, 3) := by decide +kernel
theorem dX6_lossFits_42 : decode cX6_lossFits 42 = .ok (.aload_n 0, 1) := by decide +kernel
theorem dX6_lossFits_43 : decode cX6_lossFits 43 = .ok (.getfield 10, 3) := by decide +kernel
theorem dX6_lossFits_46 : decode cX6_lossFits 46 = .ok (.aload_n 0, 1) := by decide +kernel
theorem dX6_lossFits_47 : decode cX6_lossFits 47 = .ok (.getfield 10, 3) := by decide +kernel
theorem dX6_lossFits_50 : decode cX6_lossFits 50 = .ok (.getfield 189, 3) := by decide +kernel
theorem dX6_lossFits_53 : decode cX6_lossFits 53 = .ok (.iload_n 3, 1) := by decide +kernel
theorem dX6_lossFits_54 : decode cX6_lossFits 54 = .ok (.iaload, 1) := by decide +kernel
theorem dX6_lossFits_55 : decode cX6_lossFits 55 = .ok (.iload_n 3, 1) := by decide +kernel
theorem dX6_lossFits_56 : decode cX6_lossFits 56 = .ok (.iload_n 1, 1) := by decide +kernel
theorem dX6_lossFits_57 : decode cX6_lossFits 57 = .ok (.aload_n 0, 1) := by decide +kernel
theorem dX6_lossFits_58 : decode cX6_lossFits 58 = .ok (.getfield 10, 3) := by decide +kernel
theorem dX6_lossFits_61 : decode cX6_lossFits 61 = .ok (.getfield 121, 3) := by decide +kernel
theorem dX6_lossFits_64 : decode cX6_lossFits 64 = .ok (.invokevirtual 289, 3) := by decide +kernel
theorem dX6_lossFits_67 : decode cX6_lossFits 67 = .ok (.iload 4, 2) := by decide +kernel
theorem dX6_lossFits_69 : decode cX6_lossFits 69 = .ok (.if_icmp .eq 5, 3) := by decide +kernel
theorem dX6_lossFits_72 : decode cX6_lossFits 72 = .ok (.iconst 0, 1) := by decide +kernel
theorem dX6_lossFits_73 : decode cX6_lossFits 73 = .ok (.ireturn, 1) := by decide +kernel
theorem dX6_lossFits_74 : decode cX6_lossFits 74 = .ok (.iinc 3 1, 3) := by decide +kernel
theorem dX6_lossFits_77 : decode cX6_lossFits 77 = .ok (.goto (-75), 3) := by decide +kernel
theorem dX6_lossFits_80 : decode cX6_lossFits 80 = .ok (.iconst 1, 1) := by decide +kernel
theorem dX6_lossFits_81 : decode cX6_lossFits 81 = .ok (.ireturn, 1) := by decide +kernel
theorem dX6_fires_0 : decode cX6_fires 0 = .ok (.iload_n 1, 1) := by decide +kernel
theorem dX6_fires_1 : decode cX6_fires 1 = .ok (.iconst 1, 1) := by decide +kernel
theorem dX6_fires_2 : decode cX6_fires 2 = .ok (.aload_n 0, 1) := by decide +kernel
theorem dX6_fires_3 : decode cX6_fires 3 = .ok (.getfield 10, 3) := by decide +kernel
theorem dX6_fires_6 : decode cX6_fires 6 = .ok (.getfield 151, 3) := by decide +kernel
theorem dX6_fires_9 : decode cX6_fires 9 = .ok (.ishl, 1) := by decide +kernel
theorem dX6_fires_10 : decode cX6_fires 10 = .ok (.ineg, 1) := by decide +kernel
theorem dX6_fires_11 : decode cX6_fires 11 = .ok (.iand, 1) := by decide +kernel
theorem dX6_fires_12 : decode cX6_fires 12 = .ok (.ifCond .eq 10, 3) := by decide +kernel
theorem dX6_fires_15 : decode cX6_fires 15 = .ok (.aload_n 0, 1) := by decide +kernel
theorem dX6_fires_16 : decode cX6_fires 16 = .ok (.bipush 6, 2) := by decide +kernel
theorem dX6_fires_18 : decode cX6_fires 18 = .ok (.invokevirtual 72, 3) := by decide +kernel
theorem dX6_fires_21 : decode cX6_fires 21 = .ok (.ireturn, 1) := by decide +kernel
theorem dX6_fires_22 : decode cX6_fires 22 = .ok (.iload_n 1, 1) := by decide +kernel
theorem dX6_fires_23 : decode cX6_fires 23 = .ok (.aload_n 0, 1) := by decide +kernel
theorem dX6_fires_24 : decode cX6_fires 24 = .ok (.getfield 10, 3) := by decide +kernel
theorem dX6_fires_27 : decode cX6_fires 27 = .ok (.getfield 186, 3) := by decide +kernel
theorem dX6_fires_30 : decode cX6_fires 30 = .ok (.iand, 1) := by decide +kernel
theorem dX6_fires_31 : decode cX6_fires 31 = .ok (.istore_n 2, 1) := by decide +kernel
theorem dX6_fires_32 : decode cX6_fires 32 = .ok (.aload_n 0, 1) := by decide +kernel
theorem dX6_fires_33 : decode cX6_fires 33 = .ok (.getfield 10, 3) := by decide +kernel
theorem dX6_fires_36 : decode cX6_fires 36 = .ok (.getfield 186, 3) := by decide +kernel
theorem dX6_fires_39 : decode cX6_fires 39 = .ok (.istore_n 3, 1) := by decide +kernel
theorem dX6_fires_40 : decode cX6_fires 40 = .ok (.iconst 1, 1) := by decide +kernel
theorem dX6_fires_41 : decode cX6_fires 41 = .ok (.aload_n 0, 1) := by decide +kernel
theorem dX6_fires_42 : decode cX6_fires 42 = .ok (.getfield 10, 3) := by decide +kernel
theorem dX6_fires_45 : decode cX6_fires 45 = .ok (.getfield 151, 3) := by decide +kernel
theorem dX6_fires_48 : decode cX6_fires 48 = .ok (.ishl, 1) := by decide +kernel
theorem dX6_fires_49 : decode cX6_fires 49 = .ok (.iconst 1, 1) := by decide +kernel
theorem dX6_fires_50 : decode cX6_fires 50 = .ok (.isub, 1) := by decide +kernel
theorem dX6_fires_51 : decode cX6_fires 51 = .ok (.istore 4, 2) := by decide +kernel
theorem dX6_fires_53 : decode cX6_fires 53 = .ok (.iload 4, 2) := by decide +kernel
theorem dX6_fires_55 : decode cX6_fires 55 = .ok (.ifCond .lt 52, 3) := by decide +kernel
theorem dX6_fires_58 : decode cX6_fires 58 = .ok (.iload 4, 2) := by decide +kernel
theorem dX6_fires_60 : decode cX6_fires 60 = .ok (.aload_n 0, 1) := by decide +kernel
theorem dX6_fires_61 : decode cX6_fires 61 = .ok (.getfield 10, 3) := by decide +kernel
theorem dX6_fires_64 : decode cX6_fires 64 = .ok (.getfield 186, 3) := by decide +kernel
theorem dX6_fires_67 : decode cX6_fires 67 = .ok (.iconst (-1), 1) := by decide +kernel
theorem dX6_fires_68 : decode cX6_fires 68 = .ok (.ixor, 1) := by decide +kernel
theorem dX6_fires_69 : decode cX6_fires 69 = .ok (.iand, 1) := by decide +kernel
theorem dX6_fires_70 : decode cX6_fires 70 = .ok (.ifCond .ne 31, 3) := by decide +kernel
theorem dX6_fires_73 : decode cX6_fires 73 = .ok (.iload 4, 2) := by decide +kernel
theorem dX6_fires_75 : decode cX6_fires 75 = .ok (.invokestatic 254, 3) := by decide +kernel
theorem dX6_fires_78 : decode cX6_fires 78 = .ok (.iload_n 3, 1) := by decide +kernel
theorem dX6_fires_79 : decode cX6_fires 79 = .ok (.invokestatic 254, 3) := by decide +kernel
theorem dX6_fires_82 : decode cX6_fires 82 = .ok (.if_icmp .gt 19, 3) := by decide +kernel
theorem dX6_fires_85 : decode cX6_fires 85 = .ok (.aload_n 0, 1) := by decide +kernel
theorem dX6_fires_86 : decode cX6_fires 86 = .ok (.getfield 10, 3) := by decide +kernel
theorem dX6_fires_89 : decode cX6_fires 89 = .ok (.iload_n 2, 1) := by decide +kernel
theorem dX6_fires_90 : decode cX6_fires 90 = .ok (.iload 4, 2) := by decide +kernel
theorem dX6_fires_92 : decode cX6_fires 92 = .ok (.invokevirtual 292, 3) := by decide +kernel
theorem dX6_fires_95 : decode cX6_fires 95 = .ok (.ifCond .eq 6, 3) := by decide +kernel
theorem dX6_fires_98 : decode cX6_fires 98 = .ok (.iload 4, 2) := by decide +kernel
theorem dX6_fires_100 : decode cX6_fires 100 = .ok (.istore_n 3, 1) := by decide +kernel
theorem dX6_fires_101 : decode cX6_fires 101 = .ok (.iinc 4 (-1), 3) := by decide +kernel
theorem dX6_fires_104 : decode cX6_fires 104 = .ok (.goto (-51), 3) := by decide +kernel
theorem dX6_fires_107 : decode cX6_fires 107 = .ok (.iload_n 3, 1) := by decide +kernel
theorem dX6_fires_108 : decode cX6_fires 108 = .ok (.ireturn, 1) := by decide +kernel
theorem dX6_send_0 : decode cX6_send 0 = .ok (.iconst (-1), 1) := by decide +kernel
theorem dX6_send_1 : decode cX6_send 1 = .ok (.istore_n 1, 1) := by decide +kernel
theorem dX6_send_2 : decode cX6_send 2 = .ok (.iconst 0, 1) := by decide +kernel
theorem dX6_send_3 : decode cX6_send 3 = .ok (.istore_n 2, 1) := by decide +kernel
theorem dX6_send_4 : decode cX6_send 4 = .ok (.iconst 0, 1) := by decide +kernel
theorem dX6_send_5 : decode cX6_send 5 = .ok (.istore_n 3, 1) := by decide +kernel
theorem dX6_send_6 : decode cX6_send 6 = .ok (.iload_n 3, 1) := by decide +kernel
theorem dX6_send_7 : decode cX6_send 7 = .ok (.aload_n 0, 1) := by decide +kernel
theorem dX6_send_8 : decode cX6_send 8 = .ok (.getfield 10, 3) := by decide +kernel
theorem dX6_send_11 : decode cX6_send 11 = .ok (.getfield 151, 3) := by decide +kernel
theorem dX6_send_14 : decode cX6_send 14 = .ok (.if_icmp .ge 51, 3) := by decide +kernel
theorem dX6_send_17 : decode cX6_send 17 = .ok (.aload_n 0, 1) := by decide +kernel
theorem dX6_send_18 : decode cX6_send 18 = .ok (.getfield 10, 3) := by decide +kernel
theorem dX6_send_21 : decode cX6_send 21 = .ok (.iload_n 3, 1) := by decide +kernel
theorem dX6_send_22 : decode cX6_send 22 = .ok (.invokevirtual 248, 3) := by decide +kernel
theorem dX6_send_25 : decode cX6_send 25 = .ok (.ifCond .eq 34, 3) := by decide +kernel
theorem dX6_send_28 : decode cX6_send 28 = .ok (.aload_n 0, 1) := by decide +kernel
theorem dX6_send_29 : decode cX6_send 29 = .ok (.getfield 10, 3) := by decide +kernel
theorem dX6_send_32 : decode cX6_send 32 = .ok (.iconst 1, 1) := by decide +kernel
theorem dX6_send_33 : decode cX6_send 33 = .ok (.iload_n 3, 1) := by decide +kernel
theorem dX6_send_34 : decode cX6_send 34 = .ok (.ishl, 1) := by decide +kernel
theorem dX6_send_35 : decode cX6_send 35 = .ok (.invokevirtual 295, 3) := by decide +kernel
theorem dX6_send_38 : decode cX6_send 38 = .ok (.invokestatic 254, 3) := by decide +kernel
theorem dX6_send_41 : decode cX6_send 41 = .ok (.istore 4, 2) := by decide +kernel
theorem dX6_send_43 : decode cX6_send 43 = .ok (.iload_n 1, 1) := by decide +kernel
theorem dX6_send_44 : decode cX6_send 44 = .ok (.iconst (-1), 1) := by decide +kernel
theorem dX6_send_45 : decode cX6_send 45 = .ok (.if_icmp .eq 9, 3) := by decide +kernel
theorem dX6_send_48 : decode cX6_send 48 = .ok (.iload 4, 2) := by decide +kernel
theorem dX6_send_50 : decode cX6_send 50 = .ok (.iload_n 2, 1) := by decide +kernel
theorem dX6_send_51 : decode cX6_send 51 = .ok (.if_icmp .le 8, 3) := by decide +kernel
theorem dX6_send_54 : decode cX6_send 54 = .ok (.iload_n 3, 1) := by decide +kernel
theorem dX6_send_55 : decode cX6_send 55 = .ok (.istore_n 1, 1) := by decide +kernel
theorem dX6_send_56 : decode cX6_send 56 = .ok (.iload 4, 2) := by decide +kernel
theorem dX6_send_58 : decode cX6_send 58 = .ok (.istore_n 2, 1) := by decide +kernel
theorem dX6_send_59 : decode cX6_send 59 = .ok (.iinc 3 1, 3) := by decide +kernel
theorem dX6_send_62 : decode cX6_send 62 = .ok (.goto (-56), 3) := by decide +kernel
theorem dX6_send_65 : decode cX6_send 65 = .ok (.iload_n 1, 1) := by decide +kernel
theorem dX6_send_66 : decode cX6_send 66 = .ok (.ireturn, 1) := by decide +kernel
theorem dX6_chain_0 : decode cX6_chain 0 = .ok (.aload_n 0, 1) := by decide +kernel
theorem dX6_chain_1 : decode cX6_chain 1 = .ok (.getfield 10, 3) := by decide +kernel
theorem dX6_chain_4 : decode cX6_chain 4 = .ok (.iload_n 1, 1) := by decide +kernel
theorem dX6_chain_5 : decode cX6_chain 5 = .ok (.invokevirtual 106, 3) := by decide +kernel
theorem dX6_chain_8 : decode cX6_chain 8 = .ok (.ifCond .eq 14, 3) := by decide +kernel
theorem dX6_chain_11 : decode cX6_chain 11 = .ok (.aload_n 0, 1) := by decide +kernel
theorem dX6_chain_12 : decode cX6_chain 12 = .ok (.getfield 10, 3) := by decide +kernel
theorem dX6_chain_15 : decode cX6_chain 15 = .ok (.iload_n 2, 1) := by decide +kernel
theorem dX6_chain_16 : decode cX6_chain 16 = .ok (.invokevirtual 106, 3) := by decide +kernel
theorem dX6_chain_19 : decode cX6_chain 19 = .ok (.ifCond .ne 12, 3) := by decide +kernel
theorem dX6_chain_22 : decode cX6_chain 22 = .ok (.aload_n 0, 1) := by decide +kernel
theorem dX6_chain_23 : decode cX6_chain 23 = .ok (.iconst 1, 1) := by decide +kernel
theorem dX6_chain_24 : decode cX6_chain 24 = .ok (.invokevirtual 72, 3) := by decide +kernel
theorem dX6_chain_27 : decode cX6_chain 27 = .ok (.bipush 10, 2) := by decide +kernel
theorem dX6_chain_29 : decode cX6_chain 29 = .ok (.isub, 1) := by decide +kernel
theorem dX6_chain_30 : decode cX6_chain 30 = .ok (.ireturn, 1) := by decide +kernel
theorem dX6_chain_31 : decode cX6_chain 31 = .ok (.iload_n 1, 1) := by decide +kernel
theorem dX6_chain_32 : decode cX6_chain 32 = .ok (.iload_n 2, 1) := by decide +kernel
theorem dX6_chain_33 : decode cX6_chain 33 = .ok (.if_icmp .eq 25, 3) := by decide +kernel
theorem dX6_chain_36 : decode cX6_chain 36 = .ok (.aload_n 0, 1) := by decide +kernel
theorem dX6_chain_37 : decode cX6_chain 37 = .ok (.getfield 10, 3) := by decide +kernel
theorem dX6_chain_40 : decode cX6_chain 40 = .ok (.iload_n 1, 1) := by decide +kernel
theorem dX6_chain_41 : decode cX6_chain 41 = .ok (.invokevirtual 248, 3) := by decide +kernel
theorem dX6_chain_44 : decode cX6_chain 44 = .ok (.ifCond .eq 14, 3) := by decide +kernel
theorem dX6_chain_47 : decode cX6_chain 47 = .ok (.aload_n 0, 1) := by decide +kernel
theorem dX6_chain_48 : decode cX6_chain 48 = .ok (.getfield 10, 3) := by decide +kernel
theorem dX6_chain_51 : decode cX6_chain 51 = .ok (.iload_n 2, 1) := by decide +kernel
theorem dX6_chain_52 : decode cX6_chain 52 = .ok (.invokevirtual 248, 3) := by decide +kernel
theorem dX6_chain_55 : decode cX6_chain 55 = .ok (.ifCond .ne 13, 3) := by decide +kernel
theorem dX6_chain_58 : decode cX6_chain 58 = .ok (.aload_n 0, 1) := by decide +kernel
theorem dX6_chain_59 : decode cX6_chain 59 = .ok (.bipush 6, 2) := by decide +kernel
theorem dX6_chain_61 : decode cX6_chain 61 = .ok (.invokevirtual 72, 3) := by decide +kernel
theorem dX6_chain_64 : decode cX6_chain 64 = .ok (.bipush 10, 2) := by decide +kernel
theorem dX6_chain_66 : decode cX6_chain 66 = .ok (.isub, 1) := by decide +kernel
theorem dX6_chain_67 : decode cX6_chain 67 = .ok (.ireturn, 1) := by decide +kernel
theorem dX6_chain_68 : decode cX6_chain 68 = .ok (.iconst 1, 1) := by decide +kernel
theorem dX6_chain_69 : decode cX6_chain 69 = .ok (.iload_n 1, 1) := by decide +kernel
theorem dX6_chain_70 : decode cX6_chain 70 = .ok (.ishl, 1) := by decide +kernel
theorem dX6_chain_71 : decode cX6_chain 71 = .ok (.istore_n 3, 1) := by decide +kernel
theorem dX6_chain_72 : decode cX6_chain 72 = .ok (.iconst 0, 1) := by decide +kernel
theorem dX6_chain_73 : decode cX6_chain 73 = .ok (.istore 4, 2) := by decide +kernel
theorem dX6_chain_75 : decode cX6_chain 75 = .ok (.iload 4, 2) := by decide +kernel
theorem dX6_chain_77 : decode cX6_chain 77 = .ok (.aload_n 0, 1) := by decide +kernel
theorem dX6_chain_78 : decode cX6_chain 78 = .ok (.getfield 10, 3) := by decide +kernel
theorem dX6_chain_81 : decode cX6_chain 81 = .ok (.getfield 151, 3) := by decide +kernel
theorem dX6_chain_84 : decode cX6_chain 84 = .ok (.if_icmp .ge 32, 3) := by decide +kernel
theorem dX6_chain_87 : decode cX6_chain 87 = .ok (.iload_n 3, 1) := by decide +kernel
theorem dX6_chain_88 : decode cX6_chain 88 = .ok (.aload_n 0, 1) := by decide +kernel
theorem dX6_chain_89 : decode cX6_chain 89 = .ok (.getfield 10, 3) := by decide +kernel
theorem dX6_chain_92 : decode cX6_chain 92 = .ok (.iload_n 3, 1) := by decide +kernel
theorem dX6_chain_93 : decode cX6_chain 93 = .ok (.invokevirtual 295, 3) := by decide +kernel
theorem dX6_chain_96 : decode cX6_chain 96 = .ok (.ior, 1) := by decide +kernel
theorem dX6_chain_97 : decode cX6_chain 97 = .ok (.istore_n 3, 1) := by decide +kernel
theorem dX6_chain_98 : decode cX6_chain 98 = .ok (.iload_n 3, 1) := by decide +kernel
theorem dX6_chain_99 : decode cX6_chain 99 = .ok (.iload_n 2, 1) := by decide +kernel
theorem dX6_chain_100 : decode cX6_chain 100 = .ok (.invokestatic 127, 3) := by decide +kernel
theorem dX6_chain_103 : decode cX6_chain 103 = .ok (.iconst 1, 1) := by decide +kernel
theorem dX6_chain_104 : decode cX6_chain 104 = .ok (.if_icmp .ne 6, 3) := by decide +kernel
theorem dX6_chain_107 : decode cX6_chain 107 = .ok (.iload 4, 2) := by decide +kernel
theorem dX6_chain_109 : decode cX6_chain 109 = .ok (.ireturn, 1) := by decide +kernel
theorem dX6_chain_110 : decode cX6_chain 110 = .ok (.iinc 4 1, 3) := by decide +kernel
theorem dX6_chain_113 : decode cX6_chain 113 = .ok (.goto (-38), 3) := by decide +kernel
theorem dX6_chain_116 : decode cX6_chain 116 = .ok (.iconst (-1), 1) := by decide +kernel
theorem dX6_chain_117 : decode cX6_chain 117 = .ok (.ireturn, 1) := by decide +kernel
theorem dX6_lacks_0 : decode cX6_lacks 0 = .ok (.iload_n 1, 1) := by decide +kernel
theorem dX6_lacks_1 : decode cX6_lacks 1 = .ok (.ifCond .ne 40, 3) := by decide +kernel
theorem dX6_lacks_4 : decode cX6_lacks 4 = .ok (.aload_n 0, 1) := by decide +kernel
theorem dX6_lacks_5 : decode cX6_lacks 5 = .ok (.getfield 10, 3) := by decide +kernel
theorem dX6_lacks_8 : decode cX6_lacks 8 = .ok (.getfield 164, 3) := by decide +kernel
theorem dX6_lacks_11 : decode cX6_lacks 11 = .ok (.ifCond .le 30, 3) := by decide +kernel
theorem dX6_lacks_14 : decode cX6_lacks 14 = .ok (.aload_n 0, 1) := by decide +kernel
theorem dX6_lacks_15 : decode cX6_lacks 15 = .ok (.getfield 56, 3) := by decide +kernel
theorem dX6_lacks_18 : decode cX6_lacks 18 = .ok (.aload_n 0, 1) := by decide +kernel
theorem dX6_lacks_19 : decode cX6_lacks 19 = .ok (.getfield 10, 3) := by decide +kernel
theorem dX6_lacks_22 : decode cX6_lacks 22 = .ok (.bipush 100, 2) := by decide +kernel
theorem dX6_lacks_24 : decode cX6_lacks 24 = .ok (.invokevirtual 240, 3) := by decide +kernel
theorem dX6_lacks_27 : decode cX6_lacks 27 = .ok (.aload_n 0, 1) := by decide +kernel
theorem dX6_lacks_28 : decode cX6_lacks 28 = .ok (.getfield 56, 3) := by decide +kernel
theorem dX6_lacks_31 : decode cX6_lacks 31 = .ok (.aload_n 0, 1) := by decide +kernel
theorem dX6_lacks_32 : decode cX6_lacks 32 = .ok (.getfield 10, 3) := by decide +kernel
theorem dX6_lacks_35 : decode cX6_lacks 35 = .ok (.bipush 100, 2) := by decide +kernel
theorem dX6_lacks_37 : decode cX6_lacks 37 = .ok (.invokevirtual 298, 3) := by decide +kernel
theorem dX6_lacks_40 : decode cX6_lacks 40 = .ok (.ireturn, 1) := by decide +kernel
theorem dX6_lacks_41 : decode cX6_lacks 41 = .ok (.iload_n 1, 1) := by decide +kernel
theorem dX6_lacks_42 : decode cX6_lacks 42 = .ok (.iconst 1, 1) := by decide +kernel
theorem dX6_lacks_43 : decode cX6_lacks 43 = .ok (.if_icmp .ne 40, 3) := by decide +kernel
theorem dX6_lacks_46 : decode cX6_lacks 46 = .ok (.aload_n 0, 1) := by decide +kernel
theorem dX6_lacks_47 : decode cX6_lacks 47 = .ok (.getfield 10, 3) := by decide +kernel
theorem dX6_lacks_50 : decode cX6_lacks 50 = .ok (.getfield 151, 3) := by decide +kernel
theorem dX6_lacks_53 : decode cX6_lacks 53 = .ok (.ifCond .le 30, 3) := by decide +kernel
theorem dX6_lacks_56 : decode cX6_lacks 56 = .ok (.aload_n 0, 1) := by decide +kernel
theorem dX6_lacks_57 : decode cX6_lacks 57 = .ok (.getfield 56, 3) := by decide +kernel
theorem dX6_lacks_60 : decode cX6_lacks 60 = .ok (.aload_n 0, 1) := by decide +kernel
theorem dX6_lacks_61 : decode cX6_lacks 61 = .ok (.getfield 10, 3) := by decide +kernel
theorem dX6_lacks_64 : decode cX6_lacks 64 = .ok (.bipush 100, 2) := by decide +kernel
theorem dX6_lacks_66 : decode cX6_lacks 66 = .ok (.invokevirtual 240, 3) := by decide +kernel
theorem dX6_lacks_69 : decode cX6_lacks 69 = .ok (.aload_n 0, 1) := by decide +kernel
theorem dX6_lacks_70 : decode cX6_lacks 70 = .ok (.getfield 56, 3) := by decide +kernel
theorem dX6_lacks_73 : decode cX6_lacks 73 = .ok (.aload_n 0, 1) := by decide +kernel
theorem dX6_lacks_74 : decode cX6_lacks 74 = .ok (.getfield 10, 3) := by decide +kernel
theorem dX6_lacks_77 : decode cX6_lacks 77 = .ok (.bipush 100, 2) := by decide +kernel
theorem dX6_lacks_79 : decode cX6_lacks 79 = .ok (.invokevirtual 302, 3) := by decide +kernel
theorem dX6_lacks_82 : decode cX6_lacks 82 = .ok (.ireturn, 1) := by decide +kernel
theorem dX6_lacks_83 : decode cX6_lacks 83 = .ok (.aload_n 0, 1) := by decide +kernel
theorem dX6_lacks_84 : decode cX6_lacks 84 = .ok (.iconst 5, 1) := by decide +kernel
theorem dX6_lacks_85 : decode cX6_lacks 85 = .ok (.invokevirtual 72, 3) := by decide +kernel
theorem dX6_lacks_88 : decode cX6_lacks 88 = .ok (.ireturn, 1) := by decide +kernel
theorem dX6_spared_0 : decode cX6_spared 0 = .ok (.aload_n 0, 1) := by decide +kernel
theorem dX6_spared_1 : decode cX6_spared 1 = .ok (.getfield 10, 3) := by decide +kernel
theorem dX6_spared_4 : decode cX6_spared 4 = .ok (.iload_n 1, 1) := by decide +kernel
theorem dX6_spared_5 : decode cX6_spared 5 = .ok (.invokevirtual 106, 3) := by decide +kernel
theorem dX6_spared_8 : decode cX6_spared 8 = .ok (.ifCond .ne 12, 3) := by decide +kernel
theorem dX6_spared_11 : decode cX6_spared 11 = .ok (.aload_n 0, 1) := by decide +kernel
theorem dX6_spared_12 : decode cX6_spared 12 = .ok (.iconst 1, 1) := by decide +kernel
theorem dX6_spared_13 : decode cX6_spared 13 = .ok (.invokevirtual 72, 3) := by decide +kernel
theorem dX6_spared_16 : decode cX6_spared 16 = .ok (.bipush 10, 2) := by decide +kernel
theorem dX6_spared_18 : decode cX6_spared 18 = .ok (.isub, 1) := by decide +kernel
theorem dX6_spared_19 : decode cX6_spared 19 = .ok (.ireturn, 1) := by decide +kernel
theorem dX6_spared_20 : decode cX6_spared 20 = .ok (.iload_n 2, 1) := by decide +kernel
theorem dX6_spared_21 : decode cX6_spared 21 = .ok (.ifCond .lt 14, 3) := by decide +kernel
theorem dX6_spared_24 : decode cX6_spared 24 = .ok (.aload_n 0, 1) := by decide +kernel
theorem dX6_spared_25 : decode cX6_spared 25 = .ok (.getfield 10, 3) := by decide +kernel
theorem dX6_spared_28 : decode cX6_spared 28 = .ok (.iload_n 1, 1) := by decide +kernel
theorem dX6_spared_29 : decode cX6_spared 29 = .ok (.invokevirtual 248, 3) := by decide +kernel
theorem dX6_spared_32 : decode cX6_spared 32 = .ok (.ifCond .ne 13, 3) := by decide +kernel
theorem dX6_spared_35 : decode cX6_spared 35 = .ok (.aload_n 0, 1) := by decide +kernel
theorem dX6_spared_36 : decode cX6_spared 36 = .ok (.bipush 6, 2) := by decide +kernel
theorem dX6_spared_38 : decode cX6_spared 38 = .ok (.invokevirtual 72, 3) := by decide +kernel
theorem dX6_spared_41 : decode cX6_spared 41 = .ok (.bipush 10, 2) := by decide +kernel
theorem dX6_spared_43 : decode cX6_spared 43 = .ok (.isub, 1) := by decide +kernel
theorem dX6_spared_44 : decode cX6_spared 44 = .ok (.ireturn, 1) := by decide +kernel
theorem dX6_spared_45 : decode cX6_spared 45 = .ok (.iconst 0, 1) := by decide +kernel
theorem dX6_spared_46 : decode cX6_spared 46 = .ok (.istore_n 3, 1) := by decide +kernel
theorem dX6_spared_47 : decode cX6_spared 47 = .ok (.iload_n 3, 1) := by decide +kernel
theorem dX6_spared_48 : decode cX6_spared 48 = .ok (.bipush 100, 2) := by decide +kernel
theorem dX6_spared_50 : decode cX6_spared 50 = .ok (.if_icmp .ge 32, 3) := by decide +kernel
theorem dX6_spared_53 : decode cX6_spared 53 = .ok (.aload_n 0, 1) := by decide +kernel
theorem dX6_spared_54 : decode cX6_spared 54 = .ok (.getfield 10, 3) := by decide +kernel
theorem dX6_spared_57 : decode cX6_spared 57 = .ok (.iload_n 1, 1) := by decide +kernel
theorem dX6_spared_58 : decode cX6_spared 58 = .ok (.aload_n 0, 1) := by decide +kernel
theorem dX6_spared_59 : decode cX6_spared 59 = .ok (.getfield 10, 3) := by decide +kernel
theorem dX6_spared_62 : decode cX6_spared 62 = .ok (.getfield 121, 3) := by decide +kernel
theorem dX6_spared_65 : decode cX6_spared 65 = .ok (.iload_n 3, 1) := by decide +kernel
theorem dX6_spared_66 : decode cX6_spared 66 = .ok (.iadd, 1) := by decide +kernel
theorem dX6_spared_67 : decode cX6_spared 67 = .ok (.invokevirtual 251, 3) := by decide +kernel
theorem dX6_spared_70 : decode cX6_spared 70 = .ok (.iload_n 2, 1) := by decide +kernel
theorem dX6_spared_71 : decode cX6_spared 71 = .ok (.if_icmp .gt 5, 3) := by decide +kernel
theorem dX6_spared_74 : decode cX6_spared 74 = .ok (.iload_n 3, 1) := by decide +kernel
theorem dX6_spared_75 : decode cX6_spared 75 = .ok (.ireturn, 1) := by decide +kernel
theorem dX6_spared_76 : decode cX6_spared 76 = .ok (.iinc 3 1, 3) := by decide +kernel
theorem dX6_spared_79 : decode cX6_spared 79 = .ok (.goto (-32), 3) := by decide +kernel
theorem dX6_spared_82 : decode cX6_spared 82 = .ok (.iconst (-1), 1) := by decide +kernel
theorem dX6_spared_83 : decode cX6_spared 83 = .ok (.ireturn, 1) := by decide +kernel
theorem dX6_judge_0 : decode cX6_judge 0 = .ok (.aload_n 0, 1) := by decide +kernel
theorem dX6_judge_1 : decode cX6_judge 1 = .ok (.iload_n 1, 1) := by decide +kernel
theorem dX6_judge_2 : decode cX6_judge 2 = .ok (.iload_n 2, 1) := by decide +kernel
theorem dX6_judge_3 : decode cX6_judge 3 = .ok (.iconst 1, 1) := by decide +kernel
theorem dX6_judge_4 : decode cX6_judge 4 = .ok (.invokevirtual 305, 3) := by decide +kernel
theorem dX6_judge_7 : decode cX6_judge 7 = .ok (.istore_n 3, 1) := by decide +kernel
theorem dX6_judge_8 : decode cX6_judge 8 = .ok (.iload_n 3, 1) := by decide +kernel
theorem dX6_judge_9 : decode cX6_judge 9 = .ok (.ifCond .eq 12, 3) := by decide +kernel
theorem dX6_judge_12 : decode cX6_judge 12 = .ok (.aload_n 0, 1) := by decide +kernel
theorem dX6_judge_13 : decode cX6_judge 13 = .ok (.iload_n 3, 1) := by decide +kernel
theorem dX6_judge_14 : decode cX6_judge 14 = .ok (.invokevirtual 72, 3) := by decide +kernel
theorem dX6_judge_17 : decode cX6_judge 17 = .ok (.bipush 10, 2) := by decide +kernel
theorem dX6_judge_19 : decode cX6_judge 19 = .ok (.isub, 1) := by decide +kernel
theorem dX6_judge_20 : decode cX6_judge 20 = .ok (.ireturn, 1) := by decide +kernel
theorem dX6_judge_21 : decode cX6_judge 21 = .ok (.aload_n 0, 1) := by decide +kernel
theorem dX6_judge_22 : decode cX6_judge 22 = .ok (.aload_n 0, 1) := by decide +kernel
theorem dX6_judge_23 : decode cX6_judge 23 = .ok (.getfield 24, 3) := by decide +kernel
theorem dX6_judge_26 : decode cX6_judge 26 = .ok (.iload_n 1, 1) := by decide +kernel
theorem dX6_judge_27 : decode cX6_judge 27 = .ok (.aaload, 1) := by decide +kernel
theorem dX6_judge_28 : decode cX6_judge 28 = .ok (.iload_n 2, 1) := by decide +kernel
theorem dX6_judge_29 : decode cX6_judge 29 = .ok (.invokevirtual 309, 3) := by decide +kernel
theorem dX6_judge_32 : decode cX6_judge 32 = .ok (.ireturn, 1) := by decide +kernel
theorem dX6_told_0 : decode cX6_told 0 = .ok (.aload_n 0, 1) := by decide +kernel
theorem dX6_told_1 : decode cX6_told 1 = .ok (.iload_n 1, 1) := by decide +kernel
theorem dX6_told_2 : decode cX6_told 2 = .ok (.iload_n 2, 1) := by decide +kernel
theorem dX6_told_3 : decode cX6_told 3 = .ok (.iload_n 3, 1) := by decide +kernel
theorem dX6_told_4 : decode cX6_told 4 = .ok (.ifCond .lt 12, 3) := by decide +kernel
theorem dX6_told_7 : decode cX6_told 7 = .ok (.iload_n 3, 1) := by decide +kernel
theorem dX6_told_8 : decode cX6_told 8 = .ok (.iconst 2, 1) := by decide +kernel
theorem dX6_told_9 : decode cX6_told 9 = .ok (.if_icmp .gt 7, 3) := by decide +kernel
theorem dX6_told_12 : decode cX6_told 12 = .ok (.iconst 1, 1) := by decide +kernel
theorem dX6_told_13 : decode cX6_told 13 = .ok (.goto 4, 3) := by decide +kernel
theorem dX6_told_16 : decode cX6_told 16 = .ok (.iconst 0, 1) := by decide +kernel
theorem dX6_told_17 : decode cX6_told 17 = .ok (.invokevirtual 305, 3) := by decide +kernel
theorem dX6_told_20 : decode cX6_told 20 = .ok (.istore 4, 2) := by decide +kernel
theorem dX6_told_22 : decode cX6_told 22 = .ok (.iload 4, 2) := by decide +kernel
theorem dX6_told_24 : decode cX6_told 24 = .ok (.ifCond .eq 10, 3) := by decide +kernel
theorem dX6_told_27 : decode cX6_told 27 = .ok (.aload_n 0, 1) := by decide +kernel
theorem dX6_told_28 : decode cX6_told 28 = .ok (.iload 4, 2) := by decide +kernel
theorem dX6_told_30 : decode cX6_told 30 = .ok (.invokevirtual 72, 3) := by decide +kernel
theorem dX6_told_33 : decode cX6_told 33 = .ok (.ireturn, 1) := by decide +kernel
theorem dX6_told_34 : decode cX6_told 34 = .ok (.aload_n 0, 1) := by decide +kernel
theorem dX6_told_35 : decode cX6_told 35 = .ok (.aload_n 0, 1) := by decide +kernel
theorem dX6_told_36 : decode cX6_told 36 = .ok (.getfield 24, 3) := by decide +kernel
theorem dX6_told_39 : decode cX6_told 39 = .ok (.iload_n 1, 1) := by decide +kernel
theorem dX6_told_40 : decode cX6_told 40 = .ok (.aaload, 1) := by decide +kernel
theorem dX6_told_41 : decode cX6_told 41 = .ok (.iload_n 2, 1) := by decide +kernel
theorem dX6_told_42 : decode cX6_told 42 = .ok (.invokevirtual 309, 3) := by decide +kernel
theorem dX6_told_45 : decode cX6_told 45 = .ok (.iconst (-1), 1) := by decide +kernel
theorem dX6_told_46 : decode cX6_told 46 = .ok (.if_icmp .eq 10, 3) := by decide +kernel
theorem dX6_told_49 : decode cX6_told 49 = .ok (.aload_n 0, 1) := by decide +kernel
theorem dX6_told_50 : decode cX6_told 50 = .ok (.bipush 6, 2) := by decide +kernel
theorem dX6_told_52 : decode cX6_told 52 = .ok (.invokevirtual 72, 3) := by decide +kernel
theorem dX6_told_55 : decode cX6_told 55 = .ok (.ireturn, 1) := by decide +kernel
theorem dX6_told_56 : decode cX6_told 56 = .ok (.aload_n 0, 1) := by decide +kernel
theorem dX6_told_57 : decode cX6_told 57 = .ok (.getfield 19, 3) := by decide +kernel
theorem dX6_told_60 : decode cX6_told 60 = .ok (.aload_n 0, 1) := by decide +kernel
theorem dX6_told_61 : decode cX6_told 61 = .ok (.getfield 10, 3) := by decide +kernel
theorem dX6_told_64 : decode cX6_told 64 = .ok (.invokevirtual 201, 3) := by decide +kernel
theorem dX6_told_67 : decode cX6_told 67 = .ok (.aload_n 0, 1) := by decide +kernel
theorem dX6_told_68 : decode cX6_told 68 = .ok (.getfield 19, 3) := by decide +kernel
theorem dX6_told_71 : decode cX6_told 71 = .ok (.aload_n 0, 1) := by decide +kernel
theorem dX6_told_72 : decode cX6_told 72 = .ok (.getfield 24, 3) := by decide +kernel
theorem dX6_told_75 : decode cX6_told 75 = .ok (.iload_n 1, 1) := by decide +kernel
theorem dX6_told_76 : decode cX6_told 76 = .ok (.aaload, 1) := by decide +kernel
theorem dX6_told_77 : decode cX6_told 77 = .ok (.iload_n 2, 1) := by decide +kernel
theorem dX6_told_78 : decode cX6_told 78 = .ok (.invokevirtual 313, 3) := by decide +kernel
theorem dX6_told_81 : decode cX6_told 81 = .ok (.istore 5, 2) := by decide +kernel
theorem dX6_told_83 : decode cX6_told 83 = .ok (.iload_n 3, 1) := by decide +kernel
theorem dX6_told_84 : decode cX6_told 84 = .ok (.ifCond .ne 6, 3) := by decide +kernel
theorem dX6_told_87 : decode cX6_told 87 = .ok (.iload 5, 2) := by decide +kernel
theorem dX6_told_89 : decode cX6_told 89 = .ok (.ireturn, 1) := by decide +kernel
theorem dX6_told_90 : decode cX6_told 90 = .ok (.iload_n 3, 1) := by decide +kernel
theorem dX6_told_91 : decode cX6_told 91 = .ok (.iconst 1, 1) := by decide +kernel
theorem dX6_told_92 : decode cX6_told 92 = .ok (.if_icmp .ne 20, 3) := by decide +kernel
theorem dX6_told_95 : decode cX6_told 95 = .ok (.aload_n 0, 1) := by decide +kernel
theorem dX6_told_96 : decode cX6_told 96 = .ok (.getfield 19, 3) := by decide +kernel
theorem dX6_told_99 : decode cX6_told 99 = .ok (.aload_n 0, 1) := by decide +kernel
theorem dX6_told_100 : decode cX6_told 100 = .ok (.getfield 19, 3) := by decide +kernel
theorem dX6_told_103 : decode cX6_told 103 = .ok (.getfield 121, 3) := by decide +kernel
theorem dX6_told_106 : decode cX6_told 106 = .ok (.invokevirtual 124, 3) := by decide +kernel
theorem dX6_told_109 : decode cX6_told 109 = .ok (.goto 10, 3) := by decide +kernel
theorem dX6_told_112 : decode cX6_told 112 = .ok (.aload_n 0, 1) := by decide +kernel
theorem dX6_told_113 : decode cX6_told 113 = .ok (.getfield 19, 3) := by decide +kernel
theorem dX6_told_116 : decode cX6_told 116 = .ok (.getfield 121, 3) := by decide +kernel
theorem dX6_told_119 : decode cX6_told 119 = .ok (.ireturn, 1) := by decide +kernel
theorem dX6_done_0 : decode cX6_done 0 = .ok (.aload_n 0, 1) := by decide +kernel
theorem dX6_done_1 : decode cX6_done 1 = .ok (.iload_n 1, 1) := by decide +kernel
theorem dX6_done_2 : decode cX6_done 2 = .ok (.iload_n 2, 1) := by decide +kernel
theorem dX6_done_3 : decode cX6_done 3 = .ok (.iconst 1, 1) := by decide +kernel
theorem dX6_done_4 : decode cX6_done 4 = .ok (.invokevirtual 305, 3) := by decide +kernel
theorem dX6_done_7 : decode cX6_done 7 = .ok (.istore_n 3, 1) := by decide +kernel
theorem dX6_done_8 : decode cX6_done 8 = .ok (.iload_n 3, 1) := by decide +kernel
theorem dX6_done_9 : decode cX6_done 9 = .ok (.ifCond .eq 9, 3) := by decide +kernel
theorem dX6_done_12 : decode cX6_done 12 = .ok (.aload_n 0, 1) := by decide +kernel
theorem dX6_done_13 : decode cX6_done 13 = .ok (.iload_n 3, 1) := by decide +kernel
theorem dX6_done_14 : decode cX6_done 14 = .ok (.invokevirtual 72, 3) := by decide +kernel
theorem dX6_done_17 : decode cX6_done 17 = .ok (.ireturn, 1) := by decide +kernel
theorem dX6_done_18 : decode cX6_done 18 = .ok (.aload_n 0, 1) := by decide +kernel
theorem dX6_done_19 : decode cX6_done 19 = .ok (.aload_n 0, 1) := by decide +kernel
theorem dX6_done_20 : decode cX6_done 20 = .ok (.getfield 24, 3) := by decide +kernel
theorem dX6_done_23 : decode cX6_done 23 = .ok (.iload_n 1, 1) := by decide +kernel
theorem dX6_done_24 : decode cX6_done 24 = .ok (.aaload, 1) := by decide +kernel
theorem dX6_done_25 : decode cX6_done 25 = .ok (.iload_n 2, 1) := by decide +kernel
theorem dX6_done_26 : decode cX6_done 26 = .ok (.invokevirtual 309, 3) := by decide +kernel
theorem dX6_done_29 : decode cX6_done 29 = .ok (.iconst (-1), 1) := by decide +kernel
theorem dX6_done_30 : decode cX6_done 30 = .ok (.if_icmp .eq 10, 3) := by decide +kernel
theorem dX6_done_33 : decode cX6_done 33 = .ok (.aload_n 0, 1) := by decide +kernel
theorem dX6_done_34 : decode cX6_done 34 = .ok (.bipush 6, 2) := by decide +kernel
theorem dX6_done_36 : decode cX6_done 36 = .ok (.invokevirtual 72, 3) := by decide +kernel
theorem dX6_done_39 : decode cX6_done 39 = .ok (.ireturn, 1) := by decide +kernel
theorem dX6_done_40 : decode cX6_done 40 = .ok (.aload_n 0, 1) := by decide +kernel
theorem dX6_done_41 : decode cX6_done 41 = .ok (.getfield 10, 3) := by decide +kernel
theorem dX6_done_44 : decode cX6_done 44 = .ok (.aload_n 0, 1) := by decide +kernel
theorem dX6_done_45 : decode cX6_done 45 = .ok (.getfield 24, 3) := by decide +kernel
theorem dX6_done_48 : decode cX6_done 48 = .ok (.iload_n 1, 1) := by decide +kernel
theorem dX6_done_49 : decode cX6_done 49 = .ok (.aaload, 1) := by decide +kernel
theorem dX6_done_50 : decode cX6_done 50 = .ok (.iload_n 2, 1) := by decide +kernel
theorem dX6_done_51 : decode cX6_done 51 = .ok (.invokevirtual 313, 3) := by decide +kernel
theorem dX6_done_54 : decode cX6_done 54 = .ok (.pop, 1) := by decide +kernel
theorem dX6_done_55 : decode cX6_done 55 = .ok (.aload_n 0, 1) := by decide +kernel
theorem dX6_done_56 : decode cX6_done 56 = .ok (.getfield 10, 3) := by decide +kernel
theorem dX6_done_59 : decode cX6_done 59 = .ok (.getfield 121, 3) := by decide +kernel
theorem dX6_done_62 : decode cX6_done 62 = .ok (.ireturn, 1) := by decide +kernel
theorem dX6_takingsRefusal_0 : decode cX6_takingsRefusal 0 = .ok (.aload_n 0, 1) := by decide +kernel
theorem dX6_takingsRefusal_1 : decode cX6_takingsRefusal 1 = .ok (.iload_n 1, 1) := by decide +kernel
theorem dX6_takingsRefusal_2 : decode cX6_takingsRefusal 2 = .ok (.invokevirtual 80, 3) := by decide +kernel
theorem dX6_takingsRefusal_5 : decode cX6_takingsRefusal 5 = .ok (.istore 4, 2) := by decide +kernel
theorem dX6_takingsRefusal_7 : decode cX6_takingsRefusal 7 = .ok (.iload 4, 2) := by decide +kernel
theorem dX6_takingsRefusal_9 : decode cX6_takingsRefusal 9 = .ok (.ifCond .eq 6, 3) := by decide +kernel
theorem dX6_takingsRefusal_12 : decode cX6_takingsRefusal 12 = .ok (.iload 4, 2) := by decide +kernel
theorem dX6_takingsRefusal_14 : decode cX6_takingsRefusal 14 = .ok (.ireturn, 1) := by decide +kernel
theorem dX6_takingsRefusal_15 : decode cX6_takingsRefusal 15 = .ok (.iload_n 2, 1) := by decide +kernel
theorem dX6_takingsRefusal_16 : decode cX6_takingsRefusal 16 = .ok (.ifCond .ge 5, 3) := by decide +kernel
theorem dX6_takingsRefusal_19 : decode cX6_takingsRefusal 19 = .ok (.iconst 4, 1) := by decide +kernel
theorem dX6_takingsRefusal_20 : decode cX6_takingsRefusal 20 = .ok (.ireturn, 1) := by decide +kernel
theorem dX6_takingsRefusal_21 : decode cX6_takingsRefusal 21 = .ok (.iload_n 2, 1) := by decide +kernel
theorem dX6_takingsRefusal_22 : decode cX6_takingsRefusal 22 = .ok (.aload_n 0, 1) := by decide +kernel
theorem dX6_takingsRefusal_23 : decode cX6_takingsRefusal 23 = .ok (.getfield 24, 3) := by decide +kernel
theorem dX6_takingsRefusal_26 : decode cX6_takingsRefusal 26 = .ok (.iload_n 1, 1) := by decide +kernel
theorem dX6_takingsRefusal_27 : decode cX6_takingsRefusal 27 = .ok (.aaload, 1) := by decide +kernel
theorem dX6_takingsRefusal_28 : decode cX6_takingsRefusal 28 = .ok (.getfield 279, 3) := by decide +kernel
theorem dX6_takingsRefusal_31 : decode cX6_takingsRefusal 31 = .ok (.if_icmp .gt 7, 3) := by decide +kernel
theorem dX6_takingsRefusal_34 : decode cX6_takingsRefusal 34 = .ok (.iload_n 3, 1) := by decide +kernel
theorem dX6_takingsRefusal_35 : decode cX6_takingsRefusal 35 = .ok (.ifCond .ne 5, 3) := by decide +kernel
theorem dX6_takingsRefusal_38 : decode cX6_takingsRefusal 38 = .ok (.iconst 5, 1) := by decide +kernel
theorem dX6_takingsRefusal_39 : decode cX6_takingsRefusal 39 = .ok (.ireturn, 1) := by decide +kernel
theorem dX6_takingsRefusal_40 : decode cX6_takingsRefusal 40 = .ok (.iload_n 2, 1) := by decide +kernel
theorem dX6_takingsRefusal_41 : decode cX6_takingsRefusal 41 = .ok (.bipush 20, 2) := by decide +kernel
theorem dX6_takingsRefusal_43 : decode cX6_takingsRefusal 43 = .ok (.if_icmp .le 8, 3) := by decide +kernel
theorem dX6_takingsRefusal_46 : decode cX6_takingsRefusal 46 = .ok (.bipush 6, 2) := by decide +kernel
theorem dX6_takingsRefusal_48 : decode cX6_takingsRefusal 48 = .ok (.goto 4, 3) := by decide +kernel
theorem dX6_takingsRefusal_51 : decode cX6_takingsRefusal 51 = .ok (.iconst 0, 1) := by decide +kernel
theorem dX6_takingsRefusal_52 : decode cX6_takingsRefusal 52 = .ok (.ireturn, 1) := by decide +kernel
theorem dX6_firstWrong_0 : decode cX6_firstWrong 0 = .ok (.aload_n 0, 1) := by decide +kernel
theorem dX6_firstWrong_1 : decode cX6_firstWrong 1 = .ok (.getfield 10, 3) := by decide +kernel
theorem dX6_firstWrong_4 : decode cX6_firstWrong 4 = .ok (.getfield 186, 3) := by decide +kernel
theorem dX6_firstWrong_7 : decode cX6_firstWrong 7 = .ok (.istore_n 3, 1) := by decide +kernel
theorem dX6_firstWrong_8 : decode cX6_firstWrong 8 = .ok (.iconst 0, 1) := by decide +kernel
theorem dX6_firstWrong_9 : decode cX6_firstWrong 9 = .ok (.istore 4, 2) := by decide +kernel
theorem dX6_firstWrong_11 : decode cX6_firstWrong 11 = .ok (.iload 4, 2) := by decide +kernel
theorem dX6_firstWrong_13 : decode cX6_firstWrong 13 = .ok (.iload_n 2, 1) := by decide +kernel
theorem dX6_firstWrong_14 : decode cX6_firstWrong 14 = .ok (.if_icmp .ge 69, 3) := by decide +kernel
theorem dX6_firstWrong_17 : decode cX6_firstWrong 17 = .ok (.aload_n 1, 1) := by decide +kernel
theorem dX6_firstWrong_18 : decode cX6_firstWrong 18 = .ok (.iload 4, 2) := by decide +kernel
theorem dX6_firstWrong_20 : decode cX6_firstWrong 20 = .ok (.invokevirtual 286, 3) := by decide +kernel
theorem dX6_firstWrong_23 : decode cX6_firstWrong 23 = .ok (.istore 5, 2) := by decide +kernel
theorem dX6_firstWrong_25 : decode cX6_firstWrong 25 = .ok (.aload_n 0, 1) := by decide +kernel
theorem dX6_firstWrong_26 : decode cX6_firstWrong 26 = .ok (.getfield 10, 3) := by decide +kernel
theorem dX6_firstWrong_29 : decode cX6_firstWrong 29 = .ok (.iload 5, 2) := by decide +kernel
theorem dX6_firstWrong_31 : decode cX6_firstWrong 31 = .ok (.invokevirtual 106, 3) := by decide +kernel
theorem dX6_firstWrong_34 : decode cX6_firstWrong 34 = .ok (.ifCond .eq 25, 3) := by decide +kernel
theorem dX6_firstWrong_37 : decode cX6_firstWrong 37 = .ok (.iload_n 3, 1) := by decide +kernel
theorem dX6_firstWrong_38 : decode cX6_firstWrong 38 = .ok (.iload 5, 2) := by decide +kernel
theorem dX6_firstWrong_40 : decode cX6_firstWrong 40 = .ok (.invokestatic 127, 3) := by decide +kernel
theorem dX6_firstWrong_43 : decode cX6_firstWrong 43 = .ok (.iconst 1, 1) := by decide +kernel
theorem dX6_firstWrong_44 : decode cX6_firstWrong 44 = .ok (.if_icmp .ne 15, 3) := by decide +kernel
theorem dX6_firstWrong_47 : decode cX6_firstWrong 47 = .ok (.iload_n 3, 1) := by decide +kernel
theorem dX6_firstWrong_48 : decode cX6_firstWrong 48 = .ok (.iconst 1, 1) := by decide +kernel
theorem dX6_firstWrong_49 : decode cX6_firstWrong 49 = .ok (.iload 5, 2) := by decide +kernel
theorem dX6_firstWrong_51 : decode cX6_firstWrong 51 = .ok (.ishl, 1) := by decide +kernel
theorem dX6_firstWrong_52 : decode cX6_firstWrong 52 = .ok (.iconst (-1), 1) := by decide +kernel
theorem dX6_firstWrong_53 : decode cX6_firstWrong 53 = .ok (.ixor, 1) := by decide +kernel
theorem dX6_firstWrong_54 : decode cX6_firstWrong 54 = .ok (.iand, 1) := by decide +kernel
theorem dX6_firstWrong_55 : decode cX6_firstWrong 55 = .ok (.istore_n 3, 1) := by decide +kernel
theorem dX6_firstWrong_56 : decode cX6_firstWrong 56 = .ok (.goto 21, 3) := by decide +kernel
theorem dX6_firstWrong_59 : decode cX6_firstWrong 59 = .ok (.iload 5, 2) := by decide +kernel
theorem dX6_firstWrong_61 : decode cX6_firstWrong 61 = .ok (.bipush 100, 2) := by decide +kernel
theorem dX6_firstWrong_63 : decode cX6_firstWrong 63 = .ok (.if_icmp .le 11, 3) := by decide +kernel
theorem dX6_firstWrong_66 : decode cX6_firstWrong 66 = .ok (.iload 5, 2) := by decide +kernel
theorem dX6_firstWrong_68 : decode cX6_firstWrong 68 = .ok (.sipush 199, 3) := by decide +kernel
theorem dX6_firstWrong_71 : decode cX6_firstWrong 71 = .ok (.if_icmp .le 6, 3) := by decide +kernel
theorem dX6_firstWrong_74 : decode cX6_firstWrong 74 = .ok (.iload 4, 2) := by decide +kernel
theorem dX6_firstWrong_76 : decode cX6_firstWrong 76 = .ok (.ireturn, 1) := by decide +kernel
theorem dX6_firstWrong_77 : decode cX6_firstWrong 77 = .ok (.iinc 4 1, 3) := by decide +kernel
theorem dX6_firstWrong_80 : decode cX6_firstWrong 80 = .ok (.goto (-69), 3) := by decide +kernel
theorem dX6_firstWrong_83 : decode cX6_firstWrong 83 = .ok (.iconst (-1), 1) := by decide +kernel
theorem dX6_firstWrong_84 : decode cX6_firstWrong 84 = .ok (.ireturn, 1) := by decide +kernel
theorem dX6_take_0 : decode cX6_take 0 = .ok (.aload_n 0, 1) := by decide +kernel
theorem dX6_take_1 : decode cX6_take 1 = .ok (.getfield 10, 3) := by decide +kernel
theorem dX6_take_4 : decode cX6_take 4 = .ok (.iload_n 1, 1) := by decide +kernel
theorem dX6_take_5 : decode cX6_take 5 = .ok (.invokevirtual 106, 3) := by decide +kernel
theorem dX6_take_8 : decode cX6_take 8 = .ok (.ifCond .ne 9, 3) := by decide +kernel
theorem dX6_take_11 : decode cX6_take 11 = .ok (.aload_n 0, 1) := by decide +kernel
theorem dX6_take_12 : decode cX6_take 12 = .ok (.iconst 1, 1) := by decide +kernel
theorem dX6_take_13 : decode cX6_take 13 = .ok (.invokevirtual 72, 3) := by decide +kernel
theorem dX6_take_16 : decode cX6_take 16 = .ok (.ireturn, 1) := by decide +kernel
theorem dX6_take_17 : decode cX6_take 17 = .ok (.aload_n 0, 1) := by decide +kernel
theorem dX6_take_18 : decode cX6_take 18 = .ok (.getfield 10, 3) := by decide +kernel
theorem dX6_take_21 : decode cX6_take 21 = .ok (.iload_n 1, 1) := by decide +kernel
theorem dX6_take_22 : decode cX6_take 22 = .ok (.invokevirtual 248, 3) := by decide +kernel
theorem dX6_take_25 : decode cX6_take 25 = .ok (.ifCond .ne 10, 3) := by decide +kernel
theorem dX6_take_28 : decode cX6_take 28 = .ok (.aload_n 0, 1) := by decide +kernel
theorem dX6_take_29 : decode cX6_take 29 = .ok (.bipush 6, 2) := by decide +kernel
theorem dX6_take_31 : decode cX6_take 31 = .ok (.invokevirtual 72, 3) := by decide +kernel
theorem dX6_take_34 : decode cX6_take 34 = .ok (.ireturn, 1) := by decide +kernel
theorem dX6_take_35 : decode cX6_take 35 = .ok (.aload_n 0, 1) := by decide +kernel
theorem dX6_take_36 : decode cX6_take 36 = .ok (.getfield 10, 3) := by decide +kernel
theorem dX6_take_39 : decode cX6_take 39 = .ok (.iload_n 1, 1) := by decide +kernel
theorem dX6_take_40 : decode cX6_take 40 = .ok (.invokevirtual 269, 3) := by decide +kernel
theorem dX6_take_43 : decode cX6_take 43 = .ok (.ireturn, 1) := by decide +kernel
theorem dX6_years_0 : decode cX6_years 0 = .ok (.iload_n 1, 1) := by decide +kernel
theorem dX6_years_1 : decode cX6_years 1 = .ok (.iconst 1, 1) := by decide +kernel
theorem dX6_years_2 : decode cX6_years 2 = .ok (.if_icmp .lt 10, 3) := by decide +kernel
theorem dX6_years_5 : decode cX6_years 5 = .ok (.iload_n 1, 1) := by decide +kernel
theorem dX6_years_6 : decode cX6_years 6 = .ok (.sipush 999, 3) := by decide +kernel
theorem dX6_years_9 : decode cX6_years 9 = .ok (.if_icmp .le 10, 3) := by decide +kernel
theorem dX6_years_12 : decode cX6_years 12 = .ok (.aload_n 0, 1) := by decide +kernel
theorem dX6_years_13 : decode cX6_years 13 = .ok (.bipush 6, 2) := by decide +kernel
theorem dX6_years_15 : decode cX6_years 15 = .ok (.invokevirtual 72, 3) := by decide +kernel
theorem dX6_years_18 : decode cX6_years 18 = .ok (.ireturn, 1) := by decide +kernel
theorem dX6_years_19 : decode cX6_years 19 = .ok (.aload_n 0, 1) := by decide +kernel
theorem dX6_years_20 : decode cX6_years 20 = .ok (.getfield 10, 3) := by decide +kernel
theorem dX6_years_23 : decode cX6_years 23 = .ok (.dup, 1) := by decide +kernel
theorem dX6_years_24 : decode cX6_years 24 = .ok (.getfield 121, 3) := by decide +kernel
theorem dX6_years_27 : decode cX6_years 27 = .ok (.iload_n 1, 1) := by decide +kernel
theorem dX6_years_28 : decode cX6_years 28 = .ok (.iadd, 1) := by decide +kernel
theorem dX6_years_29 : decode cX6_years 29 = .ok (.putfield 121, 3) := by decide +kernel
theorem dX6_years_32 : decode cX6_years 32 = .ok (.aload_n 0, 1) := by decide +kernel
theorem dX6_years_33 : decode cX6_years 33 = .ok (.getfield 10, 3) := by decide +kernel
theorem dX6_years_36 : decode cX6_years 36 = .ok (.getfield 121, 3) := by decide +kernel
theorem dX6_years_39 : decode cX6_years 39 = .ok (.ireturn, 1) := by decide +kernel
theorem dX6_ages_0 : decode cX6_ages 0 = .ok (.iload_n 1, 1) := by decide +kernel
theorem dX6_ages_1 : decode cX6_ages 1 = .ok (.iconst 1, 1) := by decide +kernel
theorem dX6_ages_2 : decode cX6_ages 2 = .ok (.if_icmp .lt 10, 3) := by decide +kernel
theorem dX6_ages_5 : decode cX6_ages 5 = .ok (.iload_n 1, 1) := by decide +kernel
theorem dX6_ages_6 : decode cX6_ages 6 = .ok (.sipush 200, 3) := by decide +kernel
theorem dX6_ages_9 : decode cX6_ages 9 = .ok (.if_icmp .le 10, 3) := by decide +kernel
theorem dX6_ages_12 : decode cX6_ages 12 = .ok (.aload_n 0, 1) := by decide +kernel
theorem dX6_ages_13 : decode cX6_ages 13 = .ok (.bipush 6, 2) := by decide +kernel
theorem dX6_ages_15 : decode cX6_ages 15 = .ok (.invokevirtual 72, 3) := by decide +kernel
theorem dX6_ages_18 : decode cX6_ages 18 = .ok (.ireturn, 1) := by decide +kernel
theorem dX6_ages_19 : decode cX6_ages 19 = .ok (.iconst 0, 1) := by decide +kernel
theorem dX6_ages_20 : decode cX6_ages 20 = .ok (.istore_n 2, 1) := by decide +kernel
theorem dX6_ages_21 : decode cX6_ages 21 = .ok (.iconst 0, 1) := by decide +kernel
theorem dX6_ages_22 : decode cX6_ages 22 = .ok (.istore_n 3, 1) := by decide +kernel
theorem dX6_ages_23 : decode cX6_ages 23 = .ok (.iload_n 3, 1) := by decide +kernel
theorem dX6_ages_24 : decode cX6_ages 24 = .ok (.iload_n 1, 1) := by decide +kernel
theorem dX6_ages_25 : decode cX6_ages 25 = .ok (.if_icmp .ge 79, 3) := by decide +kernel
theorem dX6_ages_28 : decode cX6_ages 28 = .ok (.aload_n 0, 1) := by decide +kernel
theorem dX6_ages_29 : decode cX6_ages 29 = .ok (.getfield 10, 3) := by decide +kernel
theorem dX6_ages_32 : decode cX6_ages 32 = .ok (.bipush 20, 2) := by decide +kernel
theorem dX6_ages_34 : decode cX6_ages 34 = .ok (.invokevirtual 316, 3) := by decide +kernel
theorem dX6_ages_37 : decode cX6_ages 37 = .ok (.ifCond .ne 48, 3) := by decide +kernel
theorem dX6_ages_40 : decode cX6_ages 40 = .ok (.aload_n 0, 1) := by decide +kernel
theorem dX6_ages_41 : decode cX6_ages 41 = .ok (.getfield 10, 3) := by decide +kernel
theorem dX6_ages_44 : decode cX6_ages 44 = .ok (.getfield 186, 3) := by decide +kernel
theorem dX6_ages_47 : decode cX6_ages 47 = .ok (.ifCond .eq 38, 3) := by decide +kernel
theorem dX6_ages_50 : decode cX6_ages 50 = .ok (.aload_n 0, 1) := by decide +kernel
theorem dX6_ages_51 : decode cX6_ages 51 = .ok (.getfield 10, 3) := by decide +kernel
theorem dX6_ages_54 : decode cX6_ages 54 = .ok (.aload_n 0, 1) := by decide +kernel
theorem dX6_ages_55 : decode cX6_ages 55 = .ok (.getfield 10, 3) := by decide +kernel
theorem dX6_ages_58 : decode cX6_ages 58 = .ok (.aload_n 0, 1) := by decide +kernel
theorem dX6_ages_59 : decode cX6_ages 59 = .ok (.getfield 10, 3) := by decide +kernel
theorem dX6_ages_62 : decode cX6_ages 62 = .ok (.aload_n 0, 1) := by decide +kernel
theorem dX6_ages_63 : decode cX6_ages 63 = .ok (.getfield 10, 3) := by decide +kernel
theorem dX6_ages_66 : decode cX6_ages 66 = .ok (.getfield 186, 3) := by decide +kernel
theorem dX6_ages_69 : decode cX6_ages 69 = .ok (.invokestatic 254, 3) := by decide +kernel
theorem dX6_ages_72 : decode cX6_ages 72 = .ok (.invokevirtual 316, 3) := by decide +kernel
theorem dX6_ages_75 : decode cX6_ages 75 = .ok (.invokevirtual 319, 3) := by decide +kernel
theorem dX6_ages_78 : decode cX6_ages 78 = .ok (.invokevirtual 269, 3) := by decide +kernel
theorem dX6_ages_81 : decode cX6_ages 81 = .ok (.pop, 1) := by decide +kernel
theorem dX6_ages_82 : decode cX6_ages 82 = .ok (.iinc 2 1, 3) := by decide +kernel
theorem dX6_ages_85 : decode cX6_ages 85 = .ok (.aload_n 0, 1) := by decide +kernel
theorem dX6_ages_86 : decode cX6_ages 86 = .ok (.getfield 10, 3) := by decide +kernel
theorem dX6_ages_89 : decode cX6_ages 89 = .ok (.dup, 1) := by decide +kernel
theorem dX6_ages_90 : decode cX6_ages 90 = .ok (.getfield 121, 3) := by decide +kernel
theorem dX6_ages_93 : decode cX6_ages 93 = .ok (.iconst 1, 1) := by decide +kernel
theorem dX6_ages_94 : decode cX6_ages 94 = .ok (.iadd, 1) := by decide +kernel
theorem dX6_ages_95 : decode cX6_ages 95 = .ok (.putfield 121, 3) := by decide +kernel
theorem dX6_ages_98 : decode cX6_ages 98 = .ok (.iinc 3 1, 3) := by decide +kernel
theorem dX6_ages_101 : decode cX6_ages 101 = .ok (.goto (-78), 3) := by decide +kernel
theorem dX6_ages_104 : decode cX6_ages 104 = .ok (.iload_n 2, 1) := by decide +kernel
theorem dX6_ages_105 : decode cX6_ages 105 = .ok (.ireturn, 1) := by decide +kernel
theorem dX6_seed_0 : decode cX6_seed 0 = .ok (.aload_n 0, 1) := by decide +kernel
theorem dX6_seed_1 : decode cX6_seed 1 = .ok (.getfield 10, 3) := by decide +kernel
theorem dX6_seed_4 : decode cX6_seed 4 = .ok (.getfield 322, 3) := by decide +kernel
theorem dX6_seed_7 : decode cX6_seed 7 = .ok (.istore_n 2, 1) := by decide +kernel
theorem dX6_seed_8 : decode cX6_seed 8 = .ok (.aload_n 0, 1) := by decide +kernel
theorem dX6_seed_9 : decode cX6_seed 9 = .ok (.getfield 10, 3) := by decide +kernel
theorem dX6_seed_12 : decode cX6_seed 12 = .ok (.iload_n 1, 1) := by decide +kernel
theorem dX6_seed_13 : decode cX6_seed 13 = .ok (.putfield 322, 3) := by decide +kernel
theorem dX6_seed_16 : decode cX6_seed 16 = .ok (.iload_n 2, 1) := by decide +kernel
theorem dX6_seed_17 : decode cX6_seed 17 = .ok (.ireturn, 1) := by decide +kernel
theorem dX6_act_0 : decode cX6_act 0 = .ok (.aload_n 0, 1) := by decide +kernel
theorem dX6_act_1 : decode cX6_act 1 = .ok (.getfield 49, 3) := by decide +kernel
theorem dX6_act_4 : decode cX6_act 4 = .ok (.invokevirtual 325, 3) := by decide +kernel
theorem dX6_act_7 : decode cX6_act 7 = .ok (.aload_n 0, 1) := by decide +kernel
theorem dX6_act_8 : decode cX6_act 8 = .ok (.getfield 10, 3) := by decide +kernel
theorem dX6_act_11 : decode cX6_act 11 = .ok (.iload_n 1, 1) := by decide +kernel
theorem dX6_act_12 : decode cX6_act 12 = .ok (.invokevirtual 106, 3) := by decide +kernel
theorem dX6_act_15 : decode cX6_act 15 = .ok (.ifCond .eq 12, 3) := by decide +kernel
theorem dX6_act_18 : decode cX6_act 18 = .ok (.iload_n 2, 1) := by decide +kernel
theorem dX6_act_19 : decode cX6_act 19 = .ok (.ifCond .lt 8, 3) := by decide +kernel
theorem dX6_act_22 : decode cX6_act 22 = .ok (.iload_n 2, 1) := by decide +kernel
theorem dX6_act_23 : decode cX6_act 23 = .ok (.iconst 3, 1) := by decide +kernel
theorem dX6_act_24 : decode cX6_act 24 = .ok (.if_icmp .lt 5, 3) := by decide +kernel
theorem dX6_act_27 : decode cX6_act 27 = .ok (.iconst 0, 1) := by decide +kernel
theorem dX6_act_28 : decode cX6_act 28 = .ok (.ireturn, 1) := by decide +kernel
theorem dX6_act_29 : decode cX6_act 29 = .ok (.aload_n 0, 1) := by decide +kernel
theorem dX6_act_30 : decode cX6_act 30 = .ok (.getfield 49, 3) := by decide +kernel
theorem dX6_act_33 : decode cX6_act 33 = .ok (.aload_n 0, 1) := by decide +kernel
theorem dX6_act_34 : decode cX6_act 34 = .ok (.getfield 10, 3) := by decide +kernel
theorem dX6_act_37 : decode cX6_act 37 = .ok (.iload_n 1, 1) := by decide +kernel
theorem dX6_act_38 : decode cX6_act 38 = .ok (.iload_n 2, 1) := by decide +kernel
theorem dX6_act_39 : decode cX6_act 39 = .ok (.iload_n 3, 1) := by decide +kernel
theorem dX6_act_40 : decode cX6_act 40 = .ok (.invokevirtual 328, 3) := by decide +kernel
theorem dX6_act_43 : decode cX6_act 43 = .ok (.ireturn, 1) := by decide +kernel
theorem dX6_trace_0 : decode cX6_trace 0 = .ok (.iload_n 1, 1) := by decide +kernel
theorem dX6_trace_1 : decode cX6_trace 1 = .ok (.ifCond .lt 32, 3) := by decide +kernel
theorem dX6_trace_4 : decode cX6_trace 4 = .ok (.iload_n 1, 1) := by decide +kernel
theorem dX6_trace_5 : decode cX6_trace 5 = .ok (.aload_n 0, 1) := by decide +kernel
theorem dX6_trace_6 : decode cX6_trace 6 = .ok (.getfield 49, 3) := by decide +kernel
theorem dX6_trace_9 : decode cX6_trace 9 = .ok (.getfield 331, 3) := by decide +kernel
theorem dX6_trace_12 : decode cX6_trace 12 = .ok (.if_icmp .ge 21, 3) := by decide +kernel
theorem dX6_trace_15 : decode cX6_trace 15 = .ok (.iload_n 1, 1) := by decide +kernel
theorem dX6_trace_16 : decode cX6_trace 16 = .ok (.bipush 20, 2) := by decide +kernel
theorem dX6_trace_18 : decode cX6_trace 18 = .ok (.if_icmp .ge 15, 3) := by decide +kernel
theorem dX6_trace_21 : decode cX6_trace 21 = .ok (.aload_n 0, 1) := by decide +kernel
theorem dX6_trace_22 : decode cX6_trace 22 = .ok (.getfield 49, 3) := by decide +kernel
theorem dX6_trace_25 : decode cX6_trace 25 = .ok (.getfield 334, 3) := by decide +kernel
theorem dX6_trace_28 : decode cX6_trace 28 = .ok (.iload_n 1, 1) := by decide +kernel
theorem dX6_trace_29 : decode cX6_trace 29 = .ok (.iaload, 1) := by decide +kernel
theorem dX6_trace_30 : decode cX6_trace 30 = .ok (.goto 4, 3) := by decide +kernel
theorem dX6_trace_33 : decode cX6_trace 33 = .ok (.iconst (-1), 1) := by decide +kernel
theorem dX6_trace_34 : decode cX6_trace 34 = .ok (.ireturn, 1) := by decide +kernel
theorem dX6_image_0 : decode cX6_image 0 = .ok (.aload_n 0, 1) := by decide +kernel
theorem dX6_image_1 : decode cX6_image 1 = .ok (.getfield 16, 3) := by decide +kernel
theorem dX6_image_4 : decode cX6_image 4 = .ok (.aload_n 0, 1) := by decide +kernel
theorem dX6_image_5 : decode cX6_image 5 = .ok (.getfield 10, 3) := by decide +kernel
theorem dX6_image_8 : decode cX6_image 8 = .ok (.invokevirtual 201, 3) := by decide +kernel
theorem dX6_image_11 : decode cX6_image 11 = .ok (.aload_n 0, 1) := by decide +kernel
theorem dX6_image_12 : decode cX6_image 12 = .ok (.iconst 1, 1) := by decide +kernel
theorem dX6_image_13 : decode cX6_image 13 = .ok (.putfield 337, 3) := by decide +kernel
theorem dX6_image_16 : decode cX6_image 16 = .ok (.aload_n 0, 1) := by decide +kernel
theorem dX6_image_17 : decode cX6_image 17 = .ok (.getfield 10, 3) := by decide +kernel
theorem dX6_image_20 : decode cX6_image 20 = .ok (.getfield 151, 3) := by decide +kernel
theorem dX6_image_23 : decode cX6_image 23 = .ok (.ireturn, 1) := by decide +kernel
theorem dX6_restore_0 : decode cX6_restore 0 = .ok (.aload_n 0, 1) := by decide +kernel
theorem dX6_restore_1 : decode cX6_restore 1 = .ok (.getfield 337, 3) := by decide +kernel
theorem dX6_restore_4 : decode cX6_restore 4 = .ok (.ifCond .ne 10, 3) := by decide +kernel
theorem dX6_restore_7 : decode cX6_restore 7 = .ok (.aload_n 0, 1) := by decide +kernel
theorem dX6_restore_8 : decode cX6_restore 8 = .ok (.bipush 6, 2) := by decide +kernel
theorem dX6_restore_10 : decode cX6_restore 10 = .ok (.invokevirtual 72, 3) := by decide +kernel
theorem dX6_restore_13 : decode cX6_restore 13 = .ok (.ireturn, 1) := by decide +kernel
theorem dX6_restore_14 : decode cX6_restore 14 = .ok (.aload_n 0, 1) := by decide +kernel
theorem dX6_restore_15 : decode cX6_restore 15 = .ok (.getfield 10, 3) := by decide +kernel
theorem dX6_restore_18 : decode cX6_restore 18 = .ok (.aload_n 0, 1) := by decide +kernel
theorem dX6_restore_19 : decode cX6_restore 19 = .ok (.getfield 16, 3) := by decide +kernel
theorem dX6_restore_22 : decode cX6_restore 22 = .ok (.invokevirtual 201, 3) := by decide +kernel
theorem dX6_restore_25 : decode cX6_restore 25 = .ok (.iconst 0, 1) := by decide +kernel
theorem dX6_restore_26 : decode cX6_restore 26 = .ok (.istore_n 1, 1) := by decide +kernel
theorem dX6_restore_27 : decode cX6_restore 27 = .ok (.iload_n 1, 1) := by decide +kernel
theorem dX6_restore_28 : decode cX6_restore 28 = .ok (.bipush 8, 2) := by decide +kernel
theorem dX6_restore_30 : decode cX6_restore 30 = .ok (.if_icmp .ge 43, 3) := by decide +kernel
theorem dX6_restore_33 : decode cX6_restore 33 = .ok (.aload_n 0, 1) := by decide +kernel
theorem dX6_restore_34 : decode cX6_restore 34 = .ok (.getfield 28, 3) := by decide +kernel
theorem dX6_restore_37 : decode cX6_restore 37 = .ok (.iload_n 1, 1) := by decide +kernel
theorem dX6_restore_38 : decode cX6_restore 38 = .ok (.iaload, 1) := by decide +kernel
theorem dX6_restore_39 : decode cX6_restore 39 = .ok (.bipush 100, 2) := by decide +kernel
theorem dX6_restore_41 : decode cX6_restore 41 = .ok (.if_icmp .ge 26, 3) := by decide +kernel
theorem dX6_restore_44 : decode cX6_restore 44 = .ok (.aload_n 0, 1) := by decide +kernel
theorem dX6_restore_45 : decode cX6_restore 45 = .ok (.getfield 28, 3) := by decide +kernel
theorem dX6_restore_48 : decode cX6_restore 48 = .ok (.iload_n 1, 1) := by decide +kernel
theorem dX6_restore_49 : decode cX6_restore 49 = .ok (.iaload, 1) := by decide +kernel
theorem dX6_restore_50 : decode cX6_restore 50 = .ok (.aload_n 0, 1) := by decide +kernel
theorem dX6_restore_51 : decode cX6_restore 51 = .ok (.getfield 10, 3) := by decide +kernel
theorem dX6_restore_54 : decode cX6_restore 54 = .ok (.getfield 151, 3) := by decide +kernel
theorem dX6_restore_57 : decode cX6_restore 57 = .ok (.if_icmp .lt 10, 3) := by decide +kernel
theorem dX6_restore_60 : decode cX6_restore 60 = .ok (.aload_n 0, 1) := by decide +kernel
theorem dX6_restore_61 : decode cX6_restore 61 = .ok (.getfield 28, 3) := by decide +kernel
theorem dX6_restore_64 : decode cX6_restore 64 = .ok (.iload_n 1, 1) := by decide +kernel
theorem dX6_restore_65 : decode cX6_restore 65 = .ok (.iconst (-1), 1) := by decide +kernel
theorem dX6_restore_66 : decode cX6_restore 66 = .ok (.iastore, 1) := by decide +kernel
theorem dX6_restore_67 : decode cX6_restore 67 = .ok (.iinc 1 1, 3) := by decide +kernel
theorem dX6_restore_70 : decode cX6_restore 70 = .ok (.goto (-43), 3) := by decide +kernel
theorem dX6_restore_73 : decode cX6_restore 73 = .ok (.aload_n 0, 1) := by decide +kernel
theorem dX6_restore_74 : decode cX6_restore 74 = .ok (.getfield 10, 3) := by decide +kernel
theorem dX6_restore_77 : decode cX6_restore 77 = .ok (.getfield 151, 3) := by decide +kernel
theorem dX6_restore_80 : decode cX6_restore 80 = .ok (.ireturn, 1) := by decide +kernel
theorem dX6_status_0 : decode cX6_status 0 = .ok (.iload_n 1, 1) := by decide +kernel
theorem dX6_status_1 : decode cX6_status 1 = .ok (.bipush 10, 2) := by decide +kernel
theorem dX6_status_3 : decode cX6_status 3 = .ok (.if_icmp .le 19, 3) := by decide +kernel
theorem dX6_status_6 : decode cX6_status 6 = .ok (.iload_n 1, 1) := by decide +kernel
theorem dX6_status_7 : decode cX6_status 7 = .ok (.bipush 18, 2) := by decide +kernel
theorem dX6_status_9 : decode cX6_status 9 = .ok (.if_icmp .ge 13, 3) := by decide +kernel
theorem dX6_status_12 : decode cX6_status 12 = .ok (.aload_n 0, 1) := by decide +kernel
theorem dX6_status_13 : decode cX6_status 13 = .ok (.getfield 32, 3) := by decide +kernel
theorem dX6_status_16 : decode cX6_status 16 = .ok (.iload_n 1, 1) := by decide +kernel
theorem dX6_status_17 : decode cX6_status 17 = .ok (.bipush 10, 2) := by decide +kernel
theorem dX6_status_19 : decode cX6_status 19 = .ok (.isub, 1) := by decide +kernel
theorem dX6_status_20 : decode cX6_status 20 = .ok (.iaload, 1) := by decide +kernel
theorem dX6_status_21 : decode cX6_status 21 = .ok (.ireturn, 1) := by decide +kernel
theorem dX6_status_22 : decode cX6_status 22 = .ok (.iload_n 1, 1) := by decide +kernel
theorem dX6_status_23 : decode cX6_status 23 = .ok (.tableswitch 122 0 7 #[45, 53, 64, 72, 80, 88, 106, 114], 45) := by decide +kernel
theorem dX6_status_68 : decode cX6_status 68 = .ok (.aload_n 0, 1) := by decide +kernel
theorem dX6_status_69 : decode cX6_status 69 = .ok (.getfield 10, 3) := by decide +kernel
theorem dX6_status_72 : decode cX6_status 72 = .ok (.getfield 151, 3) := by decide +kernel
theorem dX6_status_75 : decode cX6_status 75 = .ok (.ireturn, 1) := by decide +kernel
theorem dX6_status_76 : decode cX6_status 76 = .ok (.aload_n 0, 1) := by decide +kernel
theorem dX6_status_77 : decode cX6_status 77 = .ok (.getfield 10, 3) := by decide +kernel
theorem dX6_status_80 : decode cX6_status 80 = .ok (.getfield 186, 3) := by decide +kernel
theorem dX6_status_83 : decode cX6_status 83 = .ok (.invokestatic 254, 3) := by decide +kernel
theorem dX6_status_86 : decode cX6_status 86 = .ok (.ireturn, 1) := by decide +kernel
theorem dX6_status_87 : decode cX6_status 87 = .ok (.aload_n 0, 1) := by decide +kernel
theorem dX6_status_88 : decode cX6_status 88 = .ok (.getfield 10, 3) := by decide +kernel
theorem dX6_status_91 : decode cX6_status 91 = .ok (.getfield 158, 3) := by decide +kernel
theorem dX6_status_94 : decode cX6_status 94 = .ok (.ireturn, 1) := by decide +kernel
theorem dX6_status_95 : decode cX6_status 95 = .ok (.aload_n 0, 1) := by decide +kernel
theorem dX6_status_96 : decode cX6_status 96 = .ok (.getfield 10, 3) := by decide +kernel
theorem dX6_status_99 : decode cX6_status 99 = .ok (.getfield 164, 3) := by decide +kernel
theorem dX6_status_102 : decode cX6_status 102 = .ok (.ireturn, 1) := by decide +kernel
theorem dX6_status_103 : decode cX6_status 103 = .ok (.aload_n 0, 1) := by decide +kernel
theorem dX6_status_104 : decode cX6_status 104 = .ok (.getfield 10, 3) := by decide +kernel
theorem dX6_status_107 : decode cX6_status 107 = .ok (.getfield 121, 3) := by decide +kernel
theorem dX6_status_110 : decode cX6_status 110 = .ok (.ireturn, 1) := by decide +kernel
theorem dX6_status_111 : decode cX6_status 111 = .ok (.aload_n 0, 1) := by decide +kernel
theorem dX6_status_112 : decode cX6_status 112 = .ok (.getfield 10, 3) := by decide +kernel
theorem dX6_status_115 : decode cX6_status 115 = .ok (.aload_n 0, 1) := by decide +kernel
theorem dX6_status_116 : decode cX6_status 116 = .ok (.getfield 10, 3) := by decide +kernel
theorem dX6_status_119 : decode cX6_status 119 = .ok (.getfield 121, 3) := by decide +kernel
theorem dX6_status_122 : decode cX6_status 122 = .ok (.invokevirtual 124, 3) := by decide +kernel
theorem dX6_status_125 : decode cX6_status 125 = .ok (.invokestatic 254, 3) := by decide +kernel
theorem dX6_status_128 : decode cX6_status 128 = .ok (.ireturn, 1) := by decide +kernel
theorem dX6_status_129 : decode cX6_status 129 = .ok (.aload_n 0, 1) := by decide +kernel
theorem dX6_status_130 : decode cX6_status 130 = .ok (.getfield 10, 3) := by decide +kernel
theorem dX6_status_133 : decode cX6_status 133 = .ok (.getfield 322, 3) := by decide +kernel
theorem dX6_status_136 : decode cX6_status 136 = .ok (.ireturn, 1) := by decide +kernel
theorem dX6_status_137 : decode cX6_status 137 = .ok (.aload_n 0, 1) := by decide +kernel
theorem dX6_status_138 : decode cX6_status 138 = .ok (.getfield 49, 3) := by decide +kernel
theorem dX6_status_141 : decode cX6_status 141 = .ok (.getfield 331, 3) := by decide +kernel
theorem dX6_status_144 : decode cX6_status 144 = .ok (.ireturn, 1) := by decide +kernel
theorem dX6_status_145 : decode cX6_status 145 = .ok (.iconst (-1), 1) := by decide +kernel
theorem dX6_status_146 : decode cX6_status 146 = .ok (.ireturn, 1) := by decide +kernel
theorem dX6_refused_0 : decode cX6_refused 0 = .ok (.aload_n 0, 1) := by decide +kernel
theorem dX6_refused_1 : decode cX6_refused 1 = .ok (.getfield 32, 3) := by decide +kernel
theorem dX6_refused_4 : decode cX6_refused 4 = .ok (.iload_n 1, 1) := by decide +kernel
theorem dX6_refused_5 : decode cX6_refused 5 = .ok (.dup2, 1) := by decide +kernel
theorem dX6_refused_6 : decode cX6_refused 6 = .ok (.iaload, 1) := by decide +kernel
theorem dX6_refused_7 : decode cX6_refused 7 = .ok (.iconst 1, 1) := by decide +kernel
theorem dX6_refused_8 : decode cX6_refused 8 = .ok (.iadd, 1) := by decide +kernel
theorem dX6_refused_9 : decode cX6_refused 9 = .ok (.iastore, 1) := by decide +kernel
theorem dX6_refused_10 : decode cX6_refused 10 = .ok (.iload_n 1, 1) := by decide +kernel
theorem dX6_refused_11 : decode cX6_refused 11 = .ok (.ineg, 1) := by decide +kernel
theorem dX6_refused_12 : decode cX6_refused 12 = .ok (.ireturn, 1) := by decide +kernel
theorem dX6_isShelf_0 : decode cX6_isShelf 0 = .ok (.iload_n 0, 1) := by decide +kernel
theorem dX6_isShelf_1 : decode cX6_isShelf 1 = .ok (.ifCond .lt 13, 3) := by decide +kernel
theorem dX6_isShelf_4 : decode cX6_isShelf 4 = .ok (.iload_n 0, 1) := by decide +kernel
theorem dX6_isShelf_5 : decode cX6_isShelf 5 = .ok (.bipush 8, 2) := by decide +kernel
theorem dX6_isShelf_7 : decode cX6_isShelf 7 = .ok (.if_icmp .ge 7, 3) := by decide +kernel
theorem dX6_isShelf_10 : decode cX6_isShelf 10 = .ok (.iconst 1, 1) := by decide +kernel
theorem dX6_isShelf_11 : decode cX6_isShelf 11 = .ok (.goto 4, 3) := by decide +kernel
theorem dX6_isShelf_14 : decode cX6_isShelf 14 = .ok (.iconst 0, 1) := by decide +kernel
theorem dX6_isShelf_15 : decode cX6_isShelf 15 = .ok (.ireturn, 1) := by decide +kernel
theorem dX6_isKind_0 : decode cX6_isKind 0 = .ok (.iload_n 0, 1) := by decide +kernel
theorem dX6_isKind_1 : decode cX6_isKind 1 = .ok (.ifCond .lt 13, 3) := by decide +kernel
theorem dX6_isKind_4 : decode cX6_isKind 4 = .ok (.iload_n 0, 1) := by decide +kernel
theorem dX6_isKind_5 : decode cX6_isKind 5 = .ok (.bipush 7, 2) := by decide +kernel
theorem dX6_isKind_7 : decode cX6_isKind 7 = .ok (.if_icmp .ge 7, 3) := by decide +kernel
theorem dX6_isKind_10 : decode cX6_isKind 10 = .ok (.iconst 1, 1) := by decide +kernel
theorem dX6_isKind_11 : decode cX6_isKind 11 = .ok (.goto 4, 3) := by decide +kernel
theorem dX6_isKind_14 : decode cX6_isKind 14 = .ok (.iconst 0, 1) := by decide +kernel
theorem dX6_isKind_15 : decode cX6_isKind 15 = .ok (.ireturn, 1) := by decide +kernel
theorem dX6_isA_0 : decode cX6_isA 0 = .ok (.iload_n 0, 1) := by decide +kernel
theorem dX6_isA_1 : decode cX6_isA 1 = .ok (.ifCond .lt 13, 3) := by decide +kernel
theorem dX6_isA_4 : decode cX6_isA 4 = .ok (.iload_n 0, 1) := by decide +kernel
theorem dX6_isA_5 : decode cX6_isA 5 = .ok (.bipush 9, 2) := by decide +kernel
theorem dX6_isA_7 : decode cX6_isA 7 = .ok (.if_icmp .gt 7, 3) := by decide +kernel
theorem dX6_isA_10 : decode cX6_isA 10 = .ok (.iconst 1, 1) := by decide +kernel
theorem dX6_isA_11 : decode cX6_isA 11 = .ok (.goto 4, 3) := by decide +kernel
theorem dX6_isA_14 : decode cX6_isA 14 = .ok (.iconst 0, 1) := by decide +kernel
theorem dX6_isA_15 : decode cX6_isA 15 = .ok (.ireturn, 1) := by decide +kernel
theorem dX6_isPlace_0 : decode cX6_isPlace 0 = .ok (.iload_n 0, 1) := by decide +kernel
theorem dX6_isPlace_1 : decode cX6_isPlace 1 = .ok (.ifCond .lt 13, 3) := by decide +kernel
theorem dX6_isPlace_4 : decode cX6_isPlace 4 = .ok (.iload_n 0, 1) := by decide +kernel
theorem dX6_isPlace_5 : decode cX6_isPlace 5 = .ok (.bipush 100, 2) := by decide +kernel
theorem dX6_isPlace_7 : decode cX6_isPlace 7 = .ok (.if_icmp .ge 7, 3) := by decide +kernel
theorem dX6_isPlace_10 : decode cX6_isPlace 10 = .ok (.iconst 1, 1) := by decide +kernel
theorem dX6_isPlace_11 : decode cX6_isPlace 11 = .ok (.goto 4, 3) := by decide +kernel
theorem dX6_isPlace_14 : decode cX6_isPlace 14 = .ok (.iconst 0, 1) := by decide +kernel
theorem dX6_isPlace_15 : decode cX6_isPlace 15 = .ok (.ireturn, 1) := by decide +kernel
theorem dX6_isHeight_0 : decode cX6_isHeight 0 = .ok (.iload_n 0, 1) := by decide +kernel
theorem dX6_isHeight_1 : decode cX6_isHeight 1 = .ok (.iconst 1, 1) := by decide +kernel
theorem dX6_isHeight_2 : decode cX6_isHeight 2 = .ok (.if_icmp .lt 14, 3) := by decide +kernel
theorem dX6_isHeight_5 : decode cX6_isHeight 5 = .ok (.iload_n 0, 1) := by decide +kernel
theorem dX6_isHeight_6 : decode cX6_isHeight 6 = .ok (.sipush 999, 3) := by decide +kernel
theorem dX6_isHeight_9 : decode cX6_isHeight 9 = .ok (.if_icmp .gt 7, 3) := by decide +kernel
theorem dX6_isHeight_12 : decode cX6_isHeight 12 = .ok (.iconst 1, 1) := by decide +kernel
theorem dX6_isHeight_13 : decode cX6_isHeight 13 = .ok (.goto 4, 3) := by decide +kernel
theorem dX6_isHeight_16 : decode cX6_isHeight 16 = .ok (.iconst 0, 1) := by decide +kernel
theorem dX6_isHeight_17 : decode cX6_isHeight 17 = .ok (.ireturn, 1) := by decide +kernel
theorem dX6_isUnder_0 : decode cX6_isUnder 0 = .ok (.iload_n 0, 1) := by decide +kernel
theorem dX6_isUnder_1 : decode cX6_isUnder 1 = .ok (.istore_n 2, 1) := by decide +kernel
theorem dX6_isUnder_2 : decode cX6_isUnder 2 = .ok (.iconst 0, 1) := by decide +kernel
theorem dX6_isUnder_3 : decode cX6_isUnder 3 = .ok (.istore_n 3, 1) := by decide +kernel
theorem dX6_isUnder_4 : decode cX6_isUnder 4 = .ok (.iload_n 3, 1) := by decide +kernel
theorem dX6_isUnder_5 : decode cX6_isUnder 5 = .ok (.bipush 7, 2) := by decide +kernel
theorem dX6_isUnder_7 : decode cX6_isUnder 7 = .ok (.if_icmp .ge 29, 3) := by decide +kernel
theorem dX6_isUnder_10 : decode cX6_isUnder 10 = .ok (.iload_n 2, 1) := by decide +kernel
theorem dX6_isUnder_11 : decode cX6_isUnder 11 = .ok (.invokestatic 109, 3) := by decide +kernel
theorem dX6_isUnder_14 : decode cX6_isUnder 14 = .ok (.ifCond .eq 22, 3) := by decide +kernel
theorem dX6_isUnder_17 : decode cX6_isUnder 17 = .ok (.iload_n 2, 1) := by decide +kernel
theorem dX6_isUnder_18 : decode cX6_isUnder 18 = .ok (.iload_n 1, 1) := by decide +kernel
theorem dX6_isUnder_19 : decode cX6_isUnder 19 = .ok (.if_icmp .ne 5, 3) := by decide +kernel
theorem dX6_isUnder_22 : decode cX6_isUnder 22 = .ok (.iconst 1, 1) := by decide +kernel
theorem dX6_isUnder_23 : decode cX6_isUnder 23 = .ok (.ireturn, 1) := by decide +kernel
theorem dX6_isUnder_24 : decode cX6_isUnder 24 = .ok (.getstatic 341, 3) := by decide +kernel
theorem dX6_isUnder_27 : decode cX6_isUnder 27 = .ok (.iload_n 2, 1) := by decide +kernel
theorem dX6_isUnder_28 : decode cX6_isUnder 28 = .ok (.iaload, 1) := by decide +kernel
theorem dX6_isUnder_29 : decode cX6_isUnder 29 = .ok (.istore_n 2, 1) := by decide +kernel
theorem dX6_isUnder_30 : decode cX6_isUnder 30 = .ok (.iinc 3 1, 3) := by decide +kernel
theorem dX6_isUnder_33 : decode cX6_isUnder 33 = .ok (.goto (-29), 3) := by decide +kernel
theorem dX6_isUnder_36 : decode cX6_isUnder 36 = .ok (.iconst 0, 1) := by decide +kernel
theorem dX6_isUnder_37 : decode cX6_isUnder 37 = .ok (.ireturn, 1) := by decide +kernel
theorem dX6_bit_0 : decode cX6_bit 0 = .ok (.iload_n 0, 1) := by decide +kernel
theorem dX6_bit_1 : decode cX6_bit 1 = .ok (.iload_n 1, 1) := by decide +kernel
theorem dX6_bit_2 : decode cX6_bit 2 = .ok (.ishr, 1) := by decide +kernel
theorem dX6_bit_3 : decode cX6_bit 3 = .ok (.iconst 1, 1) := by decide +kernel
theorem dX6_bit_4 : decode cX6_bit 4 = .ok (.iand, 1) := by decide +kernel
theorem dX6_bit_5 : decode cX6_bit 5 = .ok (.ireturn, 1) := by decide +kernel
