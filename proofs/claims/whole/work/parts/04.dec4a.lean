theorem dX4_init_0 : decode cX4_init 0 = .ok (.aload_n 0, 1) := by decide +kernel
theorem dX4_init_1 : decode cX4_init 1 = .ok (.invokespecial 5, 3) := by decide +kernel
theorem dX4_init_4 : decode cX4_init 4 = .ok (.aload_n 0, 1) := by decide +kernel
theorem dX4_init_5 : decode cX4_init 5 = .ok (.new 11, 3) := by decide +kernel
theorem dX4_init_8 : decode cX4_init 8 = .ok (.dup, 1) := by decide +kernel
theorem dX4_init_9 : decode cX4_init 9 = .ok (.invokespecial 13, 3) := by decide +kernel
theorem dX4_init_12 : decode cX4_init 12 = .ok (.putfield 14, 3) := by decide +kernel
theorem dX4_init_15 : decode cX4_init 15 = .ok (.aload_n 0, 1) := by decide +kernel
theorem dX4_init_16 : decode cX4_init 16 = .ok (.new 18, 3) := by decide +kernel
theorem dX4_init_19 : decode cX4_init 19 = .ok (.dup, 1) := by decide +kernel
theorem dX4_init_20 : decode cX4_init 20 = .ok (.aload_n 0, 1) := by decide +kernel
theorem dX4_init_21 : decode cX4_init 21 = .ok (.getfield 14, 3) := by decide +kernel
theorem dX4_init_24 : decode cX4_init 24 = .ok (.invokespecial 20, 3) := by decide +kernel
theorem dX4_init_27 : decode cX4_init 27 = .ok (.putfield 23, 3) := by decide +kernel
theorem dX4_init_30 : decode cX4_init 30 = .ok (.aload_n 0, 1) := by decide +kernel
theorem dX4_init_31 : decode cX4_init 31 = .ok (.new 27, 3) := by decide +kernel
theorem dX4_init_34 : decode cX4_init 34 = .ok (.dup, 1) := by decide +kernel
theorem dX4_init_35 : decode cX4_init 35 = .ok (.aload_n 0, 1) := by decide +kernel
theorem dX4_init_36 : decode cX4_init 36 = .ok (.getfield 14, 3) := by decide +kernel
theorem dX4_init_39 : decode cX4_init 39 = .ok (.invokespecial 29, 3) := by decide +kernel
theorem dX4_init_42 : decode cX4_init 42 = .ok (.putfield 30, 3) := by decide +kernel
theorem dX4_init_45 : decode cX4_init 45 = .ok (.aload_n 0, 1) := by decide +kernel
theorem dX4_init_46 : decode cX4_init 46 = .ok (.iconst 4, 1) := by decide +kernel
theorem dX4_init_47 : decode cX4_init 47 = .ok (.anewarray 34, 3) := by decide +kernel
theorem dX4_init_50 : decode cX4_init 50 = .ok (.putfield 36, 3) := by decide +kernel
theorem dX4_init_53 : decode cX4_init 53 = .ok (.iconst 0, 1) := by decide +kernel
theorem dX4_init_54 : decode cX4_init 54 = .ok (.istore_n 1, 1) := by decide +kernel
theorem dX4_init_55 : decode cX4_init 55 = .ok (.iload_n 1, 1) := by decide +kernel
theorem dX4_init_56 : decode cX4_init 56 = .ok (.iconst 4, 1) := by decide +kernel
theorem dX4_init_57 : decode cX4_init 57 = .ok (.if_icmp .ge 22, 3) := by decide +kernel
theorem dX4_init_60 : decode cX4_init 60 = .ok (.aload_n 0, 1) := by decide +kernel
theorem dX4_init_61 : decode cX4_init 61 = .ok (.getfield 36, 3) := by decide +kernel
theorem dX4_init_64 : decode cX4_init 64 = .ok (.iload_n 1, 1) := by decide +kernel
theorem dX4_init_65 : decode cX4_init 65 = .ok (.new 34, 3) := by decide +kernel
theorem dX4_init_68 : decode cX4_init 68 = .ok (.dup, 1) := by decide +kernel
theorem dX4_init_69 : decode cX4_init 69 = .ok (.invokespecial 40, 3) := by decide +kernel
theorem dX4_init_72 : decode cX4_init 72 = .ok (.aastore, 1) := by decide +kernel
theorem dX4_init_73 : decode cX4_init 73 = .ok (.iinc 1 1, 3) := by decide +kernel
theorem dX4_init_76 : decode cX4_init 76 = .ok (.goto (-21), 3) := by decide +kernel
theorem dX4_init_79 : decode cX4_init 79 = .ok (.return_, 1) := by decide +kernel
theorem dX4_clear_0 : decode cX4_clear 0 = .ok (.aload_n 0, 1) := by decide +kernel
theorem dX4_clear_1 : decode cX4_clear 1 = .ok (.getfield 14, 3) := by decide +kernel
theorem dX4_clear_4 : decode cX4_clear 4 = .ok (.getfield 41, 3) := by decide +kernel
theorem dX4_clear_7 : decode cX4_clear 7 = .ok (.istore_n 1, 1) := by decide +kernel
theorem dX4_clear_8 : decode cX4_clear 8 = .ok (.aload_n 0, 1) := by decide +kernel
theorem dX4_clear_9 : decode cX4_clear 9 = .ok (.getfield 14, 3) := by decide +kernel
theorem dX4_clear_12 : decode cX4_clear 12 = .ok (.invokevirtual 45, 3) := by decide +kernel
theorem dX4_clear_15 : decode cX4_clear 15 = .ok (.aload_n 0, 1) := by decide +kernel
theorem dX4_clear_16 : decode cX4_clear 16 = .ok (.invokevirtual 48, 3) := by decide +kernel
theorem dX4_clear_19 : decode cX4_clear 19 = .ok (.iload_n 1, 1) := by decide +kernel
theorem dX4_clear_20 : decode cX4_clear 20 = .ok (.ireturn, 1) := by decide +kernel
theorem dX4_post_0 : decode cX4_post 0 = .ok (.iload_n 1, 1) := by decide +kernel
theorem dX4_post_1 : decode cX4_post 1 = .ok (.invokestatic 51, 3) := by decide +kernel
theorem dX4_post_4 : decode cX4_post 4 = .ok (.ifCond .ne 6, 3) := by decide +kernel
theorem dX4_post_7 : decode cX4_post 7 = .ok (.bipush (-2), 2) := by decide +kernel
theorem dX4_post_9 : decode cX4_post 9 = .ok (.ireturn, 1) := by decide +kernel
theorem dX4_post_10 : decode cX4_post 10 = .ok (.aload_n 0, 1) := by decide +kernel
theorem dX4_post_11 : decode cX4_post 11 = .ok (.getfield 14, 3) := by decide +kernel
theorem dX4_post_14 : decode cX4_post 14 = .ok (.getfield 41, 3) := by decide +kernel
theorem dX4_post_17 : decode cX4_post 17 = .ok (.bipush 12, 2) := by decide +kernel
theorem dX4_post_19 : decode cX4_post 19 = .ok (.if_icmp .lt 6, 3) := by decide +kernel
theorem dX4_post_22 : decode cX4_post 22 = .ok (.bipush (-4), 2) := by decide +kernel
theorem dX4_post_24 : decode cX4_post 24 = .ok (.ireturn, 1) := by decide +kernel
theorem dX4_post_25 : decode cX4_post 25 = .ok (.aload_n 0, 1) := by decide +kernel
theorem dX4_post_26 : decode cX4_post 26 = .ok (.invokevirtual 48, 3) := by decide +kernel
theorem dX4_post_29 : decode cX4_post 29 = .ok (.aload_n 0, 1) := by decide +kernel
theorem dX4_post_30 : decode cX4_post 30 = .ok (.getfield 14, 3) := by decide +kernel
theorem dX4_post_33 : decode cX4_post 33 = .ok (.iload_n 1, 1) := by decide +kernel
theorem dX4_post_34 : decode cX4_post 34 = .ok (.invokevirtual 55, 3) := by decide +kernel
theorem dX4_post_37 : decode cX4_post 37 = .ok (.ireturn, 1) := by decide +kernel
theorem dX4_mark_0 : decode cX4_mark 0 = .ok (.aload_n 0, 1) := by decide +kernel
theorem dX4_mark_1 : decode cX4_mark 1 = .ok (.getfield 14, 3) := by decide +kernel
theorem dX4_mark_4 : decode cX4_mark 4 = .ok (.iload_n 1, 1) := by decide +kernel
theorem dX4_mark_5 : decode cX4_mark 5 = .ok (.invokevirtual 59, 3) := by decide +kernel
theorem dX4_mark_8 : decode cX4_mark 8 = .ok (.ifCond .ne 5, 3) := by decide +kernel
theorem dX4_mark_11 : decode cX4_mark 11 = .ok (.iconst (-1), 1) := by decide +kernel
theorem dX4_mark_12 : decode cX4_mark 12 = .ok (.ireturn, 1) := by decide +kernel
theorem dX4_mark_13 : decode cX4_mark 13 = .ok (.iload_n 2, 1) := by decide +kernel
theorem dX4_mark_14 : decode cX4_mark 14 = .ok (.invokestatic 51, 3) := by decide +kernel
theorem dX4_mark_17 : decode cX4_mark 17 = .ok (.ifCond .ne 6, 3) := by decide +kernel
theorem dX4_mark_20 : decode cX4_mark 20 = .ok (.bipush (-2), 2) := by decide +kernel
theorem dX4_mark_22 : decode cX4_mark 22 = .ok (.ireturn, 1) := by decide +kernel
theorem dX4_mark_23 : decode cX4_mark 23 = .ok (.aload_n 0, 1) := by decide +kernel
theorem dX4_mark_24 : decode cX4_mark 24 = .ok (.getfield 14, 3) := by decide +kernel
theorem dX4_mark_27 : decode cX4_mark 27 = .ok (.getfield 62, 3) := by decide +kernel
theorem dX4_mark_30 : decode cX4_mark 30 = .ok (.iload_n 1, 1) := by decide +kernel
theorem dX4_mark_31 : decode cX4_mark 31 = .ok (.iaload, 1) := by decide +kernel
theorem dX4_mark_32 : decode cX4_mark 32 = .ok (.istore_n 3, 1) := by decide +kernel
theorem dX4_mark_33 : decode cX4_mark 33 = .ok (.aload_n 0, 1) := by decide +kernel
theorem dX4_mark_34 : decode cX4_mark 34 = .ok (.getfield 14, 3) := by decide +kernel
theorem dX4_mark_37 : decode cX4_mark 37 = .ok (.getfield 62, 3) := by decide +kernel
theorem dX4_mark_40 : decode cX4_mark 40 = .ok (.iload_n 1, 1) := by decide +kernel
theorem dX4_mark_41 : decode cX4_mark 41 = .ok (.iload_n 2, 1) := by decide +kernel
theorem dX4_mark_42 : decode cX4_mark 42 = .ok (.iastore, 1) := by decide +kernel
theorem dX4_mark_43 : decode cX4_mark 43 = .ok (.aload_n 0, 1) := by decide +kernel
theorem dX4_mark_44 : decode cX4_mark 44 = .ok (.getfield 23, 3) := by decide +kernel
theorem dX4_mark_47 : decode cX4_mark 47 = .ok (.invokevirtual 66, 3) := by decide +kernel
theorem dX4_mark_50 : decode cX4_mark 50 = .ok (.iload_n 3, 1) := by decide +kernel
theorem dX4_mark_51 : decode cX4_mark 51 = .ok (.ireturn, 1) := by decide +kernel
theorem dX4_line_0 : decode cX4_line 0 = .ok (.aload_n 0, 1) := by decide +kernel
theorem dX4_line_1 : decode cX4_line 1 = .ok (.getfield 14, 3) := by decide +kernel
theorem dX4_line_4 : decode cX4_line 4 = .ok (.iload_n 1, 1) := by decide +kernel
theorem dX4_line_5 : decode cX4_line 5 = .ok (.iload_n 2, 1) := by decide +kernel
theorem dX4_line_6 : decode cX4_line 6 = .ok (.aload_n 0, 1) := by decide +kernel
theorem dX4_line_7 : decode cX4_line 7 = .ok (.getfield 14, 3) := by decide +kernel
theorem dX4_line_10 : decode cX4_line 10 = .ok (.getfield 69, 3) := by decide +kernel
theorem dX4_line_13 : decode cX4_line 13 = .ok (.invokevirtual 72, 3) := by decide +kernel
theorem dX4_line_16 : decode cX4_line 16 = .ok (.istore_n 3, 1) := by decide +kernel
theorem dX4_line_17 : decode cX4_line 17 = .ok (.iload_n 3, 1) := by decide +kernel
theorem dX4_line_18 : decode cX4_line 18 = .ok (.ifCond .eq 5, 3) := by decide +kernel
theorem dX4_line_21 : decode cX4_line 21 = .ok (.iload_n 3, 1) := by decide +kernel
theorem dX4_line_22 : decode cX4_line 22 = .ok (.ireturn, 1) := by decide +kernel
theorem dX4_line_23 : decode cX4_line 23 = .ok (.aload_n 0, 1) := by decide +kernel
theorem dX4_line_24 : decode cX4_line 24 = .ok (.getfield 14, 3) := by decide +kernel
theorem dX4_line_27 : decode cX4_line 27 = .ok (.iload_n 1, 1) := by decide +kernel
theorem dX4_line_28 : decode cX4_line 28 = .ok (.iload_n 2, 1) := by decide +kernel
theorem dX4_line_29 : decode cX4_line 29 = .ok (.invokevirtual 76, 3) := by decide +kernel
theorem dX4_line_32 : decode cX4_line 32 = .ok (.aload_n 0, 1) := by decide +kernel
theorem dX4_line_33 : decode cX4_line 33 = .ok (.invokevirtual 48, 3) := by decide +kernel
theorem dX4_line_36 : decode cX4_line 36 = .ok (.aload_n 0, 1) := by decide +kernel
theorem dX4_line_37 : decode cX4_line 37 = .ok (.getfield 14, 3) := by decide +kernel
theorem dX4_line_40 : decode cX4_line 40 = .ok (.getfield 80, 3) := by decide +kernel
theorem dX4_line_43 : decode cX4_line 43 = .ok (.ireturn, 1) := by decide +kernel
theorem dX4_lines_0 : decode cX4_lines 0 = .ok (.aload_n 0, 1) := by decide +kernel
theorem dX4_lines_1 : decode cX4_lines 1 = .ok (.iconst 0, 1) := by decide +kernel
theorem dX4_lines_2 : decode cX4_lines 2 = .ok (.putfield 83, 3) := by decide +kernel
theorem dX4_lines_5 : decode cX4_lines 5 = .ok (.aload_n 0, 1) := by decide +kernel
theorem dX4_lines_6 : decode cX4_lines 6 = .ok (.iload_n 1, 1) := by decide +kernel
theorem dX4_lines_7 : decode cX4_lines 7 = .ok (.invokevirtual 86, 3) := by decide +kernel
theorem dX4_lines_10 : decode cX4_lines 10 = .ok (.astore 5, 2) := by decide +kernel
theorem dX4_lines_12 : decode cX4_lines 12 = .ok (.aload 5, 2) := by decide +kernel
theorem dX4_lines_14 : decode cX4_lines 14 = .ok (.ifnonnull 5, 3) := by decide +kernel
theorem dX4_lines_17 : decode cX4_lines 17 = .ok (.iconst (-1), 1) := by decide +kernel
theorem dX4_lines_18 : decode cX4_lines 18 = .ok (.ireturn, 1) := by decide +kernel
theorem dX4_lines_19 : decode cX4_lines 19 = .ok (.iload_n 2, 1) := by decide +kernel
theorem dX4_lines_20 : decode cX4_lines 20 = .ok (.invokestatic 90, 3) := by decide +kernel
theorem dX4_lines_23 : decode cX4_lines 23 = .ok (.ifCond .ne 6, 3) := by decide +kernel
theorem dX4_lines_26 : decode cX4_lines 26 = .ok (.bipush (-2), 2) := by decide +kernel
theorem dX4_lines_28 : decode cX4_lines 28 = .ok (.ireturn, 1) := by decide +kernel
theorem dX4_lines_29 : decode cX4_lines 29 = .ok (.aload 5, 2) := by decide +kernel
theorem dX4_lines_31 : decode cX4_lines 31 = .ok (.iload_n 2, 1) := by decide +kernel
theorem dX4_lines_32 : decode cX4_lines 32 = .ok (.invokestatic 93, 3) := by decide +kernel
theorem dX4_lines_35 : decode cX4_lines 35 = .ok (.istore 6, 2) := by decide +kernel
theorem dX4_lines_37 : decode cX4_lines 37 = .ok (.iload 6, 2) := by decide +kernel
theorem dX4_lines_39 : decode cX4_lines 39 = .ok (.ifCond .eq 10, 3) := by decide +kernel
theorem dX4_lines_42 : decode cX4_lines 42 = .ok (.aload_n 0, 1) := by decide +kernel
theorem dX4_lines_43 : decode cX4_lines 43 = .ok (.iload 6, 2) := by decide +kernel
theorem dX4_lines_45 : decode cX4_lines 45 = .ok (.invokevirtual 97, 3) := by decide +kernel
theorem dX4_lines_48 : decode cX4_lines 48 = .ok (.ireturn, 1) := by decide +kernel
theorem dX4_lines_49 : decode cX4_lines 49 = .ok (.iload 4, 2) := by decide +kernel
theorem dX4_lines_51 : decode cX4_lines 51 = .ok (.ifCond .ge 9, 3) := by decide +kernel
theorem dX4_lines_54 : decode cX4_lines 54 = .ok (.aload_n 0, 1) := by decide +kernel
theorem dX4_lines_55 : decode cX4_lines 55 = .ok (.iconst 4, 1) := by decide +kernel
theorem dX4_lines_56 : decode cX4_lines 56 = .ok (.invokevirtual 97, 3) := by decide +kernel
theorem dX4_lines_59 : decode cX4_lines 59 = .ok (.ireturn, 1) := by decide +kernel
theorem dX4_lines_60 : decode cX4_lines 60 = .ok (.aload 5, 2) := by decide +kernel
theorem dX4_lines_62 : decode cX4_lines 62 = .ok (.iload_n 3, 1) := by decide +kernel
theorem dX4_lines_63 : decode cX4_lines 63 = .ok (.ldc2_w 100, 3) := by decide +kernel
theorem dX4_lines_66 : decode cX4_lines 66 = .ok (.iload 4, 2) := by decide +kernel
theorem dX4_lines_68 : decode cX4_lines 68 = .ok (.i2l, 1) := by decide +kernel
theorem dX4_lines_69 : decode cX4_lines 69 = .ok (.lmul, 1) := by decide +kernel
theorem dX4_lines_70 : decode cX4_lines 70 = .ok (.invokevirtual 102, 3) := by decide +kernel
theorem dX4_lines_73 : decode cX4_lines 73 = .ok (.ifCond .ne 9, 3) := by decide +kernel
theorem dX4_lines_76 : decode cX4_lines 76 = .ok (.aload_n 0, 1) := by decide +kernel
theorem dX4_lines_77 : decode cX4_lines 77 = .ok (.iconst 3, 1) := by decide +kernel
theorem dX4_lines_78 : decode cX4_lines 78 = .ok (.invokevirtual 97, 3) := by decide +kernel
theorem dX4_lines_81 : decode cX4_lines 81 = .ok (.ireturn, 1) := by decide +kernel
theorem dX4_lines_82 : decode cX4_lines 82 = .ok (.aload_n 0, 1) := by decide +kernel
theorem dX4_lines_83 : decode cX4_lines 83 = .ok (.getfield 14, 3) := by decide +kernel
theorem dX4_lines_86 : decode cX4_lines 86 = .ok (.aload 5, 2) := by decide +kernel
theorem dX4_lines_88 : decode cX4_lines 88 = .ok (.iload_n 3, 1) := by decide +kernel
theorem dX4_lines_89 : decode cX4_lines 89 = .ok (.iload 4, 2) := by decide +kernel
theorem dX4_lines_91 : decode cX4_lines 91 = .ok (.invokevirtual 106, 3) := by decide +kernel
theorem dX4_lines_94 : decode cX4_lines 94 = .ok (.istore 7, 2) := by decide +kernel
theorem dX4_lines_96 : decode cX4_lines 96 = .ok (.iload 7, 2) := by decide +kernel
theorem dX4_lines_98 : decode cX4_lines 98 = .ok (.ifCond .eq 6, 3) := by decide +kernel
theorem dX4_lines_101 : decode cX4_lines 101 = .ok (.iload 7, 2) := by decide +kernel
theorem dX4_lines_103 : decode cX4_lines 103 = .ok (.ireturn, 1) := by decide +kernel
theorem dX4_lines_104 : decode cX4_lines 104 = .ok (.aload_n 0, 1) := by decide +kernel
theorem dX4_lines_105 : decode cX4_lines 105 = .ok (.getfield 14, 3) := by decide +kernel
theorem dX4_lines_108 : decode cX4_lines 108 = .ok (.aload 5, 2) := by decide +kernel
theorem dX4_lines_110 : decode cX4_lines 110 = .ok (.iload_n 3, 1) := by decide +kernel
theorem dX4_lines_111 : decode cX4_lines 111 = .ok (.iload 4, 2) := by decide +kernel
theorem dX4_lines_113 : decode cX4_lines 113 = .ok (.invokevirtual 110, 3) := by decide +kernel
theorem dX4_lines_116 : decode cX4_lines 116 = .ok (.aload_n 0, 1) := by decide +kernel
theorem dX4_lines_117 : decode cX4_lines 117 = .ok (.invokevirtual 48, 3) := by decide +kernel
theorem dX4_lines_120 : decode cX4_lines 120 = .ok (.aload_n 0, 1) := by decide +kernel
theorem dX4_lines_121 : decode cX4_lines 121 = .ok (.getfield 14, 3) := by decide +kernel
theorem dX4_lines_124 : decode cX4_lines 124 = .ok (.getfield 80, 3) := by decide +kernel
theorem dX4_lines_127 : decode cX4_lines 127 = .ok (.ireturn, 1) := by decide +kernel
theorem dX4_swap_0 : decode cX4_swap 0 = .ok (.aload_n 0, 1) := by decide +kernel
theorem dX4_swap_1 : decode cX4_swap 1 = .ok (.getfield 14, 3) := by decide +kernel
theorem dX4_swap_4 : decode cX4_swap 4 = .ok (.iload_n 1, 1) := by decide +kernel
theorem dX4_swap_5 : decode cX4_swap 5 = .ok (.iload_n 2, 1) := by decide +kernel
theorem dX4_swap_6 : decode cX4_swap 6 = .ok (.invokevirtual 114, 3) := by decide +kernel
theorem dX4_swap_9 : decode cX4_swap 9 = .ok (.ifCond .eq 15, 3) := by decide +kernel
theorem dX4_swap_12 : decode cX4_swap 12 = .ok (.aload_n 0, 1) := by decide +kernel
theorem dX4_swap_13 : decode cX4_swap 13 = .ok (.getfield 14, 3) := by decide +kernel
theorem dX4_swap_16 : decode cX4_swap 16 = .ok (.iload_n 1, 1) := by decide +kernel
theorem dX4_swap_17 : decode cX4_swap 17 = .ok (.iload_n 3, 1) := by decide +kernel
theorem dX4_swap_18 : decode cX4_swap 18 = .ok (.invokevirtual 114, 3) := by decide +kernel
theorem dX4_swap_21 : decode cX4_swap 21 = .ok (.ifCond .ne 5, 3) := by decide +kernel
theorem dX4_swap_24 : decode cX4_swap 24 = .ok (.iconst (-1), 1) := by decide +kernel
theorem dX4_swap_25 : decode cX4_swap 25 = .ok (.ireturn, 1) := by decide +kernel
theorem dX4_swap_26 : decode cX4_swap 26 = .ok (.aload_n 0, 1) := by decide +kernel
theorem dX4_swap_27 : decode cX4_swap 27 = .ok (.invokevirtual 48, 3) := by decide +kernel
theorem dX4_swap_30 : decode cX4_swap 30 = .ok (.iload_n 2, 1) := by decide +kernel
theorem dX4_swap_31 : decode cX4_swap 31 = .ok (.iload_n 3, 1) := by decide +kernel
theorem dX4_swap_32 : decode cX4_swap 32 = .ok (.if_icmp .ne 5, 3) := by decide +kernel
theorem dX4_swap_35 : decode cX4_swap 35 = .ok (.iconst 0, 1) := by decide +kernel
theorem dX4_swap_36 : decode cX4_swap 36 = .ok (.ireturn, 1) := by decide +kernel
theorem dX4_swap_37 : decode cX4_swap 37 = .ok (.aload_n 0, 1) := by decide +kernel
theorem dX4_swap_38 : decode cX4_swap 38 = .ok (.getfield 14, 3) := by decide +kernel
theorem dX4_swap_41 : decode cX4_swap 41 = .ok (.iload_n 1, 1) := by decide +kernel
theorem dX4_swap_42 : decode cX4_swap 42 = .ok (.iload_n 2, 1) := by decide +kernel
theorem dX4_swap_43 : decode cX4_swap 43 = .ok (.invokestatic 118, 3) := by decide +kernel
theorem dX4_swap_46 : decode cX4_swap 46 = .ok (.iload_n 1, 1) := by decide +kernel
theorem dX4_swap_47 : decode cX4_swap 47 = .ok (.iload_n 3, 1) := by decide +kernel
theorem dX4_swap_48 : decode cX4_swap 48 = .ok (.invokestatic 118, 3) := by decide +kernel
theorem dX4_swap_51 : decode cX4_swap 51 = .ok (.invokevirtual 122, 3) := by decide +kernel
theorem dX4_swap_54 : decode cX4_swap 54 = .ok (.iconst 1, 1) := by decide +kernel
theorem dX4_swap_55 : decode cX4_swap 55 = .ok (.ireturn, 1) := by decide +kernel
theorem dX4_end_0 : decode cX4_end 0 = .ok (.aload_n 0, 1) := by decide +kernel
theorem dX4_end_1 : decode cX4_end 1 = .ok (.getfield 14, 3) := by decide +kernel
theorem dX4_end_4 : decode cX4_end 4 = .ok (.iload_n 1, 1) := by decide +kernel
theorem dX4_end_5 : decode cX4_end 5 = .ok (.iload_n 2, 1) := by decide +kernel
theorem dX4_end_6 : decode cX4_end 6 = .ok (.invokevirtual 114, 3) := by decide +kernel
theorem dX4_end_9 : decode cX4_end 9 = .ok (.ifCond .ne 5, 3) := by decide +kernel
theorem dX4_end_12 : decode cX4_end 12 = .ok (.iconst (-1), 1) := by decide +kernel
theorem dX4_end_13 : decode cX4_end 13 = .ok (.ireturn, 1) := by decide +kernel
theorem dX4_end_14 : decode cX4_end 14 = .ok (.aload_n 0, 1) := by decide +kernel
theorem dX4_end_15 : decode cX4_end 15 = .ok (.getfield 14, 3) := by decide +kernel
theorem dX4_end_18 : decode cX4_end 18 = .ok (.getfield 125, 3) := by decide +kernel
theorem dX4_end_21 : decode cX4_end 21 = .ok (.iload_n 1, 1) := by decide +kernel
theorem dX4_end_22 : decode cX4_end 22 = .ok (.iload_n 2, 1) := by decide +kernel
theorem dX4_end_23 : decode cX4_end 23 = .ok (.invokestatic 118, 3) := by decide +kernel
theorem dX4_end_26 : decode cX4_end 26 = .ok (.iaload, 1) := by decide +kernel
theorem dX4_end_27 : decode cX4_end 27 = .ok (.istore 4, 2) := by decide +kernel
theorem dX4_end_29 : decode cX4_end 29 = .ok (.iload_n 3, 1) := by decide +kernel
theorem dX4_end_30 : decode cX4_end 30 = .ok (.lookupswitch 38 #[(0, 26), (1, 32)], 26) := by decide +kernel
theorem dX4_end_56 : decode cX4_end 56 = .ok (.iload 4, 2) := by decide +kernel
theorem dX4_end_58 : decode cX4_end 58 = .ok (.invokestatic 128, 3) := by decide +kernel
theorem dX4_end_61 : decode cX4_end 61 = .ok (.ireturn, 1) := by decide +kernel
theorem dX4_end_62 : decode cX4_end 62 = .ok (.iload 4, 2) := by decide +kernel
theorem dX4_end_64 : decode cX4_end 64 = .ok (.invokestatic 131, 3) := by decide +kernel
theorem dX4_end_67 : decode cX4_end 67 = .ok (.ireturn, 1) := by decide +kernel
theorem dX4_end_68 : decode cX4_end 68 = .ok (.bipush (-2), 2) := by decide +kernel
theorem dX4_end_70 : decode cX4_end 70 = .ok (.ireturn, 1) := by decide +kernel
theorem dX4_doubled_0 : decode cX4_doubled 0 = .ok (.aload_n 0, 1) := by decide +kernel
theorem dX4_doubled_1 : decode cX4_doubled 1 = .ok (.getfield 14, 3) := by decide +kernel
theorem dX4_doubled_4 : decode cX4_doubled 4 = .ok (.iload_n 1, 1) := by decide +kernel
theorem dX4_doubled_5 : decode cX4_doubled 5 = .ok (.iload_n 2, 1) := by decide +kernel
theorem dX4_doubled_6 : decode cX4_doubled 6 = .ok (.invokevirtual 114, 3) := by decide +kernel
theorem dX4_doubled_9 : decode cX4_doubled 9 = .ok (.ifCond .ne 5, 3) := by decide +kernel
theorem dX4_doubled_12 : decode cX4_doubled 12 = .ok (.iconst (-1), 1) := by decide +kernel
theorem dX4_doubled_13 : decode cX4_doubled 13 = .ok (.ireturn, 1) := by decide +kernel
theorem dX4_doubled_14 : decode cX4_doubled 14 = .ok (.iconst 2, 1) := by decide +kernel
theorem dX4_doubled_15 : decode cX4_doubled 15 = .ok (.aload_n 0, 1) := by decide +kernel
theorem dX4_doubled_16 : decode cX4_doubled 16 = .ok (.getfield 14, 3) := by decide +kernel
theorem dX4_doubled_19 : decode cX4_doubled 19 = .ok (.getfield 41, 3) := by decide +kernel
theorem dX4_doubled_22 : decode cX4_doubled 22 = .ok (.imul, 1) := by decide +kernel
theorem dX4_doubled_23 : decode cX4_doubled 23 = .ok (.bipush 12, 2) := by decide +kernel
theorem dX4_doubled_25 : decode cX4_doubled 25 = .ok (.if_icmp .le 6, 3) := by decide +kernel
theorem dX4_doubled_28 : decode cX4_doubled 28 = .ok (.bipush (-4), 2) := by decide +kernel
theorem dX4_doubled_30 : decode cX4_doubled 30 = .ok (.ireturn, 1) := by decide +kernel
theorem dX4_doubled_31 : decode cX4_doubled 31 = .ok (.aload_n 0, 1) := by decide +kernel
theorem dX4_doubled_32 : decode cX4_doubled 32 = .ok (.getfield 14, 3) := by decide +kernel
theorem dX4_doubled_35 : decode cX4_doubled 35 = .ok (.iload_n 1, 1) := by decide +kernel
theorem dX4_doubled_36 : decode cX4_doubled 36 = .ok (.iload_n 2, 1) := by decide +kernel
theorem dX4_doubled_37 : decode cX4_doubled 37 = .ok (.invokestatic 118, 3) := by decide +kernel
theorem dX4_doubled_40 : decode cX4_doubled 40 = .ok (.invokevirtual 134, 3) := by decide +kernel
theorem dX4_doubled_43 : decode cX4_doubled 43 = .ok (.aload_n 0, 1) := by decide +kernel
theorem dX4_doubled_44 : decode cX4_doubled 44 = .ok (.invokevirtual 48, 3) := by decide +kernel
theorem dX4_doubled_47 : decode cX4_doubled 47 = .ok (.aload_n 0, 1) := by decide +kernel
theorem dX4_doubled_48 : decode cX4_doubled 48 = .ok (.getfield 14, 3) := by decide +kernel
theorem dX4_doubled_51 : decode cX4_doubled 51 = .ok (.getfield 41, 3) := by decide +kernel
theorem dX4_doubled_54 : decode cX4_doubled 54 = .ok (.ireturn, 1) := by decide +kernel
theorem dX4_about_0 : decode cX4_about 0 = .ok (.aload_n 0, 1) := by decide +kernel
theorem dX4_about_1 : decode cX4_about 1 = .ok (.getfield 14, 3) := by decide +kernel
theorem dX4_about_4 : decode cX4_about 4 = .ok (.iload_n 1, 1) := by decide +kernel
theorem dX4_about_5 : decode cX4_about 5 = .ok (.invokevirtual 59, 3) := by decide +kernel
theorem dX4_about_8 : decode cX4_about 8 = .ok (.ifCond .ne 5, 3) := by decide +kernel
theorem dX4_about_11 : decode cX4_about 11 = .ok (.iconst (-1), 1) := by decide +kernel
theorem dX4_about_12 : decode cX4_about 12 = .ok (.ireturn, 1) := by decide +kernel
theorem dX4_about_13 : decode cX4_about 13 = .ok (.iload_n 2, 1) := by decide +kernel
theorem dX4_about_14 : decode cX4_about 14 = .ok (.tableswitch 90 0 4 #[34, 44, 54, 63, 72], 34) := by decide +kernel
theorem dX4_about_48 : decode cX4_about 48 = .ok (.aload_n 0, 1) := by decide +kernel
theorem dX4_about_49 : decode cX4_about 49 = .ok (.getfield 14, 3) := by decide +kernel
theorem dX4_about_52 : decode cX4_about 52 = .ok (.getfield 62, 3) := by decide +kernel
theorem dX4_about_55 : decode cX4_about 55 = .ok (.iload_n 1, 1) := by decide +kernel
theorem dX4_about_56 : decode cX4_about 56 = .ok (.iaload, 1) := by decide +kernel
theorem dX4_about_57 : decode cX4_about 57 = .ok (.ireturn, 1) := by decide +kernel
theorem dX4_about_58 : decode cX4_about 58 = .ok (.aload_n 0, 1) := by decide +kernel
theorem dX4_about_59 : decode cX4_about 59 = .ok (.getfield 14, 3) := by decide +kernel
theorem dX4_about_62 : decode cX4_about 62 = .ok (.getfield 69, 3) := by decide +kernel
theorem dX4_about_65 : decode cX4_about 65 = .ok (.iload_n 1, 1) := by decide +kernel
theorem dX4_about_66 : decode cX4_about 66 = .ok (.iaload, 1) := by decide +kernel
theorem dX4_about_67 : decode cX4_about 67 = .ok (.ireturn, 1) := by decide +kernel
theorem dX4_about_68 : decode cX4_about 68 = .ok (.aload_n 0, 1) := by decide +kernel
theorem dX4_about_69 : decode cX4_about 69 = .ok (.getfield 23, 3) := by decide +kernel
theorem dX4_about_72 : decode cX4_about 72 = .ok (.iload_n 1, 1) := by decide +kernel
theorem dX4_about_73 : decode cX4_about 73 = .ok (.invokevirtual 138, 3) := by decide +kernel
theorem dX4_about_76 : decode cX4_about 76 = .ok (.ireturn, 1) := by decide +kernel
theorem dX4_about_77 : decode cX4_about 77 = .ok (.aload_n 0, 1) := by decide +kernel
theorem dX4_about_78 : decode cX4_about 78 = .ok (.getfield 23, 3) := by decide +kernel
theorem dX4_about_81 : decode cX4_about 81 = .ok (.iload_n 1, 1) := by decide +kernel
theorem dX4_about_82 : decode cX4_about 82 = .ok (.invokevirtual 141, 3) := by decide +kernel
theorem dX4_about_85 : decode cX4_about 85 = .ok (.ireturn, 1) := by decide +kernel
theorem dX4_about_86 : decode cX4_about 86 = .ok (.aload_n 0, 1) := by decide +kernel
theorem dX4_about_87 : decode cX4_about 87 = .ok (.getfield 14, 3) := by decide +kernel
theorem dX4_about_90 : decode cX4_about 90 = .ok (.invokevirtual 144, 3) := by decide +kernel
theorem dX4_about_93 : decode cX4_about 93 = .ok (.pop, 1) := by decide +kernel
theorem dX4_about_94 : decode cX4_about 94 = .ok (.aload_n 0, 1) := by decide +kernel
theorem dX4_about_95 : decode cX4_about 95 = .ok (.getfield 14, 3) := by decide +kernel
theorem dX4_about_98 : decode cX4_about 98 = .ok (.getfield 148, 3) := by decide +kernel
theorem dX4_about_101 : decode cX4_about 101 = .ok (.iload_n 1, 1) := by decide +kernel
theorem dX4_about_102 : decode cX4_about 102 = .ok (.iaload, 1) := by decide +kernel
theorem dX4_about_103 : decode cX4_about 103 = .ok (.ireturn, 1) := by decide +kernel
theorem dX4_about_104 : decode cX4_about 104 = .ok (.bipush (-2), 2) := by decide +kernel
theorem dX4_about_106 : decode cX4_about 106 = .ok (.ireturn, 1) := by decide +kernel
theorem dX4_together_0 : decode cX4_together 0 = .ok (.aload_n 0, 1) := by decide +kernel
theorem dX4_together_1 : decode cX4_together 1 = .ok (.invokevirtual 151, 3) := by decide +kernel
theorem dX4_together_4 : decode cX4_together 4 = .ok (.ifCond .eq 7, 3) := by decide +kernel
theorem dX4_together_7 : decode cX4_together 7 = .ok (.iconst 1, 1) := by decide +kernel
theorem dX4_together_8 : decode cX4_together 8 = .ok (.goto 4, 3) := by decide +kernel
theorem dX4_together_11 : decode cX4_together 11 = .ok (.iconst 0, 1) := by decide +kernel
theorem dX4_together_12 : decode cX4_together 12 = .ok (.ireturn, 1) := by decide +kernel
theorem dX4_rank_0 : decode cX4_rank 0 = .ok (.aload_n 0, 1) := by decide +kernel
theorem dX4_rank_1 : decode cX4_rank 1 = .ok (.getfield 14, 3) := by decide +kernel
theorem dX4_rank_4 : decode cX4_rank 4 = .ok (.iload_n 1, 1) := by decide +kernel
theorem dX4_rank_5 : decode cX4_rank 5 = .ok (.invokevirtual 59, 3) := by decide +kernel
theorem dX4_rank_8 : decode cX4_rank 8 = .ok (.ifCond .ne 5, 3) := by decide +kernel
theorem dX4_rank_11 : decode cX4_rank 11 = .ok (.iconst (-1), 1) := by decide +kernel
theorem dX4_rank_12 : decode cX4_rank 12 = .ok (.ireturn, 1) := by decide +kernel
theorem dX4_rank_13 : decode cX4_rank 13 = .ok (.iload_n 2, 1) := by decide +kernel
theorem dX4_rank_14 : decode cX4_rank 14 = .ok (.invokestatic 155, 3) := by decide +kernel
theorem dX4_rank_17 : decode cX4_rank 17 = .ok (.ifCond .ne 6, 3) := by decide +kernel
theorem dX4_rank_20 : decode cX4_rank 20 = .ok (.bipush (-2), 2) := by decide +kernel
theorem dX4_rank_22 : decode cX4_rank 22 = .ok (.ireturn, 1) := by decide +kernel
theorem dX4_rank_23 : decode cX4_rank 23 = .ok (.aload_n 0, 1) := by decide +kernel
theorem dX4_rank_24 : decode cX4_rank 24 = .ok (.getfield 23, 3) := by decide +kernel
theorem dX4_rank_27 : decode cX4_rank 27 = .ok (.iload_n 1, 1) := by decide +kernel
theorem dX4_rank_28 : decode cX4_rank 28 = .ok (.iload_n 2, 1) := by decide +kernel
theorem dX4_rank_29 : decode cX4_rank 29 = .ok (.invokevirtual 158, 3) := by decide +kernel
theorem dX4_rank_32 : decode cX4_rank 32 = .ok (.ireturn, 1) := by decide +kernel
theorem dX4_rest_0 : decode cX4_rest 0 = .ok (.aload_n 0, 1) := by decide +kernel
theorem dX4_rest_1 : decode cX4_rest 1 = .ok (.getfield 14, 3) := by decide +kernel
theorem dX4_rest_4 : decode cX4_rest 4 = .ok (.getfield 41, 3) := by decide +kernel
theorem dX4_rest_7 : decode cX4_rest 7 = .ok (.ifCond .ne 6, 3) := by decide +kernel
theorem dX4_rest_10 : decode cX4_rest 10 = .ok (.bipush (-3), 2) := by decide +kernel
theorem dX4_rest_12 : decode cX4_rest 12 = .ok (.ireturn, 1) := by decide +kernel
theorem dX4_rest_13 : decode cX4_rest 13 = .ok (.aload_n 0, 1) := by decide +kernel
theorem dX4_rest_14 : decode cX4_rest 14 = .ok (.getfield 23, 3) := by decide +kernel
theorem dX4_rest_17 : decode cX4_rest 17 = .ok (.invokevirtual 161, 3) := by decide +kernel
theorem dX4_rest_20 : decode cX4_rest 20 = .ok (.ireturn, 1) := by decide +kernel
theorem dX4_ranks_0 : decode cX4_ranks 0 = .ok (.iload_n 1, 1) := by decide +kernel
theorem dX4_ranks_1 : decode cX4_ranks 1 = .ok (.invokestatic 155, 3) := by decide +kernel
theorem dX4_ranks_4 : decode cX4_ranks 4 = .ok (.ifCond .ne 6, 3) := by decide +kernel
theorem dX4_ranks_7 : decode cX4_ranks 7 = .ok (.bipush (-2), 2) := by decide +kernel
theorem dX4_ranks_9 : decode cX4_ranks 9 = .ok (.ireturn, 1) := by decide +kernel
theorem dX4_ranks_10 : decode cX4_ranks 10 = .ok (.aload_n 0, 1) := by decide +kernel
theorem dX4_ranks_11 : decode cX4_ranks 11 = .ok (.getfield 23, 3) := by decide +kernel
theorem dX4_ranks_14 : decode cX4_ranks 14 = .ok (.iload_n 1, 1) := by decide +kernel
theorem dX4_ranks_15 : decode cX4_ranks 15 = .ok (.invokevirtual 164, 3) := by decide +kernel
theorem dX4_ranks_18 : decode cX4_ranks 18 = .ok (.ireturn, 1) := by decide +kernel
theorem dX4_apart_0 : decode cX4_apart 0 = .ok (.aload_n 0, 1) := by decide +kernel
theorem dX4_apart_1 : decode cX4_apart 1 = .ok (.getfield 14, 3) := by decide +kernel
theorem dX4_apart_4 : decode cX4_apart 4 = .ok (.iload_n 1, 1) := by decide +kernel
theorem dX4_apart_5 : decode cX4_apart 5 = .ok (.invokevirtual 59, 3) := by decide +kernel
theorem dX4_apart_8 : decode cX4_apart 8 = .ok (.ifCond .eq 14, 3) := by decide +kernel
theorem dX4_apart_11 : decode cX4_apart 11 = .ok (.aload_n 0, 1) := by decide +kernel
theorem dX4_apart_12 : decode cX4_apart 12 = .ok (.getfield 14, 3) := by decide +kernel
theorem dX4_apart_15 : decode cX4_apart 15 = .ok (.iload_n 2, 1) := by decide +kernel
theorem dX4_apart_16 : decode cX4_apart 16 = .ok (.invokevirtual 59, 3) := by decide +kernel
theorem dX4_apart_19 : decode cX4_apart 19 = .ok (.ifCond .ne 5, 3) := by decide +kernel
theorem dX4_apart_22 : decode cX4_apart 22 = .ok (.iconst (-1), 1) := by decide +kernel
theorem dX4_apart_23 : decode cX4_apart 23 = .ok (.ireturn, 1) := by decide +kernel
theorem dX4_apart_24 : decode cX4_apart 24 = .ok (.aload_n 0, 1) := by decide +kernel
theorem dX4_apart_25 : decode cX4_apart 25 = .ok (.getfield 23, 3) := by decide +kernel
theorem dX4_apart_28 : decode cX4_apart 28 = .ok (.iload_n 1, 1) := by decide +kernel
theorem dX4_apart_29 : decode cX4_apart 29 = .ok (.iload_n 2, 1) := by decide +kernel
theorem dX4_apart_30 : decode cX4_apart 30 = .ok (.invokevirtual 167, 3) := by decide +kernel
theorem dX4_apart_33 : decode cX4_apart 33 = .ok (.ireturn, 1) := by decide +kernel
theorem dX4_chosen_0 : decode cX4_chosen 0 = .ok (.aload_n 0, 1) := by decide +kernel
theorem dX4_chosen_1 : decode cX4_chosen 1 = .ok (.invokevirtual 151, 3) := by decide +kernel
theorem dX4_chosen_4 : decode cX4_chosen 4 = .ok (.ifCond .eq 17, 3) := by decide +kernel
theorem dX4_chosen_7 : decode cX4_chosen 7 = .ok (.aload_n 0, 1) := by decide +kernel
theorem dX4_chosen_8 : decode cX4_chosen 8 = .ok (.invokevirtual 170, 3) := by decide +kernel
theorem dX4_chosen_11 : decode cX4_chosen 11 = .ok (.aload_n 0, 1) := by decide +kernel
theorem dX4_chosen_12 : decode cX4_chosen 12 = .ok (.getfield 14, 3) := by decide +kernel
theorem dX4_chosen_15 : decode cX4_chosen 15 = .ok (.getfield 41, 3) := by decide +kernel
theorem dX4_chosen_18 : decode cX4_chosen 18 = .ok (.if_icmp .eq 6, 3) := by decide +kernel
theorem dX4_chosen_21 : decode cX4_chosen 21 = .ok (.bipush (-9), 2) := by decide +kernel
theorem dX4_chosen_23 : decode cX4_chosen 23 = .ok (.ireturn, 1) := by decide +kernel
theorem dX4_chosen_24 : decode cX4_chosen 24 = .ok (.aload_n 0, 1) := by decide +kernel
theorem dX4_chosen_25 : decode cX4_chosen 25 = .ok (.getfield 23, 3) := by decide +kernel
theorem dX4_chosen_28 : decode cX4_chosen 28 = .ok (.invokevirtual 173, 3) := by decide +kernel
theorem dX4_chosen_31 : decode cX4_chosen 31 = .ok (.ireturn, 1) := by decide +kernel
theorem dX4_flood_0 : decode cX4_flood 0 = .ok (.aload_n 0, 1) := by decide +kernel
theorem dX4_flood_1 : decode cX4_flood 1 = .ok (.getfield 14, 3) := by decide +kernel
theorem dX4_flood_4 : decode cX4_flood 4 = .ok (.iload_n 1, 1) := by decide +kernel
theorem dX4_flood_5 : decode cX4_flood 5 = .ok (.invokevirtual 59, 3) := by decide +kernel
theorem dX4_flood_8 : decode cX4_flood 8 = .ok (.ifCond .ne 5, 3) := by decide +kernel
theorem dX4_flood_11 : decode cX4_flood 11 = .ok (.iconst (-1), 1) := by decide +kernel
theorem dX4_flood_12 : decode cX4_flood 12 = .ok (.ireturn, 1) := by decide +kernel
theorem dX4_flood_13 : decode cX4_flood 13 = .ok (.aload_n 0, 1) := by decide +kernel
theorem dX4_flood_14 : decode cX4_flood 14 = .ok (.getfield 30, 3) := by decide +kernel
theorem dX4_flood_17 : decode cX4_flood 17 = .ok (.iload_n 1, 1) := by decide +kernel
theorem dX4_flood_18 : decode cX4_flood 18 = .ok (.lload_n 2, 1) := by decide +kernel
theorem dX4_flood_19 : decode cX4_flood 19 = .ok (.invokevirtual 176, 3) := by decide +kernel
theorem dX4_flood_22 : decode cX4_flood 22 = .ok (.aload_n 0, 1) := by decide +kernel
theorem dX4_flood_23 : decode cX4_flood 23 = .ok (.getfield 30, 3) := by decide +kernel
theorem dX4_flood_26 : decode cX4_flood 26 = .ok (.getfield 180, 3) := by decide +kernel
theorem dX4_flood_29 : decode cX4_flood 29 = .ok (.ireturn, 1) := by decide +kernel
theorem dX4_flooded_0 : decode cX4_flooded 0 = .ok (.aload_n 0, 1) := by decide +kernel
theorem dX4_flooded_1 : decode cX4_flooded 1 = .ok (.getfield 30, 3) := by decide +kernel
theorem dX4_flooded_4 : decode cX4_flooded 4 = .ok (.getfield 183, 3) := by decide +kernel
theorem dX4_flooded_7 : decode cX4_flooded 7 = .ok (.ifCond .ne 6, 3) := by decide +kernel
theorem dX4_flooded_10 : decode cX4_flooded 10 = .ok (.bipush (-3), 2) := by decide +kernel
theorem dX4_flooded_12 : decode cX4_flooded 12 = .ok (.ireturn, 1) := by decide +kernel
theorem dX4_flooded_13 : decode cX4_flooded 13 = .ok (.aload_n 0, 1) := by decide +kernel
theorem dX4_flooded_14 : decode cX4_flooded 14 = .ok (.getfield 14, 3) := by decide +kernel
theorem dX4_flooded_17 : decode cX4_flooded 17 = .ok (.iload_n 1, 1) := by decide +kernel
theorem dX4_flooded_18 : decode cX4_flooded 18 = .ok (.invokevirtual 59, 3) := by decide +kernel
theorem dX4_flooded_21 : decode cX4_flooded 21 = .ok (.ifCond .ne 5, 3) := by decide +kernel
theorem dX4_flooded_24 : decode cX4_flooded 24 = .ok (.iconst (-1), 1) := by decide +kernel
theorem dX4_flooded_25 : decode cX4_flooded 25 = .ok (.ireturn, 1) := by decide +kernel
theorem dX4_flooded_26 : decode cX4_flooded 26 = .ok (.iload_n 2, 1) := by decide +kernel
theorem dX4_flooded_27 : decode cX4_flooded 27 = .ok (.tableswitch 55 0 2 #[25, 35, 45], 25) := by decide +kernel
theorem dX4_flooded_52 : decode cX4_flooded 52 = .ok (.aload_n 0, 1) := by decide +kernel
theorem dX4_flooded_53 : decode cX4_flooded 53 = .ok (.getfield 30, 3) := by decide +kernel
theorem dX4_flooded_56 : decode cX4_flooded 56 = .ok (.getfield 187, 3) := by decide +kernel
theorem dX4_flooded_59 : decode cX4_flooded 59 = .ok (.iload_n 1, 1) := by decide +kernel
theorem dX4_flooded_60 : decode cX4_flooded 60 = .ok (.iaload, 1) := by decide +kernel
theorem dX4_flooded_61 : decode cX4_flooded 61 = .ok (.ireturn, 1) := by decide +kernel
theorem dX4_flooded_62 : decode cX4_flooded 62 = .ok (.aload_n 0, 1) := by decide +kernel
theorem dX4_flooded_63 : decode cX4_flooded 63 = .ok (.getfield 30, 3) := by decide +kernel
theorem dX4_flooded_66 : decode cX4_flooded 66 = .ok (.getfield 190, 3) := by decide +kernel
theorem dX4_flooded_69 : decode cX4_flooded 69 = .ok (.iload_n 1, 1) := by decide +kernel
theorem dX4_flooded_70 : decode cX4_flooded 70 = .ok (.iaload, 1) := by decide +kernel
theorem dX4_flooded_71 : decode cX4_flooded 71 = .ok (.ireturn, 1) := by decide +kernel
theorem dX4_flooded_72 : decode cX4_flooded 72 = .ok (.aload_n 0, 1) := by decide +kernel
theorem dX4_flooded_73 : decode cX4_flooded 73 = .ok (.getfield 30, 3) := by decide +kernel
theorem dX4_flooded_76 : decode cX4_flooded 76 = .ok (.getfield 193, 3) := by decide +kernel
theorem dX4_flooded_79 : decode cX4_flooded 79 = .ok (.iload_n 1, 1) := by decide +kernel
theorem dX4_flooded_80 : decode cX4_flooded 80 = .ok (.iaload, 1) := by decide +kernel
theorem dX4_flooded_81 : decode cX4_flooded 81 = .ok (.ireturn, 1) := by decide +kernel
theorem dX4_flooded_82 : decode cX4_flooded 82 = .ok (.bipush (-2), 2) := by decide +kernel
theorem dX4_flooded_84 : decode cX4_flooded 84 = .ok (.ireturn, 1) := by decide +kernel
theorem dX4_word_0 : decode cX4_word 0 = .ok (.aload_n 0, 1) := by decide +kernel
theorem dX4_word_1 : decode cX4_word 1 = .ok (.getfield 30, 3) := by decide +kernel
theorem dX4_word_4 : decode cX4_word 4 = .ok (.getfield 183, 3) := by decide +kernel
theorem dX4_word_7 : decode cX4_word 7 = .ok (.ifCond .ne 6, 3) := by decide +kernel
theorem dX4_word_10 : decode cX4_word 10 = .ok (.bipush (-3), 2) := by decide +kernel
theorem dX4_word_12 : decode cX4_word 12 = .ok (.ireturn, 1) := by decide +kernel
theorem dX4_word_13 : decode cX4_word 13 = .ok (.iload_n 1, 1) := by decide +kernel
theorem dX4_word_14 : decode cX4_word 14 = .ok (.ifCond .lt 14, 3) := by decide +kernel
theorem dX4_word_17 : decode cX4_word 17 = .ok (.iload_n 1, 1) := by decide +kernel
theorem dX4_word_18 : decode cX4_word 18 = .ok (.aload_n 0, 1) := by decide +kernel
theorem dX4_word_19 : decode cX4_word 19 = .ok (.getfield 30, 3) := by decide +kernel
theorem dX4_word_22 : decode cX4_word 22 = .ok (.getfield 180, 3) := by decide +kernel
theorem dX4_word_25 : decode cX4_word 25 = .ok (.if_icmp .lt 5, 3) := by decide +kernel
theorem dX4_word_28 : decode cX4_word 28 = .ok (.iconst (-1), 1) := by decide +kernel
theorem dX4_word_29 : decode cX4_word 29 = .ok (.ireturn, 1) := by decide +kernel
theorem dX4_word_30 : decode cX4_word 30 = .ok (.aload_n 0, 1) := by decide +kernel
theorem dX4_word_31 : decode cX4_word 31 = .ok (.getfield 30, 3) := by decide +kernel
theorem dX4_word_34 : decode cX4_word 34 = .ok (.getfield 196, 3) := by decide +kernel
theorem dX4_word_37 : decode cX4_word 37 = .ok (.iload_n 1, 1) := by decide +kernel
theorem dX4_word_38 : decode cX4_word 38 = .ok (.iaload, 1) := by decide +kernel
theorem dX4_word_39 : decode cX4_word 39 = .ok (.ireturn, 1) := by decide +kernel
theorem dX4_lots_0 : decode cX4_lots 0 = .ok (.iload_n 1, 1) := by decide +kernel
theorem dX4_lots_1 : decode cX4_lots 1 = .ok (.iconst 1, 1) := by decide +kernel
theorem dX4_lots_2 : decode cX4_lots 2 = .ok (.if_icmp .lt 19, 3) := by decide +kernel
theorem dX4_lots_5 : decode cX4_lots 5 = .ok (.iload_n 1, 1) := by decide +kernel
theorem dX4_lots_6 : decode cX4_lots 6 = .ok (.bipush 6, 2) := by decide +kernel
theorem dX4_lots_8 : decode cX4_lots 8 = .ok (.if_icmp .gt 13, 3) := by decide +kernel
theorem dX4_lots_11 : decode cX4_lots 11 = .ok (.aload_n 0, 1) := by decide +kernel
theorem dX4_lots_12 : decode cX4_lots 12 = .ok (.getfield 14, 3) := by decide +kernel
theorem dX4_lots_15 : decode cX4_lots 15 = .ok (.getfield 41, 3) := by decide +kernel
theorem dX4_lots_18 : decode cX4_lots 18 = .ok (.ifCond .ne 7, 3) := by decide +kernel
theorem dX4_lots_21 : decode cX4_lots 21 = .ok (.ldc2_w 199, 3) := by decide +kernel
theorem dX4_lots_24 : decode cX4_lots 24 = .ok (.lreturn, 1) := by decide +kernel
theorem dX4_lots_25 : decode cX4_lots 25 = .ok (.iload_n 2, 1) := by decide +kernel
theorem dX4_lots_26 : decode cX4_lots 26 = .ok (.tableswitch 53 0 2 #[26, 38, 50], 26) := by decide +kernel
theorem dX4_lots_52 : decode cX4_lots 52 = .ok (.iload_n 1, 1) := by decide +kernel
theorem dX4_lots_53 : decode cX4_lots 53 = .ok (.aload_n 0, 1) := by decide +kernel
theorem dX4_lots_54 : decode cX4_lots 54 = .ok (.getfield 14, 3) := by decide +kernel
theorem dX4_lots_57 : decode cX4_lots 57 = .ok (.getfield 41, 3) := by decide +kernel
theorem dX4_lots_60 : decode cX4_lots 60 = .ok (.invokestatic 201, 3) := by decide +kernel
theorem dX4_lots_63 : decode cX4_lots 63 = .ok (.lreturn, 1) := by decide +kernel
theorem dX4_lots_64 : decode cX4_lots 64 = .ok (.iload_n 1, 1) := by decide +kernel
theorem dX4_lots_65 : decode cX4_lots 65 = .ok (.aload_n 0, 1) := by decide +kernel
theorem dX4_lots_66 : decode cX4_lots 66 = .ok (.getfield 14, 3) := by decide +kernel
theorem dX4_lots_69 : decode cX4_lots 69 = .ok (.getfield 41, 3) := by decide +kernel
theorem dX4_lots_72 : decode cX4_lots 72 = .ok (.invokestatic 205, 3) := by decide +kernel
theorem dX4_lots_75 : decode cX4_lots 75 = .ok (.lreturn, 1) := by decide +kernel
theorem dX4_lots_76 : decode cX4_lots 76 = .ok (.iload_n 1, 1) := by decide +kernel
theorem dX4_lots_77 : decode cX4_lots 77 = .ok (.i2l, 1) := by decide +kernel
theorem dX4_lots_78 : decode cX4_lots 78 = .ok (.lreturn, 1) := by decide +kernel
theorem dX4_lots_79 : decode cX4_lots 79 = .ok (.ldc2_w 199, 3) := by decide +kernel
theorem dX4_lots_82 : decode cX4_lots 82 = .ok (.lreturn, 1) := by decide +kernel
theorem dX4_sheet_0 : decode cX4_sheet 0 = .ok (.aload_n 0, 1) := by decide +kernel
theorem dX4_sheet_1 : decode cX4_sheet 1 = .ok (.iconst 0, 1) := by decide +kernel
theorem dX4_sheet_2 : decode cX4_sheet 2 = .ok (.putfield 83, 3) := by decide +kernel
theorem dX4_sheet_5 : decode cX4_sheet 5 = .ok (.aload_n 0, 1) := by decide +kernel
theorem dX4_sheet_6 : decode cX4_sheet 6 = .ok (.iload_n 1, 1) := by decide +kernel
theorem dX4_sheet_7 : decode cX4_sheet 7 = .ok (.invokevirtual 86, 3) := by decide +kernel
theorem dX4_sheet_10 : decode cX4_sheet 10 = .ok (.astore 4, 2) := by decide +kernel
theorem dX4_sheet_12 : decode cX4_sheet 12 = .ok (.aload 4, 2) := by decide +kernel
