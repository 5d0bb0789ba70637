theorem dX4_sheet_14 : decode cX4_sheet 14 = .ok (.ifnonnull 5, 3) := by decide +kernel
theorem dX4_sheet_17 : decode cX4_sheet 17 = .ok (.iconst (-1), 1) := by decide +kernel
theorem dX4_sheet_18 : decode cX4_sheet 18 = .ok (.ireturn, 1) := by decide +kernel
theorem dX4_sheet_19 : decode cX4_sheet 19 = .ok (.iload_n 2, 1) := by decide +kernel
theorem dX4_sheet_20 : decode cX4_sheet 20 = .ok (.invokestatic 90, 3) := by decide +kernel
theorem dX4_sheet_23 : decode cX4_sheet 23 = .ok (.ifCond .eq 9, 3) := by decide +kernel
theorem dX4_sheet_26 : decode cX4_sheet 26 = .ok (.iload_n 3, 1) := by decide +kernel
theorem dX4_sheet_27 : decode cX4_sheet 27 = .ok (.bipush 60, 2) := by decide +kernel
theorem dX4_sheet_29 : decode cX4_sheet 29 = .ok (.if_icmp .le 6, 3) := by decide +kernel
theorem dX4_sheet_32 : decode cX4_sheet 32 = .ok (.bipush (-2), 2) := by decide +kernel
theorem dX4_sheet_34 : decode cX4_sheet 34 = .ok (.ireturn, 1) := by decide +kernel
theorem dX4_sheet_35 : decode cX4_sheet 35 = .ok (.iload_n 3, 1) := by decide +kernel
theorem dX4_sheet_36 : decode cX4_sheet 36 = .ok (.ifCond .ge 9, 3) := by decide +kernel
theorem dX4_sheet_39 : decode cX4_sheet 39 = .ok (.aload_n 0, 1) := by decide +kernel
theorem dX4_sheet_40 : decode cX4_sheet 40 = .ok (.iconst 4, 1) := by decide +kernel
theorem dX4_sheet_41 : decode cX4_sheet 41 = .ok (.invokevirtual 97, 3) := by decide +kernel
theorem dX4_sheet_44 : decode cX4_sheet 44 = .ok (.ireturn, 1) := by decide +kernel
theorem dX4_sheet_45 : decode cX4_sheet 45 = .ok (.aload 4, 2) := by decide +kernel
theorem dX4_sheet_47 : decode cX4_sheet 47 = .ok (.iload_n 2, 1) := by decide +kernel
theorem dX4_sheet_48 : decode cX4_sheet 48 = .ok (.iload_n 3, 1) := by decide +kernel
theorem dX4_sheet_49 : decode cX4_sheet 49 = .ok (.invokevirtual 208, 3) := by decide +kernel
theorem dX4_sheet_52 : decode cX4_sheet 52 = .ok (.iconst 1, 1) := by decide +kernel
theorem dX4_sheet_53 : decode cX4_sheet 53 = .ok (.ireturn, 1) := by decide +kernel
theorem dX4_lose_0 : decode cX4_lose 0 = .ok (.aload_n 0, 1) := by decide +kernel
theorem dX4_lose_1 : decode cX4_lose 1 = .ok (.iload_n 1, 1) := by decide +kernel
theorem dX4_lose_2 : decode cX4_lose 2 = .ok (.invokevirtual 86, 3) := by decide +kernel
theorem dX4_lose_5 : decode cX4_lose 5 = .ok (.astore_n 2, 1) := by decide +kernel
theorem dX4_lose_6 : decode cX4_lose 6 = .ok (.aload_n 2, 1) := by decide +kernel
theorem dX4_lose_7 : decode cX4_lose 7 = .ok (.ifnonnull 5, 3) := by decide +kernel
theorem dX4_lose_10 : decode cX4_lose 10 = .ok (.iconst (-1), 1) := by decide +kernel
theorem dX4_lose_11 : decode cX4_lose 11 = .ok (.ireturn, 1) := by decide +kernel
theorem dX4_lose_12 : decode cX4_lose 12 = .ok (.aload_n 2, 1) := by decide +kernel
theorem dX4_lose_13 : decode cX4_lose 13 = .ok (.getfield 211, 3) := by decide +kernel
theorem dX4_lose_16 : decode cX4_lose 16 = .ok (.ifCond .eq 7, 3) := by decide +kernel
theorem dX4_lose_19 : decode cX4_lose 19 = .ok (.iconst 1, 1) := by decide +kernel
theorem dX4_lose_20 : decode cX4_lose 20 = .ok (.goto 4, 3) := by decide +kernel
theorem dX4_lose_23 : decode cX4_lose 23 = .ok (.iconst 0, 1) := by decide +kernel
theorem dX4_lose_24 : decode cX4_lose 24 = .ok (.istore_n 3, 1) := by decide +kernel
theorem dX4_lose_25 : decode cX4_lose 25 = .ok (.aload_n 2, 1) := by decide +kernel
theorem dX4_lose_26 : decode cX4_lose 26 = .ok (.iconst 0, 1) := by decide +kernel
theorem dX4_lose_27 : decode cX4_lose 27 = .ok (.putfield 211, 3) := by decide +kernel
theorem dX4_lose_30 : decode cX4_lose 30 = .ok (.iload_n 3, 1) := by decide +kernel
theorem dX4_lose_31 : decode cX4_lose 31 = .ok (.ireturn, 1) := by decide +kernel
theorem dX4_put_0 : decode cX4_put 0 = .ok (.aload_n 0, 1) := by decide +kernel
theorem dX4_put_1 : decode cX4_put 1 = .ok (.iconst 0, 1) := by decide +kernel
theorem dX4_put_2 : decode cX4_put 2 = .ok (.putfield 83, 3) := by decide +kernel
theorem dX4_put_5 : decode cX4_put 5 = .ok (.aload_n 0, 1) := by decide +kernel
theorem dX4_put_6 : decode cX4_put 6 = .ok (.iload_n 1, 1) := by decide +kernel
theorem dX4_put_7 : decode cX4_put 7 = .ok (.invokevirtual 86, 3) := by decide +kernel
theorem dX4_put_10 : decode cX4_put 10 = .ok (.astore 4, 2) := by decide +kernel
theorem dX4_put_12 : decode cX4_put 12 = .ok (.aload 4, 2) := by decide +kernel
theorem dX4_put_14 : decode cX4_put 14 = .ok (.ifnonnull 5, 3) := by decide +kernel
theorem dX4_put_17 : decode cX4_put 17 = .ok (.iconst (-1), 1) := by decide +kernel
theorem dX4_put_18 : decode cX4_put 18 = .ok (.ireturn, 1) := by decide +kernel
theorem dX4_put_19 : decode cX4_put 19 = .ok (.aload 4, 2) := by decide +kernel
theorem dX4_put_21 : decode cX4_put 21 = .ok (.getfield 211, 3) := by decide +kernel
theorem dX4_put_24 : decode cX4_put 24 = .ok (.ifCond .ne 9, 3) := by decide +kernel
theorem dX4_put_27 : decode cX4_put 27 = .ok (.aload_n 0, 1) := by decide +kernel
theorem dX4_put_28 : decode cX4_put 28 = .ok (.iconst 1, 1) := by decide +kernel
theorem dX4_put_29 : decode cX4_put 29 = .ok (.invokevirtual 97, 3) := by decide +kernel
theorem dX4_put_32 : decode cX4_put 32 = .ok (.ireturn, 1) := by decide +kernel
theorem dX4_put_33 : decode cX4_put 33 = .ok (.aload 4, 2) := by decide +kernel
theorem dX4_put_35 : decode cX4_put 35 = .ok (.iload_n 2, 1) := by decide +kernel
theorem dX4_put_36 : decode cX4_put 36 = .ok (.lconst 1, 1) := by decide +kernel
theorem dX4_put_37 : decode cX4_put 37 = .ok (.invokevirtual 102, 3) := by decide +kernel
theorem dX4_put_40 : decode cX4_put 40 = .ok (.ifCond .ne 9, 3) := by decide +kernel
theorem dX4_put_43 : decode cX4_put 43 = .ok (.aload_n 0, 1) := by decide +kernel
theorem dX4_put_44 : decode cX4_put 44 = .ok (.iconst 3, 1) := by decide +kernel
theorem dX4_put_45 : decode cX4_put 45 = .ok (.invokevirtual 97, 3) := by decide +kernel
theorem dX4_put_48 : decode cX4_put 48 = .ok (.ireturn, 1) := by decide +kernel
theorem dX4_put_49 : decode cX4_put 49 = .ok (.aload 4, 2) := by decide +kernel
theorem dX4_put_51 : decode cX4_put 51 = .ok (.getfield 212, 3) := by decide +kernel
theorem dX4_put_54 : decode cX4_put 54 = .ok (.iload_n 2, 1) := by decide +kernel
theorem dX4_put_55 : decode cX4_put 55 = .ok (.aload 4, 2) := by decide +kernel
theorem dX4_put_57 : decode cX4_put 57 = .ok (.getfield 215, 3) := by decide +kernel
theorem dX4_put_60 : decode cX4_put 60 = .ok (.iload_n 3, 1) := by decide +kernel
theorem dX4_put_61 : decode cX4_put 61 = .ok (.invokestatic 218, 3) := by decide +kernel
theorem dX4_put_64 : decode cX4_put 64 = .ok (.iastore, 1) := by decide +kernel
theorem dX4_put_65 : decode cX4_put 65 = .ok (.iconst 1, 1) := by decide +kernel
theorem dX4_put_66 : decode cX4_put 66 = .ok (.ireturn, 1) := by decide +kernel
theorem dX4_cell_0 : decode cX4_cell 0 = .ok (.aload_n 0, 1) := by decide +kernel
theorem dX4_cell_1 : decode cX4_cell 1 = .ok (.iconst 0, 1) := by decide +kernel
theorem dX4_cell_2 : decode cX4_cell 2 = .ok (.putfield 83, 3) := by decide +kernel
theorem dX4_cell_5 : decode cX4_cell 5 = .ok (.aload_n 0, 1) := by decide +kernel
theorem dX4_cell_6 : decode cX4_cell 6 = .ok (.iload_n 1, 1) := by decide +kernel
theorem dX4_cell_7 : decode cX4_cell 7 = .ok (.invokevirtual 86, 3) := by decide +kernel
theorem dX4_cell_10 : decode cX4_cell 10 = .ok (.astore 4, 2) := by decide +kernel
theorem dX4_cell_12 : decode cX4_cell 12 = .ok (.aload 4, 2) := by decide +kernel
theorem dX4_cell_14 : decode cX4_cell 14 = .ok (.ifnull 10, 3) := by decide +kernel
theorem dX4_cell_17 : decode cX4_cell 17 = .ok (.iload_n 3, 1) := by decide +kernel
theorem dX4_cell_18 : decode cX4_cell 18 = .ok (.invokestatic 90, 3) := by decide +kernel
theorem dX4_cell_21 : decode cX4_cell 21 = .ok (.ifCond .ne 7, 3) := by decide +kernel
theorem dX4_cell_24 : decode cX4_cell 24 = .ok (.ldc2_w 199, 3) := by decide +kernel
theorem dX4_cell_27 : decode cX4_cell 27 = .ok (.lreturn, 1) := by decide +kernel
theorem dX4_cell_28 : decode cX4_cell 28 = .ok (.aload 4, 2) := by decide +kernel
theorem dX4_cell_30 : decode cX4_cell 30 = .ok (.iload_n 3, 1) := by decide +kernel
theorem dX4_cell_31 : decode cX4_cell 31 = .ok (.invokestatic 93, 3) := by decide +kernel
theorem dX4_cell_34 : decode cX4_cell 34 = .ok (.istore 5, 2) := by decide +kernel
theorem dX4_cell_36 : decode cX4_cell 36 = .ok (.iload 5, 2) := by decide +kernel
theorem dX4_cell_38 : decode cX4_cell 38 = .ok (.ifCond .ne 16, 3) := by decide +kernel
theorem dX4_cell_41 : decode cX4_cell 41 = .ok (.aload 4, 2) := by decide +kernel
theorem dX4_cell_43 : decode cX4_cell 43 = .ok (.iload_n 2, 1) := by decide +kernel
theorem dX4_cell_44 : decode cX4_cell 44 = .ok (.lconst 1, 1) := by decide +kernel
theorem dX4_cell_45 : decode cX4_cell 45 = .ok (.invokevirtual 102, 3) := by decide +kernel
theorem dX4_cell_48 : decode cX4_cell 48 = .ok (.ifCond .ne 6, 3) := by decide +kernel
theorem dX4_cell_51 : decode cX4_cell 51 = .ok (.iconst 3, 1) := by decide +kernel
theorem dX4_cell_52 : decode cX4_cell 52 = .ok (.istore 5, 2) := by decide +kernel
theorem dX4_cell_54 : decode cX4_cell 54 = .ok (.iload 5, 2) := by decide +kernel
theorem dX4_cell_56 : decode cX4_cell 56 = .ok (.ifCond .eq 14, 3) := by decide +kernel
theorem dX4_cell_59 : decode cX4_cell 59 = .ok (.aload_n 0, 1) := by decide +kernel
theorem dX4_cell_60 : decode cX4_cell 60 = .ok (.iload 5, 2) := by decide +kernel
theorem dX4_cell_62 : decode cX4_cell 62 = .ok (.invokevirtual 97, 3) := by decide +kernel
theorem dX4_cell_65 : decode cX4_cell 65 = .ok (.pop, 1) := by decide +kernel
theorem dX4_cell_66 : decode cX4_cell 66 = .ok (.ldc2_w 199, 3) := by decide +kernel
theorem dX4_cell_69 : decode cX4_cell 69 = .ok (.lreturn, 1) := by decide +kernel
theorem dX4_cell_70 : decode cX4_cell 70 = .ok (.aload 4, 2) := by decide +kernel
theorem dX4_cell_72 : decode cX4_cell 72 = .ok (.getfield 212, 3) := by decide +kernel
theorem dX4_cell_75 : decode cX4_cell 75 = .ok (.iload_n 2, 1) := by decide +kernel
theorem dX4_cell_76 : decode cX4_cell 76 = .ok (.iaload, 1) := by decide +kernel
theorem dX4_cell_77 : decode cX4_cell 77 = .ok (.i2l, 1) := by decide +kernel
theorem dX4_cell_78 : decode cX4_cell 78 = .ok (.lreturn, 1) := by decide +kernel
theorem dX4_copy_0 : decode cX4_copy 0 = .ok (.aload_n 0, 1) := by decide +kernel
theorem dX4_copy_1 : decode cX4_copy 1 = .ok (.iconst 0, 1) := by decide +kernel
theorem dX4_copy_2 : decode cX4_copy 2 = .ok (.putfield 83, 3) := by decide +kernel
theorem dX4_copy_5 : decode cX4_copy 5 = .ok (.aload_n 0, 1) := by decide +kernel
theorem dX4_copy_6 : decode cX4_copy 6 = .ok (.iload_n 1, 1) := by decide +kernel
theorem dX4_copy_7 : decode cX4_copy 7 = .ok (.invokevirtual 86, 3) := by decide +kernel
theorem dX4_copy_10 : decode cX4_copy 10 = .ok (.astore 6, 2) := by decide +kernel
theorem dX4_copy_12 : decode cX4_copy 12 = .ok (.aload_n 0, 1) := by decide +kernel
theorem dX4_copy_13 : decode cX4_copy 13 = .ok (.iload_n 3, 1) := by decide +kernel
theorem dX4_copy_14 : decode cX4_copy 14 = .ok (.invokevirtual 86, 3) := by decide +kernel
theorem dX4_copy_17 : decode cX4_copy 17 = .ok (.astore 7, 2) := by decide +kernel
theorem dX4_copy_19 : decode cX4_copy 19 = .ok (.aload 6, 2) := by decide +kernel
theorem dX4_copy_21 : decode cX4_copy 21 = .ok (.ifnull 8, 3) := by decide +kernel
theorem dX4_copy_24 : decode cX4_copy 24 = .ok (.aload 7, 2) := by decide +kernel
theorem dX4_copy_26 : decode cX4_copy 26 = .ok (.ifnonnull 5, 3) := by decide +kernel
theorem dX4_copy_29 : decode cX4_copy 29 = .ok (.iconst (-1), 1) := by decide +kernel
theorem dX4_copy_30 : decode cX4_copy 30 = .ok (.ireturn, 1) := by decide +kernel
theorem dX4_copy_31 : decode cX4_copy 31 = .ok (.aload 6, 2) := by decide +kernel
theorem dX4_copy_33 : decode cX4_copy 33 = .ok (.getfield 211, 3) := by decide +kernel
theorem dX4_copy_36 : decode cX4_copy 36 = .ok (.ifCond .eq 11, 3) := by decide +kernel
theorem dX4_copy_39 : decode cX4_copy 39 = .ok (.aload 7, 2) := by decide +kernel
theorem dX4_copy_41 : decode cX4_copy 41 = .ok (.getfield 211, 3) := by decide +kernel
theorem dX4_copy_44 : decode cX4_copy 44 = .ok (.ifCond .ne 9, 3) := by decide +kernel
theorem dX4_copy_47 : decode cX4_copy 47 = .ok (.aload_n 0, 1) := by decide +kernel
theorem dX4_copy_48 : decode cX4_copy 48 = .ok (.iconst 1, 1) := by decide +kernel
theorem dX4_copy_49 : decode cX4_copy 49 = .ok (.invokevirtual 97, 3) := by decide +kernel
theorem dX4_copy_52 : decode cX4_copy 52 = .ok (.ireturn, 1) := by decide +kernel
theorem dX4_copy_53 : decode cX4_copy 53 = .ok (.aload 6, 2) := by decide +kernel
theorem dX4_copy_55 : decode cX4_copy 55 = .ok (.getfield 215, 3) := by decide +kernel
theorem dX4_copy_58 : decode cX4_copy 58 = .ok (.aload 7, 2) := by decide +kernel
theorem dX4_copy_60 : decode cX4_copy 60 = .ok (.getfield 215, 3) := by decide +kernel
theorem dX4_copy_63 : decode cX4_copy 63 = .ok (.if_icmp .eq 9, 3) := by decide +kernel
theorem dX4_copy_66 : decode cX4_copy 66 = .ok (.aload_n 0, 1) := by decide +kernel
theorem dX4_copy_67 : decode cX4_copy 67 = .ok (.iconst 2, 1) := by decide +kernel
theorem dX4_copy_68 : decode cX4_copy 68 = .ok (.invokevirtual 97, 3) := by decide +kernel
theorem dX4_copy_71 : decode cX4_copy 71 = .ok (.ireturn, 1) := by decide +kernel
theorem dX4_copy_72 : decode cX4_copy 72 = .ok (.aload 6, 2) := by decide +kernel
theorem dX4_copy_74 : decode cX4_copy 74 = .ok (.iload_n 2, 1) := by decide +kernel
theorem dX4_copy_75 : decode cX4_copy 75 = .ok (.iload 5, 2) := by decide +kernel
theorem dX4_copy_77 : decode cX4_copy 77 = .ok (.i2l, 1) := by decide +kernel
theorem dX4_copy_78 : decode cX4_copy 78 = .ok (.invokevirtual 102, 3) := by decide +kernel
theorem dX4_copy_81 : decode cX4_copy 81 = .ok (.ifCond .eq 16, 3) := by decide +kernel
theorem dX4_copy_84 : decode cX4_copy 84 = .ok (.aload 7, 2) := by decide +kernel
theorem dX4_copy_86 : decode cX4_copy 86 = .ok (.iload 4, 2) := by decide +kernel
theorem dX4_copy_88 : decode cX4_copy 88 = .ok (.iload 5, 2) := by decide +kernel
theorem dX4_copy_90 : decode cX4_copy 90 = .ok (.i2l, 1) := by decide +kernel
theorem dX4_copy_91 : decode cX4_copy 91 = .ok (.invokevirtual 102, 3) := by decide +kernel
theorem dX4_copy_94 : decode cX4_copy 94 = .ok (.ifCond .ne 9, 3) := by decide +kernel
theorem dX4_copy_97 : decode cX4_copy 97 = .ok (.aload_n 0, 1) := by decide +kernel
theorem dX4_copy_98 : decode cX4_copy 98 = .ok (.iconst 3, 1) := by decide +kernel
theorem dX4_copy_99 : decode cX4_copy 99 = .ok (.invokevirtual 97, 3) := by decide +kernel
theorem dX4_copy_102 : decode cX4_copy 102 = .ok (.ireturn, 1) := by decide +kernel
theorem dX4_copy_103 : decode cX4_copy 103 = .ok (.aload 6, 2) := by decide +kernel
theorem dX4_copy_105 : decode cX4_copy 105 = .ok (.getfield 212, 3) := by decide +kernel
theorem dX4_copy_108 : decode cX4_copy 108 = .ok (.iload_n 2, 1) := by decide +kernel
theorem dX4_copy_109 : decode cX4_copy 109 = .ok (.aload 7, 2) := by decide +kernel
theorem dX4_copy_111 : decode cX4_copy 111 = .ok (.getfield 212, 3) := by decide +kernel
theorem dX4_copy_114 : decode cX4_copy 114 = .ok (.iload 4, 2) := by decide +kernel
theorem dX4_copy_116 : decode cX4_copy 116 = .ok (.iload 5, 2) := by decide +kernel
theorem dX4_copy_118 : decode cX4_copy 118 = .ok (.invokestatic 221, 3) := by decide +kernel
theorem dX4_copy_121 : decode cX4_copy 121 = .ok (.iload 5, 2) := by decide +kernel
theorem dX4_copy_123 : decode cX4_copy 123 = .ok (.ireturn, 1) := by decide +kernel
theorem dX4_tell_0 : decode cX4_tell 0 = .ok (.aload_n 0, 1) := by decide +kernel
theorem dX4_tell_1 : decode cX4_tell 1 = .ok (.getfield 14, 3) := by decide +kernel
theorem dX4_tell_4 : decode cX4_tell 4 = .ok (.iload_n 1, 1) := by decide +kernel
theorem dX4_tell_5 : decode cX4_tell 5 = .ok (.invokevirtual 59, 3) := by decide +kernel
theorem dX4_tell_8 : decode cX4_tell 8 = .ok (.ifCond .ne 5, 3) := by decide +kernel
theorem dX4_tell_11 : decode cX4_tell 11 = .ok (.iconst (-1), 1) := by decide +kernel
theorem dX4_tell_12 : decode cX4_tell 12 = .ok (.ireturn, 1) := by decide +kernel
theorem dX4_tell_13 : decode cX4_tell 13 = .ok (.aload_n 0, 1) := by decide +kernel
theorem dX4_tell_14 : decode cX4_tell 14 = .ok (.iload_n 1, 1) := by decide +kernel
theorem dX4_tell_15 : decode cX4_tell 15 = .ok (.iconst 2, 1) := by decide +kernel
theorem dX4_tell_16 : decode cX4_tell 16 = .ok (.invokevirtual 227, 3) := by decide +kernel
theorem dX4_tell_19 : decode cX4_tell 19 = .ok (.ifCond .eq 9, 3) := by decide +kernel
theorem dX4_tell_22 : decode cX4_tell 22 = .ok (.aload_n 0, 1) := by decide +kernel
theorem dX4_tell_23 : decode cX4_tell 23 = .ok (.iload_n 1, 1) := by decide +kernel
theorem dX4_tell_24 : decode cX4_tell 24 = .ok (.invokevirtual 230, 3) := by decide +kernel
theorem dX4_tell_27 : decode cX4_tell 27 = .ok (.ireturn, 1) := by decide +kernel
theorem dX4_tell_28 : decode cX4_tell 28 = .ok (.aload_n 0, 1) := by decide +kernel
theorem dX4_tell_29 : decode cX4_tell 29 = .ok (.iload_n 1, 1) := by decide +kernel
theorem dX4_tell_30 : decode cX4_tell 30 = .ok (.iconst 1, 1) := by decide +kernel
theorem dX4_tell_31 : decode cX4_tell 31 = .ok (.invokevirtual 227, 3) := by decide +kernel
theorem dX4_tell_34 : decode cX4_tell 34 = .ok (.ifCond .eq 11, 3) := by decide +kernel
theorem dX4_tell_37 : decode cX4_tell 37 = .ok (.aload_n 0, 1) := by decide +kernel
theorem dX4_tell_38 : decode cX4_tell 38 = .ok (.iload_n 1, 1) := by decide +kernel
theorem dX4_tell_39 : decode cX4_tell 39 = .ok (.invokevirtual 233, 3) := by decide +kernel
theorem dX4_tell_42 : decode cX4_tell 42 = .ok (.goto 8, 3) := by decide +kernel
theorem dX4_tell_45 : decode cX4_tell 45 = .ok (.aload_n 0, 1) := by decide +kernel
theorem dX4_tell_46 : decode cX4_tell 46 = .ok (.iload_n 1, 1) := by decide +kernel
theorem dX4_tell_47 : decode cX4_tell 47 = .ok (.invokevirtual 236, 3) := by decide +kernel
theorem dX4_tell_50 : decode cX4_tell 50 = .ok (.ireturn, 1) := by decide +kernel
theorem dX4_hear_0 : decode cX4_hear 0 = .ok (.aload_n 0, 1) := by decide +kernel
theorem dX4_hear_1 : decode cX4_hear 1 = .ok (.getfield 14, 3) := by decide +kernel
theorem dX4_hear_4 : decode cX4_hear 4 = .ok (.iload_n 1, 1) := by decide +kernel
theorem dX4_hear_5 : decode cX4_hear 5 = .ok (.invokevirtual 59, 3) := by decide +kernel
theorem dX4_hear_8 : decode cX4_hear 8 = .ok (.ifCond .ne 5, 3) := by decide +kernel
theorem dX4_hear_11 : decode cX4_hear 11 = .ok (.iconst (-1), 1) := by decide +kernel
theorem dX4_hear_12 : decode cX4_hear 12 = .ok (.ireturn, 1) := by decide +kernel
theorem dX4_hear_13 : decode cX4_hear 13 = .ok (.aload_n 0, 1) := by decide +kernel
theorem dX4_hear_14 : decode cX4_hear 14 = .ok (.iload_n 1, 1) := by decide +kernel
theorem dX4_hear_15 : decode cX4_hear 15 = .ok (.iconst 2, 1) := by decide +kernel
theorem dX4_hear_16 : decode cX4_hear 16 = .ok (.invokevirtual 227, 3) := by decide +kernel
theorem dX4_hear_19 : decode cX4_hear 19 = .ok (.ifCond .eq 11, 3) := by decide +kernel
theorem dX4_hear_22 : decode cX4_hear 22 = .ok (.aload_n 0, 1) := by decide +kernel
theorem dX4_hear_23 : decode cX4_hear 23 = .ok (.iconst 5, 1) := by decide +kernel
theorem dX4_hear_24 : decode cX4_hear 24 = .ok (.invokevirtual 239, 3) := by decide +kernel
theorem dX4_hear_27 : decode cX4_hear 27 = .ok (.bipush 70, 2) := by decide +kernel
theorem dX4_hear_29 : decode cX4_hear 29 = .ok (.ireturn, 1) := by decide +kernel
theorem dX4_hear_30 : decode cX4_hear 30 = .ok (.aload_n 0, 1) := by decide +kernel
theorem dX4_hear_31 : decode cX4_hear 31 = .ok (.iconst 4, 1) := by decide +kernel
theorem dX4_hear_32 : decode cX4_hear 32 = .ok (.invokevirtual 239, 3) := by decide +kernel
theorem dX4_hear_35 : decode cX4_hear 35 = .ok (.iload_n 1, 1) := by decide +kernel
theorem dX4_hear_36 : decode cX4_hear 36 = .ok (.ireturn, 1) := by decide +kernel
theorem dX4_as_0 : decode cX4_as 0 = .ok (.aload_n 0, 1) := by decide +kernel
theorem dX4_as_1 : decode cX4_as 1 = .ok (.iconst 0, 1) := by decide +kernel
theorem dX4_as_2 : decode cX4_as 2 = .ok (.putfield 83, 3) := by decide +kernel
theorem dX4_as_5 : decode cX4_as 5 = .ok (.aload_n 0, 1) := by decide +kernel
theorem dX4_as_6 : decode cX4_as 6 = .ok (.getfield 14, 3) := by decide +kernel
theorem dX4_as_9 : decode cX4_as 9 = .ok (.iload_n 1, 1) := by decide +kernel
theorem dX4_as_10 : decode cX4_as 10 = .ok (.invokevirtual 59, 3) := by decide +kernel
theorem dX4_as_13 : decode cX4_as 13 = .ok (.ifCond .ne 5, 3) := by decide +kernel
theorem dX4_as_16 : decode cX4_as 16 = .ok (.iconst (-1), 1) := by decide +kernel
theorem dX4_as_17 : decode cX4_as 17 = .ok (.ireturn, 1) := by decide +kernel
theorem dX4_as_18 : decode cX4_as 18 = .ok (.iload_n 2, 1) := by decide +kernel
theorem dX4_as_19 : decode cX4_as 19 = .ok (.ifCond .lt 8, 3) := by decide +kernel
theorem dX4_as_22 : decode cX4_as 22 = .ok (.iload_n 2, 1) := by decide +kernel
theorem dX4_as_23 : decode cX4_as 23 = .ok (.iconst 2, 1) := by decide +kernel
theorem dX4_as_24 : decode cX4_as 24 = .ok (.if_icmp .le 6, 3) := by decide +kernel
theorem dX4_as_27 : decode cX4_as 27 = .ok (.bipush (-2), 2) := by decide +kernel
theorem dX4_as_29 : decode cX4_as 29 = .ok (.ireturn, 1) := by decide +kernel
theorem dX4_as_30 : decode cX4_as 30 = .ok (.aload_n 0, 1) := by decide +kernel
theorem dX4_as_31 : decode cX4_as 31 = .ok (.iload_n 1, 1) := by decide +kernel
theorem dX4_as_32 : decode cX4_as 32 = .ok (.iload_n 2, 1) := by decide +kernel
theorem dX4_as_33 : decode cX4_as 33 = .ok (.invokevirtual 227, 3) := by decide +kernel
theorem dX4_as_36 : decode cX4_as 36 = .ok (.ifCond .eq 7, 3) := by decide +kernel
theorem dX4_as_39 : decode cX4_as 39 = .ok (.iconst 1, 1) := by decide +kernel
theorem dX4_as_40 : decode cX4_as 40 = .ok (.goto 8, 3) := by decide +kernel
theorem dX4_as_43 : decode cX4_as 43 = .ok (.aload_n 0, 1) := by decide +kernel
theorem dX4_as_44 : decode cX4_as 44 = .ok (.iconst 2, 1) := by decide +kernel
theorem dX4_as_45 : decode cX4_as 45 = .ok (.invokevirtual 97, 3) := by decide +kernel
theorem dX4_as_48 : decode cX4_as 48 = .ok (.ireturn, 1) := by decide +kernel
theorem dX4_trace_0 : decode cX4_trace 0 = .ok (.aload_n 0, 1) := by decide +kernel
theorem dX4_trace_1 : decode cX4_trace 1 = .ok (.getfield 242, 3) := by decide +kernel
theorem dX4_trace_4 : decode cX4_trace 4 = .ok (.ireturn, 1) := by decide +kernel
theorem dX4_fault_0 : decode cX4_fault 0 = .ok (.aload_n 0, 1) := by decide +kernel
theorem dX4_fault_1 : decode cX4_fault 1 = .ok (.getfield 83, 3) := by decide +kernel
theorem dX4_fault_4 : decode cX4_fault 4 = .ok (.ireturn, 1) := by decide +kernel
theorem dX4_told_0 : decode cX4_told 0 = .ok (.iload_n 1, 1) := by decide +kernel
theorem dX4_told_1 : decode cX4_told 1 = .ok (.tableswitch 72 0 4 #[35, 43, 51, 56, 64], 35) := by decide +kernel
theorem dX4_told_36 : decode cX4_told 36 = .ok (.aload_n 0, 1) := by decide +kernel
theorem dX4_told_37 : decode cX4_told 37 = .ok (.getfield 14, 3) := by decide +kernel
theorem dX4_told_40 : decode cX4_told 40 = .ok (.getfield 41, 3) := by decide +kernel
theorem dX4_told_43 : decode cX4_told 43 = .ok (.ireturn, 1) := by decide +kernel
theorem dX4_told_44 : decode cX4_told 44 = .ok (.aload_n 0, 1) := by decide +kernel
theorem dX4_told_45 : decode cX4_told 45 = .ok (.getfield 14, 3) := by decide +kernel
theorem dX4_told_48 : decode cX4_told 48 = .ok (.getfield 80, 3) := by decide +kernel
theorem dX4_told_51 : decode cX4_told 51 = .ok (.ireturn, 1) := by decide +kernel
theorem dX4_told_52 : decode cX4_told 52 = .ok (.aload_n 0, 1) := by decide +kernel
theorem dX4_told_53 : decode cX4_told 53 = .ok (.invokevirtual 170, 3) := by decide +kernel
theorem dX4_told_56 : decode cX4_told 56 = .ok (.ireturn, 1) := by decide +kernel
theorem dX4_told_57 : decode cX4_told 57 = .ok (.aload_n 0, 1) := by decide +kernel
theorem dX4_told_58 : decode cX4_told 58 = .ok (.getfield 14, 3) := by decide +kernel
theorem dX4_told_61 : decode cX4_told 61 = .ok (.invokevirtual 245, 3) := by decide +kernel
theorem dX4_told_64 : decode cX4_told 64 = .ok (.ireturn, 1) := by decide +kernel
theorem dX4_told_65 : decode cX4_told 65 = .ok (.aload_n 0, 1) := by decide +kernel
theorem dX4_told_66 : decode cX4_told 66 = .ok (.getfield 14, 3) := by decide +kernel
theorem dX4_told_69 : decode cX4_told 69 = .ok (.invokevirtual 144, 3) := by decide +kernel
theorem dX4_told_72 : decode cX4_told 72 = .ok (.ireturn, 1) := by decide +kernel
theorem dX4_told_73 : decode cX4_told 73 = .ok (.bipush (-2), 2) := by decide +kernel
theorem dX4_told_75 : decode cX4_told 75 = .ok (.ireturn, 1) := by decide +kernel
theorem dX4_isMark_0 : decode cX4_isMark 0 = .ok (.iload_n 0, 1) := by decide +kernel
theorem dX4_isMark_1 : decode cX4_isMark 1 = .ok (.ifCond .lt 13, 3) := by decide +kernel
theorem dX4_isMark_4 : decode cX4_isMark 4 = .ok (.iload_n 0, 1) := by decide +kernel
theorem dX4_isMark_5 : decode cX4_isMark 5 = .ok (.bipush 9, 2) := by decide +kernel
theorem dX4_isMark_7 : decode cX4_isMark 7 = .ok (.if_icmp .gt 7, 3) := by decide +kernel
theorem dX4_isMark_10 : decode cX4_isMark 10 = .ok (.iconst 1, 1) := by decide +kernel
theorem dX4_isMark_11 : decode cX4_isMark 11 = .ok (.goto 4, 3) := by decide +kernel
theorem dX4_isMark_14 : decode cX4_isMark 14 = .ok (.iconst 0, 1) := by decide +kernel
theorem dX4_isMark_15 : decode cX4_isMark 15 = .ok (.ireturn, 1) := by decide +kernel
theorem dX4_isDepth_0 : decode cX4_isDepth 0 = .ok (.iload_n 0, 1) := by decide +kernel
theorem dX4_isDepth_1 : decode cX4_isDepth 1 = .ok (.ifCond .lt 13, 3) := by decide +kernel
theorem dX4_isDepth_4 : decode cX4_isDepth 4 = .ok (.iload_n 0, 1) := by decide +kernel
theorem dX4_isDepth_5 : decode cX4_isDepth 5 = .ok (.bipush 20, 2) := by decide +kernel
theorem dX4_isDepth_7 : decode cX4_isDepth 7 = .ok (.if_icmp .gt 7, 3) := by decide +kernel
theorem dX4_isDepth_10 : decode cX4_isDepth 10 = .ok (.iconst 1, 1) := by decide +kernel
theorem dX4_isDepth_11 : decode cX4_isDepth 11 = .ok (.goto 4, 3) := by decide +kernel
theorem dX4_isDepth_14 : decode cX4_isDepth 14 = .ok (.iconst 0, 1) := by decide +kernel
theorem dX4_isDepth_15 : decode cX4_isDepth 15 = .ok (.ireturn, 1) := by decide +kernel
theorem dX4_isLane_0 : decode cX4_isLane 0 = .ok (.iload_n 0, 1) := by decide +kernel
theorem dX4_isLane_1 : decode cX4_isLane 1 = .ok (.ifCond .lt 12, 3) := by decide +kernel
theorem dX4_isLane_4 : decode cX4_isLane 4 = .ok (.iload_n 0, 1) := by decide +kernel
theorem dX4_isLane_5 : decode cX4_isLane 5 = .ok (.iconst 2, 1) := by decide +kernel
theorem dX4_isLane_6 : decode cX4_isLane 6 = .ok (.if_icmp .gt 7, 3) := by decide +kernel
theorem dX4_isLane_9 : decode cX4_isLane 9 = .ok (.iconst 1, 1) := by decide +kernel
theorem dX4_isLane_10 : decode cX4_isLane 10 = .ok (.goto 4, 3) := by decide +kernel
theorem dX4_isLane_13 : decode cX4_isLane 13 = .ok (.iconst 0, 1) := by decide +kernel
theorem dX4_isLane_14 : decode cX4_isLane 14 = .ok (.ireturn, 1) := by decide +kernel
theorem dX4_slotOf_0 : decode cX4_slotOf 0 = .ok (.iload_n 0, 1) := by decide +kernel
theorem dX4_slotOf_1 : decode cX4_slotOf 1 = .ok (.bipush 6, 2) := by decide +kernel
theorem dX4_slotOf_3 : decode cX4_slotOf 3 = .ok (.imul, 1) := by decide +kernel
theorem dX4_slotOf_4 : decode cX4_slotOf 4 = .ok (.iload_n 1, 1) := by decide +kernel
theorem dX4_slotOf_5 : decode cX4_slotOf 5 = .ok (.iadd, 1) := by decide +kernel
theorem dX4_slotOf_6 : decode cX4_slotOf 6 = .ok (.ireturn, 1) := by decide +kernel
theorem dX4_postOf_0 : decode cX4_postOf 0 = .ok (.iload_n 0, 1) := by decide +kernel
theorem dX4_postOf_1 : decode cX4_postOf 1 = .ok (.bipush 6, 2) := by decide +kernel
theorem dX4_postOf_3 : decode cX4_postOf 3 = .ok (.idiv, 1) := by decide +kernel
theorem dX4_postOf_4 : decode cX4_postOf 4 = .ok (.ireturn, 1) := by decide +kernel
theorem dX4_portOf_0 : decode cX4_portOf 0 = .ok (.iload_n 0, 1) := by decide +kernel
theorem dX4_portOf_1 : decode cX4_portOf 1 = .ok (.bipush 6, 2) := by decide +kernel
theorem dX4_portOf_3 : decode cX4_portOf 3 = .ok (.irem, 1) := by decide +kernel
theorem dX4_portOf_4 : decode cX4_portOf 4 = .ok (.ireturn, 1) := by decide +kernel
theorem dX4_netIsNew_0 : decode cX4_netIsNew 0 = .ok (.aload_n 0, 1) := by decide +kernel
theorem dX4_netIsNew_1 : decode cX4_netIsNew 1 = .ok (.getfield 23, 3) := by decide +kernel
theorem dX4_netIsNew_4 : decode cX4_netIsNew 4 = .ok (.invokevirtual 66, 3) := by decide +kernel
theorem dX4_netIsNew_7 : decode cX4_netIsNew 7 = .ok (.aload_n 0, 1) := by decide +kernel
theorem dX4_netIsNew_8 : decode cX4_netIsNew 8 = .ok (.getfield 30, 3) := by decide +kernel
theorem dX4_netIsNew_11 : decode cX4_netIsNew 11 = .ok (.iconst 0, 1) := by decide +kernel
theorem dX4_netIsNew_12 : decode cX4_netIsNew 12 = .ok (.putfield 183, 3) := by decide +kernel
theorem dX4_netIsNew_15 : decode cX4_netIsNew 15 = .ok (.return_, 1) := by decide +kernel
theorem dX4_hangsTogether_0 : decode cX4_hangsTogether 0 = .ok (.aload_n 0, 1) := by decide +kernel
theorem dX4_hangsTogether_1 : decode cX4_hangsTogether 1 = .ok (.getfield 14, 3) := by decide +kernel
theorem dX4_hangsTogether_4 : decode cX4_hangsTogether 4 = .ok (.getfield 41, 3) := by decide +kernel
theorem dX4_hangsTogether_7 : decode cX4_hangsTogether 7 = .ok (.ifCond .le 24, 3) := by decide +kernel
theorem dX4_hangsTogether_10 : decode cX4_hangsTogether 10 = .ok (.aload_n 0, 1) := by decide +kernel
theorem dX4_hangsTogether_11 : decode cX4_hangsTogether 11 = .ok (.getfield 14, 3) := by decide +kernel
theorem dX4_hangsTogether_14 : decode cX4_hangsTogether 14 = .ok (.invokevirtual 144, 3) := by decide +kernel
theorem dX4_hangsTogether_17 : decode cX4_hangsTogether 17 = .ok (.aload_n 0, 1) := by decide +kernel
theorem dX4_hangsTogether_18 : decode cX4_hangsTogether 18 = .ok (.getfield 14, 3) := by decide +kernel
theorem dX4_hangsTogether_21 : decode cX4_hangsTogether 21 = .ok (.getfield 41, 3) := by decide +kernel
theorem dX4_hangsTogether_24 : decode cX4_hangsTogether 24 = .ok (.if_icmp .ne 7, 3) := by decide +kernel
theorem dX4_hangsTogether_27 : decode cX4_hangsTogether 27 = .ok (.iconst 1, 1) := by decide +kernel
theorem dX4_hangsTogether_28 : decode cX4_hangsTogether 28 = .ok (.goto 4, 3) := by decide +kernel
theorem dX4_hangsTogether_31 : decode cX4_hangsTogether 31 = .ok (.iconst 0, 1) := by decide +kernel
theorem dX4_hangsTogether_32 : decode cX4_hangsTogether 32 = .ok (.ireturn, 1) := by decide +kernel
theorem dX4_unlikeAtRest_0 : decode cX4_unlikeAtRest 0 = .ok (.aload_n 0, 1) := by decide +kernel
theorem dX4_unlikeAtRest_1 : decode cX4_unlikeAtRest 1 = .ok (.getfield 23, 3) := by decide +kernel
theorem dX4_unlikeAtRest_4 : decode cX4_unlikeAtRest 4 = .ok (.bipush 20, 2) := by decide +kernel
theorem dX4_unlikeAtRest_6 : decode cX4_unlikeAtRest 6 = .ok (.invokevirtual 164, 3) := by decide +kernel
theorem dX4_unlikeAtRest_9 : decode cX4_unlikeAtRest 9 = .ok (.ireturn, 1) := by decide +kernel
theorem dX4_power_0 : decode cX4_power 0 = .ok (.lconst 1, 1) := by decide +kernel
theorem dX4_power_1 : decode cX4_power 1 = .ok (.lstore_n 2, 1) := by decide +kernel
theorem dX4_power_2 : decode cX4_power 2 = .ok (.iconst 0, 1) := by decide +kernel
theorem dX4_power_3 : decode cX4_power 3 = .ok (.istore 4, 2) := by decide +kernel
theorem dX4_power_5 : decode cX4_power 5 = .ok (.iload 4, 2) := by decide +kernel
theorem dX4_power_7 : decode cX4_power 7 = .ok (.iload_n 1, 1) := by decide +kernel
theorem dX4_power_8 : decode cX4_power 8 = .ok (.if_icmp .ge 14, 3) := by decide +kernel
theorem dX4_power_11 : decode cX4_power 11 = .ok (.lload_n 2, 1) := by decide +kernel
theorem dX4_power_12 : decode cX4_power 12 = .ok (.iload_n 0, 1) := by decide +kernel
theorem dX4_power_13 : decode cX4_power 13 = .ok (.i2l, 1) := by decide +kernel
theorem dX4_power_14 : decode cX4_power 14 = .ok (.lmul, 1) := by decide +kernel
theorem dX4_power_15 : decode cX4_power 15 = .ok (.lstore_n 2, 1) := by decide +kernel
theorem dX4_power_16 : decode cX4_power 16 = .ok (.iinc 4 1, 3) := by decide +kernel
theorem dX4_power_19 : decode cX4_power 19 = .ok (.goto (-14), 3) := by decide +kernel
theorem dX4_power_22 : decode cX4_power 22 = .ok (.lload_n 2, 1) := by decide +kernel
theorem dX4_power_23 : decode cX4_power 23 = .ok (.lreturn, 1) := by decide +kernel
theorem dX4_rowsWithOneGreatest_0 : decode cX4_rowsWithOneGreatest 0 = .ok (.lconst 0, 1) := by decide +kernel
theorem dX4_rowsWithOneGreatest_1 : decode cX4_rowsWithOneGreatest 1 = .ok (.lstore_n 2, 1) := by decide +kernel
theorem dX4_rowsWithOneGreatest_2 : decode cX4_rowsWithOneGreatest 2 = .ok (.iconst 0, 1) := by decide +kernel
theorem dX4_rowsWithOneGreatest_3 : decode cX4_rowsWithOneGreatest 3 = .ok (.istore 4, 2) := by decide +kernel
theorem dX4_rowsWithOneGreatest_5 : decode cX4_rowsWithOneGreatest 5 = .ok (.iload 4, 2) := by decide +kernel
theorem dX4_rowsWithOneGreatest_7 : decode cX4_rowsWithOneGreatest 7 = .ok (.iload_n 0, 1) := by decide +kernel
theorem dX4_rowsWithOneGreatest_8 : decode cX4_rowsWithOneGreatest 8 = .ok (.if_icmp .ge 20, 3) := by decide +kernel
theorem dX4_rowsWithOneGreatest_11 : decode cX4_rowsWithOneGreatest 11 = .ok (.lload_n 2, 1) := by decide +kernel
theorem dX4_rowsWithOneGreatest_12 : decode cX4_rowsWithOneGreatest 12 = .ok (.iload 4, 2) := by decide +kernel
theorem dX4_rowsWithOneGreatest_14 : decode cX4_rowsWithOneGreatest 14 = .ok (.iload_n 1, 1) := by decide +kernel
theorem dX4_rowsWithOneGreatest_15 : decode cX4_rowsWithOneGreatest 15 = .ok (.iconst 1, 1) := by decide +kernel
theorem dX4_rowsWithOneGreatest_16 : decode cX4_rowsWithOneGreatest 16 = .ok (.isub, 1) := by decide +kernel
theorem dX4_rowsWithOneGreatest_17 : decode cX4_rowsWithOneGreatest 17 = .ok (.invokestatic 201, 3) := by decide +kernel
theorem dX4_rowsWithOneGreatest_20 : decode cX4_rowsWithOneGreatest 20 = .ok (.ladd, 1) := by decide +kernel
theorem dX4_rowsWithOneGreatest_21 : decode cX4_rowsWithOneGreatest 21 = .ok (.lstore_n 2, 1) := by decide +kernel
theorem dX4_rowsWithOneGreatest_22 : decode cX4_rowsWithOneGreatest 22 = .ok (.iinc 4 1, 3) := by decide +kernel
theorem dX4_rowsWithOneGreatest_25 : decode cX4_rowsWithOneGreatest 25 = .ok (.goto (-20), 3) := by decide +kernel
theorem dX4_rowsWithOneGreatest_28 : decode cX4_rowsWithOneGreatest 28 = .ok (.iload_n 1, 1) := by decide +kernel
theorem dX4_rowsWithOneGreatest_29 : decode cX4_rowsWithOneGreatest 29 = .ok (.i2l, 1) := by decide +kernel
theorem dX4_rowsWithOneGreatest_30 : decode cX4_rowsWithOneGreatest 30 = .ok (.lload_n 2, 1) := by decide +kernel
theorem dX4_rowsWithOneGreatest_31 : decode cX4_rowsWithOneGreatest 31 = .ok (.lmul, 1) := by decide +kernel
theorem dX4_rowsWithOneGreatest_32 : decode cX4_rowsWithOneGreatest 32 = .ok (.lreturn, 1) := by decide +kernel
theorem dX4_rowAt_0 : decode cX4_rowAt 0 = .ok (.iload_n 1, 1) := by decide +kernel
theorem dX4_rowAt_1 : decode cX4_rowAt 1 = .ok (.ifCond .lt 17, 3) := by decide +kernel
theorem dX4_rowAt_4 : decode cX4_rowAt 4 = .ok (.iload_n 1, 1) := by decide +kernel
theorem dX4_rowAt_5 : decode cX4_rowAt 5 = .ok (.iconst 4, 1) := by decide +kernel
theorem dX4_rowAt_6 : decode cX4_rowAt 6 = .ok (.if_icmp .ge 12, 3) := by decide +kernel
theorem dX4_rowAt_9 : decode cX4_rowAt 9 = .ok (.aload_n 0, 1) := by decide +kernel
theorem dX4_rowAt_10 : decode cX4_rowAt 10 = .ok (.getfield 36, 3) := by decide +kernel
theorem dX4_rowAt_13 : decode cX4_rowAt 13 = .ok (.iload_n 1, 1) := by decide +kernel
theorem dX4_rowAt_14 : decode cX4_rowAt 14 = .ok (.aaload, 1) := by decide +kernel
theorem dX4_rowAt_15 : decode cX4_rowAt 15 = .ok (.goto 4, 3) := by decide +kernel
theorem dX4_rowAt_18 : decode cX4_rowAt 18 = .ok (.aconst_null, 1) := by decide +kernel
theorem dX4_rowAt_19 : decode cX4_rowAt 19 = .ok (.areturn, 1) := by decide +kernel
theorem dX4_faultAsRowOf_0 : decode cX4_faultAsRowOf 0 = .ok (.aload_n 0, 1) := by decide +kernel
theorem dX4_faultAsRowOf_1 : decode cX4_faultAsRowOf 1 = .ok (.getfield 211, 3) := by decide +kernel
theorem dX4_faultAsRowOf_4 : decode cX4_faultAsRowOf 4 = .ok (.ifCond .ne 5, 3) := by decide +kernel
theorem dX4_faultAsRowOf_7 : decode cX4_faultAsRowOf 7 = .ok (.iconst 1, 1) := by decide +kernel
theorem dX4_faultAsRowOf_8 : decode cX4_faultAsRowOf 8 = .ok (.ireturn, 1) := by decide +kernel
theorem dX4_faultAsRowOf_9 : decode cX4_faultAsRowOf 9 = .ok (.aload_n 0, 1) := by decide +kernel
theorem dX4_faultAsRowOf_10 : decode cX4_faultAsRowOf 10 = .ok (.getfield 215, 3) := by decide +kernel
theorem dX4_faultAsRowOf_13 : decode cX4_faultAsRowOf 13 = .ok (.iload_n 1, 1) := by decide +kernel
theorem dX4_faultAsRowOf_14 : decode cX4_faultAsRowOf 14 = .ok (.if_icmp .ne 7, 3) := by decide +kernel
theorem dX4_faultAsRowOf_17 : decode cX4_faultAsRowOf 17 = .ok (.iconst 0, 1) := by decide +kernel
theorem dX4_faultAsRowOf_18 : decode cX4_faultAsRowOf 18 = .ok (.goto 4, 3) := by decide +kernel
theorem dX4_faultAsRowOf_21 : decode cX4_faultAsRowOf 21 = .ok (.iconst 2, 1) := by decide +kernel
theorem dX4_faultAsRowOf_22 : decode cX4_faultAsRowOf 22 = .ok (.ireturn, 1) := by decide +kernel
theorem dX4_comeTo_0 : decode cX4_comeTo 0 = .ok (.aload_n 0, 1) := by decide +kernel
theorem dX4_comeTo_1 : decode cX4_comeTo 1 = .ok (.iload_n 1, 1) := by decide +kernel
theorem dX4_comeTo_2 : decode cX4_comeTo 2 = .ok (.putfield 83, 3) := by decide +kernel
theorem dX4_comeTo_5 : decode cX4_comeTo 5 = .ok (.bipush (-10), 2) := by decide +kernel
theorem dX4_comeTo_7 : decode cX4_comeTo 7 = .ok (.iload_n 1, 1) := by decide +kernel
theorem dX4_comeTo_8 : decode cX4_comeTo 8 = .ok (.isub, 1) := by decide +kernel
theorem dX4_comeTo_9 : decode cX4_comeTo 9 = .ok (.ireturn, 1) := by decide +kernel
theorem dX4_cutTo_0 : decode cX4_cutTo 0 = .ok (.iload_n 0, 1) := by decide +kernel
theorem dX4_cutTo_1 : decode cX4_cutTo 1 = .ok (.ifCond .ne 6, 3) := by decide +kernel
theorem dX4_cutTo_4 : decode cX4_cutTo 4 = .ok (.iload_n 1, 1) := by decide +kernel
theorem dX4_cutTo_5 : decode cX4_cutTo 5 = .ok (.i2b, 1) := by decide +kernel
theorem dX4_cutTo_6 : decode cX4_cutTo 6 = .ok (.ireturn, 1) := by decide +kernel
theorem dX4_cutTo_7 : decode cX4_cutTo 7 = .ok (.iload_n 0, 1) := by decide +kernel
theorem dX4_cutTo_8 : decode cX4_cutTo 8 = .ok (.iconst 1, 1) := by decide +kernel
theorem dX4_cutTo_9 : decode cX4_cutTo 9 = .ok (.if_icmp .ne 8, 3) := by decide +kernel
theorem dX4_cutTo_12 : decode cX4_cutTo 12 = .ok (.iload_n 1, 1) := by decide +kernel
theorem dX4_cutTo_13 : decode cX4_cutTo 13 = .ok (.i2s, 1) := by decide +kernel
theorem dX4_cutTo_14 : decode cX4_cutTo 14 = .ok (.goto 4, 3) := by decide +kernel
theorem dX4_cutTo_17 : decode cX4_cutTo 17 = .ok (.iload_n 1, 1) := by decide +kernel
theorem dX4_cutTo_18 : decode cX4_cutTo 18 = .ok (.ireturn, 1) := by decide +kernel
theorem dX4_isOfKind_0 : decode cX4_isOfKind 0 = .ok (.iload_n 2, 1) := by decide +kernel
theorem dX4_isOfKind_1 : decode cX4_isOfKind 1 = .ok (.lookupswitch 64 #[(1, 27), (2, 45)], 27) := by decide +kernel
theorem dX4_isOfKind_28 : decode cX4_isOfKind 28 = .ok (.aload_n 0, 1) := by decide +kernel
theorem dX4_isOfKind_29 : decode cX4_isOfKind 29 = .ok (.getfield 14, 3) := by decide +kernel
theorem dX4_isOfKind_32 : decode cX4_isOfKind 32 = .ok (.getfield 69, 3) := by decide +kernel
theorem dX4_isOfKind_35 : decode cX4_isOfKind 35 = .ok (.iload_n 1, 1) := by decide +kernel
theorem dX4_isOfKind_36 : decode cX4_isOfKind 36 = .ok (.iaload, 1) := by decide +kernel
theorem dX4_isOfKind_37 : decode cX4_isOfKind 37 = .ok (.ifCond .le 7, 3) := by decide +kernel
theorem dX4_isOfKind_40 : decode cX4_isOfKind 40 = .ok (.iconst 1, 1) := by decide +kernel
theorem dX4_isOfKind_41 : decode cX4_isOfKind 41 = .ok (.goto 4, 3) := by decide +kernel
theorem dX4_isOfKind_44 : decode cX4_isOfKind 44 = .ok (.iconst 0, 1) := by decide +kernel
theorem dX4_isOfKind_45 : decode cX4_isOfKind 45 = .ok (.ireturn, 1) := by decide +kernel
theorem dX4_isOfKind_46 : decode cX4_isOfKind 46 = .ok (.aload_n 0, 1) := by decide +kernel
theorem dX4_isOfKind_47 : decode cX4_isOfKind 47 = .ok (.getfield 14, 3) := by decide +kernel
theorem dX4_isOfKind_50 : decode cX4_isOfKind 50 = .ok (.getfield 69, 3) := by decide +kernel
theorem dX4_isOfKind_53 : decode cX4_isOfKind 53 = .ok (.iload_n 1, 1) := by decide +kernel
theorem dX4_isOfKind_54 : decode cX4_isOfKind 54 = .ok (.iaload, 1) := by decide +kernel
theorem dX4_isOfKind_55 : decode cX4_isOfKind 55 = .ok (.iconst 1, 1) := by decide +kernel
theorem dX4_isOfKind_56 : decode cX4_isOfKind 56 = .ok (.if_icmp .ne 7, 3) := by decide +kernel
theorem dX4_isOfKind_59 : decode cX4_isOfKind 59 = .ok (.iconst 1, 1) := by decide +kernel
theorem dX4_isOfKind_60 : decode cX4_isOfKind 60 = .ok (.goto 4, 3) := by decide +kernel
theorem dX4_isOfKind_63 : decode cX4_isOfKind 63 = .ok (.iconst 0, 1) := by decide +kernel
theorem dX4_isOfKind_64 : decode cX4_isOfKind 64 = .ok (.ireturn, 1) := by decide +kernel
theorem dX4_isOfKind_65 : decode cX4_isOfKind 65 = .ok (.iconst 1, 1) := by decide +kernel
theorem dX4_isOfKind_66 : decode cX4_isOfKind 66 = .ok (.ireturn, 1) := by decide +kernel
theorem dX4_tellAsPost_0 : decode cX4_tellAsPost 0 = .ok (.aload_n 0, 1) := by decide +kernel
theorem dX4_tellAsPost_1 : decode cX4_tellAsPost 1 = .ok (.iconst 1, 1) := by decide +kernel
theorem dX4_tellAsPost_2 : decode cX4_tellAsPost 2 = .ok (.invokevirtual 239, 3) := by decide +kernel
theorem dX4_tellAsPost_5 : decode cX4_tellAsPost 5 = .ok (.aload_n 0, 1) := by decide +kernel
theorem dX4_tellAsPost_6 : decode cX4_tellAsPost 6 = .ok (.getfield 14, 3) := by decide +kernel
theorem dX4_tellAsPost_9 : decode cX4_tellAsPost 9 = .ok (.getfield 62, 3) := by decide +kernel
theorem dX4_tellAsPost_12 : decode cX4_tellAsPost 12 = .ok (.iload_n 1, 1) := by decide +kernel
theorem dX4_tellAsPost_13 : decode cX4_tellAsPost 13 = .ok (.iaload, 1) := by decide +kernel
theorem dX4_tellAsPost_14 : decode cX4_tellAsPost 14 = .ok (.ireturn, 1) := by decide +kernel
theorem dX4_tellAsJoined_0 : decode cX4_tellAsJoined 0 = .ok (.aload_n 0, 1) := by decide +kernel
theorem dX4_tellAsJoined_1 : decode cX4_tellAsJoined 1 = .ok (.iconst 2, 1) := by decide +kernel
theorem dX4_tellAsJoined_2 : decode cX4_tellAsJoined 2 = .ok (.invokevirtual 239, 3) := by decide +kernel
theorem dX4_tellAsJoined_5 : decode cX4_tellAsJoined 5 = .ok (.aload_n 0, 1) := by decide +kernel
theorem dX4_tellAsJoined_6 : decode cX4_tellAsJoined 6 = .ok (.iload_n 1, 1) := by decide +kernel
theorem dX4_tellAsJoined_7 : decode cX4_tellAsJoined 7 = .ok (.invokevirtual 236, 3) := by decide +kernel
theorem dX4_tellAsJoined_10 : decode cX4_tellAsJoined 10 = .ok (.aload_n 0, 1) := by decide +kernel
theorem dX4_tellAsJoined_11 : decode cX4_tellAsJoined 11 = .ok (.getfield 14, 3) := by decide +kernel
theorem dX4_tellAsJoined_14 : decode cX4_tellAsJoined 14 = .ok (.getfield 69, 3) := by decide +kernel
theorem dX4_tellAsJoined_17 : decode cX4_tellAsJoined 17 = .ok (.iload_n 1, 1) := by decide +kernel
theorem dX4_tellAsJoined_18 : decode cX4_tellAsJoined 18 = .ok (.iaload, 1) := by decide +kernel
theorem dX4_tellAsJoined_19 : decode cX4_tellAsJoined 19 = .ok (.iadd, 1) := by decide +kernel
theorem dX4_tellAsJoined_20 : decode cX4_tellAsJoined 20 = .ok (.ireturn, 1) := by decide +kernel
theorem dX4_tellAsEnd_0 : decode cX4_tellAsEnd 0 = .ok (.aload_n 0, 1) := by decide +kernel
theorem dX4_tellAsEnd_1 : decode cX4_tellAsEnd 1 = .ok (.iconst 3, 1) := by decide +kernel
theorem dX4_tellAsEnd_2 : decode cX4_tellAsEnd 2 = .ok (.invokevirtual 239, 3) := by decide +kernel
theorem dX4_tellAsEnd_5 : decode cX4_tellAsEnd 5 = .ok (.aload_n 0, 1) := by decide +kernel
theorem dX4_tellAsEnd_6 : decode cX4_tellAsEnd 6 = .ok (.iload_n 1, 1) := by decide +kernel
theorem dX4_tellAsEnd_7 : decode cX4_tellAsEnd 7 = .ok (.invokevirtual 236, 3) := by decide +kernel
theorem dX4_tellAsEnd_10 : decode cX4_tellAsEnd 10 = .ok (.ineg, 1) := by decide +kernel
theorem dX4_tellAsEnd_11 : decode cX4_tellAsEnd 11 = .ok (.iconst 1, 1) := by decide +kernel
theorem dX4_tellAsEnd_12 : decode cX4_tellAsEnd 12 = .ok (.isub, 1) := by decide +kernel
theorem dX4_tellAsEnd_13 : decode cX4_tellAsEnd 13 = .ok (.ireturn, 1) := by decide +kernel
theorem dX4_leave_0 : decode cX4_leave 0 = .ok (.aload_n 0, 1) := by decide +kernel
theorem dX4_leave_1 : decode cX4_leave 1 = .ok (.bipush 31, 2) := by decide +kernel
theorem dX4_leave_3 : decode cX4_leave 3 = .ok (.aload_n 0, 1) := by decide +kernel
theorem dX4_leave_4 : decode cX4_leave 4 = .ok (.getfield 242, 3) := by decide +kernel
theorem dX4_leave_7 : decode cX4_leave 7 = .ok (.imul, 1) := by decide +kernel
theorem dX4_leave_8 : decode cX4_leave 8 = .ok (.iload_n 1, 1) := by decide +kernel
theorem dX4_leave_9 : decode cX4_leave 9 = .ok (.iadd, 1) := by decide +kernel
theorem dX4_leave_10 : decode cX4_leave 10 = .ok (.putfield 242, 3) := by decide +kernel
theorem dX4_leave_13 : decode cX4_leave 13 = .ok (.return_, 1) := by decide +kernel
