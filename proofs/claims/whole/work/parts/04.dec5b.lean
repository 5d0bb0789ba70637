theorem dX5_chosen_37 : decode cX5_chosen 37 = .ok (.invokevirtual 145, 3) := by decide +kernel
theorem dX5_chosen_40 : decode cX5_chosen 40 = .ok (.ifCond .eq 9, 3) := by decide +kernel
theorem dX5_chosen_43 : decode cX5_chosen 43 = .ok (.iinc 1 1, 3) := by decide +kernel
theorem dX5_chosen_46 : decode cX5_chosen 46 = .ok (.goto (-11), 3) := by decide +kernel
theorem dX5_chosen_49 : decode cX5_chosen 49 = .ok (.iload_n 1, 1) := by decide +kernel
theorem dX5_chosen_50 : decode cX5_chosen 50 = .ok (.ireturn, 1) := by decide +kernel
theorem dX5_kindred_0 : decode cX5_kindred 0 = .ok (.iconst 0, 1) := by decide +kernel
theorem dX5_kindred_1 : decode cX5_kindred 1 = .ok (.istore_n 2, 1) := by decide +kernel
theorem dX5_kindred_2 : decode cX5_kindred 2 = .ok (.iconst 0, 1) := by decide +kernel
theorem dX5_kindred_3 : decode cX5_kindred 3 = .ok (.istore_n 3, 1) := by decide +kernel
theorem dX5_kindred_4 : decode cX5_kindred 4 = .ok (.iload_n 3, 1) := by decide +kernel
theorem dX5_kindred_5 : decode cX5_kindred 5 = .ok (.aload_n 0, 1) := by decide +kernel
theorem dX5_kindred_6 : decode cX5_kindred 6 = .ok (.getfield 74, 3) := by decide +kernel
theorem dX5_kindred_9 : decode cX5_kindred 9 = .ok (.if_icmp .ge 30, 3) := by decide +kernel
theorem dX5_kindred_12 : decode cX5_kindred 12 = .ok (.iload_n 2, 1) := by decide +kernel
theorem dX5_kindred_13 : decode cX5_kindred 13 = .ok (.aload_n 0, 1) := by decide +kernel
theorem dX5_kindred_14 : decode cX5_kindred 14 = .ok (.iload_n 3, 1) := by decide +kernel
theorem dX5_kindred_15 : decode cX5_kindred 15 = .ok (.invokevirtual 145, 3) := by decide +kernel
theorem dX5_kindred_18 : decode cX5_kindred 18 = .ok (.aload_n 0, 1) := by decide +kernel
theorem dX5_kindred_19 : decode cX5_kindred 19 = .ok (.iload_n 1, 1) := by decide +kernel
theorem dX5_kindred_20 : decode cX5_kindred 20 = .ok (.invokevirtual 145, 3) := by decide +kernel
theorem dX5_kindred_23 : decode cX5_kindred 23 = .ok (.if_icmp .ne 7, 3) := by decide +kernel
theorem dX5_kindred_26 : decode cX5_kindred 26 = .ok (.iconst 1, 1) := by decide +kernel
theorem dX5_kindred_27 : decode cX5_kindred 27 = .ok (.goto 4, 3) := by decide +kernel
theorem dX5_kindred_30 : decode cX5_kindred 30 = .ok (.iconst 0, 1) := by decide +kernel
theorem dX5_kindred_31 : decode cX5_kindred 31 = .ok (.iadd, 1) := by decide +kernel
theorem dX5_kindred_32 : decode cX5_kindred 32 = .ok (.istore_n 2, 1) := by decide +kernel
theorem dX5_kindred_33 : decode cX5_kindred 33 = .ok (.iinc 3 1, 3) := by decide +kernel
theorem dX5_kindred_36 : decode cX5_kindred 36 = .ok (.goto (-32), 3) := by decide +kernel
theorem dX5_kindred_39 : decode cX5_kindred 39 = .ok (.iload_n 2, 1) := by decide +kernel
theorem dX5_kindred_40 : decode cX5_kindred 40 = .ok (.ireturn, 1) := by decide +kernel
theorem dX5_about_0 : decode cX5_about 0 = .ok (.aload_n 0, 1) := by decide +kernel
theorem dX5_about_1 : decode cX5_about 1 = .ok (.iload_n 1, 1) := by decide +kernel
theorem dX5_about_2 : decode cX5_about 2 = .ok (.invokevirtual 81, 3) := by decide +kernel
theorem dX5_about_5 : decode cX5_about 5 = .ok (.ifCond .eq 5, 3) := by decide +kernel
theorem dX5_about_8 : decode cX5_about 8 = .ok (.iconst (-1), 1) := by decide +kernel
theorem dX5_about_9 : decode cX5_about 9 = .ok (.ireturn, 1) := by decide +kernel
theorem dX5_about_10 : decode cX5_about 10 = .ok (.aload_n 0, 1) := by decide +kernel
theorem dX5_about_11 : decode cX5_about 11 = .ok (.invokevirtual 139, 3) := by decide +kernel
theorem dX5_about_14 : decode cX5_about 14 = .ok (.iload_n 2, 1) := by decide +kernel
theorem dX5_about_15 : decode cX5_about 15 = .ok (.tableswitch 71 0 4 #[33, 40, 47, 53, 59], 33) := by decide +kernel
theorem dX5_about_48 : decode cX5_about 48 = .ok (.aload_n 0, 1) := by decide +kernel
theorem dX5_about_49 : decode cX5_about 49 = .ok (.getfield 7, 3) := by decide +kernel
theorem dX5_about_52 : decode cX5_about 52 = .ok (.iload_n 1, 1) := by decide +kernel
theorem dX5_about_53 : decode cX5_about 53 = .ok (.iaload, 1) := by decide +kernel
theorem dX5_about_54 : decode cX5_about 54 = .ok (.ireturn, 1) := by decide +kernel
theorem dX5_about_55 : decode cX5_about 55 = .ok (.aload_n 0, 1) := by decide +kernel
theorem dX5_about_56 : decode cX5_about 56 = .ok (.getfield 13, 3) := by decide +kernel
theorem dX5_about_59 : decode cX5_about 59 = .ok (.iload_n 1, 1) := by decide +kernel
theorem dX5_about_60 : decode cX5_about 60 = .ok (.iaload, 1) := by decide +kernel
theorem dX5_about_61 : decode cX5_about 61 = .ok (.ireturn, 1) := by decide +kernel
theorem dX5_about_62 : decode cX5_about 62 = .ok (.aload_n 0, 1) := by decide +kernel
theorem dX5_about_63 : decode cX5_about 63 = .ok (.iload_n 1, 1) := by decide +kernel
theorem dX5_about_64 : decode cX5_about 64 = .ok (.invokevirtual 145, 3) := by decide +kernel
theorem dX5_about_67 : decode cX5_about 67 = .ok (.ireturn, 1) := by decide +kernel
theorem dX5_about_68 : decode cX5_about 68 = .ok (.aload_n 0, 1) := by decide +kernel
theorem dX5_about_69 : decode cX5_about 69 = .ok (.iload_n 1, 1) := by decide +kernel
theorem dX5_about_70 : decode cX5_about 70 = .ok (.invokevirtual 149, 3) := by decide +kernel
theorem dX5_about_73 : decode cX5_about 73 = .ok (.ireturn, 1) := by decide +kernel
theorem dX5_about_74 : decode cX5_about 74 = .ok (.aload_n 0, 1) := by decide +kernel
theorem dX5_about_75 : decode cX5_about 75 = .ok (.invokevirtual 120, 3) := by decide +kernel
theorem dX5_about_78 : decode cX5_about 78 = .ok (.pop, 1) := by decide +kernel
theorem dX5_about_79 : decode cX5_about 79 = .ok (.aload_n 0, 1) := by decide +kernel
theorem dX5_about_80 : decode cX5_about 80 = .ok (.getfield 22, 3) := by decide +kernel
theorem dX5_about_83 : decode cX5_about 83 = .ok (.iload_n 1, 1) := by decide +kernel
theorem dX5_about_84 : decode cX5_about 84 = .ok (.iaload, 1) := by decide +kernel
theorem dX5_about_85 : decode cX5_about 85 = .ok (.ireturn, 1) := by decide +kernel
theorem dX5_about_86 : decode cX5_about 86 = .ok (.bipush (-2), 2) := by decide +kernel
theorem dX5_about_88 : decode cX5_about 88 = .ok (.ireturn, 1) := by decide +kernel
theorem dX5_numberBelow_0 : decode cX5_numberBelow 0 = .ok (.aload_n 0, 1) := by decide +kernel
theorem dX5_numberBelow_1 : decode cX5_numberBelow 1 = .ok (.aload_n 0, 1) := by decide +kernel
theorem dX5_numberBelow_2 : decode cX5_numberBelow 2 = .ok (.getfield 152, 3) := by decide +kernel
theorem dX5_numberBelow_5 : decode cX5_numberBelow 5 = .ok (.ldc2_w 156, 3) := by decide +kernel
theorem dX5_numberBelow_8 : decode cX5_numberBelow 8 = .ok (.lmul, 1) := by decide +kernel
theorem dX5_numberBelow_9 : decode cX5_numberBelow 9 = .ok (.ldc2_w 158, 3) := by decide +kernel
theorem dX5_numberBelow_12 : decode cX5_numberBelow 12 = .ok (.ladd, 1) := by decide +kernel
theorem dX5_numberBelow_13 : decode cX5_numberBelow 13 = .ok (.putfield 152, 3) := by decide +kernel
theorem dX5_numberBelow_16 : decode cX5_numberBelow 16 = .ok (.aload_n 0, 1) := by decide +kernel
theorem dX5_numberBelow_17 : decode cX5_numberBelow 17 = .ok (.getfield 152, 3) := by decide +kernel
theorem dX5_numberBelow_20 : decode cX5_numberBelow 20 = .ok (.ldc2_w 160, 3) := by decide +kernel
theorem dX5_numberBelow_23 : decode cX5_numberBelow 23 = .ok (.land, 1) := by decide +kernel
theorem dX5_numberBelow_24 : decode cX5_numberBelow 24 = .ok (.ldc2_w 162, 3) := by decide +kernel
theorem dX5_numberBelow_27 : decode cX5_numberBelow 27 = .ok (.ldiv, 1) := by decide +kernel
theorem dX5_numberBelow_28 : decode cX5_numberBelow 28 = .ok (.iload_n 1, 1) := by decide +kernel
theorem dX5_numberBelow_29 : decode cX5_numberBelow 29 = .ok (.i2l, 1) := by decide +kernel
theorem dX5_numberBelow_30 : decode cX5_numberBelow 30 = .ok (.lrem, 1) := by decide +kernel
theorem dX5_numberBelow_31 : decode cX5_numberBelow 31 = .ok (.l2i, 1) := by decide +kernel
theorem dX5_numberBelow_32 : decode cX5_numberBelow 32 = .ok (.ireturn, 1) := by decide +kernel
theorem dX5_sendAll_0 : decode cX5_sendAll 0 = .ok (.iconst 0, 1) := by decide +kernel
theorem dX5_sendAll_1 : decode cX5_sendAll 1 = .ok (.istore_n 3, 1) := by decide +kernel
theorem dX5_sendAll_2 : decode cX5_sendAll 2 = .ok (.iload_n 3, 1) := by decide +kernel
theorem dX5_sendAll_3 : decode cX5_sendAll 3 = .ok (.aload_n 0, 1) := by decide +kernel
theorem dX5_sendAll_4 : decode cX5_sendAll 4 = .ok (.getfield 13, 3) := by decide +kernel
theorem dX5_sendAll_7 : decode cX5_sendAll 7 = .ok (.iload_n 1, 1) := by decide +kernel
theorem dX5_sendAll_8 : decode cX5_sendAll 8 = .ok (.iaload, 1) := by decide +kernel
theorem dX5_sendAll_9 : decode cX5_sendAll 9 = .ok (.if_icmp .ge 54, 3) := by decide +kernel
theorem dX5_sendAll_12 : decode cX5_sendAll 12 = .ok (.aload_n 0, 1) := by decide +kernel
theorem dX5_sendAll_13 : decode cX5_sendAll 13 = .ok (.getfield 46, 3) := by decide +kernel
theorem dX5_sendAll_16 : decode cX5_sendAll 16 = .ok (.bipush 6, 2) := by decide +kernel
theorem dX5_sendAll_18 : decode cX5_sendAll 18 = .ok (.iload_n 1, 1) := by decide +kernel
theorem dX5_sendAll_19 : decode cX5_sendAll 19 = .ok (.imul, 1) := by decide +kernel
theorem dX5_sendAll_20 : decode cX5_sendAll 20 = .ok (.iload_n 3, 1) := by decide +kernel
theorem dX5_sendAll_21 : decode cX5_sendAll 21 = .ok (.iadd, 1) := by decide +kernel
theorem dX5_sendAll_22 : decode cX5_sendAll 22 = .ok (.iload_n 3, 1) := by decide +kernel
theorem dX5_sendAll_23 : decode cX5_sendAll 23 = .ok (.iload_n 2, 1) := by decide +kernel
theorem dX5_sendAll_24 : decode cX5_sendAll 24 = .ok (.if_icmp .eq 17, 3) := by decide +kernel
theorem dX5_sendAll_27 : decode cX5_sendAll 27 = .ok (.aload_n 0, 1) := by decide +kernel
theorem dX5_sendAll_28 : decode cX5_sendAll 28 = .ok (.getfield 46, 3) := by decide +kernel
theorem dX5_sendAll_31 : decode cX5_sendAll 31 = .ok (.bipush 6, 2) := by decide +kernel
theorem dX5_sendAll_33 : decode cX5_sendAll 33 = .ok (.iload_n 1, 1) := by decide +kernel
theorem dX5_sendAll_34 : decode cX5_sendAll 34 = .ok (.imul, 1) := by decide +kernel
theorem dX5_sendAll_35 : decode cX5_sendAll 35 = .ok (.iload_n 3, 1) := by decide +kernel
theorem dX5_sendAll_36 : decode cX5_sendAll 36 = .ok (.iadd, 1) := by decide +kernel
theorem dX5_sendAll_37 : decode cX5_sendAll 37 = .ok (.iaload, 1) := by decide +kernel
theorem dX5_sendAll_38 : decode cX5_sendAll 38 = .ok (.ifCond .le 17, 3) := by decide +kernel
theorem dX5_sendAll_41 : decode cX5_sendAll 41 = .ok (.aload_n 0, 1) := by decide +kernel
theorem dX5_sendAll_42 : decode cX5_sendAll 42 = .ok (.getfield 46, 3) := by decide +kernel
theorem dX5_sendAll_45 : decode cX5_sendAll 45 = .ok (.bipush 6, 2) := by decide +kernel
theorem dX5_sendAll_47 : decode cX5_sendAll 47 = .ok (.iload_n 1, 1) := by decide +kernel
theorem dX5_sendAll_48 : decode cX5_sendAll 48 = .ok (.imul, 1) := by decide +kernel
theorem dX5_sendAll_49 : decode cX5_sendAll 49 = .ok (.iload_n 3, 1) := by decide +kernel
theorem dX5_sendAll_50 : decode cX5_sendAll 50 = .ok (.iadd, 1) := by decide +kernel
theorem dX5_sendAll_51 : decode cX5_sendAll 51 = .ok (.iaload, 1) := by decide +kernel
theorem dX5_sendAll_52 : decode cX5_sendAll 52 = .ok (.goto 4, 3) := by decide +kernel
theorem dX5_sendAll_55 : decode cX5_sendAll 55 = .ok (.iconst 1, 1) := by decide +kernel
theorem dX5_sendAll_56 : decode cX5_sendAll 56 = .ok (.iastore, 1) := by decide +kernel
theorem dX5_sendAll_57 : decode cX5_sendAll 57 = .ok (.iinc 3 1, 3) := by decide +kernel
theorem dX5_sendAll_60 : decode cX5_sendAll 60 = .ok (.goto (-58), 3) := by decide +kernel
theorem dX5_sendAll_63 : decode cX5_sendAll 63 = .ok (.return_, 1) := by decide +kernel
theorem dX5_onWay_0 : decode cX5_onWay 0 = .ok (.iconst 0, 1) := by decide +kernel
theorem dX5_onWay_1 : decode cX5_onWay 1 = .ok (.istore_n 1, 1) := by decide +kernel
theorem dX5_onWay_2 : decode cX5_onWay 2 = .ok (.iconst 0, 1) := by decide +kernel
theorem dX5_onWay_3 : decode cX5_onWay 3 = .ok (.istore_n 2, 1) := by decide +kernel
theorem dX5_onWay_4 : decode cX5_onWay 4 = .ok (.iload_n 2, 1) := by decide +kernel
theorem dX5_onWay_5 : decode cX5_onWay 5 = .ok (.bipush 6, 2) := by decide +kernel
theorem dX5_onWay_7 : decode cX5_onWay 7 = .ok (.aload_n 0, 1) := by decide +kernel
theorem dX5_onWay_8 : decode cX5_onWay 8 = .ok (.getfield 74, 3) := by decide +kernel
theorem dX5_onWay_11 : decode cX5_onWay 11 = .ok (.imul, 1) := by decide +kernel
theorem dX5_onWay_12 : decode cX5_onWay 12 = .ok (.if_icmp .ge 27, 3) := by decide +kernel
theorem dX5_onWay_15 : decode cX5_onWay 15 = .ok (.iload_n 1, 1) := by decide +kernel
theorem dX5_onWay_16 : decode cX5_onWay 16 = .ok (.aload_n 0, 1) := by decide +kernel
theorem dX5_onWay_17 : decode cX5_onWay 17 = .ok (.getfield 46, 3) := by decide +kernel
theorem dX5_onWay_20 : decode cX5_onWay 20 = .ok (.iload_n 2, 1) := by decide +kernel
theorem dX5_onWay_21 : decode cX5_onWay 21 = .ok (.iaload, 1) := by decide +kernel
theorem dX5_onWay_22 : decode cX5_onWay 22 = .ok (.iconst 1, 1) := by decide +kernel
theorem dX5_onWay_23 : decode cX5_onWay 23 = .ok (.if_icmp .ne 7, 3) := by decide +kernel
theorem dX5_onWay_26 : decode cX5_onWay 26 = .ok (.iconst 1, 1) := by decide +kernel
theorem dX5_onWay_27 : decode cX5_onWay 27 = .ok (.goto 4, 3) := by decide +kernel
theorem dX5_onWay_30 : decode cX5_onWay 30 = .ok (.iconst 0, 1) := by decide +kernel
theorem dX5_onWay_31 : decode cX5_onWay 31 = .ok (.iadd, 1) := by decide +kernel
theorem dX5_onWay_32 : decode cX5_onWay 32 = .ok (.istore_n 1, 1) := by decide +kernel
theorem dX5_onWay_33 : decode cX5_onWay 33 = .ok (.iinc 2 1, 3) := by decide +kernel
theorem dX5_onWay_36 : decode cX5_onWay 36 = .ok (.goto (-32), 3) := by decide +kernel
theorem dX5_onWay_39 : decode cX5_onWay 39 = .ok (.iload_n 1, 1) := by decide +kernel
theorem dX5_onWay_40 : decode cX5_onWay 40 = .ok (.ireturn, 1) := by decide +kernel
theorem dX5_come_0 : decode cX5_come 0 = .ok (.aload_n 0, 1) := by decide +kernel
theorem dX5_come_1 : decode cX5_come 1 = .ok (.getfield 46, 3) := by decide +kernel
theorem dX5_come_4 : decode cX5_come 4 = .ok (.iload_n 1, 1) := by decide +kernel
theorem dX5_come_5 : decode cX5_come 5 = .ok (.iconst 2, 1) := by decide +kernel
theorem dX5_come_6 : decode cX5_come 6 = .ok (.iastore, 1) := by decide +kernel
theorem dX5_come_7 : decode cX5_come 7 = .ok (.iload_n 1, 1) := by decide +kernel
theorem dX5_come_8 : decode cX5_come 8 = .ok (.bipush 6, 2) := by decide +kernel
theorem dX5_come_10 : decode cX5_come 10 = .ok (.idiv, 1) := by decide +kernel
theorem dX5_come_11 : decode cX5_come 11 = .ok (.istore_n 2, 1) := by decide +kernel
theorem dX5_come_12 : decode cX5_come 12 = .ok (.aload_n 0, 1) := by decide +kernel
theorem dX5_come_13 : decode cX5_come 13 = .ok (.getfield 16, 3) := by decide +kernel
theorem dX5_come_16 : decode cX5_come 16 = .ok (.iload_n 1, 1) := by decide +kernel
theorem dX5_come_17 : decode cX5_come 17 = .ok (.iaload, 1) := by decide +kernel
theorem dX5_come_18 : decode cX5_come 18 = .ok (.istore_n 3, 1) := by decide +kernel
theorem dX5_come_19 : decode cX5_come 19 = .ok (.aload_n 0, 1) := by decide +kernel
theorem dX5_come_20 : decode cX5_come 20 = .ok (.getfield 34, 3) := by decide +kernel
theorem dX5_come_23 : decode cX5_come 23 = .ok (.aload_n 0, 1) := by decide +kernel
theorem dX5_come_24 : decode cX5_come 24 = .ok (.getfield 164, 3) := by decide +kernel
theorem dX5_come_27 : decode cX5_come 27 = .ok (.iload_n 3, 1) := by decide +kernel
theorem dX5_come_28 : decode cX5_come 28 = .ok (.iastore, 1) := by decide +kernel
theorem dX5_come_29 : decode cX5_come 29 = .ok (.aload_n 0, 1) := by decide +kernel
theorem dX5_come_30 : decode cX5_come 30 = .ok (.dup, 1) := by decide +kernel
theorem dX5_come_31 : decode cX5_come 31 = .ok (.getfield 164, 3) := by decide +kernel
theorem dX5_come_34 : decode cX5_come 34 = .ok (.iconst 1, 1) := by decide +kernel
theorem dX5_come_35 : decode cX5_come 35 = .ok (.iadd, 1) := by decide +kernel
theorem dX5_come_36 : decode cX5_come 36 = .ok (.putfield 164, 3) := by decide +kernel
theorem dX5_come_39 : decode cX5_come 39 = .ok (.aload_n 0, 1) := by decide +kernel
theorem dX5_come_40 : decode cX5_come 40 = .ok (.getfield 43, 3) := by decide +kernel
theorem dX5_come_43 : decode cX5_come 43 = .ok (.iload_n 3, 1) := by decide +kernel
theorem dX5_come_44 : decode cX5_come 44 = .ok (.dup2, 1) := by decide +kernel
theorem dX5_come_45 : decode cX5_come 45 = .ok (.iaload, 1) := by decide +kernel
theorem dX5_come_46 : decode cX5_come 46 = .ok (.iconst 1, 1) := by decide +kernel
theorem dX5_come_47 : decode cX5_come 47 = .ok (.iadd, 1) := by decide +kernel
theorem dX5_come_48 : decode cX5_come 48 = .ok (.iastore, 1) := by decide +kernel
theorem dX5_come_49 : decode cX5_come 49 = .ok (.aload_n 0, 1) := by decide +kernel
theorem dX5_come_50 : decode cX5_come 50 = .ok (.getfield 40, 3) := by decide +kernel
theorem dX5_come_53 : decode cX5_come 53 = .ok (.iload_n 3, 1) := by decide +kernel
theorem dX5_come_54 : decode cX5_come 54 = .ok (.iaload, 1) := by decide +kernel
theorem dX5_come_55 : decode cX5_come 55 = .ok (.ifCond .ge 40, 3) := by decide +kernel
theorem dX5_come_58 : decode cX5_come 58 = .ok (.aload_n 0, 1) := by decide +kernel
theorem dX5_come_59 : decode cX5_come 59 = .ok (.getfield 40, 3) := by decide +kernel
theorem dX5_come_62 : decode cX5_come 62 = .ok (.iload_n 3, 1) := by decide +kernel
theorem dX5_come_63 : decode cX5_come 63 = .ok (.aload_n 0, 1) := by decide +kernel
theorem dX5_come_64 : decode cX5_come 64 = .ok (.getfield 40, 3) := by decide +kernel
theorem dX5_come_67 : decode cX5_come 67 = .ok (.iload_n 2, 1) := by decide +kernel
theorem dX5_come_68 : decode cX5_come 68 = .ok (.iaload, 1) := by decide +kernel
theorem dX5_come_69 : decode cX5_come 69 = .ok (.iconst 1, 1) := by decide +kernel
theorem dX5_come_70 : decode cX5_come 70 = .ok (.iadd, 1) := by decide +kernel
theorem dX5_come_71 : decode cX5_come 71 = .ok (.iastore, 1) := by decide +kernel
theorem dX5_come_72 : decode cX5_come 72 = .ok (.aload_n 0, 1) := by decide +kernel
theorem dX5_come_73 : decode cX5_come 73 = .ok (.getfield 37, 3) := by decide +kernel
theorem dX5_come_76 : decode cX5_come 76 = .ok (.iload_n 3, 1) := by decide +kernel
theorem dX5_come_77 : decode cX5_come 77 = .ok (.aload_n 0, 1) := by decide +kernel
theorem dX5_come_78 : decode cX5_come 78 = .ok (.getfield 19, 3) := by decide +kernel
theorem dX5_come_81 : decode cX5_come 81 = .ok (.iload_n 1, 1) := by decide +kernel
theorem dX5_come_82 : decode cX5_come 82 = .ok (.iaload, 1) := by decide +kernel
theorem dX5_come_83 : decode cX5_come 83 = .ok (.iastore, 1) := by decide +kernel
theorem dX5_come_84 : decode cX5_come 84 = .ok (.aload_n 0, 1) := by decide +kernel
theorem dX5_come_85 : decode cX5_come 85 = .ok (.iload_n 3, 1) := by decide +kernel
theorem dX5_come_86 : decode cX5_come 86 = .ok (.aload_n 0, 1) := by decide +kernel
theorem dX5_come_87 : decode cX5_come 87 = .ok (.getfield 19, 3) := by decide +kernel
theorem dX5_come_90 : decode cX5_come 90 = .ok (.iload_n 1, 1) := by decide +kernel
theorem dX5_come_91 : decode cX5_come 91 = .ok (.iaload, 1) := by decide +kernel
theorem dX5_come_92 : decode cX5_come 92 = .ok (.invokevirtual 167, 3) := by decide +kernel
theorem dX5_come_95 : decode cX5_come 95 = .ok (.return_, 1) := by decide +kernel
theorem dX5_flood_0 : decode cX5_flood 0 = .ok (.aload_n 0, 1) := by decide +kernel
theorem dX5_flood_1 : decode cX5_flood 1 = .ok (.iload_n 1, 1) := by decide +kernel
theorem dX5_flood_2 : decode cX5_flood 2 = .ok (.invokevirtual 81, 3) := by decide +kernel
theorem dX5_flood_5 : decode cX5_flood 5 = .ok (.ifCond .eq 5, 3) := by decide +kernel
theorem dX5_flood_8 : decode cX5_flood 8 = .ok (.iconst (-1), 1) := by decide +kernel
theorem dX5_flood_9 : decode cX5_flood 9 = .ok (.ireturn, 1) := by decide +kernel
theorem dX5_flood_10 : decode cX5_flood 10 = .ok (.aload_n 0, 1) := by decide +kernel
theorem dX5_flood_11 : decode cX5_flood 11 = .ok (.lload_n 2, 1) := by decide +kernel
theorem dX5_flood_12 : decode cX5_flood 12 = .ok (.putfield 152, 3) := by decide +kernel
theorem dX5_flood_15 : decode cX5_flood 15 = .ok (.aload_n 0, 1) := by decide +kernel
theorem dX5_flood_16 : decode cX5_flood 16 = .ok (.iconst 0, 1) := by decide +kernel
theorem dX5_flood_17 : decode cX5_flood 17 = .ok (.putfield 164, 3) := by decide +kernel
theorem dX5_flood_20 : decode cX5_flood 20 = .ok (.iconst 0, 1) := by decide +kernel
theorem dX5_flood_21 : decode cX5_flood 21 = .ok (.istore 4, 2) := by decide +kernel
theorem dX5_flood_23 : decode cX5_flood 23 = .ok (.iload 4, 2) := by decide +kernel
theorem dX5_flood_25 : decode cX5_flood 25 = .ok (.bipush 72, 2) := by decide +kernel
theorem dX5_flood_27 : decode cX5_flood 27 = .ok (.if_icmp .ge 17, 3) := by decide +kernel
theorem dX5_flood_30 : decode cX5_flood 30 = .ok (.aload_n 0, 1) := by decide +kernel
theorem dX5_flood_31 : decode cX5_flood 31 = .ok (.getfield 46, 3) := by decide +kernel
theorem dX5_flood_34 : decode cX5_flood 34 = .ok (.iload 4, 2) := by decide +kernel
theorem dX5_flood_36 : decode cX5_flood 36 = .ok (.iconst 0, 1) := by decide +kernel
theorem dX5_flood_37 : decode cX5_flood 37 = .ok (.iastore, 1) := by decide +kernel
theorem dX5_flood_38 : decode cX5_flood 38 = .ok (.iinc 4 1, 3) := by decide +kernel
theorem dX5_flood_41 : decode cX5_flood 41 = .ok (.goto (-18), 3) := by decide +kernel
theorem dX5_flood_44 : decode cX5_flood 44 = .ok (.iconst 0, 1) := by decide +kernel
theorem dX5_flood_45 : decode cX5_flood 45 = .ok (.istore 4, 2) := by decide +kernel
theorem dX5_flood_47 : decode cX5_flood 47 = .ok (.iload 4, 2) := by decide +kernel
theorem dX5_flood_49 : decode cX5_flood 49 = .ok (.bipush 12, 2) := by decide +kernel
theorem dX5_flood_51 : decode cX5_flood 51 = .ok (.if_icmp .ge 45, 3) := by decide +kernel
theorem dX5_flood_54 : decode cX5_flood 54 = .ok (.aload_n 0, 1) := by decide +kernel
theorem dX5_flood_55 : decode cX5_flood 55 = .ok (.getfield 37, 3) := by decide +kernel
theorem dX5_flood_58 : decode cX5_flood 58 = .ok (.iload 4, 2) := by decide +kernel
theorem dX5_flood_60 : decode cX5_flood 60 = .ok (.bipush (-9), 2) := by decide +kernel
theorem dX5_flood_62 : decode cX5_flood 62 = .ok (.iastore, 1) := by decide +kernel
theorem dX5_flood_63 : decode cX5_flood 63 = .ok (.aload_n 0, 1) := by decide +kernel
theorem dX5_flood_64 : decode cX5_flood 64 = .ok (.getfield 40, 3) := by decide +kernel
theorem dX5_flood_67 : decode cX5_flood 67 = .ok (.iload 4, 2) := by decide +kernel
theorem dX5_flood_69 : decode cX5_flood 69 = .ok (.iload 4, 2) := by decide +kernel
theorem dX5_flood_71 : decode cX5_flood 71 = .ok (.iload_n 1, 1) := by decide +kernel
theorem dX5_flood_72 : decode cX5_flood 72 = .ok (.if_icmp .ne 7, 3) := by decide +kernel
theorem dX5_flood_75 : decode cX5_flood 75 = .ok (.iconst 0, 1) := by decide +kernel
theorem dX5_flood_76 : decode cX5_flood 76 = .ok (.goto 5, 3) := by decide +kernel
theorem dX5_flood_79 : decode cX5_flood 79 = .ok (.bipush (-9), 2) := by decide +kernel
theorem dX5_flood_81 : decode cX5_flood 81 = .ok (.iastore, 1) := by decide +kernel
theorem dX5_flood_82 : decode cX5_flood 82 = .ok (.aload_n 0, 1) := by decide +kernel
theorem dX5_flood_83 : decode cX5_flood 83 = .ok (.getfield 43, 3) := by decide +kernel
theorem dX5_flood_86 : decode cX5_flood 86 = .ok (.iload 4, 2) := by decide +kernel
theorem dX5_flood_88 : decode cX5_flood 88 = .ok (.iconst 0, 1) := by decide +kernel
theorem dX5_flood_89 : decode cX5_flood 89 = .ok (.iastore, 1) := by decide +kernel
theorem dX5_flood_90 : decode cX5_flood 90 = .ok (.iinc 4 1, 3) := by decide +kernel
theorem dX5_flood_93 : decode cX5_flood 93 = .ok (.goto (-46), 3) := by decide +kernel
theorem dX5_flood_96 : decode cX5_flood 96 = .ok (.aload_n 0, 1) := by decide +kernel
theorem dX5_flood_97 : decode cX5_flood 97 = .ok (.iload_n 1, 1) := by decide +kernel
theorem dX5_flood_98 : decode cX5_flood 98 = .ok (.iconst (-1), 1) := by decide +kernel
theorem dX5_flood_99 : decode cX5_flood 99 = .ok (.invokevirtual 167, 3) := by decide +kernel
theorem dX5_flood_102 : decode cX5_flood 102 = .ok (.aload_n 0, 1) := by decide +kernel
theorem dX5_flood_103 : decode cX5_flood 103 = .ok (.invokevirtual 170, 3) := by decide +kernel
theorem dX5_flood_106 : decode cX5_flood 106 = .ok (.istore 4, 2) := by decide +kernel
theorem dX5_flood_108 : decode cX5_flood 108 = .ok (.iload 4, 2) := by decide +kernel
theorem dX5_flood_110 : decode cX5_flood 110 = .ok (.ifCond .le 72, 3) := by decide +kernel
theorem dX5_flood_113 : decode cX5_flood 113 = .ok (.aload_n 0, 1) := by decide +kernel
theorem dX5_flood_114 : decode cX5_flood 114 = .ok (.iload 4, 2) := by decide +kernel
theorem dX5_flood_116 : decode cX5_flood 116 = .ok (.invokevirtual 173, 3) := by decide +kernel
theorem dX5_flood_119 : decode cX5_flood 119 = .ok (.istore 5, 2) := by decide +kernel
theorem dX5_flood_121 : decode cX5_flood 121 = .ok (.iconst 0, 1) := by decide +kernel
theorem dX5_flood_122 : decode cX5_flood 122 = .ok (.istore 6, 2) := by decide +kernel
theorem dX5_flood_124 : decode cX5_flood 124 = .ok (.aload_n 0, 1) := by decide +kernel
theorem dX5_flood_125 : decode cX5_flood 125 = .ok (.getfield 46, 3) := by decide +kernel
theorem dX5_flood_128 : decode cX5_flood 128 = .ok (.iload 6, 2) := by decide +kernel
theorem dX5_flood_130 : decode cX5_flood 130 = .ok (.iaload, 1) := by decide +kernel
theorem dX5_flood_131 : decode cX5_flood 131 = .ok (.iconst 1, 1) := by decide +kernel
theorem dX5_flood_132 : decode cX5_flood 132 = .ok (.if_icmp .ne 8, 3) := by decide +kernel
theorem dX5_flood_135 : decode cX5_flood 135 = .ok (.iload 5, 2) := by decide +kernel
theorem dX5_flood_137 : decode cX5_flood 137 = .ok (.ifCond .le 30, 3) := by decide +kernel
theorem dX5_flood_140 : decode cX5_flood 140 = .ok (.iload 5, 2) := by decide +kernel
theorem dX5_flood_142 : decode cX5_flood 142 = .ok (.aload_n 0, 1) := by decide +kernel
theorem dX5_flood_143 : decode cX5_flood 143 = .ok (.getfield 46, 3) := by decide +kernel
theorem dX5_flood_146 : decode cX5_flood 146 = .ok (.iload 6, 2) := by decide +kernel
theorem dX5_flood_148 : decode cX5_flood 148 = .ok (.iaload, 1) := by decide +kernel
theorem dX5_flood_149 : decode cX5_flood 149 = .ok (.iconst 1, 1) := by decide +kernel
theorem dX5_flood_150 : decode cX5_flood 150 = .ok (.if_icmp .ne 7, 3) := by decide +kernel
theorem dX5_flood_153 : decode cX5_flood 153 = .ok (.iconst 1, 1) := by decide +kernel
theorem dX5_flood_154 : decode cX5_flood 154 = .ok (.goto 4, 3) := by decide +kernel
theorem dX5_flood_157 : decode cX5_flood 157 = .ok (.iconst 0, 1) := by decide +kernel
theorem dX5_flood_158 : decode cX5_flood 158 = .ok (.isub, 1) := by decide +kernel
theorem dX5_flood_159 : decode cX5_flood 159 = .ok (.istore 5, 2) := by decide +kernel
theorem dX5_flood_161 : decode cX5_flood 161 = .ok (.iinc 6 1, 3) := by decide +kernel
theorem dX5_flood_164 : decode cX5_flood 164 = .ok (.goto (-40), 3) := by decide +kernel
theorem dX5_flood_167 : decode cX5_flood 167 = .ok (.aload_n 0, 1) := by decide +kernel
theorem dX5_flood_168 : decode cX5_flood 168 = .ok (.iload 6, 2) := by decide +kernel
theorem dX5_flood_170 : decode cX5_flood 170 = .ok (.invokevirtual 176, 3) := by decide +kernel
theorem dX5_flood_173 : decode cX5_flood 173 = .ok (.aload_n 0, 1) := by decide +kernel
theorem dX5_flood_174 : decode cX5_flood 174 = .ok (.invokevirtual 170, 3) := by decide +kernel
theorem dX5_flood_177 : decode cX5_flood 177 = .ok (.istore 4, 2) := by decide +kernel
theorem dX5_flood_179 : decode cX5_flood 179 = .ok (.goto (-71), 3) := by decide +kernel
theorem dX5_flood_182 : decode cX5_flood 182 = .ok (.aload_n 0, 1) := by decide +kernel
theorem dX5_flood_183 : decode cX5_flood 183 = .ok (.iconst 1, 1) := by decide +kernel
theorem dX5_flood_184 : decode cX5_flood 184 = .ok (.putfield 85, 3) := by decide +kernel
theorem dX5_flood_187 : decode cX5_flood 187 = .ok (.aload_n 0, 1) := by decide +kernel
theorem dX5_flood_188 : decode cX5_flood 188 = .ok (.getfield 164, 3) := by decide +kernel
theorem dX5_flood_191 : decode cX5_flood 191 = .ok (.ireturn, 1) := by decide +kernel
theorem dX5_flooded_0 : decode cX5_flooded 0 = .ok (.aload_n 0, 1) := by decide +kernel
theorem dX5_flooded_1 : decode cX5_flooded 1 = .ok (.getfield 85, 3) := by decide +kernel
theorem dX5_flooded_4 : decode cX5_flooded 4 = .ok (.ifCond .ne 6, 3) := by decide +kernel
theorem dX5_flooded_7 : decode cX5_flooded 7 = .ok (.bipush (-3), 2) := by decide +kernel
theorem dX5_flooded_9 : decode cX5_flooded 9 = .ok (.ireturn, 1) := by decide +kernel
theorem dX5_flooded_10 : decode cX5_flooded 10 = .ok (.aload_n 0, 1) := by decide +kernel
theorem dX5_flooded_11 : decode cX5_flooded 11 = .ok (.iload_n 1, 1) := by decide +kernel
theorem dX5_flooded_12 : decode cX5_flooded 12 = .ok (.invokevirtual 81, 3) := by decide +kernel
theorem dX5_flooded_15 : decode cX5_flooded 15 = .ok (.ifCond .eq 5, 3) := by decide +kernel
theorem dX5_flooded_18 : decode cX5_flooded 18 = .ok (.iconst (-1), 1) := by decide +kernel
theorem dX5_flooded_19 : decode cX5_flooded 19 = .ok (.ireturn, 1) := by decide +kernel
theorem dX5_flooded_20 : decode cX5_flooded 20 = .ok (.iload_n 2, 1) := by decide +kernel
theorem dX5_flooded_21 : decode cX5_flooded 21 = .ok (.ifCond .ne 12, 3) := by decide +kernel
theorem dX5_flooded_24 : decode cX5_flooded 24 = .ok (.aload_n 0, 1) := by decide +kernel
theorem dX5_flooded_25 : decode cX5_flooded 25 = .ok (.getfield 37, 3) := by decide +kernel
theorem dX5_flooded_28 : decode cX5_flooded 28 = .ok (.iload_n 1, 1) := by decide +kernel
theorem dX5_flooded_29 : decode cX5_flooded 29 = .ok (.iaload, 1) := by decide +kernel
theorem dX5_flooded_30 : decode cX5_flooded 30 = .ok (.goto 33, 3) := by decide +kernel
theorem dX5_flooded_33 : decode cX5_flooded 33 = .ok (.iload_n 2, 1) := by decide +kernel
theorem dX5_flooded_34 : decode cX5_flooded 34 = .ok (.iconst 1, 1) := by decide +kernel
theorem dX5_flooded_35 : decode cX5_flooded 35 = .ok (.if_icmp .ne 12, 3) := by decide +kernel
theorem dX5_flooded_38 : decode cX5_flooded 38 = .ok (.aload_n 0, 1) := by decide +kernel
theorem dX5_flooded_39 : decode cX5_flooded 39 = .ok (.getfield 40, 3) := by decide +kernel
theorem dX5_flooded_42 : decode cX5_flooded 42 = .ok (.iload_n 1, 1) := by decide +kernel
theorem dX5_flooded_43 : decode cX5_flooded 43 = .ok (.iaload, 1) := by decide +kernel
theorem dX5_flooded_44 : decode cX5_flooded 44 = .ok (.goto 19, 3) := by decide +kernel
theorem dX5_flooded_47 : decode cX5_flooded 47 = .ok (.iload_n 2, 1) := by decide +kernel
theorem dX5_flooded_48 : decode cX5_flooded 48 = .ok (.iconst 2, 1) := by decide +kernel
theorem dX5_flooded_49 : decode cX5_flooded 49 = .ok (.if_icmp .ne 12, 3) := by decide +kernel
theorem dX5_flooded_52 : decode cX5_flooded 52 = .ok (.aload_n 0, 1) := by decide +kernel
theorem dX5_flooded_53 : decode cX5_flooded 53 = .ok (.getfield 43, 3) := by decide +kernel
theorem dX5_flooded_56 : decode cX5_flooded 56 = .ok (.iload_n 1, 1) := by decide +kernel
theorem dX5_flooded_57 : decode cX5_flooded 57 = .ok (.iaload, 1) := by decide +kernel
theorem dX5_flooded_58 : decode cX5_flooded 58 = .ok (.goto 5, 3) := by decide +kernel
theorem dX5_flooded_61 : decode cX5_flooded 61 = .ok (.bipush (-2), 2) := by decide +kernel
theorem dX5_flooded_63 : decode cX5_flooded 63 = .ok (.ireturn, 1) := by decide +kernel
theorem dX5_word_0 : decode cX5_word 0 = .ok (.aload_n 0, 1) := by decide +kernel
theorem dX5_word_1 : decode cX5_word 1 = .ok (.getfield 85, 3) := by decide +kernel
theorem dX5_word_4 : decode cX5_word 4 = .ok (.ifCond .ne 6, 3) := by decide +kernel
theorem dX5_word_7 : decode cX5_word 7 = .ok (.bipush (-3), 2) := by decide +kernel
theorem dX5_word_9 : decode cX5_word 9 = .ok (.ireturn, 1) := by decide +kernel
theorem dX5_word_10 : decode cX5_word 10 = .ok (.iload_n 1, 1) := by decide +kernel
theorem dX5_word_11 : decode cX5_word 11 = .ok (.i2l, 1) := by decide +kernel
theorem dX5_word_12 : decode cX5_word 12 = .ok (.lconst 0, 1) := by decide +kernel
theorem dX5_word_13 : decode cX5_word 13 = .ok (.aload_n 0, 1) := by decide +kernel
theorem dX5_word_14 : decode cX5_word 14 = .ok (.getfield 164, 3) := by decide +kernel
theorem dX5_word_17 : decode cX5_word 17 = .ok (.i2l, 1) := by decide +kernel
theorem dX5_word_18 : decode cX5_word 18 = .ok (.lconst 1, 1) := by decide +kernel
theorem dX5_word_19 : decode cX5_word 19 = .ok (.lsub, 1) := by decide +kernel
theorem dX5_word_20 : decode cX5_word 20 = .ok (.invokestatic 77, 3) := by decide +kernel
theorem dX5_word_23 : decode cX5_word 23 = .ok (.ifCond .eq 12, 3) := by decide +kernel
theorem dX5_word_26 : decode cX5_word 26 = .ok (.aload_n 0, 1) := by decide +kernel
theorem dX5_word_27 : decode cX5_word 27 = .ok (.getfield 34, 3) := by decide +kernel
theorem dX5_word_30 : decode cX5_word 30 = .ok (.iload_n 1, 1) := by decide +kernel
theorem dX5_word_31 : decode cX5_word 31 = .ok (.iaload, 1) := by decide +kernel
theorem dX5_word_32 : decode cX5_word 32 = .ok (.goto 4, 3) := by decide +kernel
theorem dX5_word_35 : decode cX5_word 35 = .ok (.iconst (-1), 1) := by decide +kernel
theorem dX5_word_36 : decode cX5_word 36 = .ok (.ireturn, 1) := by decide +kernel
theorem dX5_power_0 : decode cX5_power 0 = .ok (.lconst 1, 1) := by decide +kernel
theorem dX5_power_1 : decode cX5_power 1 = .ok (.lstore_n 3, 1) := by decide +kernel
theorem dX5_power_2 : decode cX5_power 2 = .ok (.iconst 0, 1) := by decide +kernel
theorem dX5_power_3 : decode cX5_power 3 = .ok (.istore 5, 2) := by decide +kernel
theorem dX5_power_5 : decode cX5_power 5 = .ok (.iload 5, 2) := by decide +kernel
theorem dX5_power_7 : decode cX5_power 7 = .ok (.iload_n 2, 1) := by decide +kernel
theorem dX5_power_8 : decode cX5_power 8 = .ok (.if_icmp .ge 13, 3) := by decide +kernel
theorem dX5_power_11 : decode cX5_power 11 = .ok (.lload_n 3, 1) := by decide +kernel
theorem dX5_power_12 : decode cX5_power 12 = .ok (.lload_n 0, 1) := by decide +kernel
theorem dX5_power_13 : decode cX5_power 13 = .ok (.lmul, 1) := by decide +kernel
theorem dX5_power_14 : decode cX5_power 14 = .ok (.lstore_n 3, 1) := by decide +kernel
theorem dX5_power_15 : decode cX5_power 15 = .ok (.iinc 5 1, 3) := by decide +kernel
theorem dX5_power_18 : decode cX5_power 18 = .ok (.goto (-13), 3) := by decide +kernel
theorem dX5_power_21 : decode cX5_power 21 = .ok (.lload_n 3, 1) := by decide +kernel
theorem dX5_power_22 : decode cX5_power 22 = .ok (.lreturn, 1) := by decide +kernel
theorem dX5_lots_0 : decode cX5_lots 0 = .ok (.iload_n 1, 1) := by decide +kernel
theorem dX5_lots_1 : decode cX5_lots 1 = .ok (.i2l, 1) := by decide +kernel
theorem dX5_lots_2 : decode cX5_lots 2 = .ok (.lconst 1, 1) := by decide +kernel
theorem dX5_lots_3 : decode cX5_lots 3 = .ok (.ldc2_w 179, 3) := by decide +kernel
theorem dX5_lots_6 : decode cX5_lots 6 = .ok (.invokestatic 77, 3) := by decide +kernel
theorem dX5_lots_9 : decode cX5_lots 9 = .ok (.ifCond .eq 22, 3) := by decide +kernel
theorem dX5_lots_12 : decode cX5_lots 12 = .ok (.iload_n 2, 1) := by decide +kernel
theorem dX5_lots_13 : decode cX5_lots 13 = .ok (.i2l, 1) := by decide +kernel
theorem dX5_lots_14 : decode cX5_lots 14 = .ok (.lconst 0, 1) := by decide +kernel
theorem dX5_lots_15 : decode cX5_lots 15 = .ok (.ldc2_w 181, 3) := by decide +kernel
theorem dX5_lots_18 : decode cX5_lots 18 = .ok (.invokestatic 77, 3) := by decide +kernel
theorem dX5_lots_21 : decode cX5_lots 21 = .ok (.ifCond .eq 10, 3) := by decide +kernel
theorem dX5_lots_24 : decode cX5_lots 24 = .ok (.aload_n 0, 1) := by decide +kernel
theorem dX5_lots_25 : decode cX5_lots 25 = .ok (.getfield 74, 3) := by decide +kernel
theorem dX5_lots_28 : decode cX5_lots 28 = .ok (.ifCond .ne 7, 3) := by decide +kernel
theorem dX5_lots_31 : decode cX5_lots 31 = .ok (.invokestatic 70, 3) := by decide +kernel
theorem dX5_lots_34 : decode cX5_lots 34 = .ok (.lreturn, 1) := by decide +kernel
theorem dX5_lots_35 : decode cX5_lots 35 = .ok (.lconst 0, 1) := by decide +kernel
theorem dX5_lots_36 : decode cX5_lots 36 = .ok (.lstore_n 3, 1) := by decide +kernel
theorem dX5_lots_37 : decode cX5_lots 37 = .ok (.iconst 0, 1) := by decide +kernel
theorem dX5_lots_38 : decode cX5_lots 38 = .ok (.istore 5, 2) := by decide +kernel
theorem dX5_lots_40 : decode cX5_lots 40 = .ok (.iload 5, 2) := by decide +kernel
theorem dX5_lots_42 : decode cX5_lots 42 = .ok (.iload_n 1, 1) := by decide +kernel
theorem dX5_lots_43 : decode cX5_lots 43 = .ok (.if_icmp .ge 30, 3) := by decide +kernel
theorem dX5_lots_46 : decode cX5_lots 46 = .ok (.lload_n 3, 1) := by decide +kernel
theorem dX5_lots_47 : decode cX5_lots 47 = .ok (.aload_n 0, 1) := by decide +kernel
theorem dX5_lots_48 : decode cX5_lots 48 = .ok (.getfield 74, 3) := by decide +kernel
theorem dX5_lots_51 : decode cX5_lots 51 = .ok (.i2l, 1) := by decide +kernel
theorem dX5_lots_52 : decode cX5_lots 52 = .ok (.iload 5, 2) := by decide +kernel
theorem dX5_lots_54 : decode cX5_lots 54 = .ok (.i2l, 1) := by decide +kernel
theorem dX5_lots_55 : decode cX5_lots 55 = .ok (.aload_n 0, 1) := by decide +kernel
theorem dX5_lots_56 : decode cX5_lots 56 = .ok (.getfield 74, 3) := by decide +kernel
theorem dX5_lots_59 : decode cX5_lots 59 = .ok (.iconst 1, 1) := by decide +kernel
theorem dX5_lots_60 : decode cX5_lots 60 = .ok (.isub, 1) := by decide +kernel
theorem dX5_lots_61 : decode cX5_lots 61 = .ok (.invokestatic 183, 3) := by decide +kernel
theorem dX5_lots_64 : decode cX5_lots 64 = .ok (.lmul, 1) := by decide +kernel
theorem dX5_lots_65 : decode cX5_lots 65 = .ok (.ladd, 1) := by decide +kernel
theorem dX5_lots_66 : decode cX5_lots 66 = .ok (.lstore_n 3, 1) := by decide +kernel
theorem dX5_lots_67 : decode cX5_lots 67 = .ok (.iinc 5 1, 3) := by decide +kernel
theorem dX5_lots_70 : decode cX5_lots 70 = .ok (.goto (-30), 3) := by decide +kernel
theorem dX5_lots_73 : decode cX5_lots 73 = .ok (.iload_n 2, 1) := by decide +kernel
theorem dX5_lots_74 : decode cX5_lots 74 = .ok (.ifCond .ne 15, 3) := by decide +kernel
theorem dX5_lots_77 : decode cX5_lots 77 = .ok (.iload_n 1, 1) := by decide +kernel
theorem dX5_lots_78 : decode cX5_lots 78 = .ok (.i2l, 1) := by decide +kernel
theorem dX5_lots_79 : decode cX5_lots 79 = .ok (.aload_n 0, 1) := by decide +kernel
theorem dX5_lots_80 : decode cX5_lots 80 = .ok (.getfield 74, 3) := by decide +kernel
theorem dX5_lots_83 : decode cX5_lots 83 = .ok (.invokestatic 183, 3) := by decide +kernel
theorem dX5_lots_86 : decode cX5_lots 86 = .ok (.goto 14, 3) := by decide +kernel
theorem dX5_lots_89 : decode cX5_lots 89 = .ok (.iload_n 2, 1) := by decide +kernel
theorem dX5_lots_90 : decode cX5_lots 90 = .ok (.iconst 1, 1) := by decide +kernel
theorem dX5_lots_91 : decode cX5_lots 91 = .ok (.if_icmp .ne 7, 3) := by decide +kernel
theorem dX5_lots_94 : decode cX5_lots 94 = .ok (.lload_n 3, 1) := by decide +kernel
theorem dX5_lots_95 : decode cX5_lots 95 = .ok (.goto 5, 3) := by decide +kernel
theorem dX5_lots_98 : decode cX5_lots 98 = .ok (.iload_n 1, 1) := by decide +kernel
theorem dX5_lots_99 : decode cX5_lots 99 = .ok (.i2l, 1) := by decide +kernel
theorem dX5_lots_100 : decode cX5_lots 100 = .ok (.lreturn, 1) := by decide +kernel
theorem dX5_noSheet_0 : decode cX5_noSheet 0 = .ok (.iload_n 0, 1) := by decide +kernel
theorem dX5_noSheet_1 : decode cX5_noSheet 1 = .ok (.i2l, 1) := by decide +kernel
theorem dX5_noSheet_2 : decode cX5_noSheet 2 = .ok (.lconst 0, 1) := by decide +kernel
theorem dX5_noSheet_3 : decode cX5_noSheet 3 = .ok (.ldc2_w 187, 3) := by decide +kernel
theorem dX5_noSheet_6 : decode cX5_noSheet 6 = .ok (.invokestatic 77, 3) := by decide +kernel
theorem dX5_noSheet_9 : decode cX5_noSheet 9 = .ok (.ifCond .ne 7, 3) := by decide +kernel
theorem dX5_noSheet_12 : decode cX5_noSheet 12 = .ok (.iconst 1, 1) := by decide +kernel
theorem dX5_noSheet_13 : decode cX5_noSheet 13 = .ok (.goto 4, 3) := by decide +kernel
theorem dX5_noSheet_16 : decode cX5_noSheet 16 = .ok (.iconst 0, 1) := by decide +kernel
theorem dX5_noSheet_17 : decode cX5_noSheet 17 = .ok (.ireturn, 1) := by decide +kernel
theorem dX5_sheet_0 : decode cX5_sheet 0 = .ok (.iload_n 1, 1) := by decide +kernel
theorem dX5_sheet_1 : decode cX5_sheet 1 = .ok (.invokestatic 189, 3) := by decide +kernel
theorem dX5_sheet_4 : decode cX5_sheet 4 = .ok (.ifCond .eq 9, 3) := by decide +kernel
theorem dX5_sheet_7 : decode cX5_sheet 7 = .ok (.aload_n 0, 1) := by decide +kernel
theorem dX5_sheet_8 : decode cX5_sheet 8 = .ok (.iconst (-1), 1) := by decide +kernel
theorem dX5_sheet_9 : decode cX5_sheet 9 = .ok (.invokevirtual 192, 3) := by decide +kernel
theorem dX5_sheet_12 : decode cX5_sheet 12 = .ok (.ireturn, 1) := by decide +kernel
theorem dX5_sheet_13 : decode cX5_sheet 13 = .ok (.iload_n 2, 1) := by decide +kernel
theorem dX5_sheet_14 : decode cX5_sheet 14 = .ok (.i2l, 1) := by decide +kernel
theorem dX5_sheet_15 : decode cX5_sheet 15 = .ok (.lconst 0, 1) := by decide +kernel
theorem dX5_sheet_16 : decode cX5_sheet 16 = .ok (.ldc2_w 181, 3) := by decide +kernel
theorem dX5_sheet_19 : decode cX5_sheet 19 = .ok (.invokestatic 77, 3) := by decide +kernel
theorem dX5_sheet_22 : decode cX5_sheet 22 = .ok (.ifCond .eq 9, 3) := by decide +kernel
theorem dX5_sheet_25 : decode cX5_sheet 25 = .ok (.iload_n 3, 1) := by decide +kernel
theorem dX5_sheet_26 : decode cX5_sheet 26 = .ok (.bipush 60, 2) := by decide +kernel
theorem dX5_sheet_28 : decode cX5_sheet 28 = .ok (.if_icmp .le 10, 3) := by decide +kernel
theorem dX5_sheet_31 : decode cX5_sheet 31 = .ok (.aload_n 0, 1) := by decide +kernel
theorem dX5_sheet_32 : decode cX5_sheet 32 = .ok (.bipush (-2), 2) := by decide +kernel
theorem dX5_sheet_34 : decode cX5_sheet 34 = .ok (.invokevirtual 192, 3) := by decide +kernel
theorem dX5_sheet_37 : decode cX5_sheet 37 = .ok (.ireturn, 1) := by decide +kernel
theorem dX5_sheet_38 : decode cX5_sheet 38 = .ok (.iload_n 3, 1) := by decide +kernel
theorem dX5_sheet_39 : decode cX5_sheet 39 = .ok (.ifCond .ge 9, 3) := by decide +kernel
theorem dX5_sheet_42 : decode cX5_sheet 42 = .ok (.aload_n 0, 1) := by decide +kernel
theorem dX5_sheet_43 : decode cX5_sheet 43 = .ok (.iconst 4, 1) := by decide +kernel
theorem dX5_sheet_44 : decode cX5_sheet 44 = .ok (.invokevirtual 195, 3) := by decide +kernel
theorem dX5_sheet_47 : decode cX5_sheet 47 = .ok (.ireturn, 1) := by decide +kernel
theorem dX5_sheet_48 : decode cX5_sheet 48 = .ok (.aload_n 0, 1) := by decide +kernel
theorem dX5_sheet_49 : decode cX5_sheet 49 = .ok (.getfield 49, 3) := by decide +kernel
theorem dX5_sheet_52 : decode cX5_sheet 52 = .ok (.iload_n 1, 1) := by decide +kernel
theorem dX5_sheet_53 : decode cX5_sheet 53 = .ok (.iload_n 3, 1) := by decide +kernel
theorem dX5_sheet_54 : decode cX5_sheet 54 = .ok (.iastore, 1) := by decide +kernel
theorem dX5_sheet_55 : decode cX5_sheet 55 = .ok (.aload_n 0, 1) := by decide +kernel
theorem dX5_sheet_56 : decode cX5_sheet 56 = .ok (.getfield 52, 3) := by decide +kernel
theorem dX5_sheet_59 : decode cX5_sheet 59 = .ok (.iload_n 1, 1) := by decide +kernel
theorem dX5_sheet_60 : decode cX5_sheet 60 = .ok (.iload_n 2, 1) := by decide +kernel
theorem dX5_sheet_61 : decode cX5_sheet 61 = .ok (.iastore, 1) := by decide +kernel
theorem dX5_sheet_62 : decode cX5_sheet 62 = .ok (.iconst 0, 1) := by decide +kernel
theorem dX5_sheet_63 : decode cX5_sheet 63 = .ok (.istore 4, 2) := by decide +kernel
theorem dX5_sheet_65 : decode cX5_sheet 65 = .ok (.iload 4, 2) := by decide +kernel
theorem dX5_sheet_67 : decode cX5_sheet 67 = .ok (.iload_n 3, 1) := by decide +kernel
theorem dX5_sheet_68 : decode cX5_sheet 68 = .ok (.if_icmp .ge 22, 3) := by decide +kernel
theorem dX5_sheet_71 : decode cX5_sheet 71 = .ok (.aload_n 0, 1) := by decide +kernel
theorem dX5_sheet_72 : decode cX5_sheet 72 = .ok (.getfield 55, 3) := by decide +kernel
theorem dX5_sheet_75 : decode cX5_sheet 75 = .ok (.bipush 60, 2) := by decide +kernel
theorem dX5_sheet_77 : decode cX5_sheet 77 = .ok (.iload_n 1, 1) := by decide +kernel
theorem dX5_sheet_78 : decode cX5_sheet 78 = .ok (.imul, 1) := by decide +kernel
theorem dX5_sheet_79 : decode cX5_sheet 79 = .ok (.iload 4, 2) := by decide +kernel
theorem dX5_sheet_81 : decode cX5_sheet 81 = .ok (.iadd, 1) := by decide +kernel
theorem dX5_sheet_82 : decode cX5_sheet 82 = .ok (.iconst 0, 1) := by decide +kernel
theorem dX5_sheet_83 : decode cX5_sheet 83 = .ok (.iastore, 1) := by decide +kernel
theorem dX5_sheet_84 : decode cX5_sheet 84 = .ok (.iinc 4 1, 3) := by decide +kernel
theorem dX5_sheet_87 : decode cX5_sheet 87 = .ok (.goto (-22), 3) := by decide +kernel
theorem dX5_sheet_90 : decode cX5_sheet 90 = .ok (.aload_n 0, 1) := by decide +kernel
theorem dX5_sheet_91 : decode cX5_sheet 91 = .ok (.iconst 1, 1) := by decide +kernel
theorem dX5_sheet_92 : decode cX5_sheet 92 = .ok (.invokevirtual 192, 3) := by decide +kernel
theorem dX5_sheet_95 : decode cX5_sheet 95 = .ok (.ireturn, 1) := by decide +kernel
theorem dX5_lose_0 : decode cX5_lose 0 = .ok (.iload_n 1, 1) := by decide +kernel
theorem dX5_lose_1 : decode cX5_lose 1 = .ok (.invokestatic 189, 3) := by decide +kernel
theorem dX5_lose_4 : decode cX5_lose 4 = .ok (.ifCond .eq 5, 3) := by decide +kernel
theorem dX5_lose_7 : decode cX5_lose 7 = .ok (.iconst (-1), 1) := by decide +kernel
theorem dX5_lose_8 : decode cX5_lose 8 = .ok (.ireturn, 1) := by decide +kernel
theorem dX5_lose_9 : decode cX5_lose 9 = .ok (.aload_n 0, 1) := by decide +kernel
theorem dX5_lose_10 : decode cX5_lose 10 = .ok (.getfield 49, 3) := by decide +kernel
theorem dX5_lose_13 : decode cX5_lose 13 = .ok (.iload_n 1, 1) := by decide +kernel
theorem dX5_lose_14 : decode cX5_lose 14 = .ok (.iaload, 1) := by decide +kernel
theorem dX5_lose_15 : decode cX5_lose 15 = .ok (.ifCond .ge 7, 3) := by decide +kernel
theorem dX5_lose_18 : decode cX5_lose 18 = .ok (.iconst 0, 1) := by decide +kernel
theorem dX5_lose_19 : decode cX5_lose 19 = .ok (.goto 4, 3) := by decide +kernel
theorem dX5_lose_22 : decode cX5_lose 22 = .ok (.iconst 1, 1) := by decide +kernel
theorem dX5_lose_23 : decode cX5_lose 23 = .ok (.istore_n 2, 1) := by decide +kernel
theorem dX5_lose_24 : decode cX5_lose 24 = .ok (.aload_n 0, 1) := by decide +kernel
theorem dX5_lose_25 : decode cX5_lose 25 = .ok (.getfield 49, 3) := by decide +kernel
theorem dX5_lose_28 : decode cX5_lose 28 = .ok (.iload_n 1, 1) := by decide +kernel
theorem dX5_lose_29 : decode cX5_lose 29 = .ok (.iconst (-1), 1) := by decide +kernel
theorem dX5_lose_30 : decode cX5_lose 30 = .ok (.iastore, 1) := by decide +kernel
theorem dX5_lose_31 : decode cX5_lose 31 = .ok (.iload_n 2, 1) := by decide +kernel
theorem dX5_lose_32 : decode cX5_lose 32 = .ok (.ireturn, 1) := by decide +kernel
theorem dX5_noCell_0 : decode cX5_noCell 0 = .ok (.aload_n 0, 1) := by decide +kernel
theorem dX5_noCell_1 : decode cX5_noCell 1 = .ok (.getfield 49, 3) := by decide +kernel
theorem dX5_noCell_4 : decode cX5_noCell 4 = .ok (.iload_n 1, 1) := by decide +kernel
theorem dX5_noCell_5 : decode cX5_noCell 5 = .ok (.iaload, 1) := by decide +kernel
theorem dX5_noCell_6 : decode cX5_noCell 6 = .ok (.ifCond .ge 7, 3) := by decide +kernel
theorem dX5_noCell_9 : decode cX5_noCell 9 = .ok (.iconst 1, 1) := by decide +kernel
theorem dX5_noCell_10 : decode cX5_noCell 10 = .ok (.goto 26, 3) := by decide +kernel
theorem dX5_noCell_13 : decode cX5_noCell 13 = .ok (.iload_n 2, 1) := by decide +kernel
theorem dX5_noCell_14 : decode cX5_noCell 14 = .ok (.i2l, 1) := by decide +kernel
theorem dX5_noCell_15 : decode cX5_noCell 15 = .ok (.lconst 0, 1) := by decide +kernel
theorem dX5_noCell_16 : decode cX5_noCell 16 = .ok (.aload_n 0, 1) := by decide +kernel
theorem dX5_noCell_17 : decode cX5_noCell 17 = .ok (.getfield 49, 3) := by decide +kernel
theorem dX5_noCell_20 : decode cX5_noCell 20 = .ok (.iload_n 1, 1) := by decide +kernel
theorem dX5_noCell_21 : decode cX5_noCell 21 = .ok (.iaload, 1) := by decide +kernel
theorem dX5_noCell_22 : decode cX5_noCell 22 = .ok (.i2l, 1) := by decide +kernel
theorem dX5_noCell_23 : decode cX5_noCell 23 = .ok (.lconst 1, 1) := by decide +kernel
theorem dX5_noCell_24 : decode cX5_noCell 24 = .ok (.lsub, 1) := by decide +kernel
theorem dX5_noCell_25 : decode cX5_noCell 25 = .ok (.invokestatic 77, 3) := by decide +kernel
theorem dX5_noCell_28 : decode cX5_noCell 28 = .ok (.ifCond .eq 7, 3) := by decide +kernel
theorem dX5_noCell_31 : decode cX5_noCell 31 = .ok (.iconst 0, 1) := by decide +kernel
theorem dX5_noCell_32 : decode cX5_noCell 32 = .ok (.goto 4, 3) := by decide +kernel
theorem dX5_noCell_35 : decode cX5_noCell 35 = .ok (.iconst 3, 1) := by decide +kernel
theorem dX5_noCell_36 : decode cX5_noCell 36 = .ok (.ireturn, 1) := by decide +kernel
theorem dX5_put_0 : decode cX5_put 0 = .ok (.iload_n 1, 1) := by decide +kernel
theorem dX5_put_1 : decode cX5_put 1 = .ok (.invokestatic 189, 3) := by decide +kernel
theorem dX5_put_4 : decode cX5_put 4 = .ok (.ifCond .eq 9, 3) := by decide +kernel
theorem dX5_put_7 : decode cX5_put 7 = .ok (.aload_n 0, 1) := by decide +kernel
theorem dX5_put_8 : decode cX5_put 8 = .ok (.iconst (-1), 1) := by decide +kernel
theorem dX5_put_9 : decode cX5_put 9 = .ok (.invokevirtual 192, 3) := by decide +kernel
theorem dX5_put_12 : decode cX5_put 12 = .ok (.ireturn, 1) := by decide +kernel
theorem dX5_put_13 : decode cX5_put 13 = .ok (.aload_n 0, 1) := by decide +kernel
theorem dX5_put_14 : decode cX5_put 14 = .ok (.iload_n 1, 1) := by decide +kernel
theorem dX5_put_15 : decode cX5_put 15 = .ok (.iload_n 2, 1) := by decide +kernel
theorem dX5_put_16 : decode cX5_put 16 = .ok (.invokevirtual 198, 3) := by decide +kernel
theorem dX5_put_19 : decode cX5_put 19 = .ok (.ifCond .le 14, 3) := by decide +kernel
theorem dX5_put_22 : decode cX5_put 22 = .ok (.aload_n 0, 1) := by decide +kernel
theorem dX5_put_23 : decode cX5_put 23 = .ok (.aload_n 0, 1) := by decide +kernel
theorem dX5_put_24 : decode cX5_put 24 = .ok (.iload_n 1, 1) := by decide +kernel
theorem dX5_put_25 : decode cX5_put 25 = .ok (.iload_n 2, 1) := by decide +kernel
theorem dX5_put_26 : decode cX5_put 26 = .ok (.invokevirtual 198, 3) := by decide +kernel
theorem dX5_put_29 : decode cX5_put 29 = .ok (.invokevirtual 195, 3) := by decide +kernel
theorem dX5_put_32 : decode cX5_put 32 = .ok (.ireturn, 1) := by decide +kernel
theorem dX5_put_33 : decode cX5_put 33 = .ok (.aload_n 0, 1) := by decide +kernel
theorem dX5_put_34 : decode cX5_put 34 = .ok (.getfield 55, 3) := by decide +kernel
theorem dX5_put_37 : decode cX5_put 37 = .ok (.bipush 60, 2) := by decide +kernel
theorem dX5_put_39 : decode cX5_put 39 = .ok (.iload_n 1, 1) := by decide +kernel
theorem dX5_put_40 : decode cX5_put 40 = .ok (.imul, 1) := by decide +kernel
theorem dX5_put_41 : decode cX5_put 41 = .ok (.iload_n 2, 1) := by decide +kernel
theorem dX5_put_42 : decode cX5_put 42 = .ok (.iadd, 1) := by decide +kernel
theorem dX5_put_43 : decode cX5_put 43 = .ok (.aload_n 0, 1) := by decide +kernel
theorem dX5_put_44 : decode cX5_put 44 = .ok (.getfield 52, 3) := by decide +kernel
theorem dX5_put_47 : decode cX5_put 47 = .ok (.iload_n 1, 1) := by decide +kernel
theorem dX5_put_48 : decode cX5_put 48 = .ok (.iaload, 1) := by decide +kernel
theorem dX5_put_49 : decode cX5_put 49 = .ok (.ifCond .ne 8, 3) := by decide +kernel
theorem dX5_put_52 : decode cX5_put 52 = .ok (.iload_n 3, 1) := by decide +kernel
theorem dX5_put_53 : decode cX5_put 53 = .ok (.i2b, 1) := by decide +kernel
theorem dX5_put_54 : decode cX5_put 54 = .ok (.goto 19, 3) := by decide +kernel
theorem dX5_put_57 : decode cX5_put 57 = .ok (.aload_n 0, 1) := by decide +kernel
theorem dX5_put_58 : decode cX5_put 58 = .ok (.getfield 52, 3) := by decide +kernel
theorem dX5_put_61 : decode cX5_put 61 = .ok (.iload_n 1, 1) := by decide +kernel
theorem dX5_put_62 : decode cX5_put 62 = .ok (.iaload, 1) := by decide +kernel
theorem dX5_put_63 : decode cX5_put 63 = .ok (.iconst 1, 1) := by decide +kernel
theorem dX5_put_64 : decode cX5_put 64 = .ok (.if_icmp .ne 8, 3) := by decide +kernel
theorem dX5_put_67 : decode cX5_put 67 = .ok (.iload_n 3, 1) := by decide +kernel
theorem dX5_put_68 : decode cX5_put 68 = .ok (.i2s, 1) := by decide +kernel
theorem dX5_put_69 : decode cX5_put 69 = .ok (.goto 4, 3) := by decide +kernel
theorem dX5_put_72 : decode cX5_put 72 = .ok (.iload_n 3, 1) := by decide +kernel
theorem dX5_put_73 : decode cX5_put 73 = .ok (.iastore, 1) := by decide +kernel
theorem dX5_put_74 : decode cX5_put 74 = .ok (.aload_n 0, 1) := by decide +kernel
theorem dX5_put_75 : decode cX5_put 75 = .ok (.iconst 1, 1) := by decide +kernel
theorem dX5_put_76 : decode cX5_put 76 = .ok (.invokevirtual 192, 3) := by decide +kernel
theorem dX5_put_79 : decode cX5_put 79 = .ok (.ireturn, 1) := by decide +kernel
theorem dX5_cell_0 : decode cX5_cell 0 = .ok (.aload_n 0, 1) := by decide +kernel
theorem dX5_cell_1 : decode cX5_cell 1 = .ok (.iconst 0, 1) := by decide +kernel
theorem dX5_cell_2 : decode cX5_cell 2 = .ok (.putfield 66, 3) := by decide +kernel
theorem dX5_cell_5 : decode cX5_cell 5 = .ok (.iload_n 1, 1) := by decide +kernel
theorem dX5_cell_6 : decode cX5_cell 6 = .ok (.invokestatic 189, 3) := by decide +kernel
theorem dX5_cell_9 : decode cX5_cell 9 = .ok (.ifCond .ne 15, 3) := by decide +kernel
theorem dX5_cell_12 : decode cX5_cell 12 = .ok (.iload_n 3, 1) := by decide +kernel
theorem dX5_cell_13 : decode cX5_cell 13 = .ok (.i2l, 1) := by decide +kernel
theorem dX5_cell_14 : decode cX5_cell 14 = .ok (.lconst 0, 1) := by decide +kernel
theorem dX5_cell_15 : decode cX5_cell 15 = .ok (.ldc2_w 181, 3) := by decide +kernel
theorem dX5_cell_18 : decode cX5_cell 18 = .ok (.invokestatic 77, 3) := by decide +kernel
theorem dX5_cell_21 : decode cX5_cell 21 = .ok (.ifCond .ne 7, 3) := by decide +kernel
theorem dX5_cell_24 : decode cX5_cell 24 = .ok (.invokestatic 70, 3) := by decide +kernel
theorem dX5_cell_27 : decode cX5_cell 27 = .ok (.lreturn, 1) := by decide +kernel
theorem dX5_cell_28 : decode cX5_cell 28 = .ok (.aload_n 0, 1) := by decide +kernel
theorem dX5_cell_29 : decode cX5_cell 29 = .ok (.getfield 49, 3) := by decide +kernel
theorem dX5_cell_32 : decode cX5_cell 32 = .ok (.iload_n 1, 1) := by decide +kernel
theorem dX5_cell_33 : decode cX5_cell 33 = .ok (.iaload, 1) := by decide +kernel
theorem dX5_cell_34 : decode cX5_cell 34 = .ok (.ifCond .lt 19, 3) := by decide +kernel
theorem dX5_cell_37 : decode cX5_cell 37 = .ok (.aload_n 0, 1) := by decide +kernel
theorem dX5_cell_38 : decode cX5_cell 38 = .ok (.getfield 52, 3) := by decide +kernel
theorem dX5_cell_41 : decode cX5_cell 41 = .ok (.iload_n 1, 1) := by decide +kernel
theorem dX5_cell_42 : decode cX5_cell 42 = .ok (.iaload, 1) := by decide +kernel
theorem dX5_cell_43 : decode cX5_cell 43 = .ok (.iload_n 3, 1) := by decide +kernel
theorem dX5_cell_44 : decode cX5_cell 44 = .ok (.if_icmp .eq 9, 3) := by decide +kernel
theorem dX5_cell_47 : decode cX5_cell 47 = .ok (.aload_n 0, 1) := by decide +kernel
theorem dX5_cell_48 : decode cX5_cell 48 = .ok (.iconst 2, 1) := by decide +kernel
theorem dX5_cell_49 : decode cX5_cell 49 = .ok (.invokevirtual 201, 3) := by decide +kernel
theorem dX5_cell_52 : decode cX5_cell 52 = .ok (.lreturn, 1) := by decide +kernel
theorem dX5_cell_53 : decode cX5_cell 53 = .ok (.aload_n 0, 1) := by decide +kernel
theorem dX5_cell_54 : decode cX5_cell 54 = .ok (.iload_n 1, 1) := by decide +kernel
theorem dX5_cell_55 : decode cX5_cell 55 = .ok (.iload_n 2, 1) := by decide +kernel
theorem dX5_cell_56 : decode cX5_cell 56 = .ok (.invokevirtual 198, 3) := by decide +kernel
theorem dX5_cell_59 : decode cX5_cell 59 = .ok (.ifCond .le 16, 3) := by decide +kernel
theorem dX5_cell_62 : decode cX5_cell 62 = .ok (.aload_n 0, 1) := by decide +kernel
theorem dX5_cell_63 : decode cX5_cell 63 = .ok (.aload_n 0, 1) := by decide +kernel
theorem dX5_cell_64 : decode cX5_cell 64 = .ok (.iload_n 1, 1) := by decide +kernel
theorem dX5_cell_65 : decode cX5_cell 65 = .ok (.iload_n 2, 1) := by decide +kernel
theorem dX5_cell_66 : decode cX5_cell 66 = .ok (.invokevirtual 198, 3) := by decide +kernel
theorem dX5_cell_69 : decode cX5_cell 69 = .ok (.invokevirtual 201, 3) := by decide +kernel
theorem dX5_cell_72 : decode cX5_cell 72 = .ok (.goto 15, 3) := by decide +kernel
theorem dX5_cell_75 : decode cX5_cell 75 = .ok (.aload_n 0, 1) := by decide +kernel
theorem dX5_cell_76 : decode cX5_cell 76 = .ok (.getfield 55, 3) := by decide +kernel
theorem dX5_cell_79 : decode cX5_cell 79 = .ok (.bipush 60, 2) := by decide +kernel
theorem dX5_cell_81 : decode cX5_cell 81 = .ok (.iload_n 1, 1) := by decide +kernel
theorem dX5_cell_82 : decode cX5_cell 82 = .ok (.imul, 1) := by decide +kernel
theorem dX5_cell_83 : decode cX5_cell 83 = .ok (.iload_n 2, 1) := by decide +kernel
theorem dX5_cell_84 : decode cX5_cell 84 = .ok (.iadd, 1) := by decide +kernel
theorem dX5_cell_85 : decode cX5_cell 85 = .ok (.iaload, 1) := by decide +kernel
theorem dX5_cell_86 : decode cX5_cell 86 = .ok (.i2l, 1) := by decide +kernel
theorem dX5_cell_87 : decode cX5_cell 87 = .ok (.lreturn, 1) := by decide +kernel
theorem dX5_isBeyond_0 : decode cX5_isBeyond 0 = .ok (.iload_n 0, 1) := by decide +kernel
theorem dX5_isBeyond_1 : decode cX5_isBeyond 1 = .ok (.ifCond .lt 19, 3) := by decide +kernel
theorem dX5_isBeyond_4 : decode cX5_isBeyond 4 = .ok (.lload_n 1, 1) := by decide +kernel
theorem dX5_isBeyond_5 : decode cX5_isBeyond 5 = .ok (.lconst 0, 1) := by decide +kernel
theorem dX5_isBeyond_6 : decode cX5_isBeyond 6 = .ok (.lcmp, 1) := by decide +kernel
theorem dX5_isBeyond_7 : decode cX5_isBeyond 7 = .ok (.ifCond .lt 13, 3) := by decide +kernel
theorem dX5_isBeyond_10 : decode cX5_isBeyond 10 = .ok (.iload_n 0, 1) := by decide +kernel
theorem dX5_isBeyond_11 : decode cX5_isBeyond 11 = .ok (.i2l, 1) := by decide +kernel
theorem dX5_isBeyond_12 : decode cX5_isBeyond 12 = .ok (.lload_n 1, 1) := by decide +kernel
theorem dX5_isBeyond_13 : decode cX5_isBeyond 13 = .ok (.ladd, 1) := by decide +kernel
theorem dX5_isBeyond_14 : decode cX5_isBeyond 14 = .ok (.iload_n 3, 1) := by decide +kernel
theorem dX5_isBeyond_15 : decode cX5_isBeyond 15 = .ok (.i2l, 1) := by decide +kernel
theorem dX5_isBeyond_16 : decode cX5_isBeyond 16 = .ok (.lcmp, 1) := by decide +kernel
theorem dX5_isBeyond_17 : decode cX5_isBeyond 17 = .ok (.ifCond .le 7, 3) := by decide +kernel
theorem dX5_isBeyond_20 : decode cX5_isBeyond 20 = .ok (.iconst 1, 1) := by decide +kernel
theorem dX5_isBeyond_21 : decode cX5_isBeyond 21 = .ok (.goto 4, 3) := by decide +kernel
theorem dX5_isBeyond_24 : decode cX5_isBeyond 24 = .ok (.iconst 0, 1) := by decide +kernel
theorem dX5_isBeyond_25 : decode cX5_isBeyond 25 = .ok (.ireturn, 1) := by decide +kernel
theorem dX5_copy_0 : decode cX5_copy 0 = .ok (.iload_n 1, 1) := by decide +kernel
theorem dX5_copy_1 : decode cX5_copy 1 = .ok (.invokestatic 189, 3) := by decide +kernel
theorem dX5_copy_4 : decode cX5_copy 4 = .ok (.ifCond .ne 10, 3) := by decide +kernel
theorem dX5_copy_7 : decode cX5_copy 7 = .ok (.iload_n 3, 1) := by decide +kernel
theorem dX5_copy_8 : decode cX5_copy 8 = .ok (.invokestatic 189, 3) := by decide +kernel
theorem dX5_copy_11 : decode cX5_copy 11 = .ok (.ifCond .eq 9, 3) := by decide +kernel
theorem dX5_copy_14 : decode cX5_copy 14 = .ok (.aload_n 0, 1) := by decide +kernel
theorem dX5_copy_15 : decode cX5_copy 15 = .ok (.iconst (-1), 1) := by decide +kernel
theorem dX5_copy_16 : decode cX5_copy 16 = .ok (.invokevirtual 192, 3) := by decide +kernel
theorem dX5_copy_19 : decode cX5_copy 19 = .ok (.ireturn, 1) := by decide +kernel
theorem dX5_copy_20 : decode cX5_copy 20 = .ok (.aload_n 0, 1) := by decide +kernel
theorem dX5_copy_21 : decode cX5_copy 21 = .ok (.getfield 49, 3) := by decide +kernel
theorem dX5_copy_24 : decode cX5_copy 24 = .ok (.iload_n 1, 1) := by decide +kernel
theorem dX5_copy_25 : decode cX5_copy 25 = .ok (.iaload, 1) := by decide +kernel
theorem dX5_copy_26 : decode cX5_copy 26 = .ok (.ifCond .lt 12, 3) := by decide +kernel
theorem dX5_copy_29 : decode cX5_copy 29 = .ok (.aload_n 0, 1) := by decide +kernel
theorem dX5_copy_30 : decode cX5_copy 30 = .ok (.getfield 49, 3) := by decide +kernel
theorem dX5_copy_33 : decode cX5_copy 33 = .ok (.iload_n 3, 1) := by decide +kernel
theorem dX5_copy_34 : decode cX5_copy 34 = .ok (.iaload, 1) := by decide +kernel
theorem dX5_copy_35 : decode cX5_copy 35 = .ok (.ifCond .ge 9, 3) := by decide +kernel
theorem dX5_copy_38 : decode cX5_copy 38 = .ok (.aload_n 0, 1) := by decide +kernel
theorem dX5_copy_39 : decode cX5_copy 39 = .ok (.iconst 1, 1) := by decide +kernel
theorem dX5_copy_40 : decode cX5_copy 40 = .ok (.invokevirtual 195, 3) := by decide +kernel
theorem dX5_copy_43 : decode cX5_copy 43 = .ok (.ireturn, 1) := by decide +kernel
theorem dX5_copy_44 : decode cX5_copy 44 = .ok (.aload_n 0, 1) := by decide +kernel
theorem dX5_copy_45 : decode cX5_copy 45 = .ok (.getfield 52, 3) := by decide +kernel
theorem dX5_copy_48 : decode cX5_copy 48 = .ok (.iload_n 1, 1) := by decide +kernel
theorem dX5_copy_49 : decode cX5_copy 49 = .ok (.iaload, 1) := by decide +kernel
theorem dX5_copy_50 : decode cX5_copy 50 = .ok (.aload_n 0, 1) := by decide +kernel
theorem dX5_copy_51 : decode cX5_copy 51 = .ok (.getfield 52, 3) := by decide +kernel
theorem dX5_copy_54 : decode cX5_copy 54 = .ok (.iload_n 3, 1) := by decide +kernel
theorem dX5_copy_55 : decode cX5_copy 55 = .ok (.iaload, 1) := by decide +kernel
theorem dX5_copy_56 : decode cX5_copy 56 = .ok (.if_icmp .eq 9, 3) := by decide +kernel
theorem dX5_copy_59 : decode cX5_copy 59 = .ok (.aload_n 0, 1) := by decide +kernel
theorem dX5_copy_60 : decode cX5_copy 60 = .ok (.iconst 2, 1) := by decide +kernel
theorem dX5_copy_61 : decode cX5_copy 61 = .ok (.invokevirtual 195, 3) := by decide +kernel
theorem dX5_copy_64 : decode cX5_copy 64 = .ok (.ireturn, 1) := by decide +kernel
theorem dX5_copy_65 : decode cX5_copy 65 = .ok (.iload_n 2, 1) := by decide +kernel
theorem dX5_copy_66 : decode cX5_copy 66 = .ok (.iload 5, 2) := by decide +kernel
theorem dX5_copy_68 : decode cX5_copy 68 = .ok (.i2l, 1) := by decide +kernel
theorem dX5_copy_69 : decode cX5_copy 69 = .ok (.aload_n 0, 1) := by decide +kernel
theorem dX5_copy_70 : decode cX5_copy 70 = .ok (.getfield 49, 3) := by decide +kernel
theorem dX5_copy_73 : decode cX5_copy 73 = .ok (.iload_n 1, 1) := by decide +kernel
theorem dX5_copy_74 : decode cX5_copy 74 = .ok (.iaload, 1) := by decide +kernel
theorem dX5_copy_75 : decode cX5_copy 75 = .ok (.invokestatic 205, 3) := by decide +kernel
theorem dX5_copy_78 : decode cX5_copy 78 = .ok (.ifCond .ne 20, 3) := by decide +kernel
theorem dX5_copy_81 : decode cX5_copy 81 = .ok (.iload 4, 2) := by decide +kernel
theorem dX5_copy_83 : decode cX5_copy 83 = .ok (.iload 5, 2) := by decide +kernel
theorem dX5_copy_85 : decode cX5_copy 85 = .ok (.i2l, 1) := by decide +kernel
theorem dX5_copy_86 : decode cX5_copy 86 = .ok (.aload_n 0, 1) := by decide +kernel
theorem dX5_copy_87 : decode cX5_copy 87 = .ok (.getfield 49, 3) := by decide +kernel
theorem dX5_copy_90 : decode cX5_copy 90 = .ok (.iload_n 3, 1) := by decide +kernel
theorem dX5_copy_91 : decode cX5_copy 91 = .ok (.iaload, 1) := by decide +kernel
theorem dX5_copy_92 : decode cX5_copy 92 = .ok (.invokestatic 205, 3) := by decide +kernel
theorem dX5_copy_95 : decode cX5_copy 95 = .ok (.ifCond .eq 9, 3) := by decide +kernel
theorem dX5_copy_98 : decode cX5_copy 98 = .ok (.aload_n 0, 1) := by decide +kernel
theorem dX5_copy_99 : decode cX5_copy 99 = .ok (.iconst 3, 1) := by decide +kernel
theorem dX5_copy_100 : decode cX5_copy 100 = .ok (.invokevirtual 195, 3) := by decide +kernel
theorem dX5_copy_103 : decode cX5_copy 103 = .ok (.ireturn, 1) := by decide +kernel
theorem dX5_copy_104 : decode cX5_copy 104 = .ok (.iconst 0, 1) := by decide +kernel
theorem dX5_copy_105 : decode cX5_copy 105 = .ok (.istore 6, 2) := by decide +kernel
theorem dX5_copy_107 : decode cX5_copy 107 = .ok (.iload 6, 2) := by decide +kernel
theorem dX5_copy_109 : decode cX5_copy 109 = .ok (.iload 5, 2) := by decide +kernel
theorem dX5_copy_111 : decode cX5_copy 111 = .ok (.if_icmp .ge 30, 3) := by decide +kernel
theorem dX5_copy_114 : decode cX5_copy 114 = .ok (.aload_n 0, 1) := by decide +kernel
theorem dX5_copy_115 : decode cX5_copy 115 = .ok (.getfield 58, 3) := by decide +kernel
theorem dX5_copy_118 : decode cX5_copy 118 = .ok (.iload 6, 2) := by decide +kernel
theorem dX5_copy_120 : decode cX5_copy 120 = .ok (.aload_n 0, 1) := by decide +kernel
theorem dX5_copy_121 : decode cX5_copy 121 = .ok (.getfield 55, 3) := by decide +kernel
theorem dX5_copy_124 : decode cX5_copy 124 = .ok (.bipush 60, 2) := by decide +kernel
theorem dX5_copy_126 : decode cX5_copy 126 = .ok (.iload_n 1, 1) := by decide +kernel
theorem dX5_copy_127 : decode cX5_copy 127 = .ok (.imul, 1) := by decide +kernel
theorem dX5_copy_128 : decode cX5_copy 128 = .ok (.iload_n 2, 1) := by decide +kernel
theorem dX5_copy_129 : decode cX5_copy 129 = .ok (.iadd, 1) := by decide +kernel
theorem dX5_copy_130 : decode cX5_copy 130 = .ok (.iload 6, 2) := by decide +kernel
theorem dX5_copy_132 : decode cX5_copy 132 = .ok (.iadd, 1) := by decide +kernel
theorem dX5_copy_133 : decode cX5_copy 133 = .ok (.iaload, 1) := by decide +kernel
theorem dX5_copy_134 : decode cX5_copy 134 = .ok (.iastore, 1) := by decide +kernel
theorem dX5_copy_135 : decode cX5_copy 135 = .ok (.iinc 6 1, 3) := by decide +kernel
theorem dX5_copy_138 : decode cX5_copy 138 = .ok (.goto (-31), 3) := by decide +kernel
theorem dX5_copy_141 : decode cX5_copy 141 = .ok (.iconst 0, 1) := by decide +kernel
theorem dX5_copy_142 : decode cX5_copy 142 = .ok (.istore 6, 2) := by decide +kernel
theorem dX5_copy_144 : decode cX5_copy 144 = .ok (.iload 6, 2) := by decide +kernel
theorem dX5_copy_146 : decode cX5_copy 146 = .ok (.iload 5, 2) := by decide +kernel
theorem dX5_copy_148 : decode cX5_copy 148 = .ok (.if_icmp .ge 31, 3) := by decide +kernel
theorem dX5_copy_151 : decode cX5_copy 151 = .ok (.aload_n 0, 1) := by decide +kernel
theorem dX5_copy_152 : decode cX5_copy 152 = .ok (.getfield 55, 3) := by decide +kernel
theorem dX5_copy_155 : decode cX5_copy 155 = .ok (.bipush 60, 2) := by decide +kernel
theorem dX5_copy_157 : decode cX5_copy 157 = .ok (.iload_n 3, 1) := by decide +kernel
theorem dX5_copy_158 : decode cX5_copy 158 = .ok (.imul, 1) := by decide +kernel
theorem dX5_copy_159 : decode cX5_copy 159 = .ok (.iload 4, 2) := by decide +kernel
theorem dX5_copy_161 : decode cX5_copy 161 = .ok (.iadd, 1) := by decide +kernel
theorem dX5_copy_162 : decode cX5_copy 162 = .ok (.iload 6, 2) := by decide +kernel
theorem dX5_copy_164 : decode cX5_copy 164 = .ok (.iadd, 1) := by decide +kernel
theorem dX5_copy_165 : decode cX5_copy 165 = .ok (.aload_n 0, 1) := by decide +kernel
theorem dX5_copy_166 : decode cX5_copy 166 = .ok (.getfield 58, 3) := by decide +kernel
theorem dX5_copy_169 : decode cX5_copy 169 = .ok (.iload 6, 2) := by decide +kernel
theorem dX5_copy_171 : decode cX5_copy 171 = .ok (.iaload, 1) := by decide +kernel
theorem dX5_copy_172 : decode cX5_copy 172 = .ok (.iastore, 1) := by decide +kernel
theorem dX5_copy_173 : decode cX5_copy 173 = .ok (.iinc 6 1, 3) := by decide +kernel
theorem dX5_copy_176 : decode cX5_copy 176 = .ok (.goto (-32), 3) := by decide +kernel
theorem dX5_copy_179 : decode cX5_copy 179 = .ok (.aload_n 0, 1) := by decide +kernel
theorem dX5_copy_180 : decode cX5_copy 180 = .ok (.iload 5, 2) := by decide +kernel
theorem dX5_copy_182 : decode cX5_copy 182 = .ok (.invokevirtual 192, 3) := by decide +kernel
theorem dX5_copy_185 : decode cX5_copy 185 = .ok (.ireturn, 1) := by decide +kernel
theorem dX5_addLines_0 : decode cX5_addLines 0 = .ok (.aload_n 0, 1) := by decide +kernel
theorem dX5_addLines_1 : decode cX5_addLines 1 = .ok (.getfield 92, 3) := by decide +kernel
theorem dX5_addLines_4 : decode cX5_addLines 4 = .ok (.istore_n 3, 1) := by decide +kernel
theorem dX5_addLines_5 : decode cX5_addLines 5 = .ok (.iconst 0, 1) := by decide +kernel
theorem dX5_addLines_6 : decode cX5_addLines 6 = .ok (.istore 4, 2) := by decide +kernel
theorem dX5_addLines_8 : decode cX5_addLines 8 = .ok (.iload 4, 2) := by decide +kernel
theorem dX5_addLines_10 : decode cX5_addLines 10 = .ok (.bipush 12, 2) := by decide +kernel
theorem dX5_addLines_12 : decode cX5_addLines 12 = .ok (.if_icmp .ge 23, 3) := by decide +kernel
theorem dX5_addLines_15 : decode cX5_addLines 15 = .ok (.aload_n 0, 1) := by decide +kernel
theorem dX5_addLines_16 : decode cX5_addLines 16 = .ok (.getfield 61, 3) := by decide +kernel
theorem dX5_addLines_19 : decode cX5_addLines 19 = .ok (.iload 4, 2) := by decide +kernel
theorem dX5_addLines_21 : decode cX5_addLines 21 = .ok (.aload_n 0, 1) := by decide +kernel
theorem dX5_addLines_22 : decode cX5_addLines 22 = .ok (.getfield 13, 3) := by decide +kernel
theorem dX5_addLines_25 : decode cX5_addLines 25 = .ok (.iload 4, 2) := by decide +kernel
theorem dX5_addLines_27 : decode cX5_addLines 27 = .ok (.iaload, 1) := by decide +kernel
theorem dX5_addLines_28 : decode cX5_addLines 28 = .ok (.iastore, 1) := by decide +kernel
theorem dX5_addLines_29 : decode cX5_addLines 29 = .ok (.iinc 4 1, 3) := by decide +kernel
theorem dX5_addLines_32 : decode cX5_addLines 32 = .ok (.goto (-24), 3) := by decide +kernel
theorem dX5_addLines_35 : decode cX5_addLines 35 = .ok (.iconst 0, 1) := by decide +kernel
theorem dX5_addLines_36 : decode cX5_addLines 36 = .ok (.istore 4, 2) := by decide +kernel
theorem dX5_addLines_38 : decode cX5_addLines 38 = .ok (.iload 4, 2) := by decide +kernel
theorem dX5_addLines_40 : decode cX5_addLines 40 = .ok (.iload_n 2, 1) := by decide +kernel
theorem dX5_addLines_41 : decode cX5_addLines 41 = .ok (.if_icmp .ge 98, 3) := by decide +kernel
theorem dX5_addLines_44 : decode cX5_addLines 44 = .ok (.aload_n 0, 1) := by decide +kernel
theorem dX5_addLines_45 : decode cX5_addLines 45 = .ok (.getfield 55, 3) := by decide +kernel
theorem dX5_addLines_48 : decode cX5_addLines 48 = .ok (.iload_n 1, 1) := by decide +kernel
theorem dX5_addLines_49 : decode cX5_addLines 49 = .ok (.iconst 2, 1) := by decide +kernel
theorem dX5_addLines_50 : decode cX5_addLines 50 = .ok (.iload 4, 2) := by decide +kernel
theorem dX5_addLines_52 : decode cX5_addLines 52 = .ok (.imul, 1) := by decide +kernel
theorem dX5_addLines_53 : decode cX5_addLines 53 = .ok (.iadd, 1) := by decide +kernel
theorem dX5_addLines_54 : decode cX5_addLines 54 = .ok (.iaload, 1) := by decide +kernel
theorem dX5_addLines_55 : decode cX5_addLines 55 = .ok (.istore 5, 2) := by decide +kernel
theorem dX5_addLines_57 : decode cX5_addLines 57 = .ok (.aload_n 0, 1) := by decide +kernel
theorem dX5_addLines_58 : decode cX5_addLines 58 = .ok (.getfield 55, 3) := by decide +kernel
theorem dX5_addLines_61 : decode cX5_addLines 61 = .ok (.iload_n 1, 1) := by decide +kernel
theorem dX5_addLines_62 : decode cX5_addLines 62 = .ok (.iconst 2, 1) := by decide +kernel
theorem dX5_addLines_63 : decode cX5_addLines 63 = .ok (.iload 4, 2) := by decide +kernel
theorem dX5_addLines_65 : decode cX5_addLines 65 = .ok (.imul, 1) := by decide +kernel
theorem dX5_addLines_66 : decode cX5_addLines 66 = .ok (.iadd, 1) := by decide +kernel
theorem dX5_addLines_67 : decode cX5_addLines 67 = .ok (.iconst 1, 1) := by decide +kernel
theorem dX5_addLines_68 : decode cX5_addLines 68 = .ok (.iadd, 1) := by decide +kernel
theorem dX5_addLines_69 : decode cX5_addLines 69 = .ok (.iaload, 1) := by decide +kernel
theorem dX5_addLines_70 : decode cX5_addLines 70 = .ok (.istore 6, 2) := by decide +kernel
theorem dX5_addLines_72 : decode cX5_addLines 72 = .ok (.aload_n 0, 1) := by decide +kernel
theorem dX5_addLines_73 : decode cX5_addLines 73 = .ok (.iload 5, 2) := by decide +kernel
theorem dX5_addLines_75 : decode cX5_addLines 75 = .ok (.iload 6, 2) := by decide +kernel
theorem dX5_addLines_77 : decode cX5_addLines 77 = .ok (.invokevirtual 108, 3) := by decide +kernel
theorem dX5_addLines_80 : decode cX5_addLines 80 = .ok (.istore 7, 2) := by decide +kernel
theorem dX5_addLines_82 : decode cX5_addLines 82 = .ok (.iload 7, 2) := by decide +kernel
theorem dX5_addLines_84 : decode cX5_addLines 84 = .ok (.ifCond .ge 41, 3) := by decide +kernel
theorem dX5_addLines_87 : decode cX5_addLines 87 = .ok (.aload_n 0, 1) := by decide +kernel
theorem dX5_addLines_88 : decode cX5_addLines 88 = .ok (.iload_n 3, 1) := by decide +kernel
theorem dX5_addLines_89 : decode cX5_addLines 89 = .ok (.putfield 92, 3) := by decide +kernel
theorem dX5_addLines_92 : decode cX5_addLines 92 = .ok (.iconst 0, 1) := by decide +kernel
theorem dX5_addLines_93 : decode cX5_addLines 93 = .ok (.istore 8, 2) := by decide +kernel
theorem dX5_addLines_95 : decode cX5_addLines 95 = .ok (.iload 8, 2) := by decide +kernel
theorem dX5_addLines_97 : decode cX5_addLines 97 = .ok (.bipush 12, 2) := by decide +kernel
theorem dX5_addLines_99 : decode cX5_addLines 99 = .ok (.if_icmp .ge 23, 3) := by decide +kernel
theorem dX5_addLines_102 : decode cX5_addLines 102 = .ok (.aload_n 0, 1) := by decide +kernel
theorem dX5_addLines_103 : decode cX5_addLines 103 = .ok (.getfield 13, 3) := by decide +kernel
theorem dX5_addLines_106 : decode cX5_addLines 106 = .ok (.iload 8, 2) := by decide +kernel
theorem dX5_addLines_108 : decode cX5_addLines 108 = .ok (.aload_n 0, 1) := by decide +kernel
theorem dX5_addLines_109 : decode cX5_addLines 109 = .ok (.getfield 61, 3) := by decide +kernel
theorem dX5_addLines_112 : decode cX5_addLines 112 = .ok (.iload 8, 2) := by decide +kernel
theorem dX5_addLines_114 : decode cX5_addLines 114 = .ok (.iaload, 1) := by decide +kernel
theorem dX5_addLines_115 : decode cX5_addLines 115 = .ok (.iastore, 1) := by decide +kernel
theorem dX5_addLines_116 : decode cX5_addLines 116 = .ok (.iinc 8 1, 3) := by decide +kernel
theorem dX5_addLines_119 : decode cX5_addLines 119 = .ok (.goto (-24), 3) := by decide +kernel
theorem dX5_addLines_122 : decode cX5_addLines 122 = .ok (.iload 7, 2) := by decide +kernel
theorem dX5_addLines_124 : decode cX5_addLines 124 = .ok (.ireturn, 1) := by decide +kernel
theorem dX5_addLines_125 : decode cX5_addLines 125 = .ok (.aload_n 0, 1) := by decide +kernel
theorem dX5_addLines_126 : decode cX5_addLines 126 = .ok (.iload 5, 2) := by decide +kernel
theorem dX5_addLines_128 : decode cX5_addLines 128 = .ok (.iload 6, 2) := by decide +kernel
theorem dX5_addLines_130 : decode cX5_addLines 130 = .ok (.invokevirtual 112, 3) := by decide +kernel
theorem dX5_addLines_133 : decode cX5_addLines 133 = .ok (.iinc 4 1, 3) := by decide +kernel
theorem dX5_addLines_136 : decode cX5_addLines 136 = .ok (.goto (-98), 3) := by decide +kernel
theorem dX5_addLines_139 : decode cX5_addLines 139 = .ok (.aload_n 0, 1) := by decide +kernel
theorem dX5_addLines_140 : decode cX5_addLines 140 = .ok (.invokevirtual 95, 3) := by decide +kernel
theorem dX5_addLines_143 : decode cX5_addLines 143 = .ok (.aload_n 0, 1) := by decide +kernel
theorem dX5_addLines_144 : decode cX5_addLines 144 = .ok (.getfield 92, 3) := by decide +kernel
theorem dX5_addLines_147 : decode cX5_addLines 147 = .ok (.ireturn, 1) := by decide +kernel
theorem dX5_lines_0 : decode cX5_lines 0 = .ok (.iload_n 1, 1) := by decide +kernel
theorem dX5_lines_1 : decode cX5_lines 1 = .ok (.invokestatic 189, 3) := by decide +kernel
theorem dX5_lines_4 : decode cX5_lines 4 = .ok (.ifCond .eq 9, 3) := by decide +kernel
theorem dX5_lines_7 : decode cX5_lines 7 = .ok (.aload_n 0, 1) := by decide +kernel
theorem dX5_lines_8 : decode cX5_lines 8 = .ok (.iconst (-1), 1) := by decide +kernel
theorem dX5_lines_9 : decode cX5_lines 9 = .ok (.invokevirtual 192, 3) := by decide +kernel
theorem dX5_lines_12 : decode cX5_lines 12 = .ok (.ireturn, 1) := by decide +kernel
theorem dX5_lines_13 : decode cX5_lines 13 = .ok (.iload_n 2, 1) := by decide +kernel
theorem dX5_lines_14 : decode cX5_lines 14 = .ok (.i2l, 1) := by decide +kernel
theorem dX5_lines_15 : decode cX5_lines 15 = .ok (.lconst 0, 1) := by decide +kernel
theorem dX5_lines_16 : decode cX5_lines 16 = .ok (.ldc2_w 181, 3) := by decide +kernel
theorem dX5_lines_19 : decode cX5_lines 19 = .ok (.invokestatic 77, 3) := by decide +kernel
theorem dX5_lines_22 : decode cX5_lines 22 = .ok (.ifCond .ne 10, 3) := by decide +kernel
theorem dX5_lines_25 : decode cX5_lines 25 = .ok (.aload_n 0, 1) := by decide +kernel
theorem dX5_lines_26 : decode cX5_lines 26 = .ok (.bipush (-2), 2) := by decide +kernel
theorem dX5_lines_28 : decode cX5_lines 28 = .ok (.invokevirtual 192, 3) := by decide +kernel
theorem dX5_lines_31 : decode cX5_lines 31 = .ok (.ireturn, 1) := by decide +kernel
theorem dX5_lines_32 : decode cX5_lines 32 = .ok (.aload_n 0, 1) := by decide +kernel
theorem dX5_lines_33 : decode cX5_lines 33 = .ok (.getfield 49, 3) := by decide +kernel
theorem dX5_lines_36 : decode cX5_lines 36 = .ok (.iload_n 1, 1) := by decide +kernel
theorem dX5_lines_37 : decode cX5_lines 37 = .ok (.iaload, 1) := by decide +kernel
theorem dX5_lines_38 : decode cX5_lines 38 = .ok (.ifCond .lt 19, 3) := by decide +kernel
theorem dX5_lines_41 : decode cX5_lines 41 = .ok (.aload_n 0, 1) := by decide +kernel
theorem dX5_lines_42 : decode cX5_lines 42 = .ok (.getfield 52, 3) := by decide +kernel
theorem dX5_lines_45 : decode cX5_lines 45 = .ok (.iload_n 1, 1) := by decide +kernel
theorem dX5_lines_46 : decode cX5_lines 46 = .ok (.iaload, 1) := by decide +kernel
theorem dX5_lines_47 : decode cX5_lines 47 = .ok (.iload_n 2, 1) := by decide +kernel
theorem dX5_lines_48 : decode cX5_lines 48 = .ok (.if_icmp .eq 9, 3) := by decide +kernel
theorem dX5_lines_51 : decode cX5_lines 51 = .ok (.aload_n 0, 1) := by decide +kernel
theorem dX5_lines_52 : decode cX5_lines 52 = .ok (.iconst 2, 1) := by decide +kernel
theorem dX5_lines_53 : decode cX5_lines 53 = .ok (.invokevirtual 195, 3) := by decide +kernel
theorem dX5_lines_56 : decode cX5_lines 56 = .ok (.ireturn, 1) := by decide +kernel
theorem dX5_lines_57 : decode cX5_lines 57 = .ok (.aload_n 0, 1) := by decide +kernel
theorem dX5_lines_58 : decode cX5_lines 58 = .ok (.getfield 49, 3) := by decide +kernel
theorem dX5_lines_61 : decode cX5_lines 61 = .ok (.iload_n 1, 1) := by decide +kernel
theorem dX5_lines_62 : decode cX5_lines 62 = .ok (.iaload, 1) := by decide +kernel
theorem dX5_lines_63 : decode cX5_lines 63 = .ok (.ifCond .ge 9, 3) := by decide +kernel
theorem dX5_lines_66 : decode cX5_lines 66 = .ok (.aload_n 0, 1) := by decide +kernel
theorem dX5_lines_67 : decode cX5_lines 67 = .ok (.iconst 1, 1) := by decide +kernel
theorem dX5_lines_68 : decode cX5_lines 68 = .ok (.invokevirtual 195, 3) := by decide +kernel
theorem dX5_lines_71 : decode cX5_lines 71 = .ok (.ireturn, 1) := by decide +kernel
theorem dX5_lines_72 : decode cX5_lines 72 = .ok (.iload 4, 2) := by decide +kernel
theorem dX5_lines_74 : decode cX5_lines 74 = .ok (.ifCond .ge 9, 3) := by decide +kernel
theorem dX5_lines_77 : decode cX5_lines 77 = .ok (.aload_n 0, 1) := by decide +kernel
theorem dX5_lines_78 : decode cX5_lines 78 = .ok (.iconst 4, 1) := by decide +kernel
theorem dX5_lines_79 : decode cX5_lines 79 = .ok (.invokevirtual 195, 3) := by decide +kernel
theorem dX5_lines_82 : decode cX5_lines 82 = .ok (.ireturn, 1) := by decide +kernel
theorem dX5_lines_83 : decode cX5_lines 83 = .ok (.iload_n 3, 1) := by decide +kernel
theorem dX5_lines_84 : decode cX5_lines 84 = .ok (.ldc2_w 181, 3) := by decide +kernel
theorem dX5_lines_87 : decode cX5_lines 87 = .ok (.iload 4, 2) := by decide +kernel
theorem dX5_lines_89 : decode cX5_lines 89 = .ok (.i2l, 1) := by decide +kernel
theorem dX5_lines_90 : decode cX5_lines 90 = .ok (.lmul, 1) := by decide +kernel
theorem dX5_lines_91 : decode cX5_lines 91 = .ok (.aload_n 0, 1) := by decide +kernel
theorem dX5_lines_92 : decode cX5_lines 92 = .ok (.getfield 49, 3) := by decide +kernel
theorem dX5_lines_95 : decode cX5_lines 95 = .ok (.iload_n 1, 1) := by decide +kernel
theorem dX5_lines_96 : decode cX5_lines 96 = .ok (.iaload, 1) := by decide +kernel
theorem dX5_lines_97 : decode cX5_lines 97 = .ok (.invokestatic 205, 3) := by decide +kernel
theorem dX5_lines_100 : decode cX5_lines 100 = .ok (.ifCond .eq 9, 3) := by decide +kernel
theorem dX5_lines_103 : decode cX5_lines 103 = .ok (.aload_n 0, 1) := by decide +kernel
theorem dX5_lines_104 : decode cX5_lines 104 = .ok (.iconst 3, 1) := by decide +kernel
theorem dX5_lines_105 : decode cX5_lines 105 = .ok (.invokevirtual 195, 3) := by decide +kernel
theorem dX5_lines_108 : decode cX5_lines 108 = .ok (.ireturn, 1) := by decide +kernel
theorem dX5_lines_109 : decode cX5_lines 109 = .ok (.aload_n 0, 1) := by decide +kernel
theorem dX5_lines_110 : decode cX5_lines 110 = .ok (.aload_n 0, 1) := by decide +kernel
theorem dX5_lines_111 : decode cX5_lines 111 = .ok (.bipush 60, 2) := by decide +kernel
theorem dX5_lines_113 : decode cX5_lines 113 = .ok (.iload_n 1, 1) := by decide +kernel
theorem dX5_lines_114 : decode cX5_lines 114 = .ok (.imul, 1) := by decide +kernel
theorem dX5_lines_115 : decode cX5_lines 115 = .ok (.iload_n 3, 1) := by decide +kernel
theorem dX5_lines_116 : decode cX5_lines 116 = .ok (.iadd, 1) := by decide +kernel
theorem dX5_lines_117 : decode cX5_lines 117 = .ok (.iload 4, 2) := by decide +kernel
theorem dX5_lines_119 : decode cX5_lines 119 = .ok (.invokevirtual 209, 3) := by decide +kernel
theorem dX5_lines_122 : decode cX5_lines 122 = .ok (.invokevirtual 192, 3) := by decide +kernel
theorem dX5_lines_125 : decode cX5_lines 125 = .ok (.ireturn, 1) := by decide +kernel
theorem dX5_traced_0 : decode cX5_traced 0 = .ok (.aload_n 0, 1) := by decide +kernel
theorem dX5_traced_1 : decode cX5_traced 1 = .ok (.bipush 31, 2) := by decide +kernel
theorem dX5_traced_3 : decode cX5_traced 3 = .ok (.aload_n 0, 1) := by decide +kernel
theorem dX5_traced_4 : decode cX5_traced 4 = .ok (.getfield 212, 3) := by decide +kernel
theorem dX5_traced_7 : decode cX5_traced 7 = .ok (.imul, 1) := by decide +kernel
theorem dX5_traced_8 : decode cX5_traced 8 = .ok (.iload_n 1, 1) := by decide +kernel
theorem dX5_traced_9 : decode cX5_traced 9 = .ok (.iadd, 1) := by decide +kernel
theorem dX5_traced_10 : decode cX5_traced 10 = .ok (.putfield 212, 3) := by decide +kernel
theorem dX5_traced_13 : decode cX5_traced 13 = .ok (.return_, 1) := by decide +kernel
theorem dX5_kindOf_0 : decode cX5_kindOf 0 = .ok (.aload_n 0, 1) := by decide +kernel
theorem dX5_kindOf_1 : decode cX5_kindOf 1 = .ok (.getfield 13, 3) := by decide +kernel
theorem dX5_kindOf_4 : decode cX5_kindOf 4 = .ok (.iload_n 1, 1) := by decide +kernel
theorem dX5_kindOf_5 : decode cX5_kindOf 5 = .ok (.iaload, 1) := by decide +kernel
theorem dX5_kindOf_6 : decode cX5_kindOf 6 = .ok (.ifCond .ne 7, 3) := by decide +kernel
theorem dX5_kindOf_9 : decode cX5_kindOf 9 = .ok (.iconst 0, 1) := by decide +kernel
theorem dX5_kindOf_10 : decode cX5_kindOf 10 = .ok (.goto 18, 3) := by decide +kernel
theorem dX5_kindOf_13 : decode cX5_kindOf 13 = .ok (.aload_n 0, 1) := by decide +kernel
theorem dX5_kindOf_14 : decode cX5_kindOf 14 = .ok (.getfield 13, 3) := by decide +kernel
theorem dX5_kindOf_17 : decode cX5_kindOf 17 = .ok (.iload_n 1, 1) := by decide +kernel
theorem dX5_kindOf_18 : decode cX5_kindOf 18 = .ok (.iaload, 1) := by decide +kernel
theorem dX5_kindOf_19 : decode cX5_kindOf 19 = .ok (.iconst 1, 1) := by decide +kernel
theorem dX5_kindOf_20 : decode cX5_kindOf 20 = .ok (.if_icmp .ne 7, 3) := by decide +kernel
theorem dX5_kindOf_23 : decode cX5_kindOf 23 = .ok (.iconst 2, 1) := by decide +kernel
theorem dX5_kindOf_24 : decode cX5_kindOf 24 = .ok (.goto 4, 3) := by decide +kernel
theorem dX5_kindOf_27 : decode cX5_kindOf 27 = .ok (.iconst 1, 1) := by decide +kernel
theorem dX5_kindOf_28 : decode cX5_kindOf 28 = .ok (.ireturn, 1) := by decide +kernel
theorem dX5_tell_0 : decode cX5_tell 0 = .ok (.aload_n 0, 1) := by decide +kernel
theorem dX5_tell_1 : decode cX5_tell 1 = .ok (.iload_n 1, 1) := by decide +kernel
theorem dX5_tell_2 : decode cX5_tell 2 = .ok (.invokevirtual 81, 3) := by decide +kernel
theorem dX5_tell_5 : decode cX5_tell 5 = .ok (.ifCond .eq 5, 3) := by decide +kernel
theorem dX5_tell_8 : decode cX5_tell 8 = .ok (.iconst (-1), 1) := by decide +kernel
theorem dX5_tell_9 : decode cX5_tell 9 = .ok (.ireturn, 1) := by decide +kernel
theorem dX5_tell_10 : decode cX5_tell 10 = .ok (.aload_n 0, 1) := by decide +kernel
theorem dX5_tell_11 : decode cX5_tell 11 = .ok (.iload_n 1, 1) := by decide +kernel
theorem dX5_tell_12 : decode cX5_tell 12 = .ok (.invokevirtual 215, 3) := by decide +kernel
theorem dX5_tell_15 : decode cX5_tell 15 = .ok (.istore_n 2, 1) := by decide +kernel
theorem dX5_tell_16 : decode cX5_tell 16 = .ok (.iload_n 2, 1) := by decide +kernel
theorem dX5_tell_17 : decode cX5_tell 17 = .ok (.ifCond .le 10, 3) := by decide +kernel
theorem dX5_tell_20 : decode cX5_tell 20 = .ok (.aload_n 0, 1) := by decide +kernel
theorem dX5_tell_21 : decode cX5_tell 21 = .ok (.iload_n 2, 1) := by decide +kernel
theorem dX5_tell_22 : decode cX5_tell 22 = .ok (.iconst 1, 1) := by decide +kernel
theorem dX5_tell_23 : decode cX5_tell 23 = .ok (.iadd, 1) := by decide +kernel
theorem dX5_tell_24 : decode cX5_tell 24 = .ok (.invokevirtual 218, 3) := by decide +kernel
theorem dX5_tell_27 : decode cX5_tell 27 = .ok (.aload_n 0, 1) := by decide +kernel
theorem dX5_tell_28 : decode cX5_tell 28 = .ok (.iconst 1, 1) := by decide +kernel
theorem dX5_tell_29 : decode cX5_tell 29 = .ok (.invokevirtual 218, 3) := by decide +kernel
theorem dX5_tell_32 : decode cX5_tell 32 = .ok (.iload_n 2, 1) := by decide +kernel
theorem dX5_tell_33 : decode cX5_tell 33 = .ok (.ifCond .ne 12, 3) := by decide +kernel
theorem dX5_tell_36 : decode cX5_tell 36 = .ok (.aload_n 0, 1) := by decide +kernel
theorem dX5_tell_37 : decode cX5_tell 37 = .ok (.getfield 7, 3) := by decide +kernel
theorem dX5_tell_40 : decode cX5_tell 40 = .ok (.iload_n 1, 1) := by decide +kernel
theorem dX5_tell_41 : decode cX5_tell 41 = .ok (.iaload, 1) := by decide +kernel
theorem dX5_tell_42 : decode cX5_tell 42 = .ok (.goto 33, 3) := by decide +kernel
theorem dX5_tell_45 : decode cX5_tell 45 = .ok (.iload_n 2, 1) := by decide +kernel
theorem dX5_tell_46 : decode cX5_tell 46 = .ok (.iconst 1, 1) := by decide +kernel
theorem dX5_tell_47 : decode cX5_tell 47 = .ok (.if_icmp .ne 19, 3) := by decide +kernel
theorem dX5_tell_50 : decode cX5_tell 50 = .ok (.aload_n 0, 1) := by decide +kernel
theorem dX5_tell_51 : decode cX5_tell 51 = .ok (.getfield 7, 3) := by decide +kernel
theorem dX5_tell_54 : decode cX5_tell 54 = .ok (.iload_n 1, 1) := by decide +kernel
theorem dX5_tell_55 : decode cX5_tell 55 = .ok (.iaload, 1) := by decide +kernel
theorem dX5_tell_56 : decode cX5_tell 56 = .ok (.aload_n 0, 1) := by decide +kernel
theorem dX5_tell_57 : decode cX5_tell 57 = .ok (.getfield 13, 3) := by decide +kernel
theorem dX5_tell_60 : decode cX5_tell 60 = .ok (.iload_n 1, 1) := by decide +kernel
theorem dX5_tell_61 : decode cX5_tell 61 = .ok (.iaload, 1) := by decide +kernel
theorem dX5_tell_62 : decode cX5_tell 62 = .ok (.iadd, 1) := by decide +kernel
theorem dX5_tell_63 : decode cX5_tell 63 = .ok (.goto 12, 3) := by decide +kernel
theorem dX5_tell_66 : decode cX5_tell 66 = .ok (.aload_n 0, 1) := by decide +kernel
theorem dX5_tell_67 : decode cX5_tell 67 = .ok (.getfield 7, 3) := by decide +kernel
theorem dX5_tell_70 : decode cX5_tell 70 = .ok (.iload_n 1, 1) := by decide +kernel
theorem dX5_tell_71 : decode cX5_tell 71 = .ok (.iaload, 1) := by decide +kernel
theorem dX5_tell_72 : decode cX5_tell 72 = .ok (.ineg, 1) := by decide +kernel
theorem dX5_tell_73 : decode cX5_tell 73 = .ok (.iconst 1, 1) := by decide +kernel
theorem dX5_tell_74 : decode cX5_tell 74 = .ok (.isub, 1) := by decide +kernel
theorem dX5_tell_75 : decode cX5_tell 75 = .ok (.ireturn, 1) := by decide +kernel
theorem dX5_hear_0 : decode cX5_hear 0 = .ok (.aload_n 0, 1) := by decide +kernel
theorem dX5_hear_1 : decode cX5_hear 1 = .ok (.iload_n 1, 1) := by decide +kernel
theorem dX5_hear_2 : decode cX5_hear 2 = .ok (.invokevirtual 81, 3) := by decide +kernel
theorem dX5_hear_5 : decode cX5_hear 5 = .ok (.ifCond .eq 5, 3) := by decide +kernel
theorem dX5_hear_8 : decode cX5_hear 8 = .ok (.iconst (-1), 1) := by decide +kernel
theorem dX5_hear_9 : decode cX5_hear 9 = .ok (.ireturn, 1) := by decide +kernel
theorem dX5_hear_10 : decode cX5_hear 10 = .ok (.aload_n 0, 1) := by decide +kernel
theorem dX5_hear_11 : decode cX5_hear 11 = .ok (.iload_n 1, 1) := by decide +kernel
theorem dX5_hear_12 : decode cX5_hear 12 = .ok (.invokevirtual 215, 3) := by decide +kernel
theorem dX5_hear_15 : decode cX5_hear 15 = .ok (.iconst 2, 1) := by decide +kernel
theorem dX5_hear_16 : decode cX5_hear 16 = .ok (.if_icmp .ne 7, 3) := by decide +kernel
theorem dX5_hear_19 : decode cX5_hear 19 = .ok (.iconst 1, 1) := by decide +kernel
theorem dX5_hear_20 : decode cX5_hear 20 = .ok (.goto 4, 3) := by decide +kernel
theorem dX5_hear_23 : decode cX5_hear 23 = .ok (.iconst 0, 1) := by decide +kernel
theorem dX5_hear_24 : decode cX5_hear 24 = .ok (.istore_n 2, 1) := by decide +kernel
theorem dX5_hear_25 : decode cX5_hear 25 = .ok (.aload_n 0, 1) := by decide +kernel
theorem dX5_hear_26 : decode cX5_hear 26 = .ok (.iload_n 2, 1) := by decide +kernel
theorem dX5_hear_27 : decode cX5_hear 27 = .ok (.ifCond .eq 7, 3) := by decide +kernel
theorem dX5_hear_30 : decode cX5_hear 30 = .ok (.iconst 5, 1) := by decide +kernel
theorem dX5_hear_31 : decode cX5_hear 31 = .ok (.goto 4, 3) := by decide +kernel
theorem dX5_hear_34 : decode cX5_hear 34 = .ok (.iconst 4, 1) := by decide +kernel
theorem dX5_hear_35 : decode cX5_hear 35 = .ok (.invokevirtual 218, 3) := by decide +kernel
theorem dX5_hear_38 : decode cX5_hear 38 = .ok (.iload_n 2, 1) := by decide +kernel
theorem dX5_hear_39 : decode cX5_hear 39 = .ok (.ifCond .eq 8, 3) := by decide +kernel
theorem dX5_hear_42 : decode cX5_hear 42 = .ok (.bipush 70, 2) := by decide +kernel
theorem dX5_hear_44 : decode cX5_hear 44 = .ok (.goto 4, 3) := by decide +kernel
theorem dX5_hear_47 : decode cX5_hear 47 = .ok (.iload_n 1, 1) := by decide +kernel
theorem dX5_hear_48 : decode cX5_hear 48 = .ok (.ireturn, 1) := by decide +kernel
theorem dX5_as_0 : decode cX5_as 0 = .ok (.aload_n 0, 1) := by decide +kernel
theorem dX5_as_1 : decode cX5_as 1 = .ok (.iload_n 1, 1) := by decide +kernel
theorem dX5_as_2 : decode cX5_as 2 = .ok (.invokevirtual 81, 3) := by decide +kernel
theorem dX5_as_5 : decode cX5_as 5 = .ok (.ifCond .eq 9, 3) := by decide +kernel
theorem dX5_as_8 : decode cX5_as 8 = .ok (.aload_n 0, 1) := by decide +kernel
theorem dX5_as_9 : decode cX5_as 9 = .ok (.iconst (-1), 1) := by decide +kernel
theorem dX5_as_10 : decode cX5_as 10 = .ok (.invokevirtual 192, 3) := by decide +kernel
theorem dX5_as_13 : decode cX5_as 13 = .ok (.ireturn, 1) := by decide +kernel
theorem dX5_as_14 : decode cX5_as 14 = .ok (.iload_n 2, 1) := by decide +kernel
theorem dX5_as_15 : decode cX5_as 15 = .ok (.i2l, 1) := by decide +kernel
theorem dX5_as_16 : decode cX5_as 16 = .ok (.lconst 0, 1) := by decide +kernel
theorem dX5_as_17 : decode cX5_as 17 = .ok (.ldc2_w 181, 3) := by decide +kernel
theorem dX5_as_20 : decode cX5_as 20 = .ok (.invokestatic 77, 3) := by decide +kernel
theorem dX5_as_23 : decode cX5_as 23 = .ok (.ifCond .ne 10, 3) := by decide +kernel
theorem dX5_as_26 : decode cX5_as 26 = .ok (.aload_n 0, 1) := by decide +kernel
theorem dX5_as_27 : decode cX5_as 27 = .ok (.bipush (-2), 2) := by decide +kernel
theorem dX5_as_29 : decode cX5_as 29 = .ok (.invokevirtual 192, 3) := by decide +kernel
theorem dX5_as_32 : decode cX5_as 32 = .ok (.ireturn, 1) := by decide +kernel
theorem dX5_as_33 : decode cX5_as 33 = .ok (.aload_n 0, 1) := by decide +kernel
theorem dX5_as_34 : decode cX5_as 34 = .ok (.iload_n 1, 1) := by decide +kernel
theorem dX5_as_35 : decode cX5_as 35 = .ok (.invokevirtual 215, 3) := by decide +kernel
theorem dX5_as_38 : decode cX5_as 38 = .ok (.iload_n 2, 1) := by decide +kernel
theorem dX5_as_39 : decode cX5_as 39 = .ok (.if_icmp .lt 11, 3) := by decide +kernel
theorem dX5_as_42 : decode cX5_as 42 = .ok (.aload_n 0, 1) := by decide +kernel
theorem dX5_as_43 : decode cX5_as 43 = .ok (.iconst 1, 1) := by decide +kernel
theorem dX5_as_44 : decode cX5_as 44 = .ok (.invokevirtual 192, 3) := by decide +kernel
theorem dX5_as_47 : decode cX5_as 47 = .ok (.goto 8, 3) := by decide +kernel
theorem dX5_as_50 : decode cX5_as 50 = .ok (.aload_n 0, 1) := by decide +kernel
theorem dX5_as_51 : decode cX5_as 51 = .ok (.iconst 2, 1) := by decide +kernel
theorem dX5_as_52 : decode cX5_as 52 = .ok (.invokevirtual 195, 3) := by decide +kernel
theorem dX5_as_55 : decode cX5_as 55 = .ok (.ireturn, 1) := by decide +kernel
theorem dX5_trace_0 : decode cX5_trace 0 = .ok (.aload_n 0, 1) := by decide +kernel
theorem dX5_trace_1 : decode cX5_trace 1 = .ok (.getfield 212, 3) := by decide +kernel
theorem dX5_trace_4 : decode cX5_trace 4 = .ok (.ireturn, 1) := by decide +kernel
theorem dX5_fault_0 : decode cX5_fault 0 = .ok (.aload_n 0, 1) := by decide +kernel
theorem dX5_fault_1 : decode cX5_fault 1 = .ok (.getfield 66, 3) := by decide +kernel
theorem dX5_fault_4 : decode cX5_fault 4 = .ok (.ireturn, 1) := by decide +kernel
theorem dX5_ends_0 : decode cX5_ends 0 = .ok (.iconst 0, 1) := by decide +kernel
theorem dX5_ends_1 : decode cX5_ends 1 = .ok (.istore_n 1, 1) := by decide +kernel
theorem dX5_ends_2 : decode cX5_ends 2 = .ok (.iconst 0, 1) := by decide +kernel
theorem dX5_ends_3 : decode cX5_ends 3 = .ok (.istore_n 2, 1) := by decide +kernel
theorem dX5_ends_4 : decode cX5_ends 4 = .ok (.iload_n 2, 1) := by decide +kernel
theorem dX5_ends_5 : decode cX5_ends 5 = .ok (.aload_n 0, 1) := by decide +kernel
theorem dX5_ends_6 : decode cX5_ends 6 = .ok (.getfield 74, 3) := by decide +kernel
theorem dX5_ends_9 : decode cX5_ends 9 = .ok (.if_icmp .ge 26, 3) := by decide +kernel
theorem dX5_ends_12 : decode cX5_ends 12 = .ok (.iload_n 1, 1) := by decide +kernel
theorem dX5_ends_13 : decode cX5_ends 13 = .ok (.aload_n 0, 1) := by decide +kernel
theorem dX5_ends_14 : decode cX5_ends 14 = .ok (.iload_n 2, 1) := by decide +kernel
theorem dX5_ends_15 : decode cX5_ends 15 = .ok (.invokevirtual 215, 3) := by decide +kernel
theorem dX5_ends_18 : decode cX5_ends 18 = .ok (.iconst 2, 1) := by decide +kernel
theorem dX5_ends_19 : decode cX5_ends 19 = .ok (.if_icmp .ne 7, 3) := by decide +kernel
theorem dX5_ends_22 : decode cX5_ends 22 = .ok (.iconst 1, 1) := by decide +kernel
theorem dX5_ends_23 : decode cX5_ends 23 = .ok (.goto 4, 3) := by decide +kernel
theorem dX5_ends_26 : decode cX5_ends 26 = .ok (.iconst 0, 1) := by decide +kernel
theorem dX5_ends_27 : decode cX5_ends 27 = .ok (.iadd, 1) := by decide +kernel
theorem dX5_ends_28 : decode cX5_ends 28 = .ok (.istore_n 1, 1) := by decide +kernel
theorem dX5_ends_29 : decode cX5_ends 29 = .ok (.iinc 2 1, 3) := by decide +kernel
theorem dX5_ends_32 : decode cX5_ends 32 = .ok (.goto (-28), 3) := by decide +kernel
theorem dX5_ends_35 : decode cX5_ends 35 = .ok (.iload_n 1, 1) := by decide +kernel
theorem dX5_ends_36 : decode cX5_ends 36 = .ok (.ireturn, 1) := by decide +kernel
theorem dX5_told_0 : decode cX5_told 0 = .ok (.iload_n 1, 1) := by decide +kernel
theorem dX5_told_1 : decode cX5_told 1 = .ok (.tableswitch 69 0 4 #[35, 40, 45, 59, 64], 35) := by decide +kernel
theorem dX5_told_36 : decode cX5_told 36 = .ok (.aload_n 0, 1) := by decide +kernel
theorem dX5_told_37 : decode cX5_told 37 = .ok (.getfield 74, 3) := by decide +kernel
theorem dX5_told_40 : decode cX5_told 40 = .ok (.ireturn, 1) := by decide +kernel
theorem dX5_told_41 : decode cX5_told 41 = .ok (.aload_n 0, 1) := by decide +kernel
theorem dX5_told_42 : decode cX5_told 42 = .ok (.getfield 92, 3) := by decide +kernel
theorem dX5_told_45 : decode cX5_told 45 = .ok (.ireturn, 1) := by decide +kernel
theorem dX5_told_46 : decode cX5_told 46 = .ok (.aload_n 0, 1) := by decide +kernel
theorem dX5_told_47 : decode cX5_told 47 = .ok (.invokevirtual 139, 3) := by decide +kernel
theorem dX5_told_50 : decode cX5_told 50 = .ok (.aload_n 0, 1) := by decide +kernel
theorem dX5_told_51 : decode cX5_told 51 = .ok (.getfield 28, 3) := by decide +kernel
theorem dX5_told_54 : decode cX5_told 54 = .ok (.aload_n 0, 1) := by decide +kernel
theorem dX5_told_55 : decode cX5_told 55 = .ok (.getfield 131, 3) := by decide +kernel
theorem dX5_told_58 : decode cX5_told 58 = .ok (.iaload, 1) := by decide +kernel
theorem dX5_told_59 : decode cX5_told 59 = .ok (.ireturn, 1) := by decide +kernel
theorem dX5_told_60 : decode cX5_told 60 = .ok (.aload_n 0, 1) := by decide +kernel
theorem dX5_told_61 : decode cX5_told 61 = .ok (.invokevirtual 221, 3) := by decide +kernel
theorem dX5_told_64 : decode cX5_told 64 = .ok (.ireturn, 1) := by decide +kernel
theorem dX5_told_65 : decode cX5_told 65 = .ok (.aload_n 0, 1) := by decide +kernel
theorem dX5_told_66 : decode cX5_told 66 = .ok (.invokevirtual 120, 3) := by decide +kernel
theorem dX5_told_69 : decode cX5_told 69 = .ok (.ireturn, 1) := by decide +kernel
theorem dX5_told_70 : decode cX5_told 70 = .ok (.bipush (-2), 2) := by decide +kernel
theorem dX5_told_72 : decode cX5_told 72 = .ok (.ireturn, 1) := by decide +kernel
