theorem dX5_init_0 : decode cX5_init 0 = .ok (.aload_n 0, 1) := by decide +kernel
theorem dX5_init_1 : decode cX5_init 1 = .ok (.invokespecial 1, 3) := by decide +kernel
theorem dX5_init_4 : decode cX5_init 4 = .ok (.aload_n 0, 1) := by decide +kernel
theorem dX5_init_5 : decode cX5_init 5 = .ok (.bipush 12, 2) := by decide +kernel
theorem dX5_init_7 : decode cX5_init 7 = .ok (.newarray .int, 2) := by decide +kernel
theorem dX5_init_9 : decode cX5_init 9 = .ok (.putfield 7, 3) := by decide +kernel
theorem dX5_init_12 : decode cX5_init 12 = .ok (.aload_n 0, 1) := by decide +kernel
theorem dX5_init_13 : decode cX5_init 13 = .ok (.bipush 12, 2) := by decide +kernel
theorem dX5_init_15 : decode cX5_init 15 = .ok (.newarray .int, 2) := by decide +kernel
theorem dX5_init_17 : decode cX5_init 17 = .ok (.putfield 13, 3) := by decide +kernel
theorem dX5_init_20 : decode cX5_init 20 = .ok (.aload_n 0, 1) := by decide +kernel
theorem dX5_init_21 : decode cX5_init 21 = .ok (.bipush 72, 2) := by decide +kernel
theorem dX5_init_23 : decode cX5_init 23 = .ok (.newarray .int, 2) := by decide +kernel
theorem dX5_init_25 : decode cX5_init 25 = .ok (.putfield 16, 3) := by decide +kernel
theorem dX5_init_28 : decode cX5_init 28 = .ok (.aload_n 0, 1) := by decide +kernel
theorem dX5_init_29 : decode cX5_init 29 = .ok (.bipush 72, 2) := by decide +kernel
theorem dX5_init_31 : decode cX5_init 31 = .ok (.newarray .int, 2) := by decide +kernel
theorem dX5_init_33 : decode cX5_init 33 = .ok (.putfield 19, 3) := by decide +kernel
theorem dX5_init_36 : decode cX5_init 36 = .ok (.aload_n 0, 1) := by decide +kernel
theorem dX5_init_37 : decode cX5_init 37 = .ok (.bipush 12, 2) := by decide +kernel
theorem dX5_init_39 : decode cX5_init 39 = .ok (.newarray .int, 2) := by decide +kernel
theorem dX5_init_41 : decode cX5_init 41 = .ok (.putfield 22, 3) := by decide +kernel
theorem dX5_init_44 : decode cX5_init 44 = .ok (.aload_n 0, 1) := by decide +kernel
theorem dX5_init_45 : decode cX5_init 45 = .ok (.sipush 264, 3) := by decide +kernel
theorem dX5_init_48 : decode cX5_init 48 = .ok (.newarray .int, 2) := by decide +kernel
theorem dX5_init_50 : decode cX5_init 50 = .ok (.putfield 25, 3) := by decide +kernel
theorem dX5_init_53 : decode cX5_init 53 = .ok (.aload_n 0, 1) := by decide +kernel
theorem dX5_init_54 : decode cX5_init 54 = .ok (.bipush 22, 2) := by decide +kernel
theorem dX5_init_56 : decode cX5_init 56 = .ok (.newarray .int, 2) := by decide +kernel
theorem dX5_init_58 : decode cX5_init 58 = .ok (.putfield 28, 3) := by decide +kernel
theorem dX5_init_61 : decode cX5_init 61 = .ok (.aload_n 0, 1) := by decide +kernel
theorem dX5_init_62 : decode cX5_init 62 = .ok (.bipush 12, 2) := by decide +kernel
theorem dX5_init_64 : decode cX5_init 64 = .ok (.newarray .int, 2) := by decide +kernel
theorem dX5_init_66 : decode cX5_init 66 = .ok (.putfield 31, 3) := by decide +kernel
theorem dX5_init_69 : decode cX5_init 69 = .ok (.aload_n 0, 1) := by decide +kernel
theorem dX5_init_70 : decode cX5_init 70 = .ok (.bipush 72, 2) := by decide +kernel
theorem dX5_init_72 : decode cX5_init 72 = .ok (.newarray .int, 2) := by decide +kernel
theorem dX5_init_74 : decode cX5_init 74 = .ok (.putfield 34, 3) := by decide +kernel
theorem dX5_init_77 : decode cX5_init 77 = .ok (.aload_n 0, 1) := by decide +kernel
theorem dX5_init_78 : decode cX5_init 78 = .ok (.bipush 12, 2) := by decide +kernel
theorem dX5_init_80 : decode cX5_init 80 = .ok (.newarray .int, 2) := by decide +kernel
theorem dX5_init_82 : decode cX5_init 82 = .ok (.putfield 37, 3) := by decide +kernel
theorem dX5_init_85 : decode cX5_init 85 = .ok (.aload_n 0, 1) := by decide +kernel
theorem dX5_init_86 : decode cX5_init 86 = .ok (.bipush 12, 2) := by decide +kernel
theorem dX5_init_88 : decode cX5_init 88 = .ok (.newarray .int, 2) := by decide +kernel
theorem dX5_init_90 : decode cX5_init 90 = .ok (.putfield 40, 3) := by decide +kernel
theorem dX5_init_93 : decode cX5_init 93 = .ok (.aload_n 0, 1) := by decide +kernel
theorem dX5_init_94 : decode cX5_init 94 = .ok (.bipush 12, 2) := by decide +kernel
theorem dX5_init_96 : decode cX5_init 96 = .ok (.newarray .int, 2) := by decide +kernel
theorem dX5_init_98 : decode cX5_init 98 = .ok (.putfield 43, 3) := by decide +kernel
theorem dX5_init_101 : decode cX5_init 101 = .ok (.aload_n 0, 1) := by decide +kernel
theorem dX5_init_102 : decode cX5_init 102 = .ok (.bipush 72, 2) := by decide +kernel
theorem dX5_init_104 : decode cX5_init 104 = .ok (.newarray .int, 2) := by decide +kernel
theorem dX5_init_106 : decode cX5_init 106 = .ok (.putfield 46, 3) := by decide +kernel
theorem dX5_init_109 : decode cX5_init 109 = .ok (.aload_n 0, 1) := by decide +kernel
theorem dX5_init_110 : decode cX5_init 110 = .ok (.iconst 4, 1) := by decide +kernel
theorem dX5_init_111 : decode cX5_init 111 = .ok (.newarray .int, 2) := by decide +kernel
theorem dX5_init_113 : decode cX5_init 113 = .ok (.putfield 49, 3) := by decide +kernel
theorem dX5_init_116 : decode cX5_init 116 = .ok (.aload_n 0, 1) := by decide +kernel
theorem dX5_init_117 : decode cX5_init 117 = .ok (.iconst 4, 1) := by decide +kernel
theorem dX5_init_118 : decode cX5_init 118 = .ok (.newarray .int, 2) := by decide +kernel
theorem dX5_init_120 : decode cX5_init 120 = .ok (.putfield 52, 3) := by decide +kernel
theorem dX5_init_123 : decode cX5_init 123 = .ok (.aload_n 0, 1) := by decide +kernel
theorem dX5_init_124 : decode cX5_init 124 = .ok (.sipush 240, 3) := by decide +kernel
theorem dX5_init_127 : decode cX5_init 127 = .ok (.newarray .int, 2) := by decide +kernel
theorem dX5_init_129 : decode cX5_init 129 = .ok (.putfield 55, 3) := by decide +kernel
theorem dX5_init_132 : decode cX5_init 132 = .ok (.aload_n 0, 1) := by decide +kernel
theorem dX5_init_133 : decode cX5_init 133 = .ok (.bipush 60, 2) := by decide +kernel
theorem dX5_init_135 : decode cX5_init 135 = .ok (.newarray .int, 2) := by decide +kernel
theorem dX5_init_137 : decode cX5_init 137 = .ok (.putfield 58, 3) := by decide +kernel
theorem dX5_init_140 : decode cX5_init 140 = .ok (.aload_n 0, 1) := by decide +kernel
theorem dX5_init_141 : decode cX5_init 141 = .ok (.bipush 12, 2) := by decide +kernel
theorem dX5_init_143 : decode cX5_init 143 = .ok (.newarray .int, 2) := by decide +kernel
theorem dX5_init_145 : decode cX5_init 145 = .ok (.putfield 61, 3) := by decide +kernel
theorem dX5_init_148 : decode cX5_init 148 = .ok (.iconst 0, 1) := by decide +kernel
theorem dX5_init_149 : decode cX5_init 149 = .ok (.istore_n 1, 1) := by decide +kernel
theorem dX5_init_150 : decode cX5_init 150 = .ok (.iload_n 1, 1) := by decide +kernel
theorem dX5_init_151 : decode cX5_init 151 = .ok (.iconst 4, 1) := by decide +kernel
theorem dX5_init_152 : decode cX5_init 152 = .ok (.if_icmp .ge 16, 3) := by decide +kernel
theorem dX5_init_155 : decode cX5_init 155 = .ok (.aload_n 0, 1) := by decide +kernel
theorem dX5_init_156 : decode cX5_init 156 = .ok (.getfield 49, 3) := by decide +kernel
theorem dX5_init_159 : decode cX5_init 159 = .ok (.iload_n 1, 1) := by decide +kernel
theorem dX5_init_160 : decode cX5_init 160 = .ok (.iconst (-1), 1) := by decide +kernel
theorem dX5_init_161 : decode cX5_init 161 = .ok (.iastore, 1) := by decide +kernel
theorem dX5_init_162 : decode cX5_init 162 = .ok (.iinc 1 1, 3) := by decide +kernel
theorem dX5_init_165 : decode cX5_init 165 = .ok (.goto (-15), 3) := by decide +kernel
theorem dX5_init_168 : decode cX5_init 168 = .ok (.return_, 1) := by decide +kernel
theorem dX5_in_0 : decode cX5_in 0 = .ok (.lload_n 0, 1) := by decide +kernel
theorem dX5_in_1 : decode cX5_in 1 = .ok (.lload_n 2, 1) := by decide +kernel
theorem dX5_in_2 : decode cX5_in 2 = .ok (.lcmp, 1) := by decide +kernel
theorem dX5_in_3 : decode cX5_in 3 = .ok (.ifCond .lt 14, 3) := by decide +kernel
theorem dX5_in_6 : decode cX5_in 6 = .ok (.lload_n 0, 1) := by decide +kernel
theorem dX5_in_7 : decode cX5_in 7 = .ok (.lload 4, 2) := by decide +kernel
theorem dX5_in_9 : decode cX5_in 9 = .ok (.lcmp, 1) := by decide +kernel
theorem dX5_in_10 : decode cX5_in 10 = .ok (.ifCond .gt 7, 3) := by decide +kernel
theorem dX5_in_13 : decode cX5_in 13 = .ok (.iconst 1, 1) := by decide +kernel
theorem dX5_in_14 : decode cX5_in 14 = .ok (.goto 4, 3) := by decide +kernel
theorem dX5_in_17 : decode cX5_in 17 = .ok (.iconst 0, 1) := by decide +kernel
theorem dX5_in_18 : decode cX5_in 18 = .ok (.ireturn, 1) := by decide +kernel
theorem dX5_lost_0 : decode cX5_lost 0 = .ok (.ldc2_w 64, 3) := by decide +kernel
theorem dX5_lost_3 : decode cX5_lost 3 = .ok (.lreturn, 1) := by decide +kernel
theorem dX5_refused_0 : decode cX5_refused 0 = .ok (.aload_n 0, 1) := by decide +kernel
theorem dX5_refused_1 : decode cX5_refused 1 = .ok (.iconst 0, 1) := by decide +kernel
theorem dX5_refused_2 : decode cX5_refused 2 = .ok (.putfield 66, 3) := by decide +kernel
theorem dX5_refused_5 : decode cX5_refused 5 = .ok (.iload_n 1, 1) := by decide +kernel
theorem dX5_refused_6 : decode cX5_refused 6 = .ok (.ireturn, 1) := by decide +kernel
theorem dX5_failed_0 : decode cX5_failed 0 = .ok (.aload_n 0, 1) := by decide +kernel
theorem dX5_failed_1 : decode cX5_failed 1 = .ok (.iload_n 1, 1) := by decide +kernel
theorem dX5_failed_2 : decode cX5_failed 2 = .ok (.putfield 66, 3) := by decide +kernel
theorem dX5_failed_5 : decode cX5_failed 5 = .ok (.bipush (-10), 2) := by decide +kernel
theorem dX5_failed_7 : decode cX5_failed 7 = .ok (.iload_n 1, 1) := by decide +kernel
theorem dX5_failed_8 : decode cX5_failed 8 = .ok (.isub, 1) := by decide +kernel
theorem dX5_failed_9 : decode cX5_failed 9 = .ok (.ireturn, 1) := by decide +kernel
theorem dX5_failedLong_0 : decode cX5_failedLong 0 = .ok (.aload_n 0, 1) := by decide +kernel
theorem dX5_failedLong_1 : decode cX5_failedLong 1 = .ok (.iload_n 1, 1) := by decide +kernel
theorem dX5_failedLong_2 : decode cX5_failedLong 2 = .ok (.putfield 66, 3) := by decide +kernel
theorem dX5_failedLong_5 : decode cX5_failedLong 5 = .ok (.invokestatic 70, 3) := by decide +kernel
theorem dX5_failedLong_8 : decode cX5_failedLong 8 = .ok (.lreturn, 1) := by decide +kernel
theorem dX5_noPost_0 : decode cX5_noPost 0 = .ok (.iload_n 1, 1) := by decide +kernel
theorem dX5_noPost_1 : decode cX5_noPost 1 = .ok (.i2l, 1) := by decide +kernel
theorem dX5_noPost_2 : decode cX5_noPost 2 = .ok (.lconst 0, 1) := by decide +kernel
theorem dX5_noPost_3 : decode cX5_noPost 3 = .ok (.aload_n 0, 1) := by decide +kernel
theorem dX5_noPost_4 : decode cX5_noPost 4 = .ok (.getfield 74, 3) := by decide +kernel
theorem dX5_noPost_7 : decode cX5_noPost 7 = .ok (.i2l, 1) := by decide +kernel
theorem dX5_noPost_8 : decode cX5_noPost 8 = .ok (.lconst 1, 1) := by decide +kernel
theorem dX5_noPost_9 : decode cX5_noPost 9 = .ok (.lsub, 1) := by decide +kernel
theorem dX5_noPost_10 : decode cX5_noPost 10 = .ok (.invokestatic 77, 3) := by decide +kernel
theorem dX5_noPost_13 : decode cX5_noPost 13 = .ok (.ifCond .ne 7, 3) := by decide +kernel
theorem dX5_noPost_16 : decode cX5_noPost 16 = .ok (.iconst 1, 1) := by decide +kernel
theorem dX5_noPost_17 : decode cX5_noPost 17 = .ok (.goto 4, 3) := by decide +kernel
theorem dX5_noPost_20 : decode cX5_noPost 20 = .ok (.iconst 0, 1) := by decide +kernel
theorem dX5_noPost_21 : decode cX5_noPost 21 = .ok (.ireturn, 1) := by decide +kernel
theorem dX5_noPort_0 : decode cX5_noPort 0 = .ok (.aload_n 0, 1) := by decide +kernel
theorem dX5_noPort_1 : decode cX5_noPort 1 = .ok (.iload_n 1, 1) := by decide +kernel
theorem dX5_noPort_2 : decode cX5_noPort 2 = .ok (.invokevirtual 81, 3) := by decide +kernel
theorem dX5_noPort_5 : decode cX5_noPort 5 = .ok (.ifCond .ne 21, 3) := by decide +kernel
theorem dX5_noPort_8 : decode cX5_noPort 8 = .ok (.iload_n 2, 1) := by decide +kernel
theorem dX5_noPort_9 : decode cX5_noPort 9 = .ok (.i2l, 1) := by decide +kernel
theorem dX5_noPort_10 : decode cX5_noPort 10 = .ok (.lconst 0, 1) := by decide +kernel
theorem dX5_noPort_11 : decode cX5_noPort 11 = .ok (.aload_n 0, 1) := by decide +kernel
theorem dX5_noPort_12 : decode cX5_noPort 12 = .ok (.getfield 13, 3) := by decide +kernel
theorem dX5_noPort_15 : decode cX5_noPort 15 = .ok (.iload_n 1, 1) := by decide +kernel
theorem dX5_noPort_16 : decode cX5_noPort 16 = .ok (.iaload, 1) := by decide +kernel
theorem dX5_noPort_17 : decode cX5_noPort 17 = .ok (.i2l, 1) := by decide +kernel
theorem dX5_noPort_18 : decode cX5_noPort 18 = .ok (.lconst 1, 1) := by decide +kernel
theorem dX5_noPort_19 : decode cX5_noPort 19 = .ok (.lsub, 1) := by decide +kernel
theorem dX5_noPort_20 : decode cX5_noPort 20 = .ok (.invokestatic 77, 3) := by decide +kernel
theorem dX5_noPort_23 : decode cX5_noPort 23 = .ok (.ifCond .ne 7, 3) := by decide +kernel
theorem dX5_noPort_26 : decode cX5_noPort 26 = .ok (.iconst 1, 1) := by decide +kernel
theorem dX5_noPort_27 : decode cX5_noPort 27 = .ok (.goto 4, 3) := by decide +kernel
theorem dX5_noPort_30 : decode cX5_noPort 30 = .ok (.iconst 0, 1) := by decide +kernel
theorem dX5_noPort_31 : decode cX5_noPort 31 = .ok (.ireturn, 1) := by decide +kernel
theorem dX5_other_0 : decode cX5_other 0 = .ok (.aload_n 0, 1) := by decide +kernel
theorem dX5_other_1 : decode cX5_other 1 = .ok (.iconst 0, 1) := by decide +kernel
theorem dX5_other_2 : decode cX5_other 2 = .ok (.putfield 85, 3) := by decide +kernel
theorem dX5_other_5 : decode cX5_other 5 = .ok (.aload_n 0, 1) := by decide +kernel
theorem dX5_other_6 : decode cX5_other 6 = .ok (.iconst 0, 1) := by decide +kernel
theorem dX5_other_7 : decode cX5_other 7 = .ok (.putfield 89, 3) := by decide +kernel
theorem dX5_other_10 : decode cX5_other 10 = .ok (.return_, 1) := by decide +kernel
theorem dX5_clear_0 : decode cX5_clear 0 = .ok (.aload_n 0, 1) := by decide +kernel
theorem dX5_clear_1 : decode cX5_clear 1 = .ok (.getfield 74, 3) := by decide +kernel
theorem dX5_clear_4 : decode cX5_clear 4 = .ok (.istore_n 1, 1) := by decide +kernel
theorem dX5_clear_5 : decode cX5_clear 5 = .ok (.aload_n 0, 1) := by decide +kernel
theorem dX5_clear_6 : decode cX5_clear 6 = .ok (.iconst 0, 1) := by decide +kernel
theorem dX5_clear_7 : decode cX5_clear 7 = .ok (.putfield 74, 3) := by decide +kernel
theorem dX5_clear_10 : decode cX5_clear 10 = .ok (.aload_n 0, 1) := by decide +kernel
theorem dX5_clear_11 : decode cX5_clear 11 = .ok (.iconst 0, 1) := by decide +kernel
theorem dX5_clear_12 : decode cX5_clear 12 = .ok (.putfield 92, 3) := by decide +kernel
theorem dX5_clear_15 : decode cX5_clear 15 = .ok (.aload_n 0, 1) := by decide +kernel
theorem dX5_clear_16 : decode cX5_clear 16 = .ok (.invokevirtual 95, 3) := by decide +kernel
theorem dX5_clear_19 : decode cX5_clear 19 = .ok (.iload_n 1, 1) := by decide +kernel
theorem dX5_clear_20 : decode cX5_clear 20 = .ok (.ireturn, 1) := by decide +kernel
theorem dX5_addPost_0 : decode cX5_addPost 0 = .ok (.aload_n 0, 1) := by decide +kernel
theorem dX5_addPost_1 : decode cX5_addPost 1 = .ok (.getfield 7, 3) := by decide +kernel
theorem dX5_addPost_4 : decode cX5_addPost 4 = .ok (.aload_n 0, 1) := by decide +kernel
theorem dX5_addPost_5 : decode cX5_addPost 5 = .ok (.getfield 74, 3) := by decide +kernel
theorem dX5_addPost_8 : decode cX5_addPost 8 = .ok (.iload_n 1, 1) := by decide +kernel
theorem dX5_addPost_9 : decode cX5_addPost 9 = .ok (.iastore, 1) := by decide +kernel
theorem dX5_addPost_10 : decode cX5_addPost 10 = .ok (.aload_n 0, 1) := by decide +kernel
theorem dX5_addPost_11 : decode cX5_addPost 11 = .ok (.getfield 13, 3) := by decide +kernel
theorem dX5_addPost_14 : decode cX5_addPost 14 = .ok (.aload_n 0, 1) := by decide +kernel
theorem dX5_addPost_15 : decode cX5_addPost 15 = .ok (.getfield 74, 3) := by decide +kernel
theorem dX5_addPost_18 : decode cX5_addPost 18 = .ok (.iconst 0, 1) := by decide +kernel
theorem dX5_addPost_19 : decode cX5_addPost 19 = .ok (.iastore, 1) := by decide +kernel
theorem dX5_addPost_20 : decode cX5_addPost 20 = .ok (.aload_n 0, 1) := by decide +kernel
theorem dX5_addPost_21 : decode cX5_addPost 21 = .ok (.dup, 1) := by decide +kernel
theorem dX5_addPost_22 : decode cX5_addPost 22 = .ok (.getfield 74, 3) := by decide +kernel
theorem dX5_addPost_25 : decode cX5_addPost 25 = .ok (.iconst 1, 1) := by decide +kernel
theorem dX5_addPost_26 : decode cX5_addPost 26 = .ok (.iadd, 1) := by decide +kernel
theorem dX5_addPost_27 : decode cX5_addPost 27 = .ok (.putfield 74, 3) := by decide +kernel
theorem dX5_addPost_30 : decode cX5_addPost 30 = .ok (.return_, 1) := by decide +kernel
theorem dX5_post_0 : decode cX5_post 0 = .ok (.iload_n 1, 1) := by decide +kernel
theorem dX5_post_1 : decode cX5_post 1 = .ok (.i2l, 1) := by decide +kernel
theorem dX5_post_2 : decode cX5_post 2 = .ok (.lconst 0, 1) := by decide +kernel
theorem dX5_post_3 : decode cX5_post 3 = .ok (.ldc2_w 98, 3) := by decide +kernel
theorem dX5_post_6 : decode cX5_post 6 = .ok (.invokestatic 77, 3) := by decide +kernel
theorem dX5_post_9 : decode cX5_post 9 = .ok (.ifCond .ne 6, 3) := by decide +kernel
theorem dX5_post_12 : decode cX5_post 12 = .ok (.bipush (-2), 2) := by decide +kernel
theorem dX5_post_14 : decode cX5_post 14 = .ok (.ireturn, 1) := by decide +kernel
theorem dX5_post_15 : decode cX5_post 15 = .ok (.aload_n 0, 1) := by decide +kernel
theorem dX5_post_16 : decode cX5_post 16 = .ok (.getfield 74, 3) := by decide +kernel
theorem dX5_post_19 : decode cX5_post 19 = .ok (.bipush 12, 2) := by decide +kernel
theorem dX5_post_21 : decode cX5_post 21 = .ok (.if_icmp .ne 6, 3) := by decide +kernel
theorem dX5_post_24 : decode cX5_post 24 = .ok (.bipush (-4), 2) := by decide +kernel
theorem dX5_post_26 : decode cX5_post 26 = .ok (.ireturn, 1) := by decide +kernel
theorem dX5_post_27 : decode cX5_post 27 = .ok (.aload_n 0, 1) := by decide +kernel
theorem dX5_post_28 : decode cX5_post 28 = .ok (.iload_n 1, 1) := by decide +kernel
theorem dX5_post_29 : decode cX5_post 29 = .ok (.invokevirtual 100, 3) := by decide +kernel
theorem dX5_post_32 : decode cX5_post 32 = .ok (.aload_n 0, 1) := by decide +kernel
theorem dX5_post_33 : decode cX5_post 33 = .ok (.invokevirtual 95, 3) := by decide +kernel
theorem dX5_post_36 : decode cX5_post 36 = .ok (.aload_n 0, 1) := by decide +kernel
theorem dX5_post_37 : decode cX5_post 37 = .ok (.getfield 74, 3) := by decide +kernel
theorem dX5_post_40 : decode cX5_post 40 = .ok (.iconst 1, 1) := by decide +kernel
theorem dX5_post_41 : decode cX5_post 41 = .ok (.isub, 1) := by decide +kernel
theorem dX5_post_42 : decode cX5_post 42 = .ok (.ireturn, 1) := by decide +kernel
theorem dX5_mark_0 : decode cX5_mark 0 = .ok (.aload_n 0, 1) := by decide +kernel
theorem dX5_mark_1 : decode cX5_mark 1 = .ok (.iload_n 1, 1) := by decide +kernel
theorem dX5_mark_2 : decode cX5_mark 2 = .ok (.invokevirtual 81, 3) := by decide +kernel
theorem dX5_mark_5 : decode cX5_mark 5 = .ok (.ifCond .eq 5, 3) := by decide +kernel
theorem dX5_mark_8 : decode cX5_mark 8 = .ok (.iconst (-1), 1) := by decide +kernel
theorem dX5_mark_9 : decode cX5_mark 9 = .ok (.ireturn, 1) := by decide +kernel
theorem dX5_mark_10 : decode cX5_mark 10 = .ok (.iload_n 2, 1) := by decide +kernel
theorem dX5_mark_11 : decode cX5_mark 11 = .ok (.i2l, 1) := by decide +kernel
theorem dX5_mark_12 : decode cX5_mark 12 = .ok (.lconst 0, 1) := by decide +kernel
theorem dX5_mark_13 : decode cX5_mark 13 = .ok (.ldc2_w 98, 3) := by decide +kernel
theorem dX5_mark_16 : decode cX5_mark 16 = .ok (.invokestatic 77, 3) := by decide +kernel
theorem dX5_mark_19 : decode cX5_mark 19 = .ok (.ifCond .ne 6, 3) := by decide +kernel
theorem dX5_mark_22 : decode cX5_mark 22 = .ok (.bipush (-2), 2) := by decide +kernel
theorem dX5_mark_24 : decode cX5_mark 24 = .ok (.ireturn, 1) := by decide +kernel
theorem dX5_mark_25 : decode cX5_mark 25 = .ok (.aload_n 0, 1) := by decide +kernel
theorem dX5_mark_26 : decode cX5_mark 26 = .ok (.getfield 7, 3) := by decide +kernel
theorem dX5_mark_29 : decode cX5_mark 29 = .ok (.iload_n 1, 1) := by decide +kernel
theorem dX5_mark_30 : decode cX5_mark 30 = .ok (.iaload, 1) := by decide +kernel
theorem dX5_mark_31 : decode cX5_mark 31 = .ok (.istore_n 3, 1) := by decide +kernel
theorem dX5_mark_32 : decode cX5_mark 32 = .ok (.aload_n 0, 1) := by decide +kernel
theorem dX5_mark_33 : decode cX5_mark 33 = .ok (.getfield 7, 3) := by decide +kernel
theorem dX5_mark_36 : decode cX5_mark 36 = .ok (.iload_n 1, 1) := by decide +kernel
theorem dX5_mark_37 : decode cX5_mark 37 = .ok (.iload_n 2, 1) := by decide +kernel
theorem dX5_mark_38 : decode cX5_mark 38 = .ok (.iastore, 1) := by decide +kernel
theorem dX5_mark_39 : decode cX5_mark 39 = .ok (.aload_n 0, 1) := by decide +kernel
theorem dX5_mark_40 : decode cX5_mark 40 = .ok (.iconst 0, 1) := by decide +kernel
theorem dX5_mark_41 : decode cX5_mark 41 = .ok (.putfield 89, 3) := by decide +kernel
theorem dX5_mark_44 : decode cX5_mark 44 = .ok (.iload_n 3, 1) := by decide +kernel
theorem dX5_mark_45 : decode cX5_mark 45 = .ok (.ireturn, 1) := by decide +kernel
theorem dX5_link_0 : decode cX5_link 0 = .ok (.aload_n 0, 1) := by decide +kernel
theorem dX5_link_1 : decode cX5_link 1 = .ok (.getfield 16, 3) := by decide +kernel
theorem dX5_link_4 : decode cX5_link 4 = .ok (.bipush 6, 2) := by decide +kernel
theorem dX5_link_6 : decode cX5_link 6 = .ok (.iload_n 1, 1) := by decide +kernel
theorem dX5_link_7 : decode cX5_link 7 = .ok (.imul, 1) := by decide +kernel
theorem dX5_link_8 : decode cX5_link 8 = .ok (.iload_n 2, 1) := by decide +kernel
theorem dX5_link_9 : decode cX5_link 9 = .ok (.iadd, 1) := by decide +kernel
theorem dX5_link_10 : decode cX5_link 10 = .ok (.iload_n 3, 1) := by decide +kernel
theorem dX5_link_11 : decode cX5_link 11 = .ok (.iastore, 1) := by decide +kernel
theorem dX5_link_12 : decode cX5_link 12 = .ok (.aload_n 0, 1) := by decide +kernel
theorem dX5_link_13 : decode cX5_link 13 = .ok (.getfield 19, 3) := by decide +kernel
theorem dX5_link_16 : decode cX5_link 16 = .ok (.bipush 6, 2) := by decide +kernel
theorem dX5_link_18 : decode cX5_link 18 = .ok (.iload_n 1, 1) := by decide +kernel
theorem dX5_link_19 : decode cX5_link 19 = .ok (.imul, 1) := by decide +kernel
theorem dX5_link_20 : decode cX5_link 20 = .ok (.iload_n 2, 1) := by decide +kernel
theorem dX5_link_21 : decode cX5_link 21 = .ok (.iadd, 1) := by decide +kernel
theorem dX5_link_22 : decode cX5_link 22 = .ok (.iload 4, 2) := by decide +kernel
theorem dX5_link_24 : decode cX5_link 24 = .ok (.iastore, 1) := by decide +kernel
theorem dX5_link_25 : decode cX5_link 25 = .ok (.aload_n 0, 1) := by decide +kernel
theorem dX5_link_26 : decode cX5_link 26 = .ok (.getfield 16, 3) := by decide +kernel
theorem dX5_link_29 : decode cX5_link 29 = .ok (.bipush 6, 2) := by decide +kernel
theorem dX5_link_31 : decode cX5_link 31 = .ok (.iload_n 3, 1) := by decide +kernel
theorem dX5_link_32 : decode cX5_link 32 = .ok (.imul, 1) := by decide +kernel
theorem dX5_link_33 : decode cX5_link 33 = .ok (.iload 4, 2) := by decide +kernel
theorem dX5_link_35 : decode cX5_link 35 = .ok (.iadd, 1) := by decide +kernel
theorem dX5_link_36 : decode cX5_link 36 = .ok (.iload_n 1, 1) := by decide +kernel
theorem dX5_link_37 : decode cX5_link 37 = .ok (.iastore, 1) := by decide +kernel
theorem dX5_link_38 : decode cX5_link 38 = .ok (.aload_n 0, 1) := by decide +kernel
theorem dX5_link_39 : decode cX5_link 39 = .ok (.getfield 19, 3) := by decide +kernel
theorem dX5_link_42 : decode cX5_link 42 = .ok (.bipush 6, 2) := by decide +kernel
theorem dX5_link_44 : decode cX5_link 44 = .ok (.iload_n 3, 1) := by decide +kernel
theorem dX5_link_45 : decode cX5_link 45 = .ok (.imul, 1) := by decide +kernel
theorem dX5_link_46 : decode cX5_link 46 = .ok (.iload 4, 2) := by decide +kernel
theorem dX5_link_48 : decode cX5_link 48 = .ok (.iadd, 1) := by decide +kernel
theorem dX5_link_49 : decode cX5_link 49 = .ok (.iload_n 2, 1) := by decide +kernel
theorem dX5_link_50 : decode cX5_link 50 = .ok (.iastore, 1) := by decide +kernel
theorem dX5_link_51 : decode cX5_link 51 = .ok (.return_, 1) := by decide +kernel
theorem dX5_refusalOf_0 : decode cX5_refusalOf 0 = .ok (.aload_n 0, 1) := by decide +kernel
theorem dX5_refusalOf_1 : decode cX5_refusalOf 1 = .ok (.iload_n 1, 1) := by decide +kernel
theorem dX5_refusalOf_2 : decode cX5_refusalOf 2 = .ok (.invokevirtual 81, 3) := by decide +kernel
theorem dX5_refusalOf_5 : decode cX5_refusalOf 5 = .ok (.ifCond .ne 11, 3) := by decide +kernel
theorem dX5_refusalOf_8 : decode cX5_refusalOf 8 = .ok (.aload_n 0, 1) := by decide +kernel
theorem dX5_refusalOf_9 : decode cX5_refusalOf 9 = .ok (.iload_n 2, 1) := by decide +kernel
theorem dX5_refusalOf_10 : decode cX5_refusalOf 10 = .ok (.invokevirtual 81, 3) := by decide +kernel
theorem dX5_refusalOf_13 : decode cX5_refusalOf 13 = .ok (.ifCond .eq 5, 3) := by decide +kernel
theorem dX5_refusalOf_16 : decode cX5_refusalOf 16 = .ok (.iconst (-1), 1) := by decide +kernel
theorem dX5_refusalOf_17 : decode cX5_refusalOf 17 = .ok (.ireturn, 1) := by decide +kernel
theorem dX5_refusalOf_18 : decode cX5_refusalOf 18 = .ok (.iload_n 1, 1) := by decide +kernel
theorem dX5_refusalOf_19 : decode cX5_refusalOf 19 = .ok (.iload_n 2, 1) := by decide +kernel
theorem dX5_refusalOf_20 : decode cX5_refusalOf 20 = .ok (.if_icmp .ne 8, 3) := by decide +kernel
theorem dX5_refusalOf_23 : decode cX5_refusalOf 23 = .ok (.bipush (-2), 2) := by decide +kernel
theorem dX5_refusalOf_25 : decode cX5_refusalOf 25 = .ok (.goto 31, 3) := by decide +kernel
theorem dX5_refusalOf_28 : decode cX5_refusalOf 28 = .ok (.aload_n 0, 1) := by decide +kernel
theorem dX5_refusalOf_29 : decode cX5_refusalOf 29 = .ok (.getfield 13, 3) := by decide +kernel
theorem dX5_refusalOf_32 : decode cX5_refusalOf 32 = .ok (.iload_n 1, 1) := by decide +kernel
theorem dX5_refusalOf_33 : decode cX5_refusalOf 33 = .ok (.iaload, 1) := by decide +kernel
theorem dX5_refusalOf_34 : decode cX5_refusalOf 34 = .ok (.bipush 6, 2) := by decide +kernel
theorem dX5_refusalOf_36 : decode cX5_refusalOf 36 = .ok (.if_icmp .eq 14, 3) := by decide +kernel
theorem dX5_refusalOf_39 : decode cX5_refusalOf 39 = .ok (.aload_n 0, 1) := by decide +kernel
theorem dX5_refusalOf_40 : decode cX5_refusalOf 40 = .ok (.getfield 13, 3) := by decide +kernel
theorem dX5_refusalOf_43 : decode cX5_refusalOf 43 = .ok (.iload_n 2, 1) := by decide +kernel
theorem dX5_refusalOf_44 : decode cX5_refusalOf 44 = .ok (.iaload, 1) := by decide +kernel
theorem dX5_refusalOf_45 : decode cX5_refusalOf 45 = .ok (.bipush 6, 2) := by decide +kernel
theorem dX5_refusalOf_47 : decode cX5_refusalOf 47 = .ok (.if_icmp .ne 8, 3) := by decide +kernel
theorem dX5_refusalOf_50 : decode cX5_refusalOf 50 = .ok (.bipush (-4), 2) := by decide +kernel
theorem dX5_refusalOf_52 : decode cX5_refusalOf 52 = .ok (.goto 4, 3) := by decide +kernel
theorem dX5_refusalOf_55 : decode cX5_refusalOf 55 = .ok (.iconst 0, 1) := by decide +kernel
theorem dX5_refusalOf_56 : decode cX5_refusalOf 56 = .ok (.ireturn, 1) := by decide +kernel
theorem dX5_addLine_0 : decode cX5_addLine 0 = .ok (.aload_n 0, 1) := by decide +kernel
theorem dX5_addLine_1 : decode cX5_addLine 1 = .ok (.iload_n 1, 1) := by decide +kernel
theorem dX5_addLine_2 : decode cX5_addLine 2 = .ok (.aload_n 0, 1) := by decide +kernel
theorem dX5_addLine_3 : decode cX5_addLine 3 = .ok (.getfield 13, 3) := by decide +kernel
theorem dX5_addLine_6 : decode cX5_addLine 6 = .ok (.iload_n 1, 1) := by decide +kernel
theorem dX5_addLine_7 : decode cX5_addLine 7 = .ok (.iaload, 1) := by decide +kernel
theorem dX5_addLine_8 : decode cX5_addLine 8 = .ok (.iload_n 2, 1) := by decide +kernel
theorem dX5_addLine_9 : decode cX5_addLine 9 = .ok (.aload_n 0, 1) := by decide +kernel
theorem dX5_addLine_10 : decode cX5_addLine 10 = .ok (.getfield 13, 3) := by decide +kernel
theorem dX5_addLine_13 : decode cX5_addLine 13 = .ok (.iload_n 2, 1) := by decide +kernel
theorem dX5_addLine_14 : decode cX5_addLine 14 = .ok (.iaload, 1) := by decide +kernel
theorem dX5_addLine_15 : decode cX5_addLine 15 = .ok (.invokevirtual 104, 3) := by decide +kernel
theorem dX5_addLine_18 : decode cX5_addLine 18 = .ok (.aload_n 0, 1) := by decide +kernel
theorem dX5_addLine_19 : decode cX5_addLine 19 = .ok (.getfield 13, 3) := by decide +kernel
theorem dX5_addLine_22 : decode cX5_addLine 22 = .ok (.iload_n 1, 1) := by decide +kernel
theorem dX5_addLine_23 : decode cX5_addLine 23 = .ok (.dup2, 1) := by decide +kernel
theorem dX5_addLine_24 : decode cX5_addLine 24 = .ok (.iaload, 1) := by decide +kernel
theorem dX5_addLine_25 : decode cX5_addLine 25 = .ok (.iconst 1, 1) := by decide +kernel
theorem dX5_addLine_26 : decode cX5_addLine 26 = .ok (.iadd, 1) := by decide +kernel
theorem dX5_addLine_27 : decode cX5_addLine 27 = .ok (.iastore, 1) := by decide +kernel
theorem dX5_addLine_28 : decode cX5_addLine 28 = .ok (.aload_n 0, 1) := by decide +kernel
theorem dX5_addLine_29 : decode cX5_addLine 29 = .ok (.getfield 13, 3) := by decide +kernel
theorem dX5_addLine_32 : decode cX5_addLine 32 = .ok (.iload_n 2, 1) := by decide +kernel
theorem dX5_addLine_33 : decode cX5_addLine 33 = .ok (.dup2, 1) := by decide +kernel
theorem dX5_addLine_34 : decode cX5_addLine 34 = .ok (.iaload, 1) := by decide +kernel
theorem dX5_addLine_35 : decode cX5_addLine 35 = .ok (.iconst 1, 1) := by decide +kernel
theorem dX5_addLine_36 : decode cX5_addLine 36 = .ok (.iadd, 1) := by decide +kernel
theorem dX5_addLine_37 : decode cX5_addLine 37 = .ok (.iastore, 1) := by decide +kernel
theorem dX5_addLine_38 : decode cX5_addLine 38 = .ok (.aload_n 0, 1) := by decide +kernel
theorem dX5_addLine_39 : decode cX5_addLine 39 = .ok (.dup, 1) := by decide +kernel
theorem dX5_addLine_40 : decode cX5_addLine 40 = .ok (.getfield 92, 3) := by decide +kernel
theorem dX5_addLine_43 : decode cX5_addLine 43 = .ok (.iconst 1, 1) := by decide +kernel
theorem dX5_addLine_44 : decode cX5_addLine 44 = .ok (.iadd, 1) := by decide +kernel
theorem dX5_addLine_45 : decode cX5_addLine 45 = .ok (.putfield 92, 3) := by decide +kernel
theorem dX5_addLine_48 : decode cX5_addLine 48 = .ok (.return_, 1) := by decide +kernel
theorem dX5_line_0 : decode cX5_line 0 = .ok (.aload_n 0, 1) := by decide +kernel
theorem dX5_line_1 : decode cX5_line 1 = .ok (.iload_n 1, 1) := by decide +kernel
theorem dX5_line_2 : decode cX5_line 2 = .ok (.iload_n 2, 1) := by decide +kernel
theorem dX5_line_3 : decode cX5_line 3 = .ok (.invokevirtual 108, 3) := by decide +kernel
theorem dX5_line_6 : decode cX5_line 6 = .ok (.istore_n 3, 1) := by decide +kernel
theorem dX5_line_7 : decode cX5_line 7 = .ok (.iload_n 3, 1) := by decide +kernel
theorem dX5_line_8 : decode cX5_line 8 = .ok (.ifCond .ge 5, 3) := by decide +kernel
theorem dX5_line_11 : decode cX5_line 11 = .ok (.iload_n 3, 1) := by decide +kernel
theorem dX5_line_12 : decode cX5_line 12 = .ok (.ireturn, 1) := by decide +kernel
theorem dX5_line_13 : decode cX5_line 13 = .ok (.aload_n 0, 1) := by decide +kernel
theorem dX5_line_14 : decode cX5_line 14 = .ok (.iload_n 1, 1) := by decide +kernel
theorem dX5_line_15 : decode cX5_line 15 = .ok (.iload_n 2, 1) := by decide +kernel
theorem dX5_line_16 : decode cX5_line 16 = .ok (.invokevirtual 112, 3) := by decide +kernel
theorem dX5_line_19 : decode cX5_line 19 = .ok (.aload_n 0, 1) := by decide +kernel
theorem dX5_line_20 : decode cX5_line 20 = .ok (.invokevirtual 95, 3) := by decide +kernel
theorem dX5_line_23 : decode cX5_line 23 = .ok (.aload_n 0, 1) := by decide +kernel
theorem dX5_line_24 : decode cX5_line 24 = .ok (.getfield 92, 3) := by decide +kernel
theorem dX5_line_27 : decode cX5_line 27 = .ok (.ireturn, 1) := by decide +kernel
theorem dX5_swap_0 : decode cX5_swap 0 = .ok (.aload_n 0, 1) := by decide +kernel
theorem dX5_swap_1 : decode cX5_swap 1 = .ok (.iload_n 1, 1) := by decide +kernel
theorem dX5_swap_2 : decode cX5_swap 2 = .ok (.iload_n 2, 1) := by decide +kernel
theorem dX5_swap_3 : decode cX5_swap 3 = .ok (.invokevirtual 116, 3) := by decide +kernel
theorem dX5_swap_6 : decode cX5_swap 6 = .ok (.ifCond .ne 12, 3) := by decide +kernel
theorem dX5_swap_9 : decode cX5_swap 9 = .ok (.aload_n 0, 1) := by decide +kernel
theorem dX5_swap_10 : decode cX5_swap 10 = .ok (.iload_n 1, 1) := by decide +kernel
theorem dX5_swap_11 : decode cX5_swap 11 = .ok (.iload_n 3, 1) := by decide +kernel
theorem dX5_swap_12 : decode cX5_swap 12 = .ok (.invokevirtual 116, 3) := by decide +kernel
theorem dX5_swap_15 : decode cX5_swap 15 = .ok (.ifCond .eq 5, 3) := by decide +kernel
theorem dX5_swap_18 : decode cX5_swap 18 = .ok (.iconst (-1), 1) := by decide +kernel
theorem dX5_swap_19 : decode cX5_swap 19 = .ok (.ireturn, 1) := by decide +kernel
theorem dX5_swap_20 : decode cX5_swap 20 = .ok (.aload_n 0, 1) := by decide +kernel
theorem dX5_swap_21 : decode cX5_swap 21 = .ok (.getfield 16, 3) := by decide +kernel
theorem dX5_swap_24 : decode cX5_swap 24 = .ok (.bipush 6, 2) := by decide +kernel
theorem dX5_swap_26 : decode cX5_swap 26 = .ok (.iload_n 1, 1) := by decide +kernel
theorem dX5_swap_27 : decode cX5_swap 27 = .ok (.imul, 1) := by decide +kernel
theorem dX5_swap_28 : decode cX5_swap 28 = .ok (.iload_n 2, 1) := by decide +kernel
theorem dX5_swap_29 : decode cX5_swap 29 = .ok (.iadd, 1) := by decide +kernel
theorem dX5_swap_30 : decode cX5_swap 30 = .ok (.iaload, 1) := by decide +kernel
theorem dX5_swap_31 : decode cX5_swap 31 = .ok (.istore 4, 2) := by decide +kernel
theorem dX5_swap_33 : decode cX5_swap 33 = .ok (.aload_n 0, 1) := by decide +kernel
theorem dX5_swap_34 : decode cX5_swap 34 = .ok (.getfield 19, 3) := by decide +kernel
theorem dX5_swap_37 : decode cX5_swap 37 = .ok (.bipush 6, 2) := by decide +kernel
theorem dX5_swap_39 : decode cX5_swap 39 = .ok (.iload_n 1, 1) := by decide +kernel
theorem dX5_swap_40 : decode cX5_swap 40 = .ok (.imul, 1) := by decide +kernel
theorem dX5_swap_41 : decode cX5_swap 41 = .ok (.iload_n 2, 1) := by decide +kernel
theorem dX5_swap_42 : decode cX5_swap 42 = .ok (.iadd, 1) := by decide +kernel
theorem dX5_swap_43 : decode cX5_swap 43 = .ok (.iaload, 1) := by decide +kernel
theorem dX5_swap_44 : decode cX5_swap 44 = .ok (.istore 5, 2) := by decide +kernel
theorem dX5_swap_46 : decode cX5_swap 46 = .ok (.aload_n 0, 1) := by decide +kernel
theorem dX5_swap_47 : decode cX5_swap 47 = .ok (.getfield 16, 3) := by decide +kernel
theorem dX5_swap_50 : decode cX5_swap 50 = .ok (.bipush 6, 2) := by decide +kernel
theorem dX5_swap_52 : decode cX5_swap 52 = .ok (.iload_n 1, 1) := by decide +kernel
theorem dX5_swap_53 : decode cX5_swap 53 = .ok (.imul, 1) := by decide +kernel
theorem dX5_swap_54 : decode cX5_swap 54 = .ok (.iload_n 3, 1) := by decide +kernel
theorem dX5_swap_55 : decode cX5_swap 55 = .ok (.iadd, 1) := by decide +kernel
theorem dX5_swap_56 : decode cX5_swap 56 = .ok (.iaload, 1) := by decide +kernel
theorem dX5_swap_57 : decode cX5_swap 57 = .ok (.istore 6, 2) := by decide +kernel
theorem dX5_swap_59 : decode cX5_swap 59 = .ok (.aload_n 0, 1) := by decide +kernel
theorem dX5_swap_60 : decode cX5_swap 60 = .ok (.getfield 19, 3) := by decide +kernel
theorem dX5_swap_63 : decode cX5_swap 63 = .ok (.bipush 6, 2) := by decide +kernel
theorem dX5_swap_65 : decode cX5_swap 65 = .ok (.iload_n 1, 1) := by decide +kernel
theorem dX5_swap_66 : decode cX5_swap 66 = .ok (.imul, 1) := by decide +kernel
theorem dX5_swap_67 : decode cX5_swap 67 = .ok (.iload_n 3, 1) := by decide +kernel
theorem dX5_swap_68 : decode cX5_swap 68 = .ok (.iadd, 1) := by decide +kernel
theorem dX5_swap_69 : decode cX5_swap 69 = .ok (.iaload, 1) := by decide +kernel
theorem dX5_swap_70 : decode cX5_swap 70 = .ok (.istore 7, 2) := by decide +kernel
theorem dX5_swap_72 : decode cX5_swap 72 = .ok (.aload_n 0, 1) := by decide +kernel
theorem dX5_swap_73 : decode cX5_swap 73 = .ok (.iload_n 1, 1) := by decide +kernel
theorem dX5_swap_74 : decode cX5_swap 74 = .ok (.iload_n 2, 1) := by decide +kernel
theorem dX5_swap_75 : decode cX5_swap 75 = .ok (.iload 6, 2) := by decide +kernel
theorem dX5_swap_77 : decode cX5_swap 77 = .ok (.iload 7, 2) := by decide +kernel
theorem dX5_swap_79 : decode cX5_swap 79 = .ok (.invokevirtual 104, 3) := by decide +kernel
theorem dX5_swap_82 : decode cX5_swap 82 = .ok (.aload_n 0, 1) := by decide +kernel
theorem dX5_swap_83 : decode cX5_swap 83 = .ok (.iload_n 1, 1) := by decide +kernel
theorem dX5_swap_84 : decode cX5_swap 84 = .ok (.iload_n 3, 1) := by decide +kernel
theorem dX5_swap_85 : decode cX5_swap 85 = .ok (.iload 4, 2) := by decide +kernel
theorem dX5_swap_87 : decode cX5_swap 87 = .ok (.iload 5, 2) := by decide +kernel
theorem dX5_swap_89 : decode cX5_swap 89 = .ok (.invokevirtual 104, 3) := by decide +kernel
theorem dX5_swap_92 : decode cX5_swap 92 = .ok (.aload_n 0, 1) := by decide +kernel
theorem dX5_swap_93 : decode cX5_swap 93 = .ok (.invokevirtual 95, 3) := by decide +kernel
theorem dX5_swap_96 : decode cX5_swap 96 = .ok (.iload_n 2, 1) := by decide +kernel
theorem dX5_swap_97 : decode cX5_swap 97 = .ok (.iload_n 3, 1) := by decide +kernel
theorem dX5_swap_98 : decode cX5_swap 98 = .ok (.if_icmp .ne 7, 3) := by decide +kernel
theorem dX5_swap_101 : decode cX5_swap 101 = .ok (.iconst 0, 1) := by decide +kernel
theorem dX5_swap_102 : decode cX5_swap 102 = .ok (.goto 4, 3) := by decide +kernel
theorem dX5_swap_105 : decode cX5_swap 105 = .ok (.iconst 1, 1) := by decide +kernel
theorem dX5_swap_106 : decode cX5_swap 106 = .ok (.ireturn, 1) := by decide +kernel
theorem dX5_end_0 : decode cX5_end 0 = .ok (.aload_n 0, 1) := by decide +kernel
theorem dX5_end_1 : decode cX5_end 1 = .ok (.iload_n 1, 1) := by decide +kernel
theorem dX5_end_2 : decode cX5_end 2 = .ok (.iload_n 2, 1) := by decide +kernel
theorem dX5_end_3 : decode cX5_end 3 = .ok (.invokevirtual 116, 3) := by decide +kernel
theorem dX5_end_6 : decode cX5_end 6 = .ok (.ifCond .eq 5, 3) := by decide +kernel
theorem dX5_end_9 : decode cX5_end 9 = .ok (.iconst (-1), 1) := by decide +kernel
theorem dX5_end_10 : decode cX5_end 10 = .ok (.ireturn, 1) := by decide +kernel
theorem dX5_end_11 : decode cX5_end 11 = .ok (.iload_n 3, 1) := by decide +kernel
theorem dX5_end_12 : decode cX5_end 12 = .ok (.ifCond .ne 17, 3) := by decide +kernel
theorem dX5_end_15 : decode cX5_end 15 = .ok (.aload_n 0, 1) := by decide +kernel
theorem dX5_end_16 : decode cX5_end 16 = .ok (.getfield 16, 3) := by decide +kernel
theorem dX5_end_19 : decode cX5_end 19 = .ok (.bipush 6, 2) := by decide +kernel
theorem dX5_end_21 : decode cX5_end 21 = .ok (.iload_n 1, 1) := by decide +kernel
theorem dX5_end_22 : decode cX5_end 22 = .ok (.imul, 1) := by decide +kernel
theorem dX5_end_23 : decode cX5_end 23 = .ok (.iload_n 2, 1) := by decide +kernel
theorem dX5_end_24 : decode cX5_end 24 = .ok (.iadd, 1) := by decide +kernel
theorem dX5_end_25 : decode cX5_end 25 = .ok (.iaload, 1) := by decide +kernel
theorem dX5_end_26 : decode cX5_end 26 = .ok (.goto 24, 3) := by decide +kernel
theorem dX5_end_29 : decode cX5_end 29 = .ok (.iload_n 3, 1) := by decide +kernel
theorem dX5_end_30 : decode cX5_end 30 = .ok (.iconst 1, 1) := by decide +kernel
theorem dX5_end_31 : decode cX5_end 31 = .ok (.if_icmp .ne 17, 3) := by decide +kernel
theorem dX5_end_34 : decode cX5_end 34 = .ok (.aload_n 0, 1) := by decide +kernel
theorem dX5_end_35 : decode cX5_end 35 = .ok (.getfield 19, 3) := by decide +kernel
theorem dX5_end_38 : decode cX5_end 38 = .ok (.bipush 6, 2) := by decide +kernel
theorem dX5_end_40 : decode cX5_end 40 = .ok (.iload_n 1, 1) := by decide +kernel
theorem dX5_end_41 : decode cX5_end 41 = .ok (.imul, 1) := by decide +kernel
theorem dX5_end_42 : decode cX5_end 42 = .ok (.iload_n 2, 1) := by decide +kernel
theorem dX5_end_43 : decode cX5_end 43 = .ok (.iadd, 1) := by decide +kernel
theorem dX5_end_44 : decode cX5_end 44 = .ok (.iaload, 1) := by decide +kernel
theorem dX5_end_45 : decode cX5_end 45 = .ok (.goto 5, 3) := by decide +kernel
theorem dX5_end_48 : decode cX5_end 48 = .ok (.bipush (-2), 2) := by decide +kernel
theorem dX5_end_50 : decode cX5_end 50 = .ok (.ireturn, 1) := by decide +kernel
theorem dX5_doubled_0 : decode cX5_doubled 0 = .ok (.aload_n 0, 1) := by decide +kernel
theorem dX5_doubled_1 : decode cX5_doubled 1 = .ok (.iload_n 1, 1) := by decide +kernel
theorem dX5_doubled_2 : decode cX5_doubled 2 = .ok (.iload_n 2, 1) := by decide +kernel
theorem dX5_doubled_3 : decode cX5_doubled 3 = .ok (.invokevirtual 116, 3) := by decide +kernel
theorem dX5_doubled_6 : decode cX5_doubled 6 = .ok (.ifCond .eq 5, 3) := by decide +kernel
theorem dX5_doubled_9 : decode cX5_doubled 9 = .ok (.iconst (-1), 1) := by decide +kernel
theorem dX5_doubled_10 : decode cX5_doubled 10 = .ok (.ireturn, 1) := by decide +kernel
theorem dX5_doubled_11 : decode cX5_doubled 11 = .ok (.aload_n 0, 1) := by decide +kernel
theorem dX5_doubled_12 : decode cX5_doubled 12 = .ok (.getfield 74, 3) := by decide +kernel
theorem dX5_doubled_15 : decode cX5_doubled 15 = .ok (.bipush 6, 2) := by decide +kernel
theorem dX5_doubled_17 : decode cX5_doubled 17 = .ok (.if_icmp .le 6, 3) := by decide +kernel
theorem dX5_doubled_20 : decode cX5_doubled 20 = .ok (.bipush (-4), 2) := by decide +kernel
theorem dX5_doubled_22 : decode cX5_doubled 22 = .ok (.ireturn, 1) := by decide +kernel
theorem dX5_doubled_23 : decode cX5_doubled 23 = .ok (.aload_n 0, 1) := by decide +kernel
theorem dX5_doubled_24 : decode cX5_doubled 24 = .ok (.getfield 74, 3) := by decide +kernel
theorem dX5_doubled_27 : decode cX5_doubled 27 = .ok (.istore_n 3, 1) := by decide +kernel
theorem dX5_doubled_28 : decode cX5_doubled 28 = .ok (.iconst 0, 1) := by decide +kernel
theorem dX5_doubled_29 : decode cX5_doubled 29 = .ok (.istore 4, 2) := by decide +kernel
theorem dX5_doubled_31 : decode cX5_doubled 31 = .ok (.iload 4, 2) := by decide +kernel
theorem dX5_doubled_33 : decode cX5_doubled 33 = .ok (.iload_n 3, 1) := by decide +kernel
theorem dX5_doubled_34 : decode cX5_doubled 34 = .ok (.if_icmp .ge 115, 3) := by decide +kernel
theorem dX5_doubled_37 : decode cX5_doubled 37 = .ok (.aload_n 0, 1) := by decide +kernel
theorem dX5_doubled_38 : decode cX5_doubled 38 = .ok (.aload_n 0, 1) := by decide +kernel
theorem dX5_doubled_39 : decode cX5_doubled 39 = .ok (.getfield 7, 3) := by decide +kernel
theorem dX5_doubled_42 : decode cX5_doubled 42 = .ok (.iload 4, 2) := by decide +kernel
theorem dX5_doubled_44 : decode cX5_doubled 44 = .ok (.iaload, 1) := by decide +kernel
theorem dX5_doubled_45 : decode cX5_doubled 45 = .ok (.invokevirtual 100, 3) := by decide +kernel
theorem dX5_doubled_48 : decode cX5_doubled 48 = .ok (.aload_n 0, 1) := by decide +kernel
theorem dX5_doubled_49 : decode cX5_doubled 49 = .ok (.getfield 13, 3) := by decide +kernel
theorem dX5_doubled_52 : decode cX5_doubled 52 = .ok (.iload_n 3, 1) := by decide +kernel
theorem dX5_doubled_53 : decode cX5_doubled 53 = .ok (.iload 4, 2) := by decide +kernel
theorem dX5_doubled_55 : decode cX5_doubled 55 = .ok (.iadd, 1) := by decide +kernel
theorem dX5_doubled_56 : decode cX5_doubled 56 = .ok (.aload_n 0, 1) := by decide +kernel
theorem dX5_doubled_57 : decode cX5_doubled 57 = .ok (.getfield 13, 3) := by decide +kernel
theorem dX5_doubled_60 : decode cX5_doubled 60 = .ok (.iload 4, 2) := by decide +kernel
theorem dX5_doubled_62 : decode cX5_doubled 62 = .ok (.iaload, 1) := by decide +kernel
theorem dX5_doubled_63 : decode cX5_doubled 63 = .ok (.iastore, 1) := by decide +kernel
theorem dX5_doubled_64 : decode cX5_doubled 64 = .ok (.iconst 0, 1) := by decide +kernel
theorem dX5_doubled_65 : decode cX5_doubled 65 = .ok (.istore 5, 2) := by decide +kernel
theorem dX5_doubled_67 : decode cX5_doubled 67 = .ok (.iload 5, 2) := by decide +kernel
theorem dX5_doubled_69 : decode cX5_doubled 69 = .ok (.aload_n 0, 1) := by decide +kernel
theorem dX5_doubled_70 : decode cX5_doubled 70 = .ok (.getfield 13, 3) := by decide +kernel
theorem dX5_doubled_73 : decode cX5_doubled 73 = .ok (.iload 4, 2) := by decide +kernel
theorem dX5_doubled_75 : decode cX5_doubled 75 = .ok (.iaload, 1) := by decide +kernel
theorem dX5_doubled_76 : decode cX5_doubled 76 = .ok (.if_icmp .ge 67, 3) := by decide +kernel
theorem dX5_doubled_79 : decode cX5_doubled 79 = .ok (.aload_n 0, 1) := by decide +kernel
theorem dX5_doubled_80 : decode cX5_doubled 80 = .ok (.getfield 16, 3) := by decide +kernel
theorem dX5_doubled_83 : decode cX5_doubled 83 = .ok (.bipush 6, 2) := by decide +kernel
theorem dX5_doubled_85 : decode cX5_doubled 85 = .ok (.iload_n 3, 1) := by decide +kernel
theorem dX5_doubled_86 : decode cX5_doubled 86 = .ok (.iload 4, 2) := by decide +kernel
theorem dX5_doubled_88 : decode cX5_doubled 88 = .ok (.iadd, 1) := by decide +kernel
theorem dX5_doubled_89 : decode cX5_doubled 89 = .ok (.imul, 1) := by decide +kernel
theorem dX5_doubled_90 : decode cX5_doubled 90 = .ok (.iload 5, 2) := by decide +kernel
theorem dX5_doubled_92 : decode cX5_doubled 92 = .ok (.iadd, 1) := by decide +kernel
theorem dX5_doubled_93 : decode cX5_doubled 93 = .ok (.iload_n 3, 1) := by decide +kernel
theorem dX5_doubled_94 : decode cX5_doubled 94 = .ok (.aload_n 0, 1) := by decide +kernel
theorem dX5_doubled_95 : decode cX5_doubled 95 = .ok (.getfield 16, 3) := by decide +kernel
theorem dX5_doubled_98 : decode cX5_doubled 98 = .ok (.bipush 6, 2) := by decide +kernel
theorem dX5_doubled_100 : decode cX5_doubled 100 = .ok (.iload 4, 2) := by decide +kernel
theorem dX5_doubled_102 : decode cX5_doubled 102 = .ok (.imul, 1) := by decide +kernel
theorem dX5_doubled_103 : decode cX5_doubled 103 = .ok (.iload 5, 2) := by decide +kernel
theorem dX5_doubled_105 : decode cX5_doubled 105 = .ok (.iadd, 1) := by decide +kernel
theorem dX5_doubled_106 : decode cX5_doubled 106 = .ok (.iaload, 1) := by decide +kernel
theorem dX5_doubled_107 : decode cX5_doubled 107 = .ok (.iadd, 1) := by decide +kernel
theorem dX5_doubled_108 : decode cX5_doubled 108 = .ok (.iastore, 1) := by decide +kernel
theorem dX5_doubled_109 : decode cX5_doubled 109 = .ok (.aload_n 0, 1) := by decide +kernel
theorem dX5_doubled_110 : decode cX5_doubled 110 = .ok (.getfield 19, 3) := by decide +kernel
theorem dX5_doubled_113 : decode cX5_doubled 113 = .ok (.bipush 6, 2) := by decide +kernel
theorem dX5_doubled_115 : decode cX5_doubled 115 = .ok (.iload_n 3, 1) := by decide +kernel
theorem dX5_doubled_116 : decode cX5_doubled 116 = .ok (.iload 4, 2) := by decide +kernel
theorem dX5_doubled_118 : decode cX5_doubled 118 = .ok (.iadd, 1) := by decide +kernel
theorem dX5_doubled_119 : decode cX5_doubled 119 = .ok (.imul, 1) := by decide +kernel
theorem dX5_doubled_120 : decode cX5_doubled 120 = .ok (.iload 5, 2) := by decide +kernel
theorem dX5_doubled_122 : decode cX5_doubled 122 = .ok (.iadd, 1) := by decide +kernel
theorem dX5_doubled_123 : decode cX5_doubled 123 = .ok (.aload_n 0, 1) := by decide +kernel
theorem dX5_doubled_124 : decode cX5_doubled 124 = .ok (.getfield 19, 3) := by decide +kernel
theorem dX5_doubled_127 : decode cX5_doubled 127 = .ok (.bipush 6, 2) := by decide +kernel
theorem dX5_doubled_129 : decode cX5_doubled 129 = .ok (.iload 4, 2) := by decide +kernel
theorem dX5_doubled_131 : decode cX5_doubled 131 = .ok (.imul, 1) := by decide +kernel
theorem dX5_doubled_132 : decode cX5_doubled 132 = .ok (.iload 5, 2) := by decide +kernel
theorem dX5_doubled_134 : decode cX5_doubled 134 = .ok (.iadd, 1) := by decide +kernel
theorem dX5_doubled_135 : decode cX5_doubled 135 = .ok (.iaload, 1) := by decide +kernel
theorem dX5_doubled_136 : decode cX5_doubled 136 = .ok (.iastore, 1) := by decide +kernel
theorem dX5_doubled_137 : decode cX5_doubled 137 = .ok (.iinc 5 1, 3) := by decide +kernel
theorem dX5_doubled_140 : decode cX5_doubled 140 = .ok (.goto (-73), 3) := by decide +kernel
theorem dX5_doubled_143 : decode cX5_doubled 143 = .ok (.iinc 4 1, 3) := by decide +kernel
theorem dX5_doubled_146 : decode cX5_doubled 146 = .ok (.goto (-115), 3) := by decide +kernel
theorem dX5_doubled_149 : decode cX5_doubled 149 = .ok (.aload_n 0, 1) := by decide +kernel
theorem dX5_doubled_150 : decode cX5_doubled 150 = .ok (.dup, 1) := by decide +kernel
theorem dX5_doubled_151 : decode cX5_doubled 151 = .ok (.getfield 92, 3) := by decide +kernel
theorem dX5_doubled_154 : decode cX5_doubled 154 = .ok (.iconst 2, 1) := by decide +kernel
theorem dX5_doubled_155 : decode cX5_doubled 155 = .ok (.imul, 1) := by decide +kernel
theorem dX5_doubled_156 : decode cX5_doubled 156 = .ok (.putfield 92, 3) := by decide +kernel
theorem dX5_doubled_159 : decode cX5_doubled 159 = .ok (.aload_n 0, 1) := by decide +kernel
theorem dX5_doubled_160 : decode cX5_doubled 160 = .ok (.getfield 16, 3) := by decide +kernel
theorem dX5_doubled_163 : decode cX5_doubled 163 = .ok (.bipush 6, 2) := by decide +kernel
theorem dX5_doubled_165 : decode cX5_doubled 165 = .ok (.iload_n 1, 1) := by decide +kernel
theorem dX5_doubled_166 : decode cX5_doubled 166 = .ok (.imul, 1) := by decide +kernel
theorem dX5_doubled_167 : decode cX5_doubled 167 = .ok (.iload_n 2, 1) := by decide +kernel
theorem dX5_doubled_168 : decode cX5_doubled 168 = .ok (.iadd, 1) := by decide +kernel
theorem dX5_doubled_169 : decode cX5_doubled 169 = .ok (.iaload, 1) := by decide +kernel
theorem dX5_doubled_170 : decode cX5_doubled 170 = .ok (.istore 4, 2) := by decide +kernel
theorem dX5_doubled_172 : decode cX5_doubled 172 = .ok (.aload_n 0, 1) := by decide +kernel
theorem dX5_doubled_173 : decode cX5_doubled 173 = .ok (.getfield 19, 3) := by decide +kernel
theorem dX5_doubled_176 : decode cX5_doubled 176 = .ok (.bipush 6, 2) := by decide +kernel
theorem dX5_doubled_178 : decode cX5_doubled 178 = .ok (.iload_n 1, 1) := by decide +kernel
theorem dX5_doubled_179 : decode cX5_doubled 179 = .ok (.imul, 1) := by decide +kernel
theorem dX5_doubled_180 : decode cX5_doubled 180 = .ok (.iload_n 2, 1) := by decide +kernel
theorem dX5_doubled_181 : decode cX5_doubled 181 = .ok (.iadd, 1) := by decide +kernel
theorem dX5_doubled_182 : decode cX5_doubled 182 = .ok (.iaload, 1) := by decide +kernel
theorem dX5_doubled_183 : decode cX5_doubled 183 = .ok (.istore 5, 2) := by decide +kernel
theorem dX5_doubled_185 : decode cX5_doubled 185 = .ok (.aload_n 0, 1) := by decide +kernel
theorem dX5_doubled_186 : decode cX5_doubled 186 = .ok (.iload_n 1, 1) := by decide +kernel
theorem dX5_doubled_187 : decode cX5_doubled 187 = .ok (.iload_n 2, 1) := by decide +kernel
theorem dX5_doubled_188 : decode cX5_doubled 188 = .ok (.iload_n 3, 1) := by decide +kernel
theorem dX5_doubled_189 : decode cX5_doubled 189 = .ok (.iload 4, 2) := by decide +kernel
theorem dX5_doubled_191 : decode cX5_doubled 191 = .ok (.iadd, 1) := by decide +kernel
theorem dX5_doubled_192 : decode cX5_doubled 192 = .ok (.iload 5, 2) := by decide +kernel
theorem dX5_doubled_194 : decode cX5_doubled 194 = .ok (.invokevirtual 104, 3) := by decide +kernel
theorem dX5_doubled_197 : decode cX5_doubled 197 = .ok (.aload_n 0, 1) := by decide +kernel
theorem dX5_doubled_198 : decode cX5_doubled 198 = .ok (.iload_n 3, 1) := by decide +kernel
theorem dX5_doubled_199 : decode cX5_doubled 199 = .ok (.iload_n 1, 1) := by decide +kernel
theorem dX5_doubled_200 : decode cX5_doubled 200 = .ok (.iadd, 1) := by decide +kernel
theorem dX5_doubled_201 : decode cX5_doubled 201 = .ok (.iload_n 2, 1) := by decide +kernel
theorem dX5_doubled_202 : decode cX5_doubled 202 = .ok (.iload 4, 2) := by decide +kernel
theorem dX5_doubled_204 : decode cX5_doubled 204 = .ok (.iload 5, 2) := by decide +kernel
theorem dX5_doubled_206 : decode cX5_doubled 206 = .ok (.invokevirtual 104, 3) := by decide +kernel
theorem dX5_doubled_209 : decode cX5_doubled 209 = .ok (.aload_n 0, 1) := by decide +kernel
theorem dX5_doubled_210 : decode cX5_doubled 210 = .ok (.invokevirtual 95, 3) := by decide +kernel
theorem dX5_doubled_213 : decode cX5_doubled 213 = .ok (.aload_n 0, 1) := by decide +kernel
theorem dX5_doubled_214 : decode cX5_doubled 214 = .ok (.getfield 74, 3) := by decide +kernel
theorem dX5_doubled_217 : decode cX5_doubled 217 = .ok (.ireturn, 1) := by decide +kernel
theorem dX5_reach_0 : decode cX5_reach 0 = .ok (.iconst 0, 1) := by decide +kernel
theorem dX5_reach_1 : decode cX5_reach 1 = .ok (.istore_n 1, 1) := by decide +kernel
theorem dX5_reach_2 : decode cX5_reach 2 = .ok (.iload_n 1, 1) := by decide +kernel
theorem dX5_reach_3 : decode cX5_reach 3 = .ok (.aload_n 0, 1) := by decide +kernel
theorem dX5_reach_4 : decode cX5_reach 4 = .ok (.getfield 74, 3) := by decide +kernel
theorem dX5_reach_7 : decode cX5_reach 7 = .ok (.if_icmp .ge 25, 3) := by decide +kernel
theorem dX5_reach_10 : decode cX5_reach 10 = .ok (.aload_n 0, 1) := by decide +kernel
theorem dX5_reach_11 : decode cX5_reach 11 = .ok (.getfield 22, 3) := by decide +kernel
theorem dX5_reach_14 : decode cX5_reach 14 = .ok (.iload_n 1, 1) := by decide +kernel
theorem dX5_reach_15 : decode cX5_reach 15 = .ok (.iload_n 1, 1) := by decide +kernel
theorem dX5_reach_16 : decode cX5_reach 16 = .ok (.ifCond .ne 7, 3) := by decide +kernel
theorem dX5_reach_19 : decode cX5_reach 19 = .ok (.iconst 0, 1) := by decide +kernel
theorem dX5_reach_20 : decode cX5_reach 20 = .ok (.goto 5, 3) := by decide +kernel
theorem dX5_reach_23 : decode cX5_reach 23 = .ok (.bipush (-9), 2) := by decide +kernel
theorem dX5_reach_25 : decode cX5_reach 25 = .ok (.iastore, 1) := by decide +kernel
theorem dX5_reach_26 : decode cX5_reach 26 = .ok (.iinc 1 1, 3) := by decide +kernel
theorem dX5_reach_29 : decode cX5_reach 29 = .ok (.goto (-27), 3) := by decide +kernel
theorem dX5_reach_32 : decode cX5_reach 32 = .ok (.aload_n 0, 1) := by decide +kernel
theorem dX5_reach_33 : decode cX5_reach 33 = .ok (.getfield 74, 3) := by decide +kernel
theorem dX5_reach_36 : decode cX5_reach 36 = .ok (.ifCond .le 7, 3) := by decide +kernel
theorem dX5_reach_39 : decode cX5_reach 39 = .ok (.iconst 1, 1) := by decide +kernel
theorem dX5_reach_40 : decode cX5_reach 40 = .ok (.goto 4, 3) := by decide +kernel
theorem dX5_reach_43 : decode cX5_reach 43 = .ok (.iconst 0, 1) := by decide +kernel
theorem dX5_reach_44 : decode cX5_reach 44 = .ok (.istore_n 1, 1) := by decide +kernel
theorem dX5_reach_45 : decode cX5_reach 45 = .ok (.iconst 0, 1) := by decide +kernel
theorem dX5_reach_46 : decode cX5_reach 46 = .ok (.istore_n 2, 1) := by decide +kernel
theorem dX5_reach_47 : decode cX5_reach 47 = .ok (.iload_n 2, 1) := by decide +kernel
theorem dX5_reach_48 : decode cX5_reach 48 = .ok (.aload_n 0, 1) := by decide +kernel
theorem dX5_reach_49 : decode cX5_reach 49 = .ok (.getfield 74, 3) := by decide +kernel
theorem dX5_reach_52 : decode cX5_reach 52 = .ok (.if_icmp .ge 117, 3) := by decide +kernel
theorem dX5_reach_55 : decode cX5_reach 55 = .ok (.iconst 0, 1) := by decide +kernel
theorem dX5_reach_56 : decode cX5_reach 56 = .ok (.istore_n 3, 1) := by decide +kernel
theorem dX5_reach_57 : decode cX5_reach 57 = .ok (.iload_n 3, 1) := by decide +kernel
theorem dX5_reach_58 : decode cX5_reach 58 = .ok (.aload_n 0, 1) := by decide +kernel
theorem dX5_reach_59 : decode cX5_reach 59 = .ok (.getfield 74, 3) := by decide +kernel
theorem dX5_reach_62 : decode cX5_reach 62 = .ok (.if_icmp .ge 101, 3) := by decide +kernel
theorem dX5_reach_65 : decode cX5_reach 65 = .ok (.iconst 0, 1) := by decide +kernel
theorem dX5_reach_66 : decode cX5_reach 66 = .ok (.istore 4, 2) := by decide +kernel
theorem dX5_reach_68 : decode cX5_reach 68 = .ok (.aload_n 0, 1) := by decide +kernel
theorem dX5_reach_69 : decode cX5_reach 69 = .ok (.getfield 22, 3) := by decide +kernel
theorem dX5_reach_72 : decode cX5_reach 72 = .ok (.iload_n 3, 1) := by decide +kernel
theorem dX5_reach_73 : decode cX5_reach 73 = .ok (.iaload, 1) := by decide +kernel
theorem dX5_reach_74 : decode cX5_reach 74 = .ok (.iload_n 2, 1) := by decide +kernel
theorem dX5_reach_75 : decode cX5_reach 75 = .ok (.if_icmp .ne 82, 3) := by decide +kernel
theorem dX5_reach_78 : decode cX5_reach 78 = .ok (.iload 4, 2) := by decide +kernel
theorem dX5_reach_80 : decode cX5_reach 80 = .ok (.aload_n 0, 1) := by decide +kernel
theorem dX5_reach_81 : decode cX5_reach 81 = .ok (.getfield 13, 3) := by decide +kernel
theorem dX5_reach_84 : decode cX5_reach 84 = .ok (.iload_n 3, 1) := by decide +kernel
theorem dX5_reach_85 : decode cX5_reach 85 = .ok (.iaload, 1) := by decide +kernel
theorem dX5_reach_86 : decode cX5_reach 86 = .ok (.if_icmp .ge 71, 3) := by decide +kernel
theorem dX5_reach_89 : decode cX5_reach 89 = .ok (.aload_n 0, 1) := by decide +kernel
theorem dX5_reach_90 : decode cX5_reach 90 = .ok (.getfield 16, 3) := by decide +kernel
theorem dX5_reach_93 : decode cX5_reach 93 = .ok (.bipush 6, 2) := by decide +kernel
theorem dX5_reach_95 : decode cX5_reach 95 = .ok (.iload_n 3, 1) := by decide +kernel
theorem dX5_reach_96 : decode cX5_reach 96 = .ok (.imul, 1) := by decide +kernel
theorem dX5_reach_97 : decode cX5_reach 97 = .ok (.iload 4, 2) := by decide +kernel
theorem dX5_reach_99 : decode cX5_reach 99 = .ok (.iadd, 1) := by decide +kernel
theorem dX5_reach_100 : decode cX5_reach 100 = .ok (.iaload, 1) := by decide +kernel
theorem dX5_reach_101 : decode cX5_reach 101 = .ok (.istore 5, 2) := by decide +kernel
theorem dX5_reach_103 : decode cX5_reach 103 = .ok (.iload_n 1, 1) := by decide +kernel
theorem dX5_reach_104 : decode cX5_reach 104 = .ok (.aload_n 0, 1) := by decide +kernel
theorem dX5_reach_105 : decode cX5_reach 105 = .ok (.getfield 22, 3) := by decide +kernel
theorem dX5_reach_108 : decode cX5_reach 108 = .ok (.iload 5, 2) := by decide +kernel
theorem dX5_reach_110 : decode cX5_reach 110 = .ok (.iaload, 1) := by decide +kernel
theorem dX5_reach_111 : decode cX5_reach 111 = .ok (.ifCond .ge 7, 3) := by decide +kernel
theorem dX5_reach_114 : decode cX5_reach 114 = .ok (.iconst 1, 1) := by decide +kernel
theorem dX5_reach_115 : decode cX5_reach 115 = .ok (.goto 4, 3) := by decide +kernel
theorem dX5_reach_118 : decode cX5_reach 118 = .ok (.iconst 0, 1) := by decide +kernel
theorem dX5_reach_119 : decode cX5_reach 119 = .ok (.iadd, 1) := by decide +kernel
theorem dX5_reach_120 : decode cX5_reach 120 = .ok (.istore_n 1, 1) := by decide +kernel
theorem dX5_reach_121 : decode cX5_reach 121 = .ok (.aload_n 0, 1) := by decide +kernel
theorem dX5_reach_122 : decode cX5_reach 122 = .ok (.getfield 22, 3) := by decide +kernel
theorem dX5_reach_125 : decode cX5_reach 125 = .ok (.iload 5, 2) := by decide +kernel
theorem dX5_reach_127 : decode cX5_reach 127 = .ok (.aload_n 0, 1) := by decide +kernel
theorem dX5_reach_128 : decode cX5_reach 128 = .ok (.getfield 22, 3) := by decide +kernel
theorem dX5_reach_131 : decode cX5_reach 131 = .ok (.iload 5, 2) := by decide +kernel
theorem dX5_reach_133 : decode cX5_reach 133 = .ok (.iaload, 1) := by decide +kernel
theorem dX5_reach_134 : decode cX5_reach 134 = .ok (.ifCond .ge 9, 3) := by decide +kernel
theorem dX5_reach_137 : decode cX5_reach 137 = .ok (.iload_n 2, 1) := by decide +kernel
theorem dX5_reach_138 : decode cX5_reach 138 = .ok (.iconst 1, 1) := by decide +kernel
theorem dX5_reach_139 : decode cX5_reach 139 = .ok (.iadd, 1) := by decide +kernel
theorem dX5_reach_140 : decode cX5_reach 140 = .ok (.goto 10, 3) := by decide +kernel
theorem dX5_reach_143 : decode cX5_reach 143 = .ok (.aload_n 0, 1) := by decide +kernel
theorem dX5_reach_144 : decode cX5_reach 144 = .ok (.getfield 22, 3) := by decide +kernel
theorem dX5_reach_147 : decode cX5_reach 147 = .ok (.iload 5, 2) := by decide +kernel
theorem dX5_reach_149 : decode cX5_reach 149 = .ok (.iaload, 1) := by decide +kernel
theorem dX5_reach_150 : decode cX5_reach 150 = .ok (.iastore, 1) := by decide +kernel
theorem dX5_reach_151 : decode cX5_reach 151 = .ok (.iinc 4 1, 3) := by decide +kernel
theorem dX5_reach_154 : decode cX5_reach 154 = .ok (.goto (-86), 3) := by decide +kernel
theorem dX5_reach_157 : decode cX5_reach 157 = .ok (.iinc 3 1, 3) := by decide +kernel
theorem dX5_reach_160 : decode cX5_reach 160 = .ok (.goto (-103), 3) := by decide +kernel
theorem dX5_reach_163 : decode cX5_reach 163 = .ok (.iinc 2 1, 3) := by decide +kernel
theorem dX5_reach_166 : decode cX5_reach 166 = .ok (.goto (-119), 3) := by decide +kernel
theorem dX5_reach_169 : decode cX5_reach 169 = .ok (.iload_n 1, 1) := by decide +kernel
theorem dX5_reach_170 : decode cX5_reach 170 = .ok (.ireturn, 1) := by decide +kernel
theorem dX5_together_0 : decode cX5_together 0 = .ok (.aload_n 0, 1) := by decide +kernel
theorem dX5_together_1 : decode cX5_together 1 = .ok (.getfield 74, 3) := by decide +kernel
theorem dX5_together_4 : decode cX5_together 4 = .ok (.ifCond .le 18, 3) := by decide +kernel
theorem dX5_together_7 : decode cX5_together 7 = .ok (.aload_n 0, 1) := by decide +kernel
theorem dX5_together_8 : decode cX5_together 8 = .ok (.invokevirtual 120, 3) := by decide +kernel
theorem dX5_together_11 : decode cX5_together 11 = .ok (.aload_n 0, 1) := by decide +kernel
theorem dX5_together_12 : decode cX5_together 12 = .ok (.getfield 74, 3) := by decide +kernel
theorem dX5_together_15 : decode cX5_together 15 = .ok (.if_icmp .ne 7, 3) := by decide +kernel
theorem dX5_together_18 : decode cX5_together 18 = .ok (.iconst 1, 1) := by decide +kernel
theorem dX5_together_19 : decode cX5_together 19 = .ok (.goto 4, 3) := by decide +kernel
theorem dX5_together_22 : decode cX5_together 22 = .ok (.iconst 0, 1) := by decide +kernel
theorem dX5_together_23 : decode cX5_together 23 = .ok (.ireturn, 1) := by decide +kernel
theorem dX5_compareTwo_0 : decode cX5_compareTwo 0 = .ok (.iload_n 0, 1) := by decide +kernel
theorem dX5_compareTwo_1 : decode cX5_compareTwo 1 = .ok (.iload_n 1, 1) := by decide +kernel
theorem dX5_compareTwo_2 : decode cX5_compareTwo 2 = .ok (.if_icmp .ge 7, 3) := by decide +kernel
theorem dX5_compareTwo_5 : decode cX5_compareTwo 5 = .ok (.iconst (-1), 1) := by decide +kernel
theorem dX5_compareTwo_6 : decode cX5_compareTwo 6 = .ok (.goto 13, 3) := by decide +kernel
theorem dX5_compareTwo_9 : decode cX5_compareTwo 9 = .ok (.iload_n 0, 1) := by decide +kernel
theorem dX5_compareTwo_10 : decode cX5_compareTwo 10 = .ok (.iload_n 1, 1) := by decide +kernel
theorem dX5_compareTwo_11 : decode cX5_compareTwo 11 = .ok (.if_icmp .le 7, 3) := by decide +kernel
theorem dX5_compareTwo_14 : decode cX5_compareTwo 14 = .ok (.iconst 1, 1) := by decide +kernel
theorem dX5_compareTwo_15 : decode cX5_compareTwo 15 = .ok (.goto 4, 3) := by decide +kernel
theorem dX5_compareTwo_18 : decode cX5_compareTwo 18 = .ok (.iconst 0, 1) := by decide +kernel
theorem dX5_compareTwo_19 : decode cX5_compareTwo 19 = .ok (.ireturn, 1) := by decide +kernel
theorem dX5_compare_0 : decode cX5_compare 0 = .ok (.iload_n 3, 1) := by decide +kernel
theorem dX5_compare_1 : decode cX5_compare 1 = .ok (.ifCond .ne 52, 3) := by decide +kernel
theorem dX5_compare_4 : decode cX5_compare 4 = .ok (.aload_n 0, 1) := by decide +kernel
theorem dX5_compare_5 : decode cX5_compare 5 = .ok (.getfield 7, 3) := by decide +kernel
theorem dX5_compare_8 : decode cX5_compare 8 = .ok (.iload_n 1, 1) := by decide +kernel
theorem dX5_compare_9 : decode cX5_compare 9 = .ok (.iaload, 1) := by decide +kernel
theorem dX5_compare_10 : decode cX5_compare 10 = .ok (.aload_n 0, 1) := by decide +kernel
theorem dX5_compare_11 : decode cX5_compare 11 = .ok (.getfield 7, 3) := by decide +kernel
theorem dX5_compare_14 : decode cX5_compare 14 = .ok (.iload_n 2, 1) := by decide +kernel
theorem dX5_compare_15 : decode cX5_compare 15 = .ok (.iaload, 1) := by decide +kernel
theorem dX5_compare_16 : decode cX5_compare 16 = .ok (.if_icmp .eq 21, 3) := by decide +kernel
theorem dX5_compare_19 : decode cX5_compare 19 = .ok (.aload_n 0, 1) := by decide +kernel
theorem dX5_compare_20 : decode cX5_compare 20 = .ok (.getfield 7, 3) := by decide +kernel
theorem dX5_compare_23 : decode cX5_compare 23 = .ok (.iload_n 1, 1) := by decide +kernel
theorem dX5_compare_24 : decode cX5_compare 24 = .ok (.iaload, 1) := by decide +kernel
theorem dX5_compare_25 : decode cX5_compare 25 = .ok (.aload_n 0, 1) := by decide +kernel
theorem dX5_compare_26 : decode cX5_compare 26 = .ok (.getfield 7, 3) := by decide +kernel
theorem dX5_compare_29 : decode cX5_compare 29 = .ok (.iload_n 2, 1) := by decide +kernel
theorem dX5_compare_30 : decode cX5_compare 30 = .ok (.iaload, 1) := by decide +kernel
theorem dX5_compare_31 : decode cX5_compare 31 = .ok (.invokestatic 124, 3) := by decide +kernel
theorem dX5_compare_34 : decode cX5_compare 34 = .ok (.goto 18, 3) := by decide +kernel
theorem dX5_compare_37 : decode cX5_compare 37 = .ok (.aload_n 0, 1) := by decide +kernel
theorem dX5_compare_38 : decode cX5_compare 38 = .ok (.getfield 13, 3) := by decide +kernel
theorem dX5_compare_41 : decode cX5_compare 41 = .ok (.iload_n 1, 1) := by decide +kernel
theorem dX5_compare_42 : decode cX5_compare 42 = .ok (.iaload, 1) := by decide +kernel
theorem dX5_compare_43 : decode cX5_compare 43 = .ok (.aload_n 0, 1) := by decide +kernel
theorem dX5_compare_44 : decode cX5_compare 44 = .ok (.getfield 13, 3) := by decide +kernel
theorem dX5_compare_47 : decode cX5_compare 47 = .ok (.iload_n 2, 1) := by decide +kernel
theorem dX5_compare_48 : decode cX5_compare 48 = .ok (.iaload, 1) := by decide +kernel
theorem dX5_compare_49 : decode cX5_compare 49 = .ok (.invokestatic 124, 3) := by decide +kernel
theorem dX5_compare_52 : decode cX5_compare 52 = .ok (.ireturn, 1) := by decide +kernel
theorem dX5_compare_53 : decode cX5_compare 53 = .ok (.bipush 12, 2) := by decide +kernel
theorem dX5_compare_55 : decode cX5_compare 55 = .ok (.iload_n 3, 1) := by decide +kernel
theorem dX5_compare_56 : decode cX5_compare 56 = .ok (.iconst 1, 1) := by decide +kernel
theorem dX5_compare_57 : decode cX5_compare 57 = .ok (.isub, 1) := by decide +kernel
theorem dX5_compare_58 : decode cX5_compare 58 = .ok (.imul, 1) := by decide +kernel
theorem dX5_compare_59 : decode cX5_compare 59 = .ok (.istore 4, 2) := by decide +kernel
theorem dX5_compare_61 : decode cX5_compare 61 = .ok (.aload_n 0, 1) := by decide +kernel
theorem dX5_compare_62 : decode cX5_compare 62 = .ok (.getfield 25, 3) := by decide +kernel
theorem dX5_compare_65 : decode cX5_compare 65 = .ok (.iload 4, 2) := by decide +kernel
theorem dX5_compare_67 : decode cX5_compare 67 = .ok (.iload_n 1, 1) := by decide +kernel
theorem dX5_compare_68 : decode cX5_compare 68 = .ok (.iadd, 1) := by decide +kernel
theorem dX5_compare_69 : decode cX5_compare 69 = .ok (.iaload, 1) := by decide +kernel
theorem dX5_compare_70 : decode cX5_compare 70 = .ok (.aload_n 0, 1) := by decide +kernel
theorem dX5_compare_71 : decode cX5_compare 71 = .ok (.getfield 25, 3) := by decide +kernel
theorem dX5_compare_74 : decode cX5_compare 74 = .ok (.iload 4, 2) := by decide +kernel
theorem dX5_compare_76 : decode cX5_compare 76 = .ok (.iload_n 2, 1) := by decide +kernel
theorem dX5_compare_77 : decode cX5_compare 77 = .ok (.iadd, 1) := by decide +kernel
theorem dX5_compare_78 : decode cX5_compare 78 = .ok (.iaload, 1) := by decide +kernel
theorem dX5_compare_79 : decode cX5_compare 79 = .ok (.invokestatic 124, 3) := by decide +kernel
theorem dX5_compare_82 : decode cX5_compare 82 = .ok (.istore 5, 2) := by decide +kernel
theorem dX5_compare_84 : decode cX5_compare 84 = .ok (.iconst 0, 1) := by decide +kernel
theorem dX5_compare_85 : decode cX5_compare 85 = .ok (.istore 6, 2) := by decide +kernel
theorem dX5_compare_87 : decode cX5_compare 87 = .ok (.iload 5, 2) := by decide +kernel
theorem dX5_compare_89 : decode cX5_compare 89 = .ok (.ifCond .ne 104, 3) := by decide +kernel
theorem dX5_compare_92 : decode cX5_compare 92 = .ok (.iload 6, 2) := by decide +kernel
theorem dX5_compare_94 : decode cX5_compare 94 = .ok (.aload_n 0, 1) := by decide +kernel
theorem dX5_compare_95 : decode cX5_compare 95 = .ok (.getfield 13, 3) := by decide +kernel
theorem dX5_compare_98 : decode cX5_compare 98 = .ok (.iload_n 1, 1) := by decide +kernel
theorem dX5_compare_99 : decode cX5_compare 99 = .ok (.iaload, 1) := by decide +kernel
theorem dX5_compare_100 : decode cX5_compare 100 = .ok (.if_icmp .ge 93, 3) := by decide +kernel
theorem dX5_compare_103 : decode cX5_compare 103 = .ok (.aload_n 0, 1) := by decide +kernel
theorem dX5_compare_104 : decode cX5_compare 104 = .ok (.getfield 19, 3) := by decide +kernel
theorem dX5_compare_107 : decode cX5_compare 107 = .ok (.bipush 6, 2) := by decide +kernel
theorem dX5_compare_109 : decode cX5_compare 109 = .ok (.iload_n 1, 1) := by decide +kernel
theorem dX5_compare_110 : decode cX5_compare 110 = .ok (.imul, 1) := by decide +kernel
theorem dX5_compare_111 : decode cX5_compare 111 = .ok (.iload 6, 2) := by decide +kernel
theorem dX5_compare_113 : decode cX5_compare 113 = .ok (.iadd, 1) := by decide +kernel
theorem dX5_compare_114 : decode cX5_compare 114 = .ok (.iaload, 1) := by decide +kernel
theorem dX5_compare_115 : decode cX5_compare 115 = .ok (.aload_n 0, 1) := by decide +kernel
theorem dX5_compare_116 : decode cX5_compare 116 = .ok (.getfield 19, 3) := by decide +kernel
theorem dX5_compare_119 : decode cX5_compare 119 = .ok (.bipush 6, 2) := by decide +kernel
theorem dX5_compare_121 : decode cX5_compare 121 = .ok (.iload_n 2, 1) := by decide +kernel
theorem dX5_compare_122 : decode cX5_compare 122 = .ok (.imul, 1) := by decide +kernel
theorem dX5_compare_123 : decode cX5_compare 123 = .ok (.iload 6, 2) := by decide +kernel
theorem dX5_compare_125 : decode cX5_compare 125 = .ok (.iadd, 1) := by decide +kernel
theorem dX5_compare_126 : decode cX5_compare 126 = .ok (.iaload, 1) := by decide +kernel
theorem dX5_compare_127 : decode cX5_compare 127 = .ok (.invokestatic 124, 3) := by decide +kernel
theorem dX5_compare_130 : decode cX5_compare 130 = .ok (.istore 5, 2) := by decide +kernel
theorem dX5_compare_132 : decode cX5_compare 132 = .ok (.iload 5, 2) := by decide +kernel
theorem dX5_compare_134 : decode cX5_compare 134 = .ok (.ifCond .eq 8, 3) := by decide +kernel
theorem dX5_compare_137 : decode cX5_compare 137 = .ok (.iload 5, 2) := by decide +kernel
theorem dX5_compare_139 : decode cX5_compare 139 = .ok (.goto 46, 3) := by decide +kernel
theorem dX5_compare_142 : decode cX5_compare 142 = .ok (.aload_n 0, 1) := by decide +kernel
theorem dX5_compare_143 : decode cX5_compare 143 = .ok (.getfield 25, 3) := by decide +kernel
theorem dX5_compare_146 : decode cX5_compare 146 = .ok (.iload 4, 2) := by decide +kernel
theorem dX5_compare_148 : decode cX5_compare 148 = .ok (.aload_n 0, 1) := by decide +kernel
theorem dX5_compare_149 : decode cX5_compare 149 = .ok (.getfield 16, 3) := by decide +kernel
theorem dX5_compare_152 : decode cX5_compare 152 = .ok (.bipush 6, 2) := by decide +kernel
theorem dX5_compare_154 : decode cX5_compare 154 = .ok (.iload_n 1, 1) := by decide +kernel
theorem dX5_compare_155 : decode cX5_compare 155 = .ok (.imul, 1) := by decide +kernel
theorem dX5_compare_156 : decode cX5_compare 156 = .ok (.iload 6, 2) := by decide +kernel
theorem dX5_compare_158 : decode cX5_compare 158 = .ok (.iadd, 1) := by decide +kernel
theorem dX5_compare_159 : decode cX5_compare 159 = .ok (.iaload, 1) := by decide +kernel
theorem dX5_compare_160 : decode cX5_compare 160 = .ok (.iadd, 1) := by decide +kernel
theorem dX5_compare_161 : decode cX5_compare 161 = .ok (.iaload, 1) := by decide +kernel
theorem dX5_compare_162 : decode cX5_compare 162 = .ok (.aload_n 0, 1) := by decide +kernel
theorem dX5_compare_163 : decode cX5_compare 163 = .ok (.getfield 25, 3) := by decide +kernel
theorem dX5_compare_166 : decode cX5_compare 166 = .ok (.iload 4, 2) := by decide +kernel
theorem dX5_compare_168 : decode cX5_compare 168 = .ok (.aload_n 0, 1) := by decide +kernel
theorem dX5_compare_169 : decode cX5_compare 169 = .ok (.getfield 16, 3) := by decide +kernel
theorem dX5_compare_172 : decode cX5_compare 172 = .ok (.bipush 6, 2) := by decide +kernel
theorem dX5_compare_174 : decode cX5_compare 174 = .ok (.iload_n 2, 1) := by decide +kernel
theorem dX5_compare_175 : decode cX5_compare 175 = .ok (.imul, 1) := by decide +kernel
theorem dX5_compare_176 : decode cX5_compare 176 = .ok (.iload 6, 2) := by decide +kernel
theorem dX5_compare_178 : decode cX5_compare 178 = .ok (.iadd, 1) := by decide +kernel
theorem dX5_compare_179 : decode cX5_compare 179 = .ok (.iaload, 1) := by decide +kernel
theorem dX5_compare_180 : decode cX5_compare 180 = .ok (.iadd, 1) := by decide +kernel
theorem dX5_compare_181 : decode cX5_compare 181 = .ok (.iaload, 1) := by decide +kernel
theorem dX5_compare_182 : decode cX5_compare 182 = .ok (.invokestatic 124, 3) := by decide +kernel
theorem dX5_compare_185 : decode cX5_compare 185 = .ok (.istore 5, 2) := by decide +kernel
theorem dX5_compare_187 : decode cX5_compare 187 = .ok (.iinc 6 1, 3) := by decide +kernel
theorem dX5_compare_190 : decode cX5_compare 190 = .ok (.goto (-103), 3) := by decide +kernel
theorem dX5_compare_193 : decode cX5_compare 193 = .ok (.iload 5, 2) := by decide +kernel
theorem dX5_compare_195 : decode cX5_compare 195 = .ok (.ireturn, 1) := by decide +kernel
theorem dX5_rankAt_0 : decode cX5_rankAt 0 = .ok (.iconst 0, 1) := by decide +kernel
theorem dX5_rankAt_1 : decode cX5_rankAt 1 = .ok (.istore_n 2, 1) := by decide +kernel
theorem dX5_rankAt_2 : decode cX5_rankAt 2 = .ok (.iload_n 2, 1) := by decide +kernel
theorem dX5_rankAt_3 : decode cX5_rankAt 3 = .ok (.aload_n 0, 1) := by decide +kernel
theorem dX5_rankAt_4 : decode cX5_rankAt 4 = .ok (.getfield 74, 3) := by decide +kernel
theorem dX5_rankAt_7 : decode cX5_rankAt 7 = .ok (.if_icmp .ge 59, 3) := by decide +kernel
theorem dX5_rankAt_10 : decode cX5_rankAt 10 = .ok (.iload_n 2, 1) := by decide +kernel
theorem dX5_rankAt_11 : decode cX5_rankAt 11 = .ok (.istore_n 3, 1) := by decide +kernel
theorem dX5_rankAt_12 : decode cX5_rankAt 12 = .ok (.iload_n 3, 1) := by decide +kernel
theorem dX5_rankAt_13 : decode cX5_rankAt 13 = .ok (.ifCond .le 40, 3) := by decide +kernel
theorem dX5_rankAt_16 : decode cX5_rankAt 16 = .ok (.aload_n 0, 1) := by decide +kernel
theorem dX5_rankAt_17 : decode cX5_rankAt 17 = .ok (.iload_n 2, 1) := by decide +kernel
theorem dX5_rankAt_18 : decode cX5_rankAt 18 = .ok (.aload_n 0, 1) := by decide +kernel
theorem dX5_rankAt_19 : decode cX5_rankAt 19 = .ok (.getfield 31, 3) := by decide +kernel
theorem dX5_rankAt_22 : decode cX5_rankAt 22 = .ok (.iload_n 3, 1) := by decide +kernel
theorem dX5_rankAt_23 : decode cX5_rankAt 23 = .ok (.iconst 1, 1) := by decide +kernel
theorem dX5_rankAt_24 : decode cX5_rankAt 24 = .ok (.isub, 1) := by decide +kernel
theorem dX5_rankAt_25 : decode cX5_rankAt 25 = .ok (.iaload, 1) := by decide +kernel
theorem dX5_rankAt_26 : decode cX5_rankAt 26 = .ok (.iload_n 1, 1) := by decide +kernel
theorem dX5_rankAt_27 : decode cX5_rankAt 27 = .ok (.invokevirtual 127, 3) := by decide +kernel
theorem dX5_rankAt_30 : decode cX5_rankAt 30 = .ok (.ifCond .ge 23, 3) := by decide +kernel
theorem dX5_rankAt_33 : decode cX5_rankAt 33 = .ok (.aload_n 0, 1) := by decide +kernel
theorem dX5_rankAt_34 : decode cX5_rankAt 34 = .ok (.getfield 31, 3) := by decide +kernel
theorem dX5_rankAt_37 : decode cX5_rankAt 37 = .ok (.iload_n 3, 1) := by decide +kernel
theorem dX5_rankAt_38 : decode cX5_rankAt 38 = .ok (.aload_n 0, 1) := by decide +kernel
theorem dX5_rankAt_39 : decode cX5_rankAt 39 = .ok (.getfield 31, 3) := by decide +kernel
theorem dX5_rankAt_42 : decode cX5_rankAt 42 = .ok (.iload_n 3, 1) := by decide +kernel
theorem dX5_rankAt_43 : decode cX5_rankAt 43 = .ok (.iconst 1, 1) := by decide +kernel
theorem dX5_rankAt_44 : decode cX5_rankAt 44 = .ok (.isub, 1) := by decide +kernel
theorem dX5_rankAt_45 : decode cX5_rankAt 45 = .ok (.iaload, 1) := by decide +kernel
theorem dX5_rankAt_46 : decode cX5_rankAt 46 = .ok (.iastore, 1) := by decide +kernel
theorem dX5_rankAt_47 : decode cX5_rankAt 47 = .ok (.iinc 3 (-1), 3) := by decide +kernel
theorem dX5_rankAt_50 : decode cX5_rankAt 50 = .ok (.goto (-38), 3) := by decide +kernel
theorem dX5_rankAt_53 : decode cX5_rankAt 53 = .ok (.aload_n 0, 1) := by decide +kernel
theorem dX5_rankAt_54 : decode cX5_rankAt 54 = .ok (.getfield 31, 3) := by decide +kernel
theorem dX5_rankAt_57 : decode cX5_rankAt 57 = .ok (.iload_n 3, 1) := by decide +kernel
theorem dX5_rankAt_58 : decode cX5_rankAt 58 = .ok (.iload_n 2, 1) := by decide +kernel
theorem dX5_rankAt_59 : decode cX5_rankAt 59 = .ok (.iastore, 1) := by decide +kernel
theorem dX5_rankAt_60 : decode cX5_rankAt 60 = .ok (.iinc 2 1, 3) := by decide +kernel
theorem dX5_rankAt_63 : decode cX5_rankAt 63 = .ok (.goto (-61), 3) := by decide +kernel
theorem dX5_rankAt_66 : decode cX5_rankAt 66 = .ok (.iconst 0, 1) := by decide +kernel
theorem dX5_rankAt_67 : decode cX5_rankAt 67 = .ok (.istore_n 2, 1) := by decide +kernel
theorem dX5_rankAt_68 : decode cX5_rankAt 68 = .ok (.iconst 0, 1) := by decide +kernel
theorem dX5_rankAt_69 : decode cX5_rankAt 69 = .ok (.istore_n 3, 1) := by decide +kernel
theorem dX5_rankAt_70 : decode cX5_rankAt 70 = .ok (.iload_n 3, 1) := by decide +kernel
theorem dX5_rankAt_71 : decode cX5_rankAt 71 = .ok (.aload_n 0, 1) := by decide +kernel
theorem dX5_rankAt_72 : decode cX5_rankAt 72 = .ok (.getfield 74, 3) := by decide +kernel
theorem dX5_rankAt_75 : decode cX5_rankAt 75 = .ok (.if_icmp .ge 60, 3) := by decide +kernel
theorem dX5_rankAt_78 : decode cX5_rankAt 78 = .ok (.iload_n 2, 1) := by decide +kernel
theorem dX5_rankAt_79 : decode cX5_rankAt 79 = .ok (.iload_n 3, 1) := by decide +kernel
theorem dX5_rankAt_80 : decode cX5_rankAt 80 = .ok (.ifCond .le 29, 3) := by decide +kernel
theorem dX5_rankAt_83 : decode cX5_rankAt 83 = .ok (.aload_n 0, 1) := by decide +kernel
theorem dX5_rankAt_84 : decode cX5_rankAt 84 = .ok (.aload_n 0, 1) := by decide +kernel
theorem dX5_rankAt_85 : decode cX5_rankAt 85 = .ok (.getfield 31, 3) := by decide +kernel
theorem dX5_rankAt_88 : decode cX5_rankAt 88 = .ok (.iload_n 3, 1) := by decide +kernel
theorem dX5_rankAt_89 : decode cX5_rankAt 89 = .ok (.iconst 1, 1) := by decide +kernel
theorem dX5_rankAt_90 : decode cX5_rankAt 90 = .ok (.isub, 1) := by decide +kernel
theorem dX5_rankAt_91 : decode cX5_rankAt 91 = .ok (.iaload, 1) := by decide +kernel
theorem dX5_rankAt_92 : decode cX5_rankAt 92 = .ok (.aload_n 0, 1) := by decide +kernel
theorem dX5_rankAt_93 : decode cX5_rankAt 93 = .ok (.getfield 31, 3) := by decide +kernel
theorem dX5_rankAt_96 : decode cX5_rankAt 96 = .ok (.iload_n 3, 1) := by decide +kernel
theorem dX5_rankAt_97 : decode cX5_rankAt 97 = .ok (.iaload, 1) := by decide +kernel
theorem dX5_rankAt_98 : decode cX5_rankAt 98 = .ok (.iload_n 1, 1) := by decide +kernel
theorem dX5_rankAt_99 : decode cX5_rankAt 99 = .ok (.invokevirtual 127, 3) := by decide +kernel
theorem dX5_rankAt_102 : decode cX5_rankAt 102 = .ok (.ifCond .eq 7, 3) := by decide +kernel
theorem dX5_rankAt_105 : decode cX5_rankAt 105 = .ok (.iconst 1, 1) := by decide +kernel
theorem dX5_rankAt_106 : decode cX5_rankAt 106 = .ok (.goto 4, 3) := by decide +kernel
theorem dX5_rankAt_109 : decode cX5_rankAt 109 = .ok (.iconst 0, 1) := by decide +kernel
theorem dX5_rankAt_110 : decode cX5_rankAt 110 = .ok (.iadd, 1) := by decide +kernel
theorem dX5_rankAt_111 : decode cX5_rankAt 111 = .ok (.istore_n 2, 1) := by decide +kernel
theorem dX5_rankAt_112 : decode cX5_rankAt 112 = .ok (.aload_n 0, 1) := by decide +kernel
theorem dX5_rankAt_113 : decode cX5_rankAt 113 = .ok (.getfield 25, 3) := by decide +kernel
theorem dX5_rankAt_116 : decode cX5_rankAt 116 = .ok (.bipush 12, 2) := by decide +kernel
theorem dX5_rankAt_118 : decode cX5_rankAt 118 = .ok (.iload_n 1, 1) := by decide +kernel
theorem dX5_rankAt_119 : decode cX5_rankAt 119 = .ok (.imul, 1) := by decide +kernel
theorem dX5_rankAt_120 : decode cX5_rankAt 120 = .ok (.aload_n 0, 1) := by decide +kernel
theorem dX5_rankAt_121 : decode cX5_rankAt 121 = .ok (.getfield 31, 3) := by decide +kernel
theorem dX5_rankAt_124 : decode cX5_rankAt 124 = .ok (.iload_n 3, 1) := by decide +kernel
theorem dX5_rankAt_125 : decode cX5_rankAt 125 = .ok (.iaload, 1) := by decide +kernel
theorem dX5_rankAt_126 : decode cX5_rankAt 126 = .ok (.iadd, 1) := by decide +kernel
theorem dX5_rankAt_127 : decode cX5_rankAt 127 = .ok (.iload_n 2, 1) := by decide +kernel
theorem dX5_rankAt_128 : decode cX5_rankAt 128 = .ok (.iastore, 1) := by decide +kernel
theorem dX5_rankAt_129 : decode cX5_rankAt 129 = .ok (.iinc 3 1, 3) := by decide +kernel
theorem dX5_rankAt_132 : decode cX5_rankAt 132 = .ok (.goto (-62), 3) := by decide +kernel
theorem dX5_rankAt_135 : decode cX5_rankAt 135 = .ok (.aload_n 0, 1) := by decide +kernel
theorem dX5_rankAt_136 : decode cX5_rankAt 136 = .ok (.getfield 28, 3) := by decide +kernel
theorem dX5_rankAt_139 : decode cX5_rankAt 139 = .ok (.iload_n 1, 1) := by decide +kernel
theorem dX5_rankAt_140 : decode cX5_rankAt 140 = .ok (.aload_n 0, 1) := by decide +kernel
theorem dX5_rankAt_141 : decode cX5_rankAt 141 = .ok (.getfield 74, 3) := by decide +kernel
theorem dX5_rankAt_144 : decode cX5_rankAt 144 = .ok (.ifCond .ne 7, 3) := by decide +kernel
theorem dX5_rankAt_147 : decode cX5_rankAt 147 = .ok (.iconst 0, 1) := by decide +kernel
theorem dX5_rankAt_148 : decode cX5_rankAt 148 = .ok (.goto 6, 3) := by decide +kernel
theorem dX5_rankAt_151 : decode cX5_rankAt 151 = .ok (.iload_n 2, 1) := by decide +kernel
theorem dX5_rankAt_152 : decode cX5_rankAt 152 = .ok (.iconst 1, 1) := by decide +kernel
theorem dX5_rankAt_153 : decode cX5_rankAt 153 = .ok (.iadd, 1) := by decide +kernel
theorem dX5_rankAt_154 : decode cX5_rankAt 154 = .ok (.iastore, 1) := by decide +kernel
theorem dX5_rankAt_155 : decode cX5_rankAt 155 = .ok (.return_, 1) := by decide +kernel
theorem dX5_rankAll_0 : decode cX5_rankAll 0 = .ok (.aload_n 0, 1) := by decide +kernel
theorem dX5_rankAll_1 : decode cX5_rankAll 1 = .ok (.getfield 89, 3) := by decide +kernel
theorem dX5_rankAll_4 : decode cX5_rankAll 4 = .ok (.ifCond .eq 4, 3) := by decide +kernel
theorem dX5_rankAll_7 : decode cX5_rankAll 7 = .ok (.return_, 1) := by decide +kernel
theorem dX5_rankAll_8 : decode cX5_rankAll 8 = .ok (.aload_n 0, 1) := by decide +kernel
theorem dX5_rankAll_9 : decode cX5_rankAll 9 = .ok (.iconst 1, 1) := by decide +kernel
theorem dX5_rankAll_10 : decode cX5_rankAll 10 = .ok (.putfield 89, 3) := by decide +kernel
theorem dX5_rankAll_13 : decode cX5_rankAll 13 = .ok (.aload_n 0, 1) := by decide +kernel
theorem dX5_rankAll_14 : decode cX5_rankAll 14 = .ok (.iconst (-1), 1) := by decide +kernel
theorem dX5_rankAll_15 : decode cX5_rankAll 15 = .ok (.putfield 131, 3) := by decide +kernel
theorem dX5_rankAll_18 : decode cX5_rankAll 18 = .ok (.iconst 0, 1) := by decide +kernel
theorem dX5_rankAll_19 : decode cX5_rankAll 19 = .ok (.istore_n 1, 1) := by decide +kernel
theorem dX5_rankAll_20 : decode cX5_rankAll 20 = .ok (.iload_n 1, 1) := by decide +kernel
theorem dX5_rankAll_21 : decode cX5_rankAll 21 = .ok (.bipush 21, 2) := by decide +kernel
theorem dX5_rankAll_23 : decode cX5_rankAll 23 = .ok (.if_icmp .gt 102, 3) := by decide +kernel
theorem dX5_rankAll_26 : decode cX5_rankAll 26 = .ok (.aload_n 0, 1) := by decide +kernel
theorem dX5_rankAll_27 : decode cX5_rankAll 27 = .ok (.iload_n 1, 1) := by decide +kernel
theorem dX5_rankAll_28 : decode cX5_rankAll 28 = .ok (.invokevirtual 134, 3) := by decide +kernel
theorem dX5_rankAll_31 : decode cX5_rankAll 31 = .ok (.iload_n 1, 1) := by decide +kernel
theorem dX5_rankAll_32 : decode cX5_rankAll 32 = .ok (.ifCond .le 7, 3) := by decide +kernel
theorem dX5_rankAll_35 : decode cX5_rankAll 35 = .ok (.iconst 1, 1) := by decide +kernel
theorem dX5_rankAll_36 : decode cX5_rankAll 36 = .ok (.goto 4, 3) := by decide +kernel
theorem dX5_rankAll_39 : decode cX5_rankAll 39 = .ok (.iconst 0, 1) := by decide +kernel
theorem dX5_rankAll_40 : decode cX5_rankAll 40 = .ok (.istore_n 2, 1) := by decide +kernel
theorem dX5_rankAll_41 : decode cX5_rankAll 41 = .ok (.iconst 0, 1) := by decide +kernel
theorem dX5_rankAll_42 : decode cX5_rankAll 42 = .ok (.istore_n 3, 1) := by decide +kernel
theorem dX5_rankAll_43 : decode cX5_rankAll 43 = .ok (.iload_n 3, 1) := by decide +kernel
theorem dX5_rankAll_44 : decode cX5_rankAll 44 = .ok (.aload_n 0, 1) := by decide +kernel
theorem dX5_rankAll_45 : decode cX5_rankAll 45 = .ok (.getfield 74, 3) := by decide +kernel
theorem dX5_rankAll_48 : decode cX5_rankAll 48 = .ok (.if_icmp .ge 46, 3) := by decide +kernel
theorem dX5_rankAll_51 : decode cX5_rankAll 51 = .ok (.iload_n 2, 1) := by decide +kernel
theorem dX5_rankAll_52 : decode cX5_rankAll 52 = .ok (.ifCond .eq 42, 3) := by decide +kernel
theorem dX5_rankAll_55 : decode cX5_rankAll 55 = .ok (.aload_n 0, 1) := by decide +kernel
theorem dX5_rankAll_56 : decode cX5_rankAll 56 = .ok (.getfield 25, 3) := by decide +kernel
theorem dX5_rankAll_59 : decode cX5_rankAll 59 = .ok (.bipush 12, 2) := by decide +kernel
theorem dX5_rankAll_61 : decode cX5_rankAll 61 = .ok (.iload_n 1, 1) := by decide +kernel
theorem dX5_rankAll_62 : decode cX5_rankAll 62 = .ok (.imul, 1) := by decide +kernel
theorem dX5_rankAll_63 : decode cX5_rankAll 63 = .ok (.iload_n 3, 1) := by decide +kernel
theorem dX5_rankAll_64 : decode cX5_rankAll 64 = .ok (.iadd, 1) := by decide +kernel
theorem dX5_rankAll_65 : decode cX5_rankAll 65 = .ok (.iaload, 1) := by decide +kernel
theorem dX5_rankAll_66 : decode cX5_rankAll 66 = .ok (.aload_n 0, 1) := by decide +kernel
theorem dX5_rankAll_67 : decode cX5_rankAll 67 = .ok (.getfield 25, 3) := by decide +kernel
theorem dX5_rankAll_70 : decode cX5_rankAll 70 = .ok (.bipush 12, 2) := by decide +kernel
theorem dX5_rankAll_72 : decode cX5_rankAll 72 = .ok (.iload_n 1, 1) := by decide +kernel
theorem dX5_rankAll_73 : decode cX5_rankAll 73 = .ok (.iconst 1, 1) := by decide +kernel
theorem dX5_rankAll_74 : decode cX5_rankAll 74 = .ok (.isub, 1) := by decide +kernel
theorem dX5_rankAll_75 : decode cX5_rankAll 75 = .ok (.imul, 1) := by decide +kernel
theorem dX5_rankAll_76 : decode cX5_rankAll 76 = .ok (.iload_n 3, 1) := by decide +kernel
theorem dX5_rankAll_77 : decode cX5_rankAll 77 = .ok (.iadd, 1) := by decide +kernel
theorem dX5_rankAll_78 : decode cX5_rankAll 78 = .ok (.iaload, 1) := by decide +kernel
theorem dX5_rankAll_79 : decode cX5_rankAll 79 = .ok (.if_icmp .ne 7, 3) := by decide +kernel
theorem dX5_rankAll_82 : decode cX5_rankAll 82 = .ok (.iconst 1, 1) := by decide +kernel
theorem dX5_rankAll_83 : decode cX5_rankAll 83 = .ok (.goto 4, 3) := by decide +kernel
theorem dX5_rankAll_86 : decode cX5_rankAll 86 = .ok (.iconst 0, 1) := by decide +kernel
theorem dX5_rankAll_87 : decode cX5_rankAll 87 = .ok (.istore_n 2, 1) := by decide +kernel
theorem dX5_rankAll_88 : decode cX5_rankAll 88 = .ok (.iinc 3 1, 3) := by decide +kernel
theorem dX5_rankAll_91 : decode cX5_rankAll 91 = .ok (.goto (-48), 3) := by decide +kernel
theorem dX5_rankAll_94 : decode cX5_rankAll 94 = .ok (.aload_n 0, 1) := by decide +kernel
theorem dX5_rankAll_95 : decode cX5_rankAll 95 = .ok (.iload_n 2, 1) := by decide +kernel
theorem dX5_rankAll_96 : decode cX5_rankAll 96 = .ok (.ifCond .eq 16, 3) := by decide +kernel
theorem dX5_rankAll_99 : decode cX5_rankAll 99 = .ok (.aload_n 0, 1) := by decide +kernel
theorem dX5_rankAll_100 : decode cX5_rankAll 100 = .ok (.getfield 131, 3) := by decide +kernel
theorem dX5_rankAll_103 : decode cX5_rankAll 103 = .ok (.ifCond .ge 9, 3) := by decide +kernel
theorem dX5_rankAll_106 : decode cX5_rankAll 106 = .ok (.iload_n 1, 1) := by decide +kernel
theorem dX5_rankAll_107 : decode cX5_rankAll 107 = .ok (.iconst 1, 1) := by decide +kernel
theorem dX5_rankAll_108 : decode cX5_rankAll 108 = .ok (.isub, 1) := by decide +kernel
theorem dX5_rankAll_109 : decode cX5_rankAll 109 = .ok (.goto 7, 3) := by decide +kernel
theorem dX5_rankAll_112 : decode cX5_rankAll 112 = .ok (.aload_n 0, 1) := by decide +kernel
theorem dX5_rankAll_113 : decode cX5_rankAll 113 = .ok (.getfield 131, 3) := by decide +kernel
theorem dX5_rankAll_116 : decode cX5_rankAll 116 = .ok (.putfield 131, 3) := by decide +kernel
theorem dX5_rankAll_119 : decode cX5_rankAll 119 = .ok (.iinc 1 1, 3) := by decide +kernel
theorem dX5_rankAll_122 : decode cX5_rankAll 122 = .ok (.goto (-102), 3) := by decide +kernel
theorem dX5_rankAll_125 : decode cX5_rankAll 125 = .ok (.return_, 1) := by decide +kernel
theorem dX5_restRank_0 : decode cX5_restRank 0 = .ok (.aload_n 0, 1) := by decide +kernel
theorem dX5_restRank_1 : decode cX5_restRank 1 = .ok (.getfield 25, 3) := by decide +kernel
theorem dX5_restRank_4 : decode cX5_restRank 4 = .ok (.bipush 12, 2) := by decide +kernel
theorem dX5_restRank_6 : decode cX5_restRank 6 = .ok (.aload_n 0, 1) := by decide +kernel
theorem dX5_restRank_7 : decode cX5_restRank 7 = .ok (.getfield 131, 3) := by decide +kernel
theorem dX5_restRank_10 : decode cX5_restRank 10 = .ok (.imul, 1) := by decide +kernel
theorem dX5_restRank_11 : decode cX5_restRank 11 = .ok (.iload_n 1, 1) := by decide +kernel
theorem dX5_restRank_12 : decode cX5_restRank 12 = .ok (.iadd, 1) := by decide +kernel
theorem dX5_restRank_13 : decode cX5_restRank 13 = .ok (.iaload, 1) := by decide +kernel
theorem dX5_restRank_14 : decode cX5_restRank 14 = .ok (.ireturn, 1) := by decide +kernel
theorem dX5_rank_0 : decode cX5_rank 0 = .ok (.aload_n 0, 1) := by decide +kernel
theorem dX5_rank_1 : decode cX5_rank 1 = .ok (.iload_n 1, 1) := by decide +kernel
theorem dX5_rank_2 : decode cX5_rank 2 = .ok (.invokevirtual 81, 3) := by decide +kernel
theorem dX5_rank_5 : decode cX5_rank 5 = .ok (.ifCond .eq 5, 3) := by decide +kernel
theorem dX5_rank_8 : decode cX5_rank 8 = .ok (.iconst (-1), 1) := by decide +kernel
theorem dX5_rank_9 : decode cX5_rank 9 = .ok (.ireturn, 1) := by decide +kernel
theorem dX5_rank_10 : decode cX5_rank 10 = .ok (.iload_n 2, 1) := by decide +kernel
theorem dX5_rank_11 : decode cX5_rank 11 = .ok (.i2l, 1) := by decide +kernel
theorem dX5_rank_12 : decode cX5_rank 12 = .ok (.lconst 0, 1) := by decide +kernel
theorem dX5_rank_13 : decode cX5_rank 13 = .ok (.ldc2_w 137, 3) := by decide +kernel
theorem dX5_rank_16 : decode cX5_rank 16 = .ok (.invokestatic 77, 3) := by decide +kernel
theorem dX5_rank_19 : decode cX5_rank 19 = .ok (.ifCond .ne 6, 3) := by decide +kernel
theorem dX5_rank_22 : decode cX5_rank 22 = .ok (.bipush (-2), 2) := by decide +kernel
theorem dX5_rank_24 : decode cX5_rank 24 = .ok (.ireturn, 1) := by decide +kernel
theorem dX5_rank_25 : decode cX5_rank 25 = .ok (.aload_n 0, 1) := by decide +kernel
theorem dX5_rank_26 : decode cX5_rank 26 = .ok (.invokevirtual 139, 3) := by decide +kernel
theorem dX5_rank_29 : decode cX5_rank 29 = .ok (.aload_n 0, 1) := by decide +kernel
theorem dX5_rank_30 : decode cX5_rank 30 = .ok (.getfield 25, 3) := by decide +kernel
theorem dX5_rank_33 : decode cX5_rank 33 = .ok (.bipush 12, 2) := by decide +kernel
theorem dX5_rank_35 : decode cX5_rank 35 = .ok (.iload_n 2, 1) := by decide +kernel
theorem dX5_rank_36 : decode cX5_rank 36 = .ok (.imul, 1) := by decide +kernel
theorem dX5_rank_37 : decode cX5_rank 37 = .ok (.iload_n 1, 1) := by decide +kernel
theorem dX5_rank_38 : decode cX5_rank 38 = .ok (.iadd, 1) := by decide +kernel
theorem dX5_rank_39 : decode cX5_rank 39 = .ok (.iaload, 1) := by decide +kernel
theorem dX5_rank_40 : decode cX5_rank 40 = .ok (.ireturn, 1) := by decide +kernel
theorem dX5_rest_0 : decode cX5_rest 0 = .ok (.aload_n 0, 1) := by decide +kernel
theorem dX5_rest_1 : decode cX5_rest 1 = .ok (.getfield 74, 3) := by decide +kernel
theorem dX5_rest_4 : decode cX5_rest 4 = .ok (.ifCond .ne 6, 3) := by decide +kernel
theorem dX5_rest_7 : decode cX5_rest 7 = .ok (.bipush (-3), 2) := by decide +kernel
theorem dX5_rest_9 : decode cX5_rest 9 = .ok (.ireturn, 1) := by decide +kernel
theorem dX5_rest_10 : decode cX5_rest 10 = .ok (.aload_n 0, 1) := by decide +kernel
theorem dX5_rest_11 : decode cX5_rest 11 = .ok (.invokevirtual 139, 3) := by decide +kernel
theorem dX5_rest_14 : decode cX5_rest 14 = .ok (.aload_n 0, 1) := by decide +kernel
theorem dX5_rest_15 : decode cX5_rest 15 = .ok (.getfield 131, 3) := by decide +kernel
theorem dX5_rest_18 : decode cX5_rest 18 = .ok (.ireturn, 1) := by decide +kernel
theorem dX5_ranks_0 : decode cX5_ranks 0 = .ok (.iload_n 1, 1) := by decide +kernel
theorem dX5_ranks_1 : decode cX5_ranks 1 = .ok (.i2l, 1) := by decide +kernel
theorem dX5_ranks_2 : decode cX5_ranks 2 = .ok (.lconst 0, 1) := by decide +kernel
theorem dX5_ranks_3 : decode cX5_ranks 3 = .ok (.ldc2_w 137, 3) := by decide +kernel
theorem dX5_ranks_6 : decode cX5_ranks 6 = .ok (.invokestatic 77, 3) := by decide +kernel
theorem dX5_ranks_9 : decode cX5_ranks 9 = .ok (.ifCond .ne 6, 3) := by decide +kernel
theorem dX5_ranks_12 : decode cX5_ranks 12 = .ok (.bipush (-2), 2) := by decide +kernel
theorem dX5_ranks_14 : decode cX5_ranks 14 = .ok (.ireturn, 1) := by decide +kernel
theorem dX5_ranks_15 : decode cX5_ranks 15 = .ok (.aload_n 0, 1) := by decide +kernel
theorem dX5_ranks_16 : decode cX5_ranks 16 = .ok (.invokevirtual 139, 3) := by decide +kernel
theorem dX5_ranks_19 : decode cX5_ranks 19 = .ok (.aload_n 0, 1) := by decide +kernel
theorem dX5_ranks_20 : decode cX5_ranks 20 = .ok (.getfield 28, 3) := by decide +kernel
theorem dX5_ranks_23 : decode cX5_ranks 23 = .ok (.iload_n 1, 1) := by decide +kernel
theorem dX5_ranks_24 : decode cX5_ranks 24 = .ok (.iaload, 1) := by decide +kernel
theorem dX5_ranks_25 : decode cX5_ranks 25 = .ok (.ireturn, 1) := by decide +kernel
theorem dX5_apart_0 : decode cX5_apart 0 = .ok (.aload_n 0, 1) := by decide +kernel
theorem dX5_apart_1 : decode cX5_apart 1 = .ok (.iload_n 1, 1) := by decide +kernel
theorem dX5_apart_2 : decode cX5_apart 2 = .ok (.invokevirtual 81, 3) := by decide +kernel
theorem dX5_apart_5 : decode cX5_apart 5 = .ok (.ifCond .ne 11, 3) := by decide +kernel
theorem dX5_apart_8 : decode cX5_apart 8 = .ok (.aload_n 0, 1) := by decide +kernel
theorem dX5_apart_9 : decode cX5_apart 9 = .ok (.iload_n 2, 1) := by decide +kernel
theorem dX5_apart_10 : decode cX5_apart 10 = .ok (.invokevirtual 81, 3) := by decide +kernel
theorem dX5_apart_13 : decode cX5_apart 13 = .ok (.ifCond .eq 5, 3) := by decide +kernel
theorem dX5_apart_16 : decode cX5_apart 16 = .ok (.iconst (-1), 1) := by decide +kernel
theorem dX5_apart_17 : decode cX5_apart 17 = .ok (.ireturn, 1) := by decide +kernel
theorem dX5_apart_18 : decode cX5_apart 18 = .ok (.aload_n 0, 1) := by decide +kernel
theorem dX5_apart_19 : decode cX5_apart 19 = .ok (.invokevirtual 139, 3) := by decide +kernel
theorem dX5_apart_22 : decode cX5_apart 22 = .ok (.iconst 0, 1) := by decide +kernel
theorem dX5_apart_23 : decode cX5_apart 23 = .ok (.istore_n 3, 1) := by decide +kernel
theorem dX5_apart_24 : decode cX5_apart 24 = .ok (.iload_n 3, 1) := by decide +kernel
theorem dX5_apart_25 : decode cX5_apart 25 = .ok (.aload_n 0, 1) := by decide +kernel
theorem dX5_apart_26 : decode cX5_apart 26 = .ok (.getfield 131, 3) := by decide +kernel
theorem dX5_apart_29 : decode cX5_apart 29 = .ok (.if_icmp .gt 36, 3) := by decide +kernel
theorem dX5_apart_32 : decode cX5_apart 32 = .ok (.aload_n 0, 1) := by decide +kernel
theorem dX5_apart_33 : decode cX5_apart 33 = .ok (.getfield 25, 3) := by decide +kernel
theorem dX5_apart_36 : decode cX5_apart 36 = .ok (.bipush 12, 2) := by decide +kernel
theorem dX5_apart_38 : decode cX5_apart 38 = .ok (.iload_n 3, 1) := by decide +kernel
theorem dX5_apart_39 : decode cX5_apart 39 = .ok (.imul, 1) := by decide +kernel
theorem dX5_apart_40 : decode cX5_apart 40 = .ok (.iload_n 1, 1) := by decide +kernel
theorem dX5_apart_41 : decode cX5_apart 41 = .ok (.iadd, 1) := by decide +kernel
theorem dX5_apart_42 : decode cX5_apart 42 = .ok (.iaload, 1) := by decide +kernel
theorem dX5_apart_43 : decode cX5_apart 43 = .ok (.aload_n 0, 1) := by decide +kernel
theorem dX5_apart_44 : decode cX5_apart 44 = .ok (.getfield 25, 3) := by decide +kernel
theorem dX5_apart_47 : decode cX5_apart 47 = .ok (.bipush 12, 2) := by decide +kernel
theorem dX5_apart_49 : decode cX5_apart 49 = .ok (.iload_n 3, 1) := by decide +kernel
theorem dX5_apart_50 : decode cX5_apart 50 = .ok (.imul, 1) := by decide +kernel
theorem dX5_apart_51 : decode cX5_apart 51 = .ok (.iload_n 2, 1) := by decide +kernel
theorem dX5_apart_52 : decode cX5_apart 52 = .ok (.iadd, 1) := by decide +kernel
theorem dX5_apart_53 : decode cX5_apart 53 = .ok (.iaload, 1) := by decide +kernel
theorem dX5_apart_54 : decode cX5_apart 54 = .ok (.if_icmp .eq 5, 3) := by decide +kernel
theorem dX5_apart_57 : decode cX5_apart 57 = .ok (.iload_n 3, 1) := by decide +kernel
theorem dX5_apart_58 : decode cX5_apart 58 = .ok (.ireturn, 1) := by decide +kernel
theorem dX5_apart_59 : decode cX5_apart 59 = .ok (.iinc 3 1, 3) := by decide +kernel
theorem dX5_apart_62 : decode cX5_apart 62 = .ok (.goto (-38), 3) := by decide +kernel
theorem dX5_apart_65 : decode cX5_apart 65 = .ok (.bipush (-9), 2) := by decide +kernel
theorem dX5_apart_67 : decode cX5_apart 67 = .ok (.ireturn, 1) := by decide +kernel
theorem dX5_chosen_0 : decode cX5_chosen 0 = .ok (.aload_n 0, 1) := by decide +kernel
theorem dX5_chosen_1 : decode cX5_chosen 1 = .ok (.invokevirtual 142, 3) := by decide +kernel
theorem dX5_chosen_4 : decode cX5_chosen 4 = .ok (.ifCond .ne 6, 3) := by decide +kernel
theorem dX5_chosen_7 : decode cX5_chosen 7 = .ok (.bipush (-9), 2) := by decide +kernel
theorem dX5_chosen_9 : decode cX5_chosen 9 = .ok (.ireturn, 1) := by decide +kernel
theorem dX5_chosen_10 : decode cX5_chosen 10 = .ok (.aload_n 0, 1) := by decide +kernel
theorem dX5_chosen_11 : decode cX5_chosen 11 = .ok (.invokevirtual 139, 3) := by decide +kernel
theorem dX5_chosen_14 : decode cX5_chosen 14 = .ok (.aload_n 0, 1) := by decide +kernel
theorem dX5_chosen_15 : decode cX5_chosen 15 = .ok (.getfield 28, 3) := by decide +kernel
theorem dX5_chosen_18 : decode cX5_chosen 18 = .ok (.aload_n 0, 1) := by decide +kernel
theorem dX5_chosen_19 : decode cX5_chosen 19 = .ok (.getfield 131, 3) := by decide +kernel
theorem dX5_chosen_22 : decode cX5_chosen 22 = .ok (.iaload, 1) := by decide +kernel
theorem dX5_chosen_23 : decode cX5_chosen 23 = .ok (.aload_n 0, 1) := by decide +kernel
theorem dX5_chosen_24 : decode cX5_chosen 24 = .ok (.getfield 74, 3) := by decide +kernel
theorem dX5_chosen_27 : decode cX5_chosen 27 = .ok (.if_icmp .ge 6, 3) := by decide +kernel
theorem dX5_chosen_30 : decode cX5_chosen 30 = .ok (.bipush (-9), 2) := by decide +kernel
theorem dX5_chosen_32 : decode cX5_chosen 32 = .ok (.ireturn, 1) := by decide +kernel
theorem dX5_chosen_33 : decode cX5_chosen 33 = .ok (.iconst 0, 1) := by decide +kernel
theorem dX5_chosen_34 : decode cX5_chosen 34 = .ok (.istore_n 1, 1) := by decide +kernel
theorem dX5_chosen_35 : decode cX5_chosen 35 = .ok (.aload_n 0, 1) := by decide +kernel
theorem dX5_chosen_36 : decode cX5_chosen 36 = .ok (.iload_n 1, 1) := by decide +kernel
