theorem dX0_init_0 : decode cX0_init 0 = .ok (.aload_n 0, 1) := by decide +kernel
theorem dX0_init_1 : decode cX0_init 1 = .ok (.invokespecial 3, 3) := by decide +kernel
theorem dX0_init_4 : decode cX0_init 4 = .ok (.aload_n 0, 1) := by decide +kernel
theorem dX0_init_5 : decode cX0_init 5 = .ok (.bipush 72, 2) := by decide +kernel
theorem dX0_init_7 : decode cX0_init 7 = .ok (.newarray .int, 2) := by decide +kernel
theorem dX0_init_9 : decode cX0_init 9 = .ok (.putfield 9, 3) := by decide +kernel
theorem dX0_init_12 : decode cX0_init 12 = .ok (.aload_n 0, 1) := by decide +kernel
theorem dX0_init_13 : decode cX0_init 13 = .ok (.bipush 12, 2) := by decide +kernel
theorem dX0_init_15 : decode cX0_init 15 = .ok (.newarray .int, 2) := by decide +kernel
theorem dX0_init_17 : decode cX0_init 17 = .ok (.putfield 15, 3) := by decide +kernel
theorem dX0_init_20 : decode cX0_init 20 = .ok (.aload_n 0, 1) := by decide +kernel
theorem dX0_init_21 : decode cX0_init 21 = .ok (.bipush 12, 2) := by decide +kernel
theorem dX0_init_23 : decode cX0_init 23 = .ok (.newarray .int, 2) := by decide +kernel
theorem dX0_init_25 : decode cX0_init 25 = .ok (.putfield 18, 3) := by decide +kernel
theorem dX0_init_28 : decode cX0_init 28 = .ok (.aload_n 0, 1) := by decide +kernel
theorem dX0_init_29 : decode cX0_init 29 = .ok (.bipush 12, 2) := by decide +kernel
theorem dX0_init_31 : decode cX0_init 31 = .ok (.newarray .int, 2) := by decide +kernel
theorem dX0_init_33 : decode cX0_init 33 = .ok (.putfield 21, 3) := by decide +kernel
theorem dX0_init_36 : decode cX0_init 36 = .ok (.aload_n 0, 1) := by decide +kernel
theorem dX0_init_37 : decode cX0_init 37 = .ok (.bipush 72, 2) := by decide +kernel
theorem dX0_init_39 : decode cX0_init 39 = .ok (.newarray .boolean, 2) := by decide +kernel
theorem dX0_init_41 : decode cX0_init 41 = .ok (.putfield 24, 3) := by decide +kernel
theorem dX0_init_44 : decode cX0_init 44 = .ok (.aload_n 0, 1) := by decide +kernel
theorem dX0_init_45 : decode cX0_init 45 = .ok (.aload_n 1, 1) := by decide +kernel
theorem dX0_init_46 : decode cX0_init 46 = .ok (.putfield 28, 3) := by decide +kernel
theorem dX0_init_49 : decode cX0_init 49 = .ok (.return_, 1) := by decide +kernel
set_option maxRecDepth 20000 in
theorem ggX0_runFrom_J7_fill_53178 : GoodIn wsX0_runFrom wsJ7_fill_53178 := goodIn_r _ [11] (by decide +kernel) (by decide +kernel)
set_option maxRecDepth 20000 in
theorem gX0_runFrom_J7_fill_53178 : GoodIn wsX0_runFrom (va_wsS RX0 32 yJ7_fill_53178 wsJ7_fill_53178) := goodIn_app (goodIn_of _ (by decide +kernel)) ggX0_runFrom_J7_fill_53178
set_option maxRecDepth 20000 in
theorem ggX0_runFrom_X0_sendFrom : GoodIn wsX0_runFrom wsX0_sendFrom := goodIn_r _ [16, 17, 18, 1, 19, 7, 20, 21, 22, 45, 46, 47, 48, 49, 50, 51, 52, 53, 54, 55, 56, 57, 58, 59, 60, 61, 62] (by decide +kernel) (by decide +kernel)
set_option maxRecDepth 20000 in
theorem gX0_runFrom_X0_sendFrom : GoodIn wsX0_runFrom (wsV RX0 50 RX0 yX0_sendFrom wsX0_sendFrom) := goodIn_app (goodIn_of _ (by decide +kernel)) ggX0_runFrom_X0_sendFrom
set_option maxRecDepth 20000 in
theorem ggX0_runFrom_X0_numberBelow : GoodIn wsX0_runFrom wsX0_numberBelow := goodIn_r _ [26, 6, 27, 28, 29, 30, 45, 46, 47, 48, 49, 50, 51, 52, 53, 54] (by decide +kernel) (by decide +kernel)
set_option maxRecDepth 20000 in
theorem gX0_runFrom_X0_numberBelow : GoodIn wsX0_runFrom (wsV RX0 57 RX0 yX0_numberBelow wsX0_numberBelow) := goodIn_app (goodIn_of _ (by decide +kernel)) ggX0_runFrom_X0_numberBelow
set_option maxRecDepth 20000 in
theorem ggX0_runFrom_X0_takeSlot : GoodIn wsX0_runFrom wsX0_takeSlot := goodIn_r _ [34, 19, 7, 45, 46, 47, 48, 49, 50, 51, 52, 53, 54] (by decide +kernel) (by decide +kernel)
set_option maxRecDepth 20000 in
theorem gX0_runFrom_X0_takeSlot : GoodIn wsX0_runFrom (wsV RX0 61 RX0 yX0_takeSlot wsX0_takeSlot) := goodIn_app (goodIn_of _ (by decide +kernel)) ggX0_runFrom_X0_takeSlot
set_option maxRecDepth 20000 in
theorem ggX0_runFrom_X0_bringFrom : GoodIn wsX0_runFrom wsX0_bringFrom := goodIn_r _ [38, 17, 39, 40, 5, 3, 2, 1, 41, 21, 42, 43, 44, 12, 13, 14, 15, 16, 18, 19, 7, 20, 22, 45, 46, 47, 48, 49, 50, 51, 52, 53, 54, 55, 56, 57, 58, 59, 60, 61, 62] (by decide +kernel) (by decide +kernel)
set_option maxRecDepth 20000 in
theorem gX0_runFrom_X0_bringFrom : GoodIn wsX0_runFrom (wsV RX0 64 RX0 yX0_bringFrom wsX0_bringFrom) := goodIn_app (goodIn_of _ (by decide +kernel)) ggX0_runFrom_X0_bringFrom
theorem dX0_runFrom_0 : decode cX0_runFrom 0 = .ok (.aload_n 0, 1) := by decide +kernel
theorem dX0_runFrom_1 : decode cX0_runFrom 1 = .ok (.getfield 15, 3) := by decide +kernel
theorem dX0_runFrom_4 : decode cX0_runFrom 4 = .ok (.bipush (-9), 2) := by decide +kernel
theorem dX0_runFrom_6 : decode cX0_runFrom 6 = .ok (.invokestatic 32, 3) := by decide +kernel
theorem dX0_runFrom_9 : decode cX0_runFrom 9 = .ok (.aload_n 0, 1) := by decide +kernel
theorem dX0_runFrom_10 : decode cX0_runFrom 10 = .ok (.getfield 18, 3) := by decide +kernel
theorem dX0_runFrom_13 : decode cX0_runFrom 13 = .ok (.bipush (-9), 2) := by decide +kernel
theorem dX0_runFrom_15 : decode cX0_runFrom 15 = .ok (.invokestatic 32, 3) := by decide +kernel
theorem dX0_runFrom_18 : decode cX0_runFrom 18 = .ok (.aload_n 0, 1) := by decide +kernel
theorem dX0_runFrom_19 : decode cX0_runFrom 19 = .ok (.getfield 21, 3) := by decide +kernel
theorem dX0_runFrom_22 : decode cX0_runFrom 22 = .ok (.iconst 0, 1) := by decide +kernel
theorem dX0_runFrom_23 : decode cX0_runFrom 23 = .ok (.invokestatic 32, 3) := by decide +kernel
theorem dX0_runFrom_26 : decode cX0_runFrom 26 = .ok (.aload_n 0, 1) := by decide +kernel
theorem dX0_runFrom_27 : decode cX0_runFrom 27 = .ok (.iconst 1, 1) := by decide +kernel
theorem dX0_runFrom_28 : decode cX0_runFrom 28 = .ok (.putfield 38, 3) := by decide +kernel
theorem dX0_runFrom_31 : decode cX0_runFrom 31 = .ok (.aload_n 0, 1) := by decide +kernel
theorem dX0_runFrom_32 : decode cX0_runFrom 32 = .ok (.iconst 0, 1) := by decide +kernel
theorem dX0_runFrom_33 : decode cX0_runFrom 33 = .ok (.putfield 42, 3) := by decide +kernel
theorem dX0_runFrom_36 : decode cX0_runFrom 36 = .ok (.aload_n 0, 1) := by decide +kernel
theorem dX0_runFrom_37 : decode cX0_runFrom 37 = .ok (.lload_n 2, 1) := by decide +kernel
theorem dX0_runFrom_38 : decode cX0_runFrom 38 = .ok (.putfield 46, 3) := by decide +kernel
theorem dX0_runFrom_41 : decode cX0_runFrom 41 = .ok (.aload_n 0, 1) := by decide +kernel
theorem dX0_runFrom_42 : decode cX0_runFrom 42 = .ok (.getfield 18, 3) := by decide +kernel
theorem dX0_runFrom_45 : decode cX0_runFrom 45 = .ok (.iload_n 1, 1) := by decide +kernel
theorem dX0_runFrom_46 : decode cX0_runFrom 46 = .ok (.iconst 0, 1) := by decide +kernel
theorem dX0_runFrom_47 : decode cX0_runFrom 47 = .ok (.iastore, 1) := by decide +kernel
theorem dX0_runFrom_48 : decode cX0_runFrom 48 = .ok (.aload_n 0, 1) := by decide +kernel
theorem dX0_runFrom_49 : decode cX0_runFrom 49 = .ok (.iload_n 1, 1) := by decide +kernel
theorem dX0_runFrom_50 : decode cX0_runFrom 50 = .ok (.invokevirtual 50, 3) := by decide +kernel
theorem dX0_runFrom_53 : decode cX0_runFrom 53 = .ok (.iconst 0, 1) := by decide +kernel
theorem dX0_runFrom_54 : decode cX0_runFrom 54 = .ok (.istore 4, 2) := by decide +kernel
theorem dX0_runFrom_56 : decode cX0_runFrom 56 = .ok (.iload 4, 2) := by decide +kernel
theorem dX0_runFrom_58 : decode cX0_runFrom 58 = .ok (.bipush 72, 2) := by decide +kernel
theorem dX0_runFrom_60 : decode cX0_runFrom 60 = .ok (.if_icmp .ge 32, 3) := by decide +kernel
theorem dX0_runFrom_63 : decode cX0_runFrom 63 = .ok (.aload_n 0, 1) := by decide +kernel
theorem dX0_runFrom_64 : decode cX0_runFrom 64 = .ok (.getfield 54, 3) := by decide +kernel
theorem dX0_runFrom_67 : decode cX0_runFrom 67 = .ok (.ifCond .le 25, 3) := by decide +kernel
theorem dX0_runFrom_70 : decode cX0_runFrom 70 = .ok (.aload_n 0, 1) := by decide +kernel
theorem dX0_runFrom_71 : decode cX0_runFrom 71 = .ok (.aload_n 0, 1) := by decide +kernel
theorem dX0_runFrom_72 : decode cX0_runFrom 72 = .ok (.aload_n 0, 1) := by decide +kernel
theorem dX0_runFrom_73 : decode cX0_runFrom 73 = .ok (.aload_n 0, 1) := by decide +kernel
theorem dX0_runFrom_74 : decode cX0_runFrom 74 = .ok (.getfield 54, 3) := by decide +kernel
theorem dX0_runFrom_77 : decode cX0_runFrom 77 = .ok (.invokevirtual 57, 3) := by decide +kernel
theorem dX0_runFrom_80 : decode cX0_runFrom 80 = .ok (.invokevirtual 61, 3) := by decide +kernel
theorem dX0_runFrom_83 : decode cX0_runFrom 83 = .ok (.invokevirtual 64, 3) := by decide +kernel
theorem dX0_runFrom_86 : decode cX0_runFrom 86 = .ok (.iinc 4 1, 3) := by decide +kernel
theorem dX0_runFrom_89 : decode cX0_runFrom 89 = .ok (.goto (-33), 3) := by decide +kernel
theorem dX0_runFrom_92 : decode cX0_runFrom 92 = .ok (.return_, 1) := by decide +kernel
set_option maxRecDepth 20000 in
theorem ggX0_sendFrom_X4_slotOf : GoodIn wsX0_sendFrom wsX4_slotOf := goodIn_r _ [8] (by decide +kernel) (by decide +kernel)
set_option maxRecDepth 20000 in
theorem gX0_sendFrom_X4_slotOf_n72 : GoodIn wsX0_sendFrom (wsX4_slotOf) := ggX0_sendFrom_X4_slotOf
theorem dX0_sendFrom_0 : decode cX0_sendFrom 0 = .ok (.iconst 0, 1) := by decide +kernel
theorem dX0_sendFrom_1 : decode cX0_sendFrom 1 = .ok (.istore_n 2, 1) := by decide +kernel
theorem dX0_sendFrom_2 : decode cX0_sendFrom 2 = .ok (.iload_n 2, 1) := by decide +kernel
theorem dX0_sendFrom_3 : decode cX0_sendFrom 3 = .ok (.aload_n 0, 1) := by decide +kernel
theorem dX0_sendFrom_4 : decode cX0_sendFrom 4 = .ok (.getfield 28, 3) := by decide +kernel
theorem dX0_sendFrom_7 : decode cX0_sendFrom 7 = .ok (.getfield 67, 3) := by decide +kernel
theorem dX0_sendFrom_10 : decode cX0_sendFrom 10 = .ok (.iload_n 1, 1) := by decide +kernel
theorem dX0_sendFrom_11 : decode cX0_sendFrom 11 = .ok (.iaload, 1) := by decide +kernel
theorem dX0_sendFrom_12 : decode cX0_sendFrom 12 = .ok (.if_icmp .ge 40, 3) := by decide +kernel
theorem dX0_sendFrom_15 : decode cX0_sendFrom 15 = .ok (.iload_n 2, 1) := by decide +kernel
theorem dX0_sendFrom_16 : decode cX0_sendFrom 16 = .ok (.aload_n 0, 1) := by decide +kernel
theorem dX0_sendFrom_17 : decode cX0_sendFrom 17 = .ok (.getfield 15, 3) := by decide +kernel
theorem dX0_sendFrom_20 : decode cX0_sendFrom 20 = .ok (.iload_n 1, 1) := by decide +kernel
theorem dX0_sendFrom_21 : decode cX0_sendFrom 21 = .ok (.iaload, 1) := by decide +kernel
theorem dX0_sendFrom_22 : decode cX0_sendFrom 22 = .ok (.if_icmp .eq 24, 3) := by decide +kernel
theorem dX0_sendFrom_25 : decode cX0_sendFrom 25 = .ok (.aload_n 0, 1) := by decide +kernel
theorem dX0_sendFrom_26 : decode cX0_sendFrom 26 = .ok (.getfield 24, 3) := by decide +kernel
theorem dX0_sendFrom_29 : decode cX0_sendFrom 29 = .ok (.iload_n 1, 1) := by decide +kernel
theorem dX0_sendFrom_30 : decode cX0_sendFrom 30 = .ok (.iload_n 2, 1) := by decide +kernel
theorem dX0_sendFrom_31 : decode cX0_sendFrom 31 = .ok (.invokestatic 72, 3) := by decide +kernel
theorem dX0_sendFrom_34 : decode cX0_sendFrom 34 = .ok (.iconst 1, 1) := by decide +kernel
theorem dX0_sendFrom_35 : decode cX0_sendFrom 35 = .ok (.bastore, 1) := by decide +kernel
theorem dX0_sendFrom_36 : decode cX0_sendFrom 36 = .ok (.aload_n 0, 1) := by decide +kernel
theorem dX0_sendFrom_37 : decode cX0_sendFrom 37 = .ok (.dup, 1) := by decide +kernel
theorem dX0_sendFrom_38 : decode cX0_sendFrom 38 = .ok (.getfield 54, 3) := by decide +kernel
theorem dX0_sendFrom_41 : decode cX0_sendFrom 41 = .ok (.iconst 1, 1) := by decide +kernel
theorem dX0_sendFrom_42 : decode cX0_sendFrom 42 = .ok (.iadd, 1) := by decide +kernel
theorem dX0_sendFrom_43 : decode cX0_sendFrom 43 = .ok (.putfield 54, 3) := by decide +kernel
theorem dX0_sendFrom_46 : decode cX0_sendFrom 46 = .ok (.iinc 2 1, 3) := by decide +kernel
theorem dX0_sendFrom_49 : decode cX0_sendFrom 49 = .ok (.goto (-47), 3) := by decide +kernel
theorem dX0_sendFrom_52 : decode cX0_sendFrom 52 = .ok (.return_, 1) := by decide +kernel
theorem dX0_numberBelow_0 : decode cX0_numberBelow 0 = .ok (.aload_n 0, 1) := by decide +kernel
theorem dX0_numberBelow_1 : decode cX0_numberBelow 1 = .ok (.aload_n 0, 1) := by decide +kernel
theorem dX0_numberBelow_2 : decode cX0_numberBelow 2 = .ok (.getfield 46, 3) := by decide +kernel
theorem dX0_numberBelow_5 : decode cX0_numberBelow 5 = .ok (.ldc2_w 76, 3) := by decide +kernel
theorem dX0_numberBelow_8 : decode cX0_numberBelow 8 = .ok (.lmul, 1) := by decide +kernel
theorem dX0_numberBelow_9 : decode cX0_numberBelow 9 = .ok (.ldc2_w 78, 3) := by decide +kernel
theorem dX0_numberBelow_12 : decode cX0_numberBelow 12 = .ok (.ladd, 1) := by decide +kernel
theorem dX0_numberBelow_13 : decode cX0_numberBelow 13 = .ok (.putfield 46, 3) := by decide +kernel
theorem dX0_numberBelow_16 : decode cX0_numberBelow 16 = .ok (.iload_n 1, 1) := by decide +kernel
theorem dX0_numberBelow_17 : decode cX0_numberBelow 17 = .ok (.ifCond .le 22, 3) := by decide +kernel
theorem dX0_numberBelow_20 : decode cX0_numberBelow 20 = .ok (.aload_n 0, 1) := by decide +kernel
theorem dX0_numberBelow_21 : decode cX0_numberBelow 21 = .ok (.getfield 46, 3) := by decide +kernel
theorem dX0_numberBelow_24 : decode cX0_numberBelow 24 = .ok (.ldc2_w 80, 3) := by decide +kernel
theorem dX0_numberBelow_27 : decode cX0_numberBelow 27 = .ok (.land, 1) := by decide +kernel
theorem dX0_numberBelow_28 : decode cX0_numberBelow 28 = .ok (.ldc2_w 82, 3) := by decide +kernel
theorem dX0_numberBelow_31 : decode cX0_numberBelow 31 = .ok (.ldiv, 1) := by decide +kernel
theorem dX0_numberBelow_32 : decode cX0_numberBelow 32 = .ok (.iload_n 1, 1) := by decide +kernel
theorem dX0_numberBelow_33 : decode cX0_numberBelow 33 = .ok (.i2l, 1) := by decide +kernel
theorem dX0_numberBelow_34 : decode cX0_numberBelow 34 = .ok (.lrem, 1) := by decide +kernel
theorem dX0_numberBelow_35 : decode cX0_numberBelow 35 = .ok (.l2i, 1) := by decide +kernel
theorem dX0_numberBelow_36 : decode cX0_numberBelow 36 = .ok (.goto 4, 3) := by decide +kernel
theorem dX0_numberBelow_39 : decode cX0_numberBelow 39 = .ok (.iconst 0, 1) := by decide +kernel
theorem dX0_numberBelow_40 : decode cX0_numberBelow 40 = .ok (.ireturn, 1) := by decide +kernel
theorem dX0_takeSlot_0 : decode cX0_takeSlot 0 = .ok (.iload_n 1, 1) := by decide +kernel
theorem dX0_takeSlot_1 : decode cX0_takeSlot 1 = .ok (.istore_n 2, 1) := by decide +kernel
theorem dX0_takeSlot_2 : decode cX0_takeSlot 2 = .ok (.iconst 0, 1) := by decide +kernel
theorem dX0_takeSlot_3 : decode cX0_takeSlot 3 = .ok (.istore_n 3, 1) := by decide +kernel
theorem dX0_takeSlot_4 : decode cX0_takeSlot 4 = .ok (.iload_n 3, 1) := by decide +kernel
theorem dX0_takeSlot_5 : decode cX0_takeSlot 5 = .ok (.bipush 72, 2) := by decide +kernel
theorem dX0_takeSlot_7 : decode cX0_takeSlot 7 = .ok (.if_icmp .ge 44, 3) := by decide +kernel
theorem dX0_takeSlot_10 : decode cX0_takeSlot 10 = .ok (.aload_n 0, 1) := by decide +kernel
theorem dX0_takeSlot_11 : decode cX0_takeSlot 11 = .ok (.getfield 24, 3) := by decide +kernel
theorem dX0_takeSlot_14 : decode cX0_takeSlot 14 = .ok (.iload_n 3, 1) := by decide +kernel
theorem dX0_takeSlot_15 : decode cX0_takeSlot 15 = .ok (.baload, 1) := by decide +kernel
theorem dX0_takeSlot_16 : decode cX0_takeSlot 16 = .ok (.ifCond .eq 29, 3) := by decide +kernel
theorem dX0_takeSlot_19 : decode cX0_takeSlot 19 = .ok (.iload_n 2, 1) := by decide +kernel
theorem dX0_takeSlot_20 : decode cX0_takeSlot 20 = .ok (.ifCond .ne 22, 3) := by decide +kernel
theorem dX0_takeSlot_23 : decode cX0_takeSlot 23 = .ok (.aload_n 0, 1) := by decide +kernel
theorem dX0_takeSlot_24 : decode cX0_takeSlot 24 = .ok (.getfield 24, 3) := by decide +kernel
theorem dX0_takeSlot_27 : decode cX0_takeSlot 27 = .ok (.iload_n 3, 1) := by decide +kernel
theorem dX0_takeSlot_28 : decode cX0_takeSlot 28 = .ok (.iconst 0, 1) := by decide +kernel
theorem dX0_takeSlot_29 : decode cX0_takeSlot 29 = .ok (.bastore, 1) := by decide +kernel
theorem dX0_takeSlot_30 : decode cX0_takeSlot 30 = .ok (.aload_n 0, 1) := by decide +kernel
theorem dX0_takeSlot_31 : decode cX0_takeSlot 31 = .ok (.dup, 1) := by decide +kernel
theorem dX0_takeSlot_32 : decode cX0_takeSlot 32 = .ok (.getfield 54, 3) := by decide +kernel
theorem dX0_takeSlot_35 : decode cX0_takeSlot 35 = .ok (.iconst 1, 1) := by decide +kernel
theorem dX0_takeSlot_36 : decode cX0_takeSlot 36 = .ok (.isub, 1) := by decide +kernel
theorem dX0_takeSlot_37 : decode cX0_takeSlot 37 = .ok (.putfield 54, 3) := by decide +kernel
theorem dX0_takeSlot_40 : decode cX0_takeSlot 40 = .ok (.iload_n 3, 1) := by decide +kernel
theorem dX0_takeSlot_41 : decode cX0_takeSlot 41 = .ok (.ireturn, 1) := by decide +kernel
theorem dX0_takeSlot_42 : decode cX0_takeSlot 42 = .ok (.iinc 2 (-1), 3) := by decide +kernel
theorem dX0_takeSlot_45 : decode cX0_takeSlot 45 = .ok (.iinc 3 1, 3) := by decide +kernel
theorem dX0_takeSlot_48 : decode cX0_takeSlot 48 = .ok (.goto (-44), 3) := by decide +kernel
theorem dX0_takeSlot_51 : decode cX0_takeSlot 51 = .ok (.bipush (-9), 2) := by decide +kernel
theorem dX0_takeSlot_53 : decode cX0_takeSlot 53 = .ok (.ireturn, 1) := by decide +kernel
set_option maxRecDepth 20000 in
theorem ggX0_bringFrom_X4_postOf : GoodIn wsX0_bringFrom wsX4_postOf := goodIn_r _ [10] (by decide +kernel) (by decide +kernel)
set_option maxRecDepth 20000 in
theorem gX0_bringFrom_X4_postOf_n87 : GoodIn wsX0_bringFrom (wsX4_postOf) := ggX0_bringFrom_X4_postOf
set_option maxRecDepth 20000 in
theorem ggX0_bringFrom_X4_portOf : GoodIn wsX0_bringFrom wsX4_portOf := goodIn_r _ [12] (by decide +kernel) (by decide +kernel)
set_option maxRecDepth 20000 in
theorem gX0_bringFrom_X4_portOf_n90 : GoodIn wsX0_bringFrom (wsX4_portOf) := ggX0_bringFrom_X4_portOf
set_option maxRecDepth 20000 in
theorem ggX0_bringFrom_X0_sendFrom : GoodIn wsX0_bringFrom wsX0_sendFrom := goodIn_r _ [17, 1, 18, 7, 19, 20, 21, 9, 22, 23, 24, 25, 26, 27, 28, 29, 30, 31, 32, 33, 34, 35, 36, 37, 38, 39, 40] (by decide +kernel) (by decide +kernel)
set_option maxRecDepth 20000 in
theorem gX0_bringFrom_X0_sendFrom : GoodIn wsX0_bringFrom (wsV RX0 50 RX0 yX0_sendFrom wsX0_sendFrom) := goodIn_app (goodIn_of _ (by decide +kernel)) ggX0_bringFrom_X0_sendFrom
theorem dX0_bringFrom_0 : decode cX0_bringFrom 0 = .ok (.iload_n 1, 1) := by decide +kernel
theorem dX0_bringFrom_1 : decode cX0_bringFrom 1 = .ok (.ifCond .ge 4, 3) := by decide +kernel
theorem dX0_bringFrom_4 : decode cX0_bringFrom 4 = .ok (.return_, 1) := by decide +kernel
theorem dX0_bringFrom_5 : decode cX0_bringFrom 5 = .ok (.aload_n 0, 1) := by decide +kernel
theorem dX0_bringFrom_6 : decode cX0_bringFrom 6 = .ok (.getfield 28, 3) := by decide +kernel
theorem dX0_bringFrom_9 : decode cX0_bringFrom 9 = .ok (.getfield 84, 3) := by decide +kernel
theorem dX0_bringFrom_12 : decode cX0_bringFrom 12 = .ok (.iload_n 1, 1) := by decide +kernel
theorem dX0_bringFrom_13 : decode cX0_bringFrom 13 = .ok (.iaload, 1) := by decide +kernel
theorem dX0_bringFrom_14 : decode cX0_bringFrom 14 = .ok (.istore_n 2, 1) := by decide +kernel
theorem dX0_bringFrom_15 : decode cX0_bringFrom 15 = .ok (.iload_n 2, 1) := by decide +kernel
theorem dX0_bringFrom_16 : decode cX0_bringFrom 16 = .ok (.invokestatic 87, 3) := by decide +kernel
theorem dX0_bringFrom_19 : decode cX0_bringFrom 19 = .ok (.istore_n 3, 1) := by decide +kernel
theorem dX0_bringFrom_20 : decode cX0_bringFrom 20 = .ok (.aload_n 0, 1) := by decide +kernel
theorem dX0_bringFrom_21 : decode cX0_bringFrom 21 = .ok (.getfield 9, 3) := by decide +kernel
theorem dX0_bringFrom_24 : decode cX0_bringFrom 24 = .ok (.aload_n 0, 1) := by decide +kernel
theorem dX0_bringFrom_25 : decode cX0_bringFrom 25 = .ok (.getfield 42, 3) := by decide +kernel
theorem dX0_bringFrom_28 : decode cX0_bringFrom 28 = .ok (.iload_n 3, 1) := by decide +kernel
theorem dX0_bringFrom_29 : decode cX0_bringFrom 29 = .ok (.iastore, 1) := by decide +kernel
theorem dX0_bringFrom_30 : decode cX0_bringFrom 30 = .ok (.aload_n 0, 1) := by decide +kernel
theorem dX0_bringFrom_31 : decode cX0_bringFrom 31 = .ok (.dup, 1) := by decide +kernel
theorem dX0_bringFrom_32 : decode cX0_bringFrom 32 = .ok (.getfield 42, 3) := by decide +kernel
theorem dX0_bringFrom_35 : decode cX0_bringFrom 35 = .ok (.iconst 1, 1) := by decide +kernel
theorem dX0_bringFrom_36 : decode cX0_bringFrom 36 = .ok (.iadd, 1) := by decide +kernel
theorem dX0_bringFrom_37 : decode cX0_bringFrom 37 = .ok (.putfield 42, 3) := by decide +kernel
theorem dX0_bringFrom_40 : decode cX0_bringFrom 40 = .ok (.aload_n 0, 1) := by decide +kernel
theorem dX0_bringFrom_41 : decode cX0_bringFrom 41 = .ok (.getfield 21, 3) := by decide +kernel
theorem dX0_bringFrom_44 : decode cX0_bringFrom 44 = .ok (.iload_n 3, 1) := by decide +kernel
theorem dX0_bringFrom_45 : decode cX0_bringFrom 45 = .ok (.dup2, 1) := by decide +kernel
theorem dX0_bringFrom_46 : decode cX0_bringFrom 46 = .ok (.iaload, 1) := by decide +kernel
theorem dX0_bringFrom_47 : decode cX0_bringFrom 47 = .ok (.iconst 1, 1) := by decide +kernel
theorem dX0_bringFrom_48 : decode cX0_bringFrom 48 = .ok (.iadd, 1) := by decide +kernel
theorem dX0_bringFrom_49 : decode cX0_bringFrom 49 = .ok (.iastore, 1) := by decide +kernel
theorem dX0_bringFrom_50 : decode cX0_bringFrom 50 = .ok (.aload_n 0, 1) := by decide +kernel
theorem dX0_bringFrom_51 : decode cX0_bringFrom 51 = .ok (.getfield 18, 3) := by decide +kernel
theorem dX0_bringFrom_54 : decode cX0_bringFrom 54 = .ok (.iload_n 3, 1) := by decide +kernel
theorem dX0_bringFrom_55 : decode cX0_bringFrom 55 = .ok (.iaload, 1) := by decide +kernel
theorem dX0_bringFrom_56 : decode cX0_bringFrom 56 = .ok (.bipush (-9), 2) := by decide +kernel
theorem dX0_bringFrom_58 : decode cX0_bringFrom 58 = .ok (.if_icmp .ne 35, 3) := by decide +kernel
theorem dX0_bringFrom_61 : decode cX0_bringFrom 61 = .ok (.aload_n 0, 1) := by decide +kernel
theorem dX0_bringFrom_62 : decode cX0_bringFrom 62 = .ok (.getfield 15, 3) := by decide +kernel
theorem dX0_bringFrom_65 : decode cX0_bringFrom 65 = .ok (.iload_n 3, 1) := by decide +kernel
theorem dX0_bringFrom_66 : decode cX0_bringFrom 66 = .ok (.iload_n 2, 1) := by decide +kernel
theorem dX0_bringFrom_67 : decode cX0_bringFrom 67 = .ok (.invokestatic 90, 3) := by decide +kernel
theorem dX0_bringFrom_70 : decode cX0_bringFrom 70 = .ok (.iastore, 1) := by decide +kernel
theorem dX0_bringFrom_71 : decode cX0_bringFrom 71 = .ok (.aload_n 0, 1) := by decide +kernel
theorem dX0_bringFrom_72 : decode cX0_bringFrom 72 = .ok (.getfield 18, 3) := by decide +kernel
theorem dX0_bringFrom_75 : decode cX0_bringFrom 75 = .ok (.iload_n 3, 1) := by decide +kernel
theorem dX0_bringFrom_76 : decode cX0_bringFrom 76 = .ok (.aload_n 0, 1) := by decide +kernel
theorem dX0_bringFrom_77 : decode cX0_bringFrom 77 = .ok (.getfield 18, 3) := by decide +kernel
theorem dX0_bringFrom_80 : decode cX0_bringFrom 80 = .ok (.iload_n 1, 1) := by decide +kernel
theorem dX0_bringFrom_81 : decode cX0_bringFrom 81 = .ok (.invokestatic 87, 3) := by decide +kernel
theorem dX0_bringFrom_84 : decode cX0_bringFrom 84 = .ok (.iaload, 1) := by decide +kernel
theorem dX0_bringFrom_85 : decode cX0_bringFrom 85 = .ok (.iconst 1, 1) := by decide +kernel
theorem dX0_bringFrom_86 : decode cX0_bringFrom 86 = .ok (.iadd, 1) := by decide +kernel
theorem dX0_bringFrom_87 : decode cX0_bringFrom 87 = .ok (.iastore, 1) := by decide +kernel
theorem dX0_bringFrom_88 : decode cX0_bringFrom 88 = .ok (.aload_n 0, 1) := by decide +kernel
theorem dX0_bringFrom_89 : decode cX0_bringFrom 89 = .ok (.iload_n 3, 1) := by decide +kernel
theorem dX0_bringFrom_90 : decode cX0_bringFrom 90 = .ok (.invokevirtual 50, 3) := by decide +kernel
theorem dX0_bringFrom_93 : decode cX0_bringFrom 93 = .ok (.return_, 1) := by decide +kernel
theorem dX1_init_0 : decode cX1_init 0 = .ok (.aload_n 0, 1) := by decide +kernel
theorem dX1_init_1 : decode cX1_init 1 = .ok (.invokespecial 3, 3) := by decide +kernel
theorem dX1_init_4 : decode cX1_init 4 = .ok (.aload_n 0, 1) := by decide +kernel
theorem dX1_init_5 : decode cX1_init 5 = .ok (.bipush 12, 2) := by decide +kernel
theorem dX1_init_7 : decode cX1_init 7 = .ok (.newarray .int, 2) := by decide +kernel
theorem dX1_init_9 : decode cX1_init 9 = .ok (.putfield 9, 3) := by decide +kernel
theorem dX1_init_12 : decode cX1_init 12 = .ok (.aload_n 0, 1) := by decide +kernel
theorem dX1_init_13 : decode cX1_init 13 = .ok (.bipush 12, 2) := by decide +kernel
theorem dX1_init_15 : decode cX1_init 15 = .ok (.newarray .int, 2) := by decide +kernel
theorem dX1_init_17 : decode cX1_init 17 = .ok (.putfield 15, 3) := by decide +kernel
theorem dX1_init_20 : decode cX1_init 20 = .ok (.aload_n 0, 1) := by decide +kernel
theorem dX1_init_21 : decode cX1_init 21 = .ok (.bipush 72, 2) := by decide +kernel
theorem dX1_init_23 : decode cX1_init 23 = .ok (.newarray .int, 2) := by decide +kernel
theorem dX1_init_25 : decode cX1_init 25 = .ok (.putfield 18, 3) := by decide +kernel
theorem dX1_init_28 : decode cX1_init 28 = .ok (.aload_n 0, 1) := by decide +kernel
theorem dX1_init_29 : decode cX1_init 29 = .ok (.bipush 12, 2) := by decide +kernel
theorem dX1_init_31 : decode cX1_init 31 = .ok (.newarray .int, 2) := by decide +kernel
theorem dX1_init_33 : decode cX1_init 33 = .ok (.putfield 21, 3) := by decide +kernel
theorem dX1_init_36 : decode cX1_init 36 = .ok (.aload_n 0, 1) := by decide +kernel
theorem dX1_init_37 : decode cX1_init 37 = .ok (.bipush 12, 2) := by decide +kernel
theorem dX1_init_39 : decode cX1_init 39 = .ok (.newarray .int, 2) := by decide +kernel
theorem dX1_init_41 : decode cX1_init 41 = .ok (.putfield 24, 3) := by decide +kernel
theorem dX1_init_44 : decode cX1_init 44 = .ok (.aload_n 0, 1) := by decide +kernel
theorem dX1_init_45 : decode cX1_init 45 = .ok (.bipush 12, 2) := by decide +kernel
theorem dX1_init_47 : decode cX1_init 47 = .ok (.newarray .int, 2) := by decide +kernel
theorem dX1_init_49 : decode cX1_init 49 = .ok (.putfield 27, 3) := by decide +kernel
theorem dX1_init_52 : decode cX1_init 52 = .ok (.return_, 1) := by decide +kernel
theorem dX1_has_0 : decode cX1_has 0 = .ok (.iload_n 1, 1) := by decide +kernel
theorem dX1_has_1 : decode cX1_has 1 = .ok (.ifCond .lt 15, 3) := by decide +kernel
theorem dX1_has_4 : decode cX1_has 4 = .ok (.iload_n 1, 1) := by decide +kernel
theorem dX1_has_5 : decode cX1_has 5 = .ok (.aload_n 0, 1) := by decide +kernel
theorem dX1_has_6 : decode cX1_has 6 = .ok (.getfield 30, 3) := by decide +kernel
theorem dX1_has_9 : decode cX1_has 9 = .ok (.if_icmp .ge 7, 3) := by decide +kernel
theorem dX1_has_12 : decode cX1_has 12 = .ok (.iconst 1, 1) := by decide +kernel
theorem dX1_has_13 : decode cX1_has 13 = .ok (.goto 4, 3) := by decide +kernel
theorem dX1_has_16 : decode cX1_has 16 = .ok (.iconst 0, 1) := by decide +kernel
theorem dX1_has_17 : decode cX1_has 17 = .ok (.ireturn, 1) := by decide +kernel
set_option maxRecDepth 20000 in
theorem ggX1_hasPort_X1_has : GoodIn wsX1_hasPort wsX1_has := goodIn_r _ [6, 7, 8, 9, 10, 11, 12, 13, 14, 15] (by decide +kernel) (by decide +kernel)
set_option maxRecDepth 20000 in
theorem gX1_hasPort_X1_has : GoodIn wsX1_hasPort (wsV RX1 34 RX1 yX1_has wsX1_has) := goodIn_app (goodIn_of _ (by decide +kernel)) ggX1_hasPort_X1_has
theorem dX1_hasPort_0 : decode cX1_hasPort 0 = .ok (.aload_n 0, 1) := by decide +kernel
theorem dX1_hasPort_1 : decode cX1_hasPort 1 = .ok (.iload_n 1, 1) := by decide +kernel
theorem dX1_hasPort_2 : decode cX1_hasPort 2 = .ok (.invokevirtual 34, 3) := by decide +kernel
theorem dX1_hasPort_5 : decode cX1_hasPort 5 = .ok (.ifCond .eq 21, 3) := by decide +kernel
theorem dX1_hasPort_8 : decode cX1_hasPort 8 = .ok (.iload_n 2, 1) := by decide +kernel
theorem dX1_hasPort_9 : decode cX1_hasPort 9 = .ok (.ifCond .lt 17, 3) := by decide +kernel
theorem dX1_hasPort_12 : decode cX1_hasPort 12 = .ok (.iload_n 2, 1) := by decide +kernel
theorem dX1_hasPort_13 : decode cX1_hasPort 13 = .ok (.aload_n 0, 1) := by decide +kernel
theorem dX1_hasPort_14 : decode cX1_hasPort 14 = .ok (.getfield 15, 3) := by decide +kernel
theorem dX1_hasPort_17 : decode cX1_hasPort 17 = .ok (.iload_n 1, 1) := by decide +kernel
theorem dX1_hasPort_18 : decode cX1_hasPort 18 = .ok (.iaload, 1) := by decide +kernel
theorem dX1_hasPort_19 : decode cX1_hasPort 19 = .ok (.if_icmp .ge 7, 3) := by decide +kernel
theorem dX1_hasPort_22 : decode cX1_hasPort 22 = .ok (.iconst 1, 1) := by decide +kernel
theorem dX1_hasPort_23 : decode cX1_hasPort 23 = .ok (.goto 4, 3) := by decide +kernel
theorem dX1_hasPort_26 : decode cX1_hasPort 26 = .ok (.iconst 0, 1) := by decide +kernel
theorem dX1_hasPort_27 : decode cX1_hasPort 27 = .ok (.ireturn, 1) := by decide +kernel
theorem dX1_removeAll_0 : decode cX1_removeAll 0 = .ok (.aload_n 0, 1) := by decide +kernel
theorem dX1_removeAll_1 : decode cX1_removeAll 1 = .ok (.iconst 0, 1) := by decide +kernel
theorem dX1_removeAll_2 : decode cX1_removeAll 2 = .ok (.putfield 30, 3) := by decide +kernel
theorem dX1_removeAll_5 : decode cX1_removeAll 5 = .ok (.aload_n 0, 1) := by decide +kernel
theorem dX1_removeAll_6 : decode cX1_removeAll 6 = .ok (.iconst 0, 1) := by decide +kernel
theorem dX1_removeAll_7 : decode cX1_removeAll 7 = .ok (.putfield 38, 3) := by decide +kernel
theorem dX1_removeAll_10 : decode cX1_removeAll 10 = .ok (.return_, 1) := by decide +kernel
theorem dX1_addPost_0 : decode cX1_addPost 0 = .ok (.aload_n 0, 1) := by decide +kernel
theorem dX1_addPost_1 : decode cX1_addPost 1 = .ok (.getfield 30, 3) := by decide +kernel
theorem dX1_addPost_4 : decode cX1_addPost 4 = .ok (.istore_n 2, 1) := by decide +kernel
theorem dX1_addPost_5 : decode cX1_addPost 5 = .ok (.aload_n 0, 1) := by decide +kernel
theorem dX1_addPost_6 : decode cX1_addPost 6 = .ok (.getfield 9, 3) := by decide +kernel
theorem dX1_addPost_9 : decode cX1_addPost 9 = .ok (.iload_n 2, 1) := by decide +kernel
theorem dX1_addPost_10 : decode cX1_addPost 10 = .ok (.iload_n 1, 1) := by decide +kernel
theorem dX1_addPost_11 : decode cX1_addPost 11 = .ok (.iastore, 1) := by decide +kernel
theorem dX1_addPost_12 : decode cX1_addPost 12 = .ok (.aload_n 0, 1) := by decide +kernel
theorem dX1_addPost_13 : decode cX1_addPost 13 = .ok (.getfield 15, 3) := by decide +kernel
theorem dX1_addPost_16 : decode cX1_addPost 16 = .ok (.iload_n 2, 1) := by decide +kernel
theorem dX1_addPost_17 : decode cX1_addPost 17 = .ok (.iconst 0, 1) := by decide +kernel
theorem dX1_addPost_18 : decode cX1_addPost 18 = .ok (.iastore, 1) := by decide +kernel
theorem dX1_addPost_19 : decode cX1_addPost 19 = .ok (.aload_n 0, 1) := by decide +kernel
theorem dX1_addPost_20 : decode cX1_addPost 20 = .ok (.dup, 1) := by decide +kernel
theorem dX1_addPost_21 : decode cX1_addPost 21 = .ok (.getfield 30, 3) := by decide +kernel
theorem dX1_addPost_24 : decode cX1_addPost 24 = .ok (.iconst 1, 1) := by decide +kernel
theorem dX1_addPost_25 : decode cX1_addPost 25 = .ok (.iadd, 1) := by decide +kernel
theorem dX1_addPost_26 : decode cX1_addPost 26 = .ok (.putfield 30, 3) := by decide +kernel
theorem dX1_addPost_29 : decode cX1_addPost 29 = .ok (.iload_n 2, 1) := by decide +kernel
theorem dX1_addPost_30 : decode cX1_addPost 30 = .ok (.ireturn, 1) := by decide +kernel
set_option maxRecDepth 20000 in
theorem ggX1_refusalOfLine_X1_has : GoodIn wsX1_refusalOfLine wsX1_has := goodIn_r _ [5, 6, 7, 8, 9, 10, 11, 12, 13, 14] (by decide +kernel) (by decide +kernel)
set_option maxRecDepth 20000 in
theorem gX1_refusalOfLine_X1_has : GoodIn wsX1_refusalOfLine (wsV RX1 34 RX1 yX1_has wsX1_has) := goodIn_app (goodIn_of _ (by decide +kernel)) ggX1_refusalOfLine_X1_has
theorem dX1_refusalOfLine_0 : decode cX1_refusalOfLine 0 = .ok (.aload_n 0, 1) := by decide +kernel
theorem dX1_refusalOfLine_1 : decode cX1_refusalOfLine 1 = .ok (.iload_n 1, 1) := by decide +kernel
theorem dX1_refusalOfLine_2 : decode cX1_refusalOfLine 2 = .ok (.invokevirtual 34, 3) := by decide +kernel
theorem dX1_refusalOfLine_5 : decode cX1_refusalOfLine 5 = .ok (.ifCond .eq 11, 3) := by decide +kernel
theorem dX1_refusalOfLine_8 : decode cX1_refusalOfLine 8 = .ok (.aload_n 0, 1) := by decide +kernel
theorem dX1_refusalOfLine_9 : decode cX1_refusalOfLine 9 = .ok (.iload_n 2, 1) := by decide +kernel
theorem dX1_refusalOfLine_10 : decode cX1_refusalOfLine 10 = .ok (.invokevirtual 34, 3) := by decide +kernel
theorem dX1_refusalOfLine_13 : decode cX1_refusalOfLine 13 = .ok (.ifCond .ne 5, 3) := by decide +kernel
theorem dX1_refusalOfLine_16 : decode cX1_refusalOfLine 16 = .ok (.iconst (-1), 1) := by decide +kernel
theorem dX1_refusalOfLine_17 : decode cX1_refusalOfLine 17 = .ok (.ireturn, 1) := by decide +kernel
theorem dX1_refusalOfLine_18 : decode cX1_refusalOfLine 18 = .ok (.iload_n 1, 1) := by decide +kernel
theorem dX1_refusalOfLine_19 : decode cX1_refusalOfLine 19 = .ok (.iload_n 2, 1) := by decide +kernel
theorem dX1_refusalOfLine_20 : decode cX1_refusalOfLine 20 = .ok (.if_icmp .ne 6, 3) := by decide +kernel
theorem dX1_refusalOfLine_23 : decode cX1_refusalOfLine 23 = .ok (.bipush (-2), 2) := by decide +kernel
theorem dX1_refusalOfLine_25 : decode cX1_refusalOfLine 25 = .ok (.ireturn, 1) := by decide +kernel
theorem dX1_refusalOfLine_26 : decode cX1_refusalOfLine 26 = .ok (.aload_n 3, 1) := by decide +kernel
theorem dX1_refusalOfLine_27 : decode cX1_refusalOfLine 27 = .ok (.iload_n 1, 1) := by decide +kernel
theorem dX1_refusalOfLine_28 : decode cX1_refusalOfLine 28 = .ok (.iaload, 1) := by decide +kernel
theorem dX1_refusalOfLine_29 : decode cX1_refusalOfLine 29 = .ok (.bipush 6, 2) := by decide +kernel
theorem dX1_refusalOfLine_31 : decode cX1_refusalOfLine 31 = .ok (.if_icmp .ge 11, 3) := by decide +kernel
theorem dX1_refusalOfLine_34 : decode cX1_refusalOfLine 34 = .ok (.aload_n 3, 1) := by decide +kernel
theorem dX1_refusalOfLine_35 : decode cX1_refusalOfLine 35 = .ok (.iload_n 2, 1) := by decide +kernel
theorem dX1_refusalOfLine_36 : decode cX1_refusalOfLine 36 = .ok (.iaload, 1) := by decide +kernel
theorem dX1_refusalOfLine_37 : decode cX1_refusalOfLine 37 = .ok (.bipush 6, 2) := by decide +kernel
theorem dX1_refusalOfLine_39 : decode cX1_refusalOfLine 39 = .ok (.if_icmp .lt 6, 3) := by decide +kernel
theorem dX1_refusalOfLine_42 : decode cX1_refusalOfLine 42 = .ok (.bipush (-4), 2) := by decide +kernel
theorem dX1_refusalOfLine_44 : decode cX1_refusalOfLine 44 = .ok (.ireturn, 1) := by decide +kernel
theorem dX1_refusalOfLine_45 : decode cX1_refusalOfLine 45 = .ok (.iconst 0, 1) := by decide +kernel
theorem dX1_refusalOfLine_46 : decode cX1_refusalOfLine 46 = .ok (.ireturn, 1) := by decide +kernel
set_option maxRecDepth 20000 in
theorem ggX1_refusalOfLines_X1_refusalOfLine : GoodIn wsX1_refusalOfLines wsX1_refusalOfLine := goodIn_r _ [12, 13, 14, 15, 11, 16, 17, 18, 19, 20, 21, 22, 23, 24, 25] (by decide +kernel) (by decide +kernel)
set_option maxRecDepth 20000 in
theorem gX1_refusalOfLines_X1_refusalOfLine : GoodIn wsX1_refusalOfLines (wsV RX1 52 RX1 yX1_refusalOfLine wsX1_refusalOfLine) := goodIn_app (goodIn_of _ (by decide +kernel)) ggX1_refusalOfLines_X1_refusalOfLine
theorem dX1_refusalOfLines_0 : decode cX1_refusalOfLines 0 = .ok (.aload_n 0, 1) := by decide +kernel
theorem dX1_refusalOfLines_1 : decode cX1_refusalOfLines 1 = .ok (.getfield 15, 3) := by decide +kernel
theorem dX1_refusalOfLines_4 : decode cX1_refusalOfLines 4 = .ok (.iconst 0, 1) := by decide +kernel
theorem dX1_refusalOfLines_5 : decode cX1_refusalOfLines 5 = .ok (.aload_n 0, 1) := by decide +kernel
theorem dX1_refusalOfLines_6 : decode cX1_refusalOfLines 6 = .ok (.getfield 27, 3) := by decide +kernel
theorem dX1_refusalOfLines_9 : decode cX1_refusalOfLines 9 = .ok (.iconst 0, 1) := by decide +kernel
theorem dX1_refusalOfLines_10 : decode cX1_refusalOfLines 10 = .ok (.bipush 12, 2) := by decide +kernel
theorem dX1_refusalOfLines_12 : decode cX1_refusalOfLines 12 = .ok (.invokestatic 41, 3) := by decide +kernel
theorem dX1_refusalOfLines_15 : decode cX1_refusalOfLines 15 = .ok (.iconst 0, 1) := by decide +kernel
theorem dX1_refusalOfLines_16 : decode cX1_refusalOfLines 16 = .ok (.istore 4, 2) := by decide +kernel
theorem dX1_refusalOfLines_18 : decode cX1_refusalOfLines 18 = .ok (.iload 4, 2) := by decide +kernel
theorem dX1_refusalOfLines_20 : decode cX1_refusalOfLines 20 = .ok (.iload_n 3, 1) := by decide +kernel
theorem dX1_refusalOfLines_21 : decode cX1_refusalOfLines 21 = .ok (.if_icmp .ge 81, 3) := by decide +kernel
theorem dX1_refusalOfLines_24 : decode cX1_refusalOfLines 24 = .ok (.aload_n 1, 1) := by decide +kernel
theorem dX1_refusalOfLines_25 : decode cX1_refusalOfLines 25 = .ok (.getfield 47, 3) := by decide +kernel
theorem dX1_refusalOfLines_28 : decode cX1_refusalOfLines 28 = .ok (.iload_n 2, 1) := by decide +kernel
theorem dX1_refusalOfLines_29 : decode cX1_refusalOfLines 29 = .ok (.iconst 2, 1) := by decide +kernel
theorem dX1_refusalOfLines_30 : decode cX1_refusalOfLines 30 = .ok (.iload 4, 2) := by decide +kernel
theorem dX1_refusalOfLines_32 : decode cX1_refusalOfLines 32 = .ok (.imul, 1) := by decide +kernel
theorem dX1_refusalOfLines_33 : decode cX1_refusalOfLines 33 = .ok (.iadd, 1) := by decide +kernel
theorem dX1_refusalOfLines_34 : decode cX1_refusalOfLines 34 = .ok (.iaload, 1) := by decide +kernel
theorem dX1_refusalOfLines_35 : decode cX1_refusalOfLines 35 = .ok (.istore 5, 2) := by decide +kernel
theorem dX1_refusalOfLines_37 : decode cX1_refusalOfLines 37 = .ok (.aload_n 1, 1) := by decide +kernel
theorem dX1_refusalOfLines_38 : decode cX1_refusalOfLines 38 = .ok (.getfield 47, 3) := by decide +kernel
theorem dX1_refusalOfLines_41 : decode cX1_refusalOfLines 41 = .ok (.iload_n 2, 1) := by decide +kernel
theorem dX1_refusalOfLines_42 : decode cX1_refusalOfLines 42 = .ok (.iconst 2, 1) := by decide +kernel
theorem dX1_refusalOfLines_43 : decode cX1_refusalOfLines 43 = .ok (.iload 4, 2) := by decide +kernel
theorem dX1_refusalOfLines_45 : decode cX1_refusalOfLines 45 = .ok (.imul, 1) := by decide +kernel
theorem dX1_refusalOfLines_46 : decode cX1_refusalOfLines 46 = .ok (.iadd, 1) := by decide +kernel
theorem dX1_refusalOfLines_47 : decode cX1_refusalOfLines 47 = .ok (.iconst 1, 1) := by decide +kernel
theorem dX1_refusalOfLines_48 : decode cX1_refusalOfLines 48 = .ok (.iadd, 1) := by decide +kernel
theorem dX1_refusalOfLines_49 : decode cX1_refusalOfLines 49 = .ok (.iaload, 1) := by decide +kernel
theorem dX1_refusalOfLines_50 : decode cX1_refusalOfLines 50 = .ok (.istore 6, 2) := by decide +kernel
theorem dX1_refusalOfLines_52 : decode cX1_refusalOfLines 52 = .ok (.aload_n 0, 1) := by decide +kernel
theorem dX1_refusalOfLines_53 : decode cX1_refusalOfLines 53 = .ok (.iload 5, 2) := by decide +kernel
theorem dX1_refusalOfLines_55 : decode cX1_refusalOfLines 55 = .ok (.iload 6, 2) := by decide +kernel
theorem dX1_refusalOfLines_57 : decode cX1_refusalOfLines 57 = .ok (.aload_n 0, 1) := by decide +kernel
theorem dX1_refusalOfLines_58 : decode cX1_refusalOfLines 58 = .ok (.getfield 27, 3) := by decide +kernel
theorem dX1_refusalOfLines_61 : decode cX1_refusalOfLines 61 = .ok (.invokevirtual 52, 3) := by decide +kernel
theorem dX1_refusalOfLines_64 : decode cX1_refusalOfLines 64 = .ok (.istore 7, 2) := by decide +kernel
theorem dX1_refusalOfLines_66 : decode cX1_refusalOfLines 66 = .ok (.iload 7, 2) := by decide +kernel
theorem dX1_refusalOfLines_68 : decode cX1_refusalOfLines 68 = .ok (.ifCond .eq 6, 3) := by decide +kernel
theorem dX1_refusalOfLines_71 : decode cX1_refusalOfLines 71 = .ok (.iload 7, 2) := by decide +kernel
theorem dX1_refusalOfLines_73 : decode cX1_refusalOfLines 73 = .ok (.ireturn, 1) := by decide +kernel
theorem dX1_refusalOfLines_74 : decode cX1_refusalOfLines 74 = .ok (.aload_n 0, 1) := by decide +kernel
theorem dX1_refusalOfLines_75 : decode cX1_refusalOfLines 75 = .ok (.getfield 27, 3) := by decide +kernel
theorem dX1_refusalOfLines_78 : decode cX1_refusalOfLines 78 = .ok (.iload 5, 2) := by decide +kernel
theorem dX1_refusalOfLines_80 : decode cX1_refusalOfLines 80 = .ok (.dup2, 1) := by decide +kernel
theorem dX1_refusalOfLines_81 : decode cX1_refusalOfLines 81 = .ok (.iaload, 1) := by decide +kernel
theorem dX1_refusalOfLines_82 : decode cX1_refusalOfLines 82 = .ok (.iconst 1, 1) := by decide +kernel
theorem dX1_refusalOfLines_83 : decode cX1_refusalOfLines 83 = .ok (.iadd, 1) := by decide +kernel
theorem dX1_refusalOfLines_84 : decode cX1_refusalOfLines 84 = .ok (.iastore, 1) := by decide +kernel
theorem dX1_refusalOfLines_85 : decode cX1_refusalOfLines 85 = .ok (.aload_n 0, 1) := by decide +kernel
theorem dX1_refusalOfLines_86 : decode cX1_refusalOfLines 86 = .ok (.getfield 27, 3) := by decide +kernel
theorem dX1_refusalOfLines_89 : decode cX1_refusalOfLines 89 = .ok (.iload 6, 2) := by decide +kernel
theorem dX1_refusalOfLines_91 : decode cX1_refusalOfLines 91 = .ok (.dup2, 1) := by decide +kernel
theorem dX1_refusalOfLines_92 : decode cX1_refusalOfLines 92 = .ok (.iaload, 1) := by decide +kernel
theorem dX1_refusalOfLines_93 : decode cX1_refusalOfLines 93 = .ok (.iconst 1, 1) := by decide +kernel
theorem dX1_refusalOfLines_94 : decode cX1_refusalOfLines 94 = .ok (.iadd, 1) := by decide +kernel
theorem dX1_refusalOfLines_95 : decode cX1_refusalOfLines 95 = .ok (.iastore, 1) := by decide +kernel
theorem dX1_refusalOfLines_96 : decode cX1_refusalOfLines 96 = .ok (.iinc 4 1, 3) := by decide +kernel
theorem dX1_refusalOfLines_99 : decode cX1_refusalOfLines 99 = .ok (.goto (-81), 3) := by decide +kernel
theorem dX1_refusalOfLines_102 : decode cX1_refusalOfLines 102 = .ok (.iconst 0, 1) := by decide +kernel
theorem dX1_refusalOfLines_103 : decode cX1_refusalOfLines 103 = .ok (.ireturn, 1) := by decide +kernel
set_option maxRecDepth 20000 in
theorem ggX1_join_X4_slotOf : GoodIn wsX1_join wsX4_slotOf := goodIn_r _ [5] (by decide +kernel) (by decide +kernel)
set_option maxRecDepth 20000 in
theorem gX1_join_X4_slotOf_n56 : GoodIn wsX1_join (wsX4_slotOf) := ggX1_join_X4_slotOf
set_option maxRecDepth 20000 in
theorem ggX1_join_X1_tie : GoodIn wsX1_join wsX1_tie := goodIn_r _ [10, 11, 12, 13, 14, 15, 16, 17, 18, 19] (by decide +kernel) (by decide +kernel)
set_option maxRecDepth 20000 in
theorem gX1_join_X1_tie : GoodIn wsX1_join (wsV RX1 60 RX1 yX1_tie wsX1_tie) := goodIn_app (goodIn_of _ (by decide +kernel)) ggX1_join_X1_tie
theorem dX1_join_0 : decode cX1_join 0 = .ok (.aload_n 0, 1) := by decide +kernel
theorem dX1_join_1 : decode cX1_join 1 = .ok (.iload_n 1, 1) := by decide +kernel
theorem dX1_join_2 : decode cX1_join 2 = .ok (.aload_n 0, 1) := by decide +kernel
theorem dX1_join_3 : decode cX1_join 3 = .ok (.getfield 15, 3) := by decide +kernel
theorem dX1_join_6 : decode cX1_join 6 = .ok (.iload_n 1, 1) := by decide +kernel
theorem dX1_join_7 : decode cX1_join 7 = .ok (.iaload, 1) := by decide +kernel
theorem dX1_join_8 : decode cX1_join 8 = .ok (.invokestatic 56, 3) := by decide +kernel
theorem dX1_join_11 : decode cX1_join 11 = .ok (.iload_n 2, 1) := by decide +kernel
theorem dX1_join_12 : decode cX1_join 12 = .ok (.aload_n 0, 1) := by decide +kernel
theorem dX1_join_13 : decode cX1_join 13 = .ok (.getfield 15, 3) := by decide +kernel
theorem dX1_join_16 : decode cX1_join 16 = .ok (.iload_n 2, 1) := by decide +kernel
theorem dX1_join_17 : decode cX1_join 17 = .ok (.iaload, 1) := by decide +kernel
theorem dX1_join_18 : decode cX1_join 18 = .ok (.invokestatic 56, 3) := by decide +kernel
theorem dX1_join_21 : decode cX1_join 21 = .ok (.invokevirtual 60, 3) := by decide +kernel
theorem dX1_join_24 : decode cX1_join 24 = .ok (.aload_n 0, 1) := by decide +kernel
theorem dX1_join_25 : decode cX1_join 25 = .ok (.getfield 15, 3) := by decide +kernel
theorem dX1_join_28 : decode cX1_join 28 = .ok (.iload_n 1, 1) := by decide +kernel
theorem dX1_join_29 : decode cX1_join 29 = .ok (.dup2, 1) := by decide +kernel
theorem dX1_join_30 : decode cX1_join 30 = .ok (.iaload, 1) := by decide +kernel
theorem dX1_join_31 : decode cX1_join 31 = .ok (.iconst 1, 1) := by decide +kernel
theorem dX1_join_32 : decode cX1_join 32 = .ok (.iadd, 1) := by decide +kernel
theorem dX1_join_33 : decode cX1_join 33 = .ok (.iastore, 1) := by decide +kernel
theorem dX1_join_34 : decode cX1_join 34 = .ok (.aload_n 0, 1) := by decide +kernel
theorem dX1_join_35 : decode cX1_join 35 = .ok (.getfield 15, 3) := by decide +kernel
theorem dX1_join_38 : decode cX1_join 38 = .ok (.iload_n 2, 1) := by decide +kernel
theorem dX1_join_39 : decode cX1_join 39 = .ok (.dup2, 1) := by decide +kernel
theorem dX1_join_40 : decode cX1_join 40 = .ok (.iaload, 1) := by decide +kernel
theorem dX1_join_41 : decode cX1_join 41 = .ok (.iconst 1, 1) := by decide +kernel
theorem dX1_join_42 : decode cX1_join 42 = .ok (.iadd, 1) := by decide +kernel
theorem dX1_join_43 : decode cX1_join 43 = .ok (.iastore, 1) := by decide +kernel
theorem dX1_join_44 : decode cX1_join 44 = .ok (.aload_n 0, 1) := by decide +kernel
theorem dX1_join_45 : decode cX1_join 45 = .ok (.dup, 1) := by decide +kernel
theorem dX1_join_46 : decode cX1_join 46 = .ok (.getfield 38, 3) := by decide +kernel
theorem dX1_join_49 : decode cX1_join 49 = .ok (.iconst 1, 1) := by decide +kernel
theorem dX1_join_50 : decode cX1_join 50 = .ok (.iadd, 1) := by decide +kernel
theorem dX1_join_51 : decode cX1_join 51 = .ok (.putfield 38, 3) := by decide +kernel
theorem dX1_join_54 : decode cX1_join 54 = .ok (.return_, 1) := by decide +kernel
set_option maxRecDepth 20000 in
theorem ggX1_joinAll_X1_join : GoodIn wsX1_joinAll wsX1_join := goodIn_r _ [6, 7, 8, 9, 10, 11, 12, 13, 14, 5, 15, 16, 21, 22, 23, 24, 25, 26, 27, 28] (by decide +kernel) (by decide +kernel)
set_option maxRecDepth 20000 in
theorem gX1_joinAll_X1_join : GoodIn wsX1_joinAll (wsV RX1 64 RX1 yX1_join wsX1_join) := goodIn_app (goodIn_of _ (by decide +kernel)) ggX1_joinAll_X1_join
theorem dX1_joinAll_0 : decode cX1_joinAll 0 = .ok (.iconst 0, 1) := by decide +kernel
theorem dX1_joinAll_1 : decode cX1_joinAll 1 = .ok (.istore 4, 2) := by decide +kernel
theorem dX1_joinAll_3 : decode cX1_joinAll 3 = .ok (.iload 4, 2) := by decide +kernel
theorem dX1_joinAll_5 : decode cX1_joinAll 5 = .ok (.iload_n 3, 1) := by decide +kernel
theorem dX1_joinAll_6 : decode cX1_joinAll 6 = .ok (.if_icmp .ge 37, 3) := by decide +kernel
theorem dX1_joinAll_9 : decode cX1_joinAll 9 = .ok (.aload_n 0, 1) := by decide +kernel
theorem dX1_joinAll_10 : decode cX1_joinAll 10 = .ok (.aload_n 1, 1) := by decide +kernel
theorem dX1_joinAll_11 : decode cX1_joinAll 11 = .ok (.getfield 47, 3) := by decide +kernel
theorem dX1_joinAll_14 : decode cX1_joinAll 14 = .ok (.iload_n 2, 1) := by decide +kernel
theorem dX1_joinAll_15 : decode cX1_joinAll 15 = .ok (.iconst 2, 1) := by decide +kernel
theorem dX1_joinAll_16 : decode cX1_joinAll 16 = .ok (.iload 4, 2) := by decide +kernel
theorem dX1_joinAll_18 : decode cX1_joinAll 18 = .ok (.imul, 1) := by decide +kernel
theorem dX1_joinAll_19 : decode cX1_joinAll 19 = .ok (.iadd, 1) := by decide +kernel
theorem dX1_joinAll_20 : decode cX1_joinAll 20 = .ok (.iaload, 1) := by decide +kernel
theorem dX1_joinAll_21 : decode cX1_joinAll 21 = .ok (.aload_n 1, 1) := by decide +kernel
theorem dX1_joinAll_22 : decode cX1_joinAll 22 = .ok (.getfield 47, 3) := by decide +kernel
theorem dX1_joinAll_25 : decode cX1_joinAll 25 = .ok (.iload_n 2, 1) := by decide +kernel
theorem dX1_joinAll_26 : decode cX1_joinAll 26 = .ok (.iconst 2, 1) := by decide +kernel
theorem dX1_joinAll_27 : decode cX1_joinAll 27 = .ok (.iload 4, 2) := by decide +kernel
theorem dX1_joinAll_29 : decode cX1_joinAll 29 = .ok (.imul, 1) := by decide +kernel
theorem dX1_joinAll_30 : decode cX1_joinAll 30 = .ok (.iadd, 1) := by decide +kernel
theorem dX1_joinAll_31 : decode cX1_joinAll 31 = .ok (.iconst 1, 1) := by decide +kernel
theorem dX1_joinAll_32 : decode cX1_joinAll 32 = .ok (.iadd, 1) := by decide +kernel
theorem dX1_joinAll_33 : decode cX1_joinAll 33 = .ok (.iaload, 1) := by decide +kernel
theorem dX1_joinAll_34 : decode cX1_joinAll 34 = .ok (.invokevirtual 64, 3) := by decide +kernel
theorem dX1_joinAll_37 : decode cX1_joinAll 37 = .ok (.iinc 4 1, 3) := by decide +kernel
theorem dX1_joinAll_40 : decode cX1_joinAll 40 = .ok (.goto (-37), 3) := by decide +kernel
theorem dX1_joinAll_43 : decode cX1_joinAll 43 = .ok (.return_, 1) := by decide +kernel
theorem dX1_tie_0 : decode cX1_tie 0 = .ok (.aload_n 0, 1) := by decide +kernel
theorem dX1_tie_1 : decode cX1_tie 1 = .ok (.getfield 18, 3) := by decide +kernel
theorem dX1_tie_4 : decode cX1_tie 4 = .ok (.iload_n 1, 1) := by decide +kernel
theorem dX1_tie_5 : decode cX1_tie 5 = .ok (.iload_n 2, 1) := by decide +kernel
theorem dX1_tie_6 : decode cX1_tie 6 = .ok (.iastore, 1) := by decide +kernel
theorem dX1_tie_7 : decode cX1_tie 7 = .ok (.aload_n 0, 1) := by decide +kernel
theorem dX1_tie_8 : decode cX1_tie 8 = .ok (.getfield 18, 3) := by decide +kernel
theorem dX1_tie_11 : decode cX1_tie 11 = .ok (.iload_n 2, 1) := by decide +kernel
theorem dX1_tie_12 : decode cX1_tie 12 = .ok (.iload_n 1, 1) := by decide +kernel
theorem dX1_tie_13 : decode cX1_tie 13 = .ok (.iastore, 1) := by decide +kernel
theorem dX1_tie_14 : decode cX1_tie 14 = .ok (.return_, 1) := by decide +kernel
set_option maxRecDepth 20000 in
theorem ggX1_exchange_X1_tie : GoodIn wsX1_exchange wsX1_tie := goodIn_r _ [6, 1, 7, 8, 9, 10, 11, 12, 13, 14] (by decide +kernel) (by decide +kernel)
set_option maxRecDepth 20000 in
theorem gX1_exchange_X1_tie : GoodIn wsX1_exchange (wsV RX1 60 RX1 yX1_tie wsX1_tie) := goodIn_app (goodIn_of _ (by decide +kernel)) ggX1_exchange_X1_tie
theorem dX1_exchange_0 : decode cX1_exchange 0 = .ok (.aload_n 0, 1) := by decide +kernel
theorem dX1_exchange_1 : decode cX1_exchange 1 = .ok (.getfield 18, 3) := by decide +kernel
theorem dX1_exchange_4 : decode cX1_exchange 4 = .ok (.iload_n 1, 1) := by decide +kernel
theorem dX1_exchange_5 : decode cX1_exchange 5 = .ok (.iaload, 1) := by decide +kernel
theorem dX1_exchange_6 : decode cX1_exchange 6 = .ok (.istore_n 3, 1) := by decide +kernel
theorem dX1_exchange_7 : decode cX1_exchange 7 = .ok (.aload_n 0, 1) := by decide +kernel
theorem dX1_exchange_8 : decode cX1_exchange 8 = .ok (.getfield 18, 3) := by decide +kernel
theorem dX1_exchange_11 : decode cX1_exchange 11 = .ok (.iload_n 2, 1) := by decide +kernel
theorem dX1_exchange_12 : decode cX1_exchange 12 = .ok (.iaload, 1) := by decide +kernel
theorem dX1_exchange_13 : decode cX1_exchange 13 = .ok (.istore 4, 2) := by decide +kernel
theorem dX1_exchange_15 : decode cX1_exchange 15 = .ok (.aload_n 0, 1) := by decide +kernel
theorem dX1_exchange_16 : decode cX1_exchange 16 = .ok (.iload_n 1, 1) := by decide +kernel
theorem dX1_exchange_17 : decode cX1_exchange 17 = .ok (.iload 4, 2) := by decide +kernel
theorem dX1_exchange_19 : decode cX1_exchange 19 = .ok (.invokevirtual 60, 3) := by decide +kernel
theorem dX1_exchange_22 : decode cX1_exchange 22 = .ok (.aload_n 0, 1) := by decide +kernel
theorem dX1_exchange_23 : decode cX1_exchange 23 = .ok (.iload_n 2, 1) := by decide +kernel
theorem dX1_exchange_24 : decode cX1_exchange 24 = .ok (.iload_n 3, 1) := by decide +kernel
theorem dX1_exchange_25 : decode cX1_exchange 25 = .ok (.invokevirtual 60, 3) := by decide +kernel
theorem dX1_exchange_28 : decode cX1_exchange 28 = .ok (.return_, 1) := by decide +kernel
set_option maxRecDepth 20000 in
theorem ggX1_makeTwice_X1_tie : GoodIn wsX1_makeTwice wsX1_tie := goodIn_r _ [10, 2, 11, 12, 13, 14, 15, 16, 17, 18] (by decide +kernel) (by decide +kernel)
set_option maxRecDepth 20000 in
theorem gX1_makeTwice_X1_tie : GoodIn wsX1_makeTwice (wsV RX1 60 RX1 yX1_tie wsX1_tie) := goodIn_app (goodIn_of _ (by decide +kernel)) ggX1_makeTwice_X1_tie
theorem dX1_makeTwice_0 : decode cX1_makeTwice 0 = .ok (.aload_n 0, 1) := by decide +kernel
theorem dX1_makeTwice_1 : decode cX1_makeTwice 1 = .ok (.getfield 30, 3) := by decide +kernel
theorem dX1_makeTwice_4 : decode cX1_makeTwice 4 = .ok (.bipush 6, 2) := by decide +kernel
theorem dX1_makeTwice_6 : decode cX1_makeTwice 6 = .ok (.imul, 1) := by decide +kernel
theorem dX1_makeTwice_7 : decode cX1_makeTwice 7 = .ok (.istore_n 2, 1) := by decide +kernel
theorem dX1_makeTwice_8 : decode cX1_makeTwice 8 = .ok (.aload_n 0, 1) := by decide +kernel
theorem dX1_makeTwice_9 : decode cX1_makeTwice 9 = .ok (.getfield 18, 3) := by decide +kernel
theorem dX1_makeTwice_12 : decode cX1_makeTwice 12 = .ok (.iload_n 1, 1) := by decide +kernel
theorem dX1_makeTwice_13 : decode cX1_makeTwice 13 = .ok (.iaload, 1) := by decide +kernel
theorem dX1_makeTwice_14 : decode cX1_makeTwice 14 = .ok (.istore_n 3, 1) := by decide +kernel
theorem dX1_makeTwice_15 : decode cX1_makeTwice 15 = .ok (.iconst 0, 1) := by decide +kernel
theorem dX1_makeTwice_16 : decode cX1_makeTwice 16 = .ok (.istore 4, 2) := by decide +kernel
theorem dX1_makeTwice_18 : decode cX1_makeTwice 18 = .ok (.iload 4, 2) := by decide +kernel
theorem dX1_makeTwice_20 : decode cX1_makeTwice 20 = .ok (.aload_n 0, 1) := by decide +kernel
theorem dX1_makeTwice_21 : decode cX1_makeTwice 21 = .ok (.getfield 30, 3) := by decide +kernel
theorem dX1_makeTwice_24 : decode cX1_makeTwice 24 = .ok (.if_icmp .ge 47, 3) := by decide +kernel
theorem dX1_makeTwice_27 : decode cX1_makeTwice 27 = .ok (.aload_n 0, 1) := by decide +kernel
theorem dX1_makeTwice_28 : decode cX1_makeTwice 28 = .ok (.getfield 9, 3) := by decide +kernel
theorem dX1_makeTwice_31 : decode cX1_makeTwice 31 = .ok (.aload_n 0, 1) := by decide +kernel
theorem dX1_makeTwice_32 : decode cX1_makeTwice 32 = .ok (.getfield 30, 3) := by decide +kernel
theorem dX1_makeTwice_35 : decode cX1_makeTwice 35 = .ok (.iload 4, 2) := by decide +kernel
theorem dX1_makeTwice_37 : decode cX1_makeTwice 37 = .ok (.iadd, 1) := by decide +kernel
theorem dX1_makeTwice_38 : decode cX1_makeTwice 38 = .ok (.aload_n 0, 1) := by decide +kernel
theorem dX1_makeTwice_39 : decode cX1_makeTwice 39 = .ok (.getfield 9, 3) := by decide +kernel
theorem dX1_makeTwice_42 : decode cX1_makeTwice 42 = .ok (.iload 4, 2) := by decide +kernel
theorem dX1_makeTwice_44 : decode cX1_makeTwice 44 = .ok (.iaload, 1) := by decide +kernel
theorem dX1_makeTwice_45 : decode cX1_makeTwice 45 = .ok (.iastore, 1) := by decide +kernel
theorem dX1_makeTwice_46 : decode cX1_makeTwice 46 = .ok (.aload_n 0, 1) := by decide +kernel
theorem dX1_makeTwice_47 : decode cX1_makeTwice 47 = .ok (.getfield 15, 3) := by decide +kernel
theorem dX1_makeTwice_50 : decode cX1_makeTwice 50 = .ok (.aload_n 0, 1) := by decide +kernel
theorem dX1_makeTwice_51 : decode cX1_makeTwice 51 = .ok (.getfield 30, 3) := by decide +kernel
theorem dX1_makeTwice_54 : decode cX1_makeTwice 54 = .ok (.iload 4, 2) := by decide +kernel
theorem dX1_makeTwice_56 : decode cX1_makeTwice 56 = .ok (.iadd, 1) := by decide +kernel
theorem dX1_makeTwice_57 : decode cX1_makeTwice 57 = .ok (.aload_n 0, 1) := by decide +kernel
theorem dX1_makeTwice_58 : decode cX1_makeTwice 58 = .ok (.getfield 15, 3) := by decide +kernel
theorem dX1_makeTwice_61 : decode cX1_makeTwice 61 = .ok (.iload 4, 2) := by decide +kernel
theorem dX1_makeTwice_63 : decode cX1_makeTwice 63 = .ok (.iaload, 1) := by decide +kernel
theorem dX1_makeTwice_64 : decode cX1_makeTwice 64 = .ok (.iastore, 1) := by decide +kernel
theorem dX1_makeTwice_65 : decode cX1_makeTwice 65 = .ok (.iinc 4 1, 3) := by decide +kernel
theorem dX1_makeTwice_68 : decode cX1_makeTwice 68 = .ok (.goto (-50), 3) := by decide +kernel
theorem dX1_makeTwice_71 : decode cX1_makeTwice 71 = .ok (.iconst 0, 1) := by decide +kernel
theorem dX1_makeTwice_72 : decode cX1_makeTwice 72 = .ok (.istore 4, 2) := by decide +kernel
theorem dX1_makeTwice_74 : decode cX1_makeTwice 74 = .ok (.iload 4, 2) := by decide +kernel
theorem dX1_makeTwice_76 : decode cX1_makeTwice 76 = .ok (.iload_n 2, 1) := by decide +kernel
theorem dX1_makeTwice_77 : decode cX1_makeTwice 77 = .ok (.if_icmp .ge 27, 3) := by decide +kernel
theorem dX1_makeTwice_80 : decode cX1_makeTwice 80 = .ok (.aload_n 0, 1) := by decide +kernel
theorem dX1_makeTwice_81 : decode cX1_makeTwice 81 = .ok (.getfield 18, 3) := by decide +kernel
theorem dX1_makeTwice_84 : decode cX1_makeTwice 84 = .ok (.iload_n 2, 1) := by decide +kernel
theorem dX1_makeTwice_85 : decode cX1_makeTwice 85 = .ok (.iload 4, 2) := by decide +kernel
theorem dX1_makeTwice_87 : decode cX1_makeTwice 87 = .ok (.iadd, 1) := by decide +kernel
theorem dX1_makeTwice_88 : decode cX1_makeTwice 88 = .ok (.iload_n 2, 1) := by decide +kernel
theorem dX1_makeTwice_89 : decode cX1_makeTwice 89 = .ok (.aload_n 0, 1) := by decide +kernel
theorem dX1_makeTwice_90 : decode cX1_makeTwice 90 = .ok (.getfield 18, 3) := by decide +kernel
theorem dX1_makeTwice_93 : decode cX1_makeTwice 93 = .ok (.iload 4, 2) := by decide +kernel
theorem dX1_makeTwice_95 : decode cX1_makeTwice 95 = .ok (.iaload, 1) := by decide +kernel
theorem dX1_makeTwice_96 : decode cX1_makeTwice 96 = .ok (.iadd, 1) := by decide +kernel
theorem dX1_makeTwice_97 : decode cX1_makeTwice 97 = .ok (.iastore, 1) := by decide +kernel
theorem dX1_makeTwice_98 : decode cX1_makeTwice 98 = .ok (.iinc 4 1, 3) := by decide +kernel
theorem dX1_makeTwice_101 : decode cX1_makeTwice 101 = .ok (.goto (-27), 3) := by decide +kernel
theorem dX1_makeTwice_104 : decode cX1_makeTwice 104 = .ok (.aload_n 0, 1) := by decide +kernel
theorem dX1_makeTwice_105 : decode cX1_makeTwice 105 = .ok (.iload_n 1, 1) := by decide +kernel
theorem dX1_makeTwice_106 : decode cX1_makeTwice 106 = .ok (.iload_n 2, 1) := by decide +kernel
theorem dX1_makeTwice_107 : decode cX1_makeTwice 107 = .ok (.iload_n 3, 1) := by decide +kernel
theorem dX1_makeTwice_108 : decode cX1_makeTwice 108 = .ok (.iadd, 1) := by decide +kernel
theorem dX1_makeTwice_109 : decode cX1_makeTwice 109 = .ok (.invokevirtual 60, 3) := by decide +kernel
theorem dX1_makeTwice_112 : decode cX1_makeTwice 112 = .ok (.aload_n 0, 1) := by decide +kernel
theorem dX1_makeTwice_113 : decode cX1_makeTwice 113 = .ok (.iload_n 2, 1) := by decide +kernel
theorem dX1_makeTwice_114 : decode cX1_makeTwice 114 = .ok (.iload_n 1, 1) := by decide +kernel
theorem dX1_makeTwice_115 : decode cX1_makeTwice 115 = .ok (.iadd, 1) := by decide +kernel
theorem dX1_makeTwice_116 : decode cX1_makeTwice 116 = .ok (.iload_n 3, 1) := by decide +kernel
theorem dX1_makeTwice_117 : decode cX1_makeTwice 117 = .ok (.invokevirtual 60, 3) := by decide +kernel
theorem dX1_makeTwice_120 : decode cX1_makeTwice 120 = .ok (.aload_n 0, 1) := by decide +kernel
theorem dX1_makeTwice_121 : decode cX1_makeTwice 121 = .ok (.dup, 1) := by decide +kernel
theorem dX1_makeTwice_122 : decode cX1_makeTwice 122 = .ok (.getfield 30, 3) := by decide +kernel
theorem dX1_makeTwice_125 : decode cX1_makeTwice 125 = .ok (.iconst 2, 1) := by decide +kernel
theorem dX1_makeTwice_126 : decode cX1_makeTwice 126 = .ok (.imul, 1) := by decide +kernel
theorem dX1_makeTwice_127 : decode cX1_makeTwice 127 = .ok (.putfield 30, 3) := by decide +kernel
theorem dX1_makeTwice_130 : decode cX1_makeTwice 130 = .ok (.aload_n 0, 1) := by decide +kernel
theorem dX1_makeTwice_131 : decode cX1_makeTwice 131 = .ok (.dup, 1) := by decide +kernel
theorem dX1_makeTwice_132 : decode cX1_makeTwice 132 = .ok (.getfield 38, 3) := by decide +kernel
theorem dX1_makeTwice_135 : decode cX1_makeTwice 135 = .ok (.iconst 2, 1) := by decide +kernel
theorem dX1_makeTwice_136 : decode cX1_makeTwice 136 = .ok (.imul, 1) := by decide +kernel
theorem dX1_makeTwice_137 : decode cX1_makeTwice 137 = .ok (.putfield 38, 3) := by decide +kernel
theorem dX1_makeTwice_140 : decode cX1_makeTwice 140 = .ok (.return_, 1) := by decide +kernel
theorem dX1_ends_0 : decode cX1_ends 0 = .ok (.iconst 0, 1) := by decide +kernel
theorem dX1_ends_1 : decode cX1_ends 1 = .ok (.istore_n 1, 1) := by decide +kernel
theorem dX1_ends_2 : decode cX1_ends 2 = .ok (.iconst 0, 1) := by decide +kernel
theorem dX1_ends_3 : decode cX1_ends 3 = .ok (.istore_n 2, 1) := by decide +kernel
theorem dX1_ends_4 : decode cX1_ends 4 = .ok (.iload_n 2, 1) := by decide +kernel
theorem dX1_ends_5 : decode cX1_ends 5 = .ok (.aload_n 0, 1) := by decide +kernel
theorem dX1_ends_6 : decode cX1_ends 6 = .ok (.getfield 30, 3) := by decide +kernel
theorem dX1_ends_9 : decode cX1_ends 9 = .ok (.if_icmp .ge 22, 3) := by decide +kernel
theorem dX1_ends_12 : decode cX1_ends 12 = .ok (.aload_n 0, 1) := by decide +kernel
theorem dX1_ends_13 : decode cX1_ends 13 = .ok (.getfield 15, 3) := by decide +kernel
theorem dX1_ends_16 : decode cX1_ends 16 = .ok (.iload_n 2, 1) := by decide +kernel
theorem dX1_ends_17 : decode cX1_ends 17 = .ok (.iaload, 1) := by decide +kernel
theorem dX1_ends_18 : decode cX1_ends 18 = .ok (.iconst 1, 1) := by decide +kernel
theorem dX1_ends_19 : decode cX1_ends 19 = .ok (.if_icmp .ne 6, 3) := by decide +kernel
theorem dX1_ends_22 : decode cX1_ends 22 = .ok (.iinc 1 1, 3) := by decide +kernel
theorem dX1_ends_25 : decode cX1_ends 25 = .ok (.iinc 2 1, 3) := by decide +kernel
theorem dX1_ends_28 : decode cX1_ends 28 = .ok (.goto (-24), 3) := by decide +kernel
theorem dX1_ends_31 : decode cX1_ends 31 = .ok (.iload_n 1, 1) := by decide +kernel
theorem dX1_ends_32 : decode cX1_ends 32 = .ok (.ireturn, 1) := by decide +kernel
set_option maxRecDepth 20000 in
theorem ggX1_measure_J7_fill_53178 : GoodIn wsX1_measure wsJ7_fill_53178 := goodIn_r _ [7] (by decide +kernel) (by decide +kernel)
set_option maxRecDepth 20000 in
theorem gX1_measure_J7_fill_53178 : GoodIn wsX1_measure (va_wsS RX1 67 yJ7_fill_53178 wsJ7_fill_53178) := goodIn_app (goodIn_of _ (by decide +kernel)) ggX1_measure_J7_fill_53178
set_option maxRecDepth 20000 in
theorem ggX1_measure_X1_reachFrom : GoodIn wsX1_measure wsX1_reachFrom := goodIn_r _ [12, 13, 14, 1, 3, 15, 16, 17, 18, 19, 20, 21, 22, 23, 24, 25, 26, 27] (by decide +kernel) (by decide +kernel)
set_option maxRecDepth 20000 in
theorem gX1_measure_X1_reachFrom : GoodIn wsX1_measure (wsV RX1 73 RX1 yX1_reachFrom wsX1_reachFrom) := goodIn_app (goodIn_of _ (by decide +kernel)) ggX1_measure_X1_reachFrom
theorem dX1_measure_0 : decode cX1_measure 0 = .ok (.aload_n 0, 1) := by decide +kernel
theorem dX1_measure_1 : decode cX1_measure 1 = .ok (.getfield 21, 3) := by decide +kernel
theorem dX1_measure_4 : decode cX1_measure 4 = .ok (.bipush (-9), 2) := by decide +kernel
theorem dX1_measure_6 : decode cX1_measure 6 = .ok (.invokestatic 67, 3) := by decide +kernel
theorem dX1_measure_9 : decode cX1_measure 9 = .ok (.aload_n 0, 1) := by decide +kernel
theorem dX1_measure_10 : decode cX1_measure 10 = .ok (.getfield 30, 3) := by decide +kernel
theorem dX1_measure_13 : decode cX1_measure 13 = .ok (.ifCond .ne 5, 3) := by decide +kernel
theorem dX1_measure_16 : decode cX1_measure 16 = .ok (.iconst 0, 1) := by decide +kernel
theorem dX1_measure_17 : decode cX1_measure 17 = .ok (.ireturn, 1) := by decide +kernel
theorem dX1_measure_18 : decode cX1_measure 18 = .ok (.aload_n 0, 1) := by decide +kernel
theorem dX1_measure_19 : decode cX1_measure 19 = .ok (.getfield 21, 3) := by decide +kernel
theorem dX1_measure_22 : decode cX1_measure 22 = .ok (.iconst 0, 1) := by decide +kernel
theorem dX1_measure_23 : decode cX1_measure 23 = .ok (.iconst 0, 1) := by decide +kernel
theorem dX1_measure_24 : decode cX1_measure 24 = .ok (.iastore, 1) := by decide +kernel
theorem dX1_measure_25 : decode cX1_measure 25 = .ok (.aload_n 0, 1) := by decide +kernel
theorem dX1_measure_26 : decode cX1_measure 26 = .ok (.getfield 24, 3) := by decide +kernel
theorem dX1_measure_29 : decode cX1_measure 29 = .ok (.iconst 0, 1) := by decide +kernel
theorem dX1_measure_30 : decode cX1_measure 30 = .ok (.iconst 0, 1) := by decide +kernel
theorem dX1_measure_31 : decode cX1_measure 31 = .ok (.iastore, 1) := by decide +kernel
theorem dX1_measure_32 : decode cX1_measure 32 = .ok (.iconst 1, 1) := by decide +kernel
theorem dX1_measure_33 : decode cX1_measure 33 = .ok (.istore_n 1, 1) := by decide +kernel
theorem dX1_measure_34 : decode cX1_measure 34 = .ok (.iconst 0, 1) := by decide +kernel
theorem dX1_measure_35 : decode cX1_measure 35 = .ok (.istore_n 2, 1) := by decide +kernel
theorem dX1_measure_36 : decode cX1_measure 36 = .ok (.iload_n 2, 1) := by decide +kernel
theorem dX1_measure_37 : decode cX1_measure 37 = .ok (.aload_n 0, 1) := by decide +kernel
theorem dX1_measure_38 : decode cX1_measure 38 = .ok (.getfield 30, 3) := by decide +kernel
theorem dX1_measure_41 : decode cX1_measure 41 = .ok (.if_icmp .ge 26, 3) := by decide +kernel
theorem dX1_measure_44 : decode cX1_measure 44 = .ok (.iload_n 2, 1) := by decide +kernel
theorem dX1_measure_45 : decode cX1_measure 45 = .ok (.iload_n 1, 1) := by decide +kernel
theorem dX1_measure_46 : decode cX1_measure 46 = .ok (.if_icmp .ge 21, 3) := by decide +kernel
theorem dX1_measure_49 : decode cX1_measure 49 = .ok (.aload_n 0, 1) := by decide +kernel
theorem dX1_measure_50 : decode cX1_measure 50 = .ok (.aload_n 0, 1) := by decide +kernel
theorem dX1_measure_51 : decode cX1_measure 51 = .ok (.getfield 24, 3) := by decide +kernel
theorem dX1_measure_54 : decode cX1_measure 54 = .ok (.iload_n 2, 1) := by decide +kernel
theorem dX1_measure_55 : decode cX1_measure 55 = .ok (.iaload, 1) := by decide +kernel
theorem dX1_measure_56 : decode cX1_measure 56 = .ok (.iload_n 1, 1) := by decide +kernel
theorem dX1_measure_57 : decode cX1_measure 57 = .ok (.invokevirtual 73, 3) := by decide +kernel
theorem dX1_measure_60 : decode cX1_measure 60 = .ok (.istore_n 1, 1) := by decide +kernel
theorem dX1_measure_61 : decode cX1_measure 61 = .ok (.iinc 2 1, 3) := by decide +kernel
theorem dX1_measure_64 : decode cX1_measure 64 = .ok (.goto (-28), 3) := by decide +kernel
theorem dX1_measure_67 : decode cX1_measure 67 = .ok (.iload_n 1, 1) := by decide +kernel
theorem dX1_measure_68 : decode cX1_measure 68 = .ok (.ireturn, 1) := by decide +kernel
set_option maxRecDepth 20000 in
theorem ggX1_reachFrom_X4_slotOf : GoodIn wsX1_reachFrom wsX4_slotOf := goodIn_r _ [7] (by decide +kernel) (by decide +kernel)
set_option maxRecDepth 20000 in
theorem gX1_reachFrom_X4_slotOf_n56 : GoodIn wsX1_reachFrom (wsX4_slotOf) := ggX1_reachFrom_X4_slotOf
set_option maxRecDepth 20000 in
theorem ggX1_reachFrom_X4_postOf : GoodIn wsX1_reachFrom wsX4_postOf := goodIn_r _ [9] (by decide +kernel) (by decide +kernel)
set_option maxRecDepth 20000 in
theorem gX1_reachFrom_X4_postOf_n76 : GoodIn wsX1_reachFrom (wsX4_postOf) := ggX1_reachFrom_X4_postOf
theorem dX1_reachFrom_0 : decode cX1_reachFrom 0 = .ok (.iload_n 2, 1) := by decide +kernel
theorem dX1_reachFrom_1 : decode cX1_reachFrom 1 = .ok (.istore_n 3, 1) := by decide +kernel
theorem dX1_reachFrom_2 : decode cX1_reachFrom 2 = .ok (.iconst 0, 1) := by decide +kernel
theorem dX1_reachFrom_3 : decode cX1_reachFrom 3 = .ok (.istore 4, 2) := by decide +kernel
theorem dX1_reachFrom_5 : decode cX1_reachFrom 5 = .ok (.iload 4, 2) := by decide +kernel
theorem dX1_reachFrom_7 : decode cX1_reachFrom 7 = .ok (.aload_n 0, 1) := by decide +kernel
theorem dX1_reachFrom_8 : decode cX1_reachFrom 8 = .ok (.getfield 15, 3) := by decide +kernel
theorem dX1_reachFrom_11 : decode cX1_reachFrom 11 = .ok (.iload_n 1, 1) := by decide +kernel
theorem dX1_reachFrom_12 : decode cX1_reachFrom 12 = .ok (.iaload, 1) := by decide +kernel
theorem dX1_reachFrom_13 : decode cX1_reachFrom 13 = .ok (.if_icmp .ge 63, 3) := by decide +kernel
theorem dX1_reachFrom_16 : decode cX1_reachFrom 16 = .ok (.aload_n 0, 1) := by decide +kernel
theorem dX1_reachFrom_17 : decode cX1_reachFrom 17 = .ok (.getfield 18, 3) := by decide +kernel
theorem dX1_reachFrom_20 : decode cX1_reachFrom 20 = .ok (.iload_n 1, 1) := by decide +kernel
theorem dX1_reachFrom_21 : decode cX1_reachFrom 21 = .ok (.iload 4, 2) := by decide +kernel
theorem dX1_reachFrom_23 : decode cX1_reachFrom 23 = .ok (.invokestatic 56, 3) := by decide +kernel
theorem dX1_reachFrom_26 : decode cX1_reachFrom 26 = .ok (.iaload, 1) := by decide +kernel
theorem dX1_reachFrom_27 : decode cX1_reachFrom 27 = .ok (.invokestatic 76, 3) := by decide +kernel
theorem dX1_reachFrom_30 : decode cX1_reachFrom 30 = .ok (.istore 5, 2) := by decide +kernel
theorem dX1_reachFrom_32 : decode cX1_reachFrom 32 = .ok (.aload_n 0, 1) := by decide +kernel
theorem dX1_reachFrom_33 : decode cX1_reachFrom 33 = .ok (.getfield 21, 3) := by decide +kernel
theorem dX1_reachFrom_36 : decode cX1_reachFrom 36 = .ok (.iload 5, 2) := by decide +kernel
theorem dX1_reachFrom_38 : decode cX1_reachFrom 38 = .ok (.iaload, 1) := by decide +kernel
theorem dX1_reachFrom_39 : decode cX1_reachFrom 39 = .ok (.bipush (-9), 2) := by decide +kernel
theorem dX1_reachFrom_41 : decode cX1_reachFrom 41 = .ok (.if_icmp .ne 29, 3) := by decide +kernel
theorem dX1_reachFrom_44 : decode cX1_reachFrom 44 = .ok (.aload_n 0, 1) := by decide +kernel
theorem dX1_reachFrom_45 : decode cX1_reachFrom 45 = .ok (.getfield 21, 3) := by decide +kernel
theorem dX1_reachFrom_48 : decode cX1_reachFrom 48 = .ok (.iload 5, 2) := by decide +kernel
theorem dX1_reachFrom_50 : decode cX1_reachFrom 50 = .ok (.aload_n 0, 1) := by decide +kernel
theorem dX1_reachFrom_51 : decode cX1_reachFrom 51 = .ok (.getfield 21, 3) := by decide +kernel
theorem dX1_reachFrom_54 : decode cX1_reachFrom 54 = .ok (.iload_n 1, 1) := by decide +kernel
theorem dX1_reachFrom_55 : decode cX1_reachFrom 55 = .ok (.iaload, 1) := by decide +kernel
theorem dX1_reachFrom_56 : decode cX1_reachFrom 56 = .ok (.iconst 1, 1) := by decide +kernel
theorem dX1_reachFrom_57 : decode cX1_reachFrom 57 = .ok (.iadd, 1) := by decide +kernel
theorem dX1_reachFrom_58 : decode cX1_reachFrom 58 = .ok (.iastore, 1) := by decide +kernel
theorem dX1_reachFrom_59 : decode cX1_reachFrom 59 = .ok (.aload_n 0, 1) := by decide +kernel
theorem dX1_reachFrom_60 : decode cX1_reachFrom 60 = .ok (.getfield 24, 3) := by decide +kernel
theorem dX1_reachFrom_63 : decode cX1_reachFrom 63 = .ok (.iload_n 3, 1) := by decide +kernel
theorem dX1_reachFrom_64 : decode cX1_reachFrom 64 = .ok (.iload 5, 2) := by decide +kernel
theorem dX1_reachFrom_66 : decode cX1_reachFrom 66 = .ok (.iastore, 1) := by decide +kernel
theorem dX1_reachFrom_67 : decode cX1_reachFrom 67 = .ok (.iinc 3 1, 3) := by decide +kernel
theorem dX1_reachFrom_70 : decode cX1_reachFrom 70 = .ok (.iinc 4 1, 3) := by decide +kernel
theorem dX1_reachFrom_73 : decode cX1_reachFrom 73 = .ok (.goto (-68), 3) := by decide +kernel
theorem dX1_reachFrom_76 : decode cX1_reachFrom 76 = .ok (.iload_n 3, 1) := by decide +kernel
theorem dX1_reachFrom_77 : decode cX1_reachFrom 77 = .ok (.ireturn, 1) := by decide +kernel
theorem dX2_init_0 : decode cX2_init 0 = .ok (.aload_n 0, 1) := by decide +kernel
theorem dX2_init_1 : decode cX2_init 1 = .ok (.invokespecial 3, 3) := by decide +kernel
theorem dX2_init_4 : decode cX2_init 4 = .ok (.aload_n 0, 1) := by decide +kernel
theorem dX2_init_5 : decode cX2_init 5 = .ok (.sipush 144, 3) := by decide +kernel
theorem dX2_init_8 : decode cX2_init 8 = .ok (.newarray .int, 2) := by decide +kernel
theorem dX2_init_10 : decode cX2_init 10 = .ok (.putfield 9, 3) := by decide +kernel
theorem dX2_init_13 : decode cX2_init 13 = .ok (.aload_n 0, 1) := by decide +kernel
theorem dX2_init_14 : decode cX2_init 14 = .ok (.bipush 12, 2) := by decide +kernel
theorem dX2_init_16 : decode cX2_init 16 = .ok (.newarray .int, 2) := by decide +kernel
theorem dX2_init_18 : decode cX2_init 18 = .ok (.putfield 15, 3) := by decide +kernel
theorem dX2_init_21 : decode cX2_init 21 = .ok (.aload_n 0, 1) := by decide +kernel
theorem dX2_init_22 : decode cX2_init 22 = .ok (.bipush 12, 2) := by decide +kernel
theorem dX2_init_24 : decode cX2_init 24 = .ok (.newarray .long, 2) := by decide +kernel
theorem dX2_init_26 : decode cX2_init 26 = .ok (.putfield 18, 3) := by decide +kernel
theorem dX2_init_29 : decode cX2_init 29 = .ok (.aload_n 0, 1) := by decide +kernel
theorem dX2_init_30 : decode cX2_init 30 = .ok (.bipush 12, 2) := by decide +kernel
theorem dX2_init_32 : decode cX2_init 32 = .ok (.newarray .long, 2) := by decide +kernel
theorem dX2_init_34 : decode cX2_init 34 = .ok (.putfield 22, 3) := by decide +kernel
theorem dX2_init_37 : decode cX2_init 37 = .ok (.aload_n 0, 1) := by decide +kernel
theorem dX2_init_38 : decode cX2_init 38 = .ok (.aload_n 1, 1) := by decide +kernel
theorem dX2_init_39 : decode cX2_init 39 = .ok (.putfield 25, 3) := by decide +kernel
theorem dX2_init_42 : decode cX2_init 42 = .ok (.return_, 1) := by decide +kernel
theorem dX2_forget_0 : decode cX2_forget 0 = .ok (.aload_n 0, 1) := by decide +kernel
theorem dX2_forget_1 : decode cX2_forget 1 = .ok (.iconst 0, 1) := by decide +kernel
theorem dX2_forget_2 : decode cX2_forget 2 = .ok (.putfield 29, 3) := by decide +kernel
theorem dX2_forget_5 : decode cX2_forget 5 = .ok (.return_, 1) := by decide +kernel
set_option maxRecDepth 20000 in
theorem ggX2_at_X2_reckon : GoodIn wsX2_at wsX2_reckon := goodIn_r _ [10, 11, 1, 12, 13, 14, 15, 9, 16, 17, 18, 19, 20, 21, 22, 23, 24, 25, 26, 27, 28, 29, 30, 31, 32, 33, 34, 35, 36, 37, 38, 39, 40, 41, 42, 43, 44, 45, 46, 47, 48, 53, 54, 55, 56, 57, 58, 59, 60, 61, 62, 63, 64, 65, 66, 67] (by decide +kernel) (by decide +kernel)
set_option maxRecDepth 20000 in
theorem gX2_at_X2_reckon : GoodIn wsX2_at (wsV RX2 33 RX2 yX2_reckon wsX2_reckon) := goodIn_app (goodIn_of _ (by decide +kernel)) ggX2_at_X2_reckon
set_option maxRecDepth 20000 in
theorem ggX2_at_X2_inTable : GoodIn wsX2_at wsX2_inTable := goodIn_r _ [52, 27, 53, 54, 55, 56, 57, 58, 59] (by decide +kernel) (by decide +kernel)
set_option maxRecDepth 20000 in
theorem gX2_at_X2_inTable : GoodIn wsX2_at (wsV RX2 46 RX2 yX2_inTable wsX2_inTable) := goodIn_app (goodIn_of _ (by decide +kernel)) ggX2_at_X2_inTable
theorem dX2_at_0 : decode cX2_at 0 = .ok (.aload_n 0, 1) := by decide +kernel
theorem dX2_at_1 : decode cX2_at 1 = .ok (.invokevirtual 33, 3) := by decide +kernel
theorem dX2_at_4 : decode cX2_at 4 = .ok (.aload_n 0, 1) := by decide +kernel
theorem dX2_at_5 : decode cX2_at 5 = .ok (.iload_n 1, 1) := by decide +kernel
theorem dX2_at_6 : decode cX2_at 6 = .ok (.iload_n 2, 1) := by decide +kernel
theorem dX2_at_7 : decode cX2_at 7 = .ok (.aload_n 0, 1) := by decide +kernel
theorem dX2_at_8 : decode cX2_at 8 = .ok (.getfield 36, 3) := by decide +kernel
theorem dX2_at_11 : decode cX2_at 11 = .ok (.invokestatic 40, 3) := by decide +kernel
theorem dX2_at_14 : decode cX2_at 14 = .ok (.invokevirtual 46, 3) := by decide +kernel
theorem dX2_at_17 : decode cX2_at 17 = .ok (.ireturn, 1) := by decide +kernel
set_option maxRecDepth 20000 in
theorem ggX2_atRest_X2_reckon : GoodIn wsX2_atRest wsX2_reckon := goodIn_r _ [6, 7, 1, 8, 9, 10, 11, 5, 12, 13, 14, 15, 16, 17, 18, 19, 20, 21, 22, 23, 24, 25, 26, 27, 28, 29, 30, 31, 32, 33, 34, 35, 36, 37, 38, 39, 40, 41, 42, 43, 44, 49, 50, 51, 52, 53, 54, 55, 56, 57, 58, 59, 60, 61, 62, 63] (by decide +kernel) (by decide +kernel)
set_option maxRecDepth 20000 in
theorem gX2_atRest_X2_reckon : GoodIn wsX2_atRest (wsV RX2 33 RX2 yX2_reckon wsX2_reckon) := goodIn_app (goodIn_of _ (by decide +kernel)) ggX2_atRest_X2_reckon
set_option maxRecDepth 20000 in
theorem ggX2_atRest_X2_inTable : GoodIn wsX2_atRest wsX2_inTable := goodIn_r _ [48, 23, 49, 50, 51, 52, 53, 54, 55] (by decide +kernel) (by decide +kernel)
set_option maxRecDepth 20000 in
theorem gX2_atRest_X2_inTable : GoodIn wsX2_atRest (wsV RX2 46 RX2 yX2_inTable wsX2_inTable) := goodIn_app (goodIn_of _ (by decide +kernel)) ggX2_atRest_X2_inTable
theorem dX2_atRest_0 : decode cX2_atRest 0 = .ok (.aload_n 0, 1) := by decide +kernel
theorem dX2_atRest_1 : decode cX2_atRest 1 = .ok (.invokevirtual 33, 3) := by decide +kernel
theorem dX2_atRest_4 : decode cX2_atRest 4 = .ok (.aload_n 0, 1) := by decide +kernel
theorem dX2_atRest_5 : decode cX2_atRest 5 = .ok (.iload_n 1, 1) := by decide +kernel
theorem dX2_atRest_6 : decode cX2_atRest 6 = .ok (.aload_n 0, 1) := by decide +kernel
theorem dX2_atRest_7 : decode cX2_atRest 7 = .ok (.getfield 36, 3) := by decide +kernel
theorem dX2_atRest_10 : decode cX2_atRest 10 = .ok (.invokevirtual 46, 3) := by decide +kernel
theorem dX2_atRest_13 : decode cX2_atRest 13 = .ok (.ireturn, 1) := by decide +kernel
theorem dX2_inTable_0 : decode cX2_inTable 0 = .ok (.aload_n 0, 1) := by decide +kernel
theorem dX2_inTable_1 : decode cX2_inTable 1 = .ok (.getfield 9, 3) := by decide +kernel
theorem dX2_inTable_4 : decode cX2_inTable 4 = .ok (.iload_n 2, 1) := by decide +kernel
theorem dX2_inTable_5 : decode cX2_inTable 5 = .ok (.bipush 12, 2) := by decide +kernel
theorem dX2_inTable_7 : decode cX2_inTable 7 = .ok (.imul, 1) := by decide +kernel
theorem dX2_inTable_8 : decode cX2_inTable 8 = .ok (.iload_n 1, 1) := by decide +kernel
theorem dX2_inTable_9 : decode cX2_inTable 9 = .ok (.iadd, 1) := by decide +kernel
theorem dX2_inTable_10 : decode cX2_inTable 10 = .ok (.iaload, 1) := by decide +kernel
theorem dX2_inTable_11 : decode cX2_inTable 11 = .ok (.ireturn, 1) := by decide +kernel
set_option maxRecDepth 20000 in
theorem ggX2_unlikeAt_X2_reckon : GoodIn wsX2_unlikeAt wsX2_reckon := goodIn_r _ [11, 12, 2, 1, 13, 14, 15, 10, 16, 17, 18, 19, 20, 21, 22, 23, 24, 25, 26, 27, 28, 29, 30, 31, 32, 33, 34, 35, 36, 37, 38, 39, 40, 41, 42, 43, 44, 45, 46, 47, 48, 49, 50, 51, 52, 53, 54, 55, 56, 57, 58, 59, 60, 61, 62, 63] (by decide +kernel) (by decide +kernel)
set_option maxRecDepth 20000 in
theorem gX2_unlikeAt_X2_reckon : GoodIn wsX2_unlikeAt (wsV RX2 33 RX2 yX2_reckon wsX2_reckon) := goodIn_app (goodIn_of _ (by decide +kernel)) ggX2_unlikeAt_X2_reckon
theorem dX2_unlikeAt_0 : decode cX2_unlikeAt 0 = .ok (.aload_n 0, 1) := by decide +kernel
theorem dX2_unlikeAt_1 : decode cX2_unlikeAt 1 = .ok (.invokevirtual 33, 3) := by decide +kernel
theorem dX2_unlikeAt_4 : decode cX2_unlikeAt 4 = .ok (.aload_n 0, 1) := by decide +kernel
theorem dX2_unlikeAt_5 : decode cX2_unlikeAt 5 = .ok (.getfield 15, 3) := by decide +kernel
theorem dX2_unlikeAt_8 : decode cX2_unlikeAt 8 = .ok (.iload_n 1, 1) := by decide +kernel
theorem dX2_unlikeAt_9 : decode cX2_unlikeAt 9 = .ok (.aload_n 0, 1) := by decide +kernel
theorem dX2_unlikeAt_10 : decode cX2_unlikeAt 10 = .ok (.getfield 36, 3) := by decide +kernel
theorem dX2_unlikeAt_13 : decode cX2_unlikeAt 13 = .ok (.invokestatic 40, 3) := by decide +kernel
theorem dX2_unlikeAt_16 : decode cX2_unlikeAt 16 = .ok (.iaload, 1) := by decide +kernel
theorem dX2_unlikeAt_17 : decode cX2_unlikeAt 17 = .ok (.ireturn, 1) := by decide +kernel
set_option maxRecDepth 20000 in
theorem ggX2_depthOfRest_X2_reckon : GoodIn wsX2_depthOfRest wsX2_reckon := goodIn_r _ [6, 7, 1, 8, 9, 10, 11, 5, 12, 13, 14, 15, 16, 17, 18, 19, 20, 21, 22, 23, 24, 25, 26, 27, 28, 29, 30, 31, 32, 33, 34, 35, 36, 37, 38, 39, 40, 41, 42, 43, 44, 45, 46, 47, 48, 49, 50, 51, 52, 53, 54, 55, 56, 57, 58, 59] (by decide +kernel) (by decide +kernel)
set_option maxRecDepth 20000 in
theorem gX2_depthOfRest_X2_reckon : GoodIn wsX2_depthOfRest (wsV RX2 33 RX2 yX2_reckon wsX2_reckon) := goodIn_app (goodIn_of _ (by decide +kernel)) ggX2_depthOfRest_X2_reckon
theorem dX2_depthOfRest_0 : decode cX2_depthOfRest 0 = .ok (.aload_n 0, 1) := by decide +kernel
theorem dX2_depthOfRest_1 : decode cX2_depthOfRest 1 = .ok (.invokevirtual 33, 3) := by decide +kernel
theorem dX2_depthOfRest_4 : decode cX2_depthOfRest 4 = .ok (.aload_n 0, 1) := by decide +kernel
theorem dX2_depthOfRest_5 : decode cX2_depthOfRest 5 = .ok (.getfield 36, 3) := by decide +kernel
theorem dX2_depthOfRest_8 : decode cX2_depthOfRest 8 = .ok (.ireturn, 1) := by decide +kernel
set_option maxRecDepth 20000 in
theorem ggX2_kindredOf_X2_reckon : GoodIn wsX2_kindredOf wsX2_reckon := goodIn_r _ [8, 9, 3, 10, 11, 12, 13, 7, 14, 1, 2, 15, 16, 17, 18, 19, 20, 21, 22, 23, 24, 25, 26, 27, 28, 29, 30, 31, 32, 33, 34, 35, 36, 37, 38, 39, 40, 41, 42, 43, 44, 49, 50, 51, 52, 53, 54, 55, 56, 57, 58, 59, 60, 61, 62, 63] (by decide +kernel) (by decide +kernel)
set_option maxRecDepth 20000 in
theorem gX2_kindredOf_X2_reckon : GoodIn wsX2_kindredOf (wsV RX2 33 RX2 yX2_reckon wsX2_reckon) := goodIn_app (goodIn_of _ (by decide +kernel)) ggX2_kindredOf_X2_reckon
set_option maxRecDepth 20000 in
theorem ggX2_kindredOf_X2_inTable : GoodIn wsX2_kindredOf wsX2_inTable := goodIn_r _ [48, 23, 49, 50, 51, 52, 53, 54, 55] (by decide +kernel) (by decide +kernel)
set_option maxRecDepth 20000 in
theorem gX2_kindredOf_X2_inTable : GoodIn wsX2_kindredOf (wsV RX2 46 RX2 yX2_inTable wsX2_inTable) := goodIn_app (goodIn_of _ (by decide +kernel)) ggX2_kindredOf_X2_inTable
theorem dX2_kindredOf_0 : decode cX2_kindredOf 0 = .ok (.aload_n 0, 1) := by decide +kernel
theorem dX2_kindredOf_1 : decode cX2_kindredOf 1 = .ok (.invokevirtual 33, 3) := by decide +kernel
theorem dX2_kindredOf_4 : decode cX2_kindredOf 4 = .ok (.iconst 0, 1) := by decide +kernel
theorem dX2_kindredOf_5 : decode cX2_kindredOf 5 = .ok (.istore_n 2, 1) := by decide +kernel
theorem dX2_kindredOf_6 : decode cX2_kindredOf 6 = .ok (.iconst 0, 1) := by decide +kernel
theorem dX2_kindredOf_7 : decode cX2_kindredOf 7 = .ok (.istore_n 3, 1) := by decide +kernel
theorem dX2_kindredOf_8 : decode cX2_kindredOf 8 = .ok (.iload_n 3, 1) := by decide +kernel
theorem dX2_kindredOf_9 : decode cX2_kindredOf 9 = .ok (.aload_n 0, 1) := by decide +kernel
theorem dX2_kindredOf_10 : decode cX2_kindredOf 10 = .ok (.getfield 25, 3) := by decide +kernel
theorem dX2_kindredOf_13 : decode cX2_kindredOf 13 = .ok (.getfield 49, 3) := by decide +kernel
theorem dX2_kindredOf_16 : decode cX2_kindredOf 16 = .ok (.if_icmp .ge 33, 3) := by decide +kernel
theorem dX2_kindredOf_19 : decode cX2_kindredOf 19 = .ok (.aload_n 0, 1) := by decide +kernel
theorem dX2_kindredOf_20 : decode cX2_kindredOf 20 = .ok (.iload_n 3, 1) := by decide +kernel
theorem dX2_kindredOf_21 : decode cX2_kindredOf 21 = .ok (.aload_n 0, 1) := by decide +kernel
theorem dX2_kindredOf_22 : decode cX2_kindredOf 22 = .ok (.getfield 36, 3) := by decide +kernel
theorem dX2_kindredOf_25 : decode cX2_kindredOf 25 = .ok (.invokevirtual 46, 3) := by decide +kernel
theorem dX2_kindredOf_28 : decode cX2_kindredOf 28 = .ok (.aload_n 0, 1) := by decide +kernel
theorem dX2_kindredOf_29 : decode cX2_kindredOf 29 = .ok (.iload_n 1, 1) := by decide +kernel
theorem dX2_kindredOf_30 : decode cX2_kindredOf 30 = .ok (.aload_n 0, 1) := by decide +kernel
theorem dX2_kindredOf_31 : decode cX2_kindredOf 31 = .ok (.getfield 36, 3) := by decide +kernel
theorem dX2_kindredOf_34 : decode cX2_kindredOf 34 = .ok (.invokevirtual 46, 3) := by decide +kernel
theorem dX2_kindredOf_37 : decode cX2_kindredOf 37 = .ok (.if_icmp .ne 6, 3) := by decide +kernel
theorem dX2_kindredOf_40 : decode cX2_kindredOf 40 = .ok (.iinc 2 1, 3) := by decide +kernel
theorem dX2_kindredOf_43 : decode cX2_kindredOf 43 = .ok (.iinc 3 1, 3) := by decide +kernel
theorem dX2_kindredOf_46 : decode cX2_kindredOf 46 = .ok (.goto (-38), 3) := by decide +kernel
theorem dX2_kindredOf_49 : decode cX2_kindredOf 49 = .ok (.iload_n 2, 1) := by decide +kernel
theorem dX2_kindredOf_50 : decode cX2_kindredOf 50 = .ok (.ireturn, 1) := by decide +kernel
set_option maxRecDepth 20000 in
theorem ggX2_firstApart_X2_reckon : GoodIn wsX2_firstApart wsX2_reckon := goodIn_r _ [6, 7, 1, 8, 9, 10, 11, 5, 12, 13, 14, 15, 16, 17, 18, 19, 20, 21, 22, 23, 24, 25, 26, 27, 28, 29, 30, 31, 32, 33, 34, 35, 36, 37, 38, 39, 40, 41, 42, 43, 44, 49, 50, 51, 52, 53, 54, 55, 56, 57, 58, 59, 60, 61, 62, 63] (by decide +kernel) (by decide +kernel)
set_option maxRecDepth 20000 in
theorem gX2_firstApart_X2_reckon : GoodIn wsX2_firstApart (wsV RX2 33 RX2 yX2_reckon wsX2_reckon) := goodIn_app (goodIn_of _ (by decide +kernel)) ggX2_firstApart_X2_reckon
set_option maxRecDepth 20000 in
theorem ggX2_firstApart_X2_inTable : GoodIn wsX2_firstApart wsX2_inTable := goodIn_r _ [48, 23, 49, 50, 51, 52, 53, 54, 55] (by decide +kernel) (by decide +kernel)
set_option maxRecDepth 20000 in
theorem gX2_firstApart_X2_inTable : GoodIn wsX2_firstApart (wsV RX2 46 RX2 yX2_inTable wsX2_inTable) := goodIn_app (goodIn_of _ (by decide +kernel)) ggX2_firstApart_X2_inTable
theorem dX2_firstApart_0 : decode cX2_firstApart 0 = .ok (.aload_n 0, 1) := by decide +kernel
theorem dX2_firstApart_1 : decode cX2_firstApart 1 = .ok (.invokevirtual 33, 3) := by decide +kernel
theorem dX2_firstApart_4 : decode cX2_firstApart 4 = .ok (.iconst 0, 1) := by decide +kernel
theorem dX2_firstApart_5 : decode cX2_firstApart 5 = .ok (.istore_n 3, 1) := by decide +kernel
theorem dX2_firstApart_6 : decode cX2_firstApart 6 = .ok (.iload_n 3, 1) := by decide +kernel
theorem dX2_firstApart_7 : decode cX2_firstApart 7 = .ok (.aload_n 0, 1) := by decide +kernel
theorem dX2_firstApart_8 : decode cX2_firstApart 8 = .ok (.getfield 36, 3) := by decide +kernel
theorem dX2_firstApart_11 : decode cX2_firstApart 11 = .ok (.if_icmp .gt 26, 3) := by decide +kernel
theorem dX2_firstApart_14 : decode cX2_firstApart 14 = .ok (.aload_n 0, 1) := by decide +kernel
theorem dX2_firstApart_15 : decode cX2_firstApart 15 = .ok (.iload_n 1, 1) := by decide +kernel
theorem dX2_firstApart_16 : decode cX2_firstApart 16 = .ok (.iload_n 3, 1) := by decide +kernel
theorem dX2_firstApart_17 : decode cX2_firstApart 17 = .ok (.invokevirtual 46, 3) := by decide +kernel
theorem dX2_firstApart_20 : decode cX2_firstApart 20 = .ok (.aload_n 0, 1) := by decide +kernel
theorem dX2_firstApart_21 : decode cX2_firstApart 21 = .ok (.iload_n 2, 1) := by decide +kernel
theorem dX2_firstApart_22 : decode cX2_firstApart 22 = .ok (.iload_n 3, 1) := by decide +kernel
theorem dX2_firstApart_23 : decode cX2_firstApart 23 = .ok (.invokevirtual 46, 3) := by decide +kernel
theorem dX2_firstApart_26 : decode cX2_firstApart 26 = .ok (.if_icmp .eq 5, 3) := by decide +kernel
theorem dX2_firstApart_29 : decode cX2_firstApart 29 = .ok (.iload_n 3, 1) := by decide +kernel
theorem dX2_firstApart_30 : decode cX2_firstApart 30 = .ok (.ireturn, 1) := by decide +kernel
theorem dX2_firstApart_31 : decode cX2_firstApart 31 = .ok (.iinc 3 1, 3) := by decide +kernel
theorem dX2_firstApart_34 : decode cX2_firstApart 34 = .ok (.goto (-28), 3) := by decide +kernel
theorem dX2_firstApart_37 : decode cX2_firstApart 37 = .ok (.bipush (-9), 2) := by decide +kernel
theorem dX2_firstApart_39 : decode cX2_firstApart 39 = .ok (.ireturn, 1) := by decide +kernel
set_option maxRecDepth 20000 in
theorem ggX2_firstAtRest_X2_reckon : GoodIn wsX2_firstAtRest wsX2_reckon := goodIn_r _ [8, 9, 3, 10, 11, 12, 13, 7, 14, 1, 2, 15, 16, 17, 18, 19, 20, 21, 22, 23, 24, 25, 26, 27, 28, 29, 30, 31, 32, 33, 34, 35, 36, 37, 38, 39, 40, 41, 42, 43, 44, 49, 50, 51, 52, 53, 54, 55, 56, 57, 58, 59, 60, 61, 62, 63] (by decide +kernel) (by decide +kernel)
set_option maxRecDepth 20000 in
theorem gX2_firstAtRest_X2_reckon : GoodIn wsX2_firstAtRest (wsV RX2 33 RX2 yX2_reckon wsX2_reckon) := goodIn_app (goodIn_of _ (by decide +kernel)) ggX2_firstAtRest_X2_reckon
set_option maxRecDepth 20000 in
theorem ggX2_firstAtRest_X2_inTable : GoodIn wsX2_firstAtRest wsX2_inTable := goodIn_r _ [48, 23, 49, 50, 51, 52, 53, 54, 55] (by decide +kernel) (by decide +kernel)
set_option maxRecDepth 20000 in
theorem gX2_firstAtRest_X2_inTable : GoodIn wsX2_firstAtRest (wsV RX2 46 RX2 yX2_inTable wsX2_inTable) := goodIn_app (goodIn_of _ (by decide +kernel)) ggX2_firstAtRest_X2_inTable
theorem dX2_firstAtRest_0 : decode cX2_firstAtRest 0 = .ok (.aload_n 0, 1) := by decide +kernel
theorem dX2_firstAtRest_1 : decode cX2_firstAtRest 1 = .ok (.invokevirtual 33, 3) := by decide +kernel
theorem dX2_firstAtRest_4 : decode cX2_firstAtRest 4 = .ok (.iconst 0, 1) := by decide +kernel
theorem dX2_firstAtRest_5 : decode cX2_firstAtRest 5 = .ok (.istore_n 1, 1) := by decide +kernel
theorem dX2_firstAtRest_6 : decode cX2_firstAtRest 6 = .ok (.iload_n 1, 1) := by decide +kernel
theorem dX2_firstAtRest_7 : decode cX2_firstAtRest 7 = .ok (.aload_n 0, 1) := by decide +kernel
theorem dX2_firstAtRest_8 : decode cX2_firstAtRest 8 = .ok (.getfield 25, 3) := by decide +kernel
theorem dX2_firstAtRest_11 : decode cX2_firstAtRest 11 = .ok (.getfield 49, 3) := by decide +kernel
theorem dX2_firstAtRest_14 : decode cX2_firstAtRest 14 = .ok (.if_icmp .ge 23, 3) := by decide +kernel
theorem dX2_firstAtRest_17 : decode cX2_firstAtRest 17 = .ok (.aload_n 0, 1) := by decide +kernel
theorem dX2_firstAtRest_18 : decode cX2_firstAtRest 18 = .ok (.iload_n 1, 1) := by decide +kernel
theorem dX2_firstAtRest_19 : decode cX2_firstAtRest 19 = .ok (.aload_n 0, 1) := by decide +kernel
theorem dX2_firstAtRest_20 : decode cX2_firstAtRest 20 = .ok (.getfield 36, 3) := by decide +kernel
theorem dX2_firstAtRest_23 : decode cX2_firstAtRest 23 = .ok (.invokevirtual 46, 3) := by decide +kernel
theorem dX2_firstAtRest_26 : decode cX2_firstAtRest 26 = .ok (.ifCond .ne 5, 3) := by decide +kernel
theorem dX2_firstAtRest_29 : decode cX2_firstAtRest 29 = .ok (.iload_n 1, 1) := by decide +kernel
theorem dX2_firstAtRest_30 : decode cX2_firstAtRest 30 = .ok (.ireturn, 1) := by decide +kernel
theorem dX2_firstAtRest_31 : decode cX2_firstAtRest 31 = .ok (.iinc 1 1, 3) := by decide +kernel
theorem dX2_firstAtRest_34 : decode cX2_firstAtRest 34 = .ok (.goto (-28), 3) := by decide +kernel
theorem dX2_firstAtRest_37 : decode cX2_firstAtRest 37 = .ok (.bipush (-9), 2) := by decide +kernel
theorem dX2_firstAtRest_39 : decode cX2_firstAtRest 39 = .ok (.ireturn, 1) := by decide +kernel
set_option maxRecDepth 20000 in
theorem ggX2_reckon_X2_setFirstKeys : GoodIn wsX2_reckon wsX2_setFirstKeys := goodIn_r _ [8, 9, 10, 11, 12, 13, 14, 41, 42, 43, 44, 45, 46, 47, 48, 49, 50, 51, 52, 53, 54, 55] (by decide +kernel) (by decide +kernel)
set_option maxRecDepth 20000 in
theorem gX2_reckon_X2_setFirstKeys : GoodIn wsX2_reckon (wsV RX2 54 RX2 yX2_setFirstKeys wsX2_setFirstKeys) := goodIn_app (goodIn_of _ (by decide +kernel)) ggX2_reckon_X2_setFirstKeys
set_option maxRecDepth 20000 in
theorem ggX2_reckon_X2_rankByKeys : GoodIn wsX2_reckon wsX2_rankByKeys := goodIn_r _ [18, 9, 10, 11, 19, 20, 21, 22, 7, 23, 24, 25, 26, 27, 28, 41, 42, 43, 44, 45, 46, 47, 48, 49, 50, 51, 52, 53, 54, 55] (by decide +kernel) (by decide +kernel)
set_option maxRecDepth 20000 in
theorem gX2_reckon_X2_rankByKeys : GoodIn wsX2_reckon (wsV RX2 57 RX2 yX2_rankByKeys wsX2_rankByKeys) := goodIn_app (goodIn_of _ (by decide +kernel)) ggX2_reckon_X2_rankByKeys
set_option maxRecDepth 20000 in
theorem ggX2_reckon_X2_setKeysBehind : GoodIn wsX2_reckon wsX2_setKeysBehind := goodIn_r _ [32, 9, 10, 19, 14, 33, 11, 34, 35, 36, 37, 38, 39, 40, 41, 42, 43, 44, 45, 46, 47, 48, 49, 50, 51, 52, 53, 54, 55] (by decide +kernel) (by decide +kernel)
set_option maxRecDepth 20000 in
theorem gX2_reckon_X2_setKeysBehind : GoodIn wsX2_reckon (wsV RX2 61 RX2 yX2_setKeysBehind wsX2_setKeysBehind) := goodIn_app (goodIn_of _ (by decide +kernel)) ggX2_reckon_X2_setKeysBehind
theorem dX2_reckon_0 : decode cX2_reckon 0 = .ok (.aload_n 0, 1) := by decide +kernel
theorem dX2_reckon_1 : decode cX2_reckon 1 = .ok (.getfield 29, 3) := by decide +kernel
theorem dX2_reckon_4 : decode cX2_reckon 4 = .ok (.ifCond .eq 4, 3) := by decide +kernel
theorem dX2_reckon_7 : decode cX2_reckon 7 = .ok (.return_, 1) := by decide +kernel
theorem dX2_reckon_8 : decode cX2_reckon 8 = .ok (.aload_n 0, 1) := by decide +kernel
theorem dX2_reckon_9 : decode cX2_reckon 9 = .ok (.iconst 1, 1) := by decide +kernel
theorem dX2_reckon_10 : decode cX2_reckon 10 = .ok (.putfield 29, 3) := by decide +kernel
theorem dX2_reckon_13 : decode cX2_reckon 13 = .ok (.aload_n 0, 1) := by decide +kernel
theorem dX2_reckon_14 : decode cX2_reckon 14 = .ok (.iconst 0, 1) := by decide +kernel
theorem dX2_reckon_15 : decode cX2_reckon 15 = .ok (.putfield 36, 3) := by decide +kernel
theorem dX2_reckon_18 : decode cX2_reckon 18 = .ok (.aload_n 0, 1) := by decide +kernel
theorem dX2_reckon_19 : decode cX2_reckon 19 = .ok (.invokevirtual 54, 3) := by decide +kernel
theorem dX2_reckon_22 : decode cX2_reckon 22 = .ok (.aload_n 0, 1) := by decide +kernel
theorem dX2_reckon_23 : decode cX2_reckon 23 = .ok (.getfield 15, 3) := by decide +kernel
theorem dX2_reckon_26 : decode cX2_reckon 26 = .ok (.iconst 0, 1) := by decide +kernel
theorem dX2_reckon_27 : decode cX2_reckon 27 = .ok (.aload_n 0, 1) := by decide +kernel
theorem dX2_reckon_28 : decode cX2_reckon 28 = .ok (.iconst 0, 1) := by decide +kernel
theorem dX2_reckon_29 : decode cX2_reckon 29 = .ok (.invokevirtual 57, 3) := by decide +kernel
theorem dX2_reckon_32 : decode cX2_reckon 32 = .ok (.iastore, 1) := by decide +kernel
theorem dX2_reckon_33 : decode cX2_reckon 33 = .ok (.iconst 1, 1) := by decide +kernel
theorem dX2_reckon_34 : decode cX2_reckon 34 = .ok (.istore_n 1, 1) := by decide +kernel
theorem dX2_reckon_35 : decode cX2_reckon 35 = .ok (.iload_n 1, 1) := by decide +kernel
theorem dX2_reckon_36 : decode cX2_reckon 36 = .ok (.bipush 12, 2) := by decide +kernel
theorem dX2_reckon_38 : decode cX2_reckon 38 = .ok (.if_icmp .ge 50, 3) := by decide +kernel
theorem dX2_reckon_41 : decode cX2_reckon 41 = .ok (.aload_n 0, 1) := by decide +kernel
theorem dX2_reckon_42 : decode cX2_reckon 42 = .ok (.iload_n 1, 1) := by decide +kernel
theorem dX2_reckon_43 : decode cX2_reckon 43 = .ok (.iconst 1, 1) := by decide +kernel
theorem dX2_reckon_44 : decode cX2_reckon 44 = .ok (.isub, 1) := by decide +kernel
theorem dX2_reckon_45 : decode cX2_reckon 45 = .ok (.invokevirtual 61, 3) := by decide +kernel
theorem dX2_reckon_48 : decode cX2_reckon 48 = .ok (.aload_n 0, 1) := by decide +kernel
theorem dX2_reckon_49 : decode cX2_reckon 49 = .ok (.getfield 15, 3) := by decide +kernel
theorem dX2_reckon_52 : decode cX2_reckon 52 = .ok (.iload_n 1, 1) := by decide +kernel
theorem dX2_reckon_53 : decode cX2_reckon 53 = .ok (.aload_n 0, 1) := by decide +kernel
theorem dX2_reckon_54 : decode cX2_reckon 54 = .ok (.iload_n 1, 1) := by decide +kernel
theorem dX2_reckon_55 : decode cX2_reckon 55 = .ok (.invokevirtual 57, 3) := by decide +kernel
theorem dX2_reckon_58 : decode cX2_reckon 58 = .ok (.iastore, 1) := by decide +kernel
theorem dX2_reckon_59 : decode cX2_reckon 59 = .ok (.aload_n 0, 1) := by decide +kernel
theorem dX2_reckon_60 : decode cX2_reckon 60 = .ok (.getfield 15, 3) := by decide +kernel
theorem dX2_reckon_63 : decode cX2_reckon 63 = .ok (.iload_n 1, 1) := by decide +kernel
theorem dX2_reckon_64 : decode cX2_reckon 64 = .ok (.iaload, 1) := by decide +kernel
theorem dX2_reckon_65 : decode cX2_reckon 65 = .ok (.aload_n 0, 1) := by decide +kernel
theorem dX2_reckon_66 : decode cX2_reckon 66 = .ok (.getfield 15, 3) := by decide +kernel
theorem dX2_reckon_69 : decode cX2_reckon 69 = .ok (.iload_n 1, 1) := by decide +kernel
theorem dX2_reckon_70 : decode cX2_reckon 70 = .ok (.iconst 1, 1) := by decide +kernel
theorem dX2_reckon_71 : decode cX2_reckon 71 = .ok (.isub, 1) := by decide +kernel
theorem dX2_reckon_72 : decode cX2_reckon 72 = .ok (.iaload, 1) := by decide +kernel
theorem dX2_reckon_73 : decode cX2_reckon 73 = .ok (.if_icmp .ne 4, 3) := by decide +kernel
theorem dX2_reckon_76 : decode cX2_reckon 76 = .ok (.return_, 1) := by decide +kernel
theorem dX2_reckon_77 : decode cX2_reckon 77 = .ok (.aload_n 0, 1) := by decide +kernel
theorem dX2_reckon_78 : decode cX2_reckon 78 = .ok (.iload_n 1, 1) := by decide +kernel
theorem dX2_reckon_79 : decode cX2_reckon 79 = .ok (.putfield 36, 3) := by decide +kernel
theorem dX2_reckon_82 : decode cX2_reckon 82 = .ok (.iinc 1 1, 3) := by decide +kernel
theorem dX2_reckon_85 : decode cX2_reckon 85 = .ok (.goto (-50), 3) := by decide +kernel
theorem dX2_reckon_88 : decode cX2_reckon 88 = .ok (.return_, 1) := by decide +kernel
theorem dX2_setFirstKeys_0 : decode cX2_setFirstKeys 0 = .ok (.iconst 0, 1) := by decide +kernel
theorem dX2_setFirstKeys_1 : decode cX2_setFirstKeys 1 = .ok (.istore_n 1, 1) := by decide +kernel
theorem dX2_setFirstKeys_2 : decode cX2_setFirstKeys 2 = .ok (.iload_n 1, 1) := by decide +kernel
theorem dX2_setFirstKeys_3 : decode cX2_setFirstKeys 3 = .ok (.aload_n 0, 1) := by decide +kernel
theorem dX2_setFirstKeys_4 : decode cX2_setFirstKeys 4 = .ok (.getfield 25, 3) := by decide +kernel
theorem dX2_setFirstKeys_7 : decode cX2_setFirstKeys 7 = .ok (.getfield 49, 3) := by decide +kernel
theorem dX2_setFirstKeys_10 : decode cX2_setFirstKeys 10 = .ok (.if_icmp .ge 40, 3) := by decide +kernel
theorem dX2_setFirstKeys_13 : decode cX2_setFirstKeys 13 = .ok (.aload_n 0, 1) := by decide +kernel
theorem dX2_setFirstKeys_14 : decode cX2_setFirstKeys 14 = .ok (.getfield 18, 3) := by decide +kernel
theorem dX2_setFirstKeys_17 : decode cX2_setFirstKeys 17 = .ok (.iload_n 1, 1) := by decide +kernel
theorem dX2_setFirstKeys_18 : decode cX2_setFirstKeys 18 = .ok (.aload_n 0, 1) := by decide +kernel
theorem dX2_setFirstKeys_19 : decode cX2_setFirstKeys 19 = .ok (.getfield 25, 3) := by decide +kernel
theorem dX2_setFirstKeys_22 : decode cX2_setFirstKeys 22 = .ok (.getfield 65, 3) := by decide +kernel
theorem dX2_setFirstKeys_25 : decode cX2_setFirstKeys 25 = .ok (.iload_n 1, 1) := by decide +kernel
theorem dX2_setFirstKeys_26 : decode cX2_setFirstKeys 26 = .ok (.iaload, 1) := by decide +kernel
theorem dX2_setFirstKeys_27 : decode cX2_setFirstKeys 27 = .ok (.i2l, 1) := by decide +kernel
theorem dX2_setFirstKeys_28 : decode cX2_setFirstKeys 28 = .ok (.ldc2_w 68, 3) := by decide +kernel
theorem dX2_setFirstKeys_31 : decode cX2_setFirstKeys 31 = .ok (.lmul, 1) := by decide +kernel
theorem dX2_setFirstKeys_32 : decode cX2_setFirstKeys 32 = .ok (.aload_n 0, 1) := by decide +kernel
theorem dX2_setFirstKeys_33 : decode cX2_setFirstKeys 33 = .ok (.getfield 25, 3) := by decide +kernel
theorem dX2_setFirstKeys_36 : decode cX2_setFirstKeys 36 = .ok (.getfield 70, 3) := by decide +kernel
theorem dX2_setFirstKeys_39 : decode cX2_setFirstKeys 39 = .ok (.iload_n 1, 1) := by decide +kernel
theorem dX2_setFirstKeys_40 : decode cX2_setFirstKeys 40 = .ok (.iaload, 1) := by decide +kernel
theorem dX2_setFirstKeys_41 : decode cX2_setFirstKeys 41 = .ok (.i2l, 1) := by decide +kernel
theorem dX2_setFirstKeys_42 : decode cX2_setFirstKeys 42 = .ok (.ladd, 1) := by decide +kernel
theorem dX2_setFirstKeys_43 : decode cX2_setFirstKeys 43 = .ok (.lastore, 1) := by decide +kernel
theorem dX2_setFirstKeys_44 : decode cX2_setFirstKeys 44 = .ok (.iinc 1 1, 3) := by decide +kernel
theorem dX2_setFirstKeys_47 : decode cX2_setFirstKeys 47 = .ok (.goto (-45), 3) := by decide +kernel
theorem dX2_setFirstKeys_50 : decode cX2_setFirstKeys 50 = .ok (.return_, 1) := by decide +kernel
set_option maxRecDepth 20000 in
theorem ggX2_setKeysBehind_X4_slotOf : GoodIn wsX2_setKeysBehind wsX4_slotOf := goodIn_r _ [9] (by decide +kernel) (by decide +kernel)
set_option maxRecDepth 20000 in
theorem gX2_setKeysBehind_X4_slotOf_n76 : GoodIn wsX2_setKeysBehind (wsX4_slotOf) := ggX2_setKeysBehind_X4_slotOf
set_option maxRecDepth 20000 in
theorem ggX2_setKeysBehind_X4_portOf : GoodIn wsX2_setKeysBehind wsX4_portOf := goodIn_r _ [11] (by decide +kernel) (by decide +kernel)
set_option maxRecDepth 20000 in
theorem gX2_setKeysBehind_X4_portOf_n79 : GoodIn wsX2_setKeysBehind (wsX4_portOf) := ggX2_setKeysBehind_X4_portOf
set_option maxRecDepth 20000 in
theorem ggX2_setKeysBehind_X4_postOf : GoodIn wsX2_setKeysBehind wsX4_postOf := goodIn_r _ [13] (by decide +kernel) (by decide +kernel)
set_option maxRecDepth 20000 in
theorem gX2_setKeysBehind_X4_postOf_n82 : GoodIn wsX2_setKeysBehind (wsX4_postOf) := ggX2_setKeysBehind_X4_postOf
theorem dX2_setKeysBehind_0 : decode cX2_setKeysBehind 0 = .ok (.iload_n 1, 1) := by decide +kernel
theorem dX2_setKeysBehind_1 : decode cX2_setKeysBehind 1 = .ok (.bipush 12, 2) := by decide +kernel
theorem dX2_setKeysBehind_3 : decode cX2_setKeysBehind 3 = .ok (.imul, 1) := by decide +kernel
theorem dX2_setKeysBehind_4 : decode cX2_setKeysBehind 4 = .ok (.istore_n 2, 1) := by decide +kernel
theorem dX2_setKeysBehind_5 : decode cX2_setKeysBehind 5 = .ok (.iconst 0, 1) := by decide +kernel
theorem dX2_setKeysBehind_6 : decode cX2_setKeysBehind 6 = .ok (.istore_n 3, 1) := by decide +kernel
theorem dX2_setKeysBehind_7 : decode cX2_setKeysBehind 7 = .ok (.iload_n 3, 1) := by decide +kernel
theorem dX2_setKeysBehind_8 : decode cX2_setKeysBehind 8 = .ok (.aload_n 0, 1) := by decide +kernel
theorem dX2_setKeysBehind_9 : decode cX2_setKeysBehind 9 = .ok (.getfield 25, 3) := by decide +kernel
theorem dX2_setKeysBehind_12 : decode cX2_setKeysBehind 12 = .ok (.getfield 49, 3) := by decide +kernel
theorem dX2_setKeysBehind_15 : decode cX2_setKeysBehind 15 = .ok (.if_icmp .ge 113, 3) := by decide +kernel
theorem dX2_setKeysBehind_18 : decode cX2_setKeysBehind 18 = .ok (.aload_n 0, 1) := by decide +kernel
theorem dX2_setKeysBehind_19 : decode cX2_setKeysBehind 19 = .ok (.getfield 9, 3) := by decide +kernel
theorem dX2_setKeysBehind_22 : decode cX2_setKeysBehind 22 = .ok (.iload_n 2, 1) := by decide +kernel
theorem dX2_setKeysBehind_23 : decode cX2_setKeysBehind 23 = .ok (.iload_n 3, 1) := by decide +kernel
theorem dX2_setKeysBehind_24 : decode cX2_setKeysBehind 24 = .ok (.iadd, 1) := by decide +kernel
theorem dX2_setKeysBehind_25 : decode cX2_setKeysBehind 25 = .ok (.iaload, 1) := by decide +kernel
theorem dX2_setKeysBehind_26 : decode cX2_setKeysBehind 26 = .ok (.i2l, 1) := by decide +kernel
theorem dX2_setKeysBehind_27 : decode cX2_setKeysBehind 27 = .ok (.lstore 4, 2) := by decide +kernel
theorem dX2_setKeysBehind_29 : decode cX2_setKeysBehind 29 = .ok (.iconst 0, 1) := by decide +kernel
theorem dX2_setKeysBehind_30 : decode cX2_setKeysBehind 30 = .ok (.istore 6, 2) := by decide +kernel
theorem dX2_setKeysBehind_32 : decode cX2_setKeysBehind 32 = .ok (.iload 6, 2) := by decide +kernel
theorem dX2_setKeysBehind_34 : decode cX2_setKeysBehind 34 = .ok (.aload_n 0, 1) := by decide +kernel
theorem dX2_setKeysBehind_35 : decode cX2_setKeysBehind 35 = .ok (.getfield 25, 3) := by decide +kernel
theorem dX2_setKeysBehind_38 : decode cX2_setKeysBehind 38 = .ok (.getfield 70, 3) := by decide +kernel
theorem dX2_setKeysBehind_41 : decode cX2_setKeysBehind 41 = .ok (.iload_n 3, 1) := by decide +kernel
theorem dX2_setKeysBehind_42 : decode cX2_setKeysBehind 42 = .ok (.iaload, 1) := by decide +kernel
theorem dX2_setKeysBehind_43 : decode cX2_setKeysBehind 43 = .ok (.if_icmp .ge 55, 3) := by decide +kernel
theorem dX2_setKeysBehind_46 : decode cX2_setKeysBehind 46 = .ok (.aload_n 0, 1) := by decide +kernel
theorem dX2_setKeysBehind_47 : decode cX2_setKeysBehind 47 = .ok (.getfield 25, 3) := by decide +kernel
theorem dX2_setKeysBehind_50 : decode cX2_setKeysBehind 50 = .ok (.getfield 73, 3) := by decide +kernel
theorem dX2_setKeysBehind_53 : decode cX2_setKeysBehind 53 = .ok (.iload_n 3, 1) := by decide +kernel
theorem dX2_setKeysBehind_54 : decode cX2_setKeysBehind 54 = .ok (.iload 6, 2) := by decide +kernel
theorem dX2_setKeysBehind_56 : decode cX2_setKeysBehind 56 = .ok (.invokestatic 76, 3) := by decide +kernel
theorem dX2_setKeysBehind_59 : decode cX2_setKeysBehind 59 = .ok (.iaload, 1) := by decide +kernel
theorem dX2_setKeysBehind_60 : decode cX2_setKeysBehind 60 = .ok (.istore 7, 2) := by decide +kernel
theorem dX2_setKeysBehind_62 : decode cX2_setKeysBehind 62 = .ok (.lload 4, 2) := by decide +kernel
theorem dX2_setKeysBehind_64 : decode cX2_setKeysBehind 64 = .ok (.bipush 7, 2) := by decide +kernel
theorem dX2_setKeysBehind_66 : decode cX2_setKeysBehind 66 = .ok (.lshl, 1) := by decide +kernel
theorem dX2_setKeysBehind_67 : decode cX2_setKeysBehind 67 = .ok (.iload 7, 2) := by decide +kernel
theorem dX2_setKeysBehind_69 : decode cX2_setKeysBehind 69 = .ok (.invokestatic 79, 3) := by decide +kernel
theorem dX2_setKeysBehind_72 : decode cX2_setKeysBehind 72 = .ok (.iconst 4, 1) := by decide +kernel
theorem dX2_setKeysBehind_73 : decode cX2_setKeysBehind 73 = .ok (.ishl, 1) := by decide +kernel
theorem dX2_setKeysBehind_74 : decode cX2_setKeysBehind 74 = .ok (.i2l, 1) := by decide +kernel
theorem dX2_setKeysBehind_75 : decode cX2_setKeysBehind 75 = .ok (.lor, 1) := by decide +kernel
theorem dX2_setKeysBehind_76 : decode cX2_setKeysBehind 76 = .ok (.aload_n 0, 1) := by decide +kernel
theorem dX2_setKeysBehind_77 : decode cX2_setKeysBehind 77 = .ok (.getfield 9, 3) := by decide +kernel
theorem dX2_setKeysBehind_80 : decode cX2_setKeysBehind 80 = .ok (.iload_n 2, 1) := by decide +kernel
theorem dX2_setKeysBehind_81 : decode cX2_setKeysBehind 81 = .ok (.iload 7, 2) := by decide +kernel
theorem dX2_setKeysBehind_83 : decode cX2_setKeysBehind 83 = .ok (.invokestatic 82, 3) := by decide +kernel
theorem dX2_setKeysBehind_86 : decode cX2_setKeysBehind 86 = .ok (.iadd, 1) := by decide +kernel
theorem dX2_setKeysBehind_87 : decode cX2_setKeysBehind 87 = .ok (.iaload, 1) := by decide +kernel
theorem dX2_setKeysBehind_88 : decode cX2_setKeysBehind 88 = .ok (.i2l, 1) := by decide +kernel
theorem dX2_setKeysBehind_89 : decode cX2_setKeysBehind 89 = .ok (.lor, 1) := by decide +kernel
theorem dX2_setKeysBehind_90 : decode cX2_setKeysBehind 90 = .ok (.lstore 4, 2) := by decide +kernel
theorem dX2_setKeysBehind_92 : decode cX2_setKeysBehind 92 = .ok (.iinc 6 1, 3) := by decide +kernel
theorem dX2_setKeysBehind_95 : decode cX2_setKeysBehind 95 = .ok (.goto (-63), 3) := by decide +kernel
theorem dX2_setKeysBehind_98 : decode cX2_setKeysBehind 98 = .ok (.aload_n 0, 1) := by decide +kernel
theorem dX2_setKeysBehind_99 : decode cX2_setKeysBehind 99 = .ok (.getfield 18, 3) := by decide +kernel
theorem dX2_setKeysBehind_102 : decode cX2_setKeysBehind 102 = .ok (.iload_n 3, 1) := by decide +kernel
theorem dX2_setKeysBehind_103 : decode cX2_setKeysBehind 103 = .ok (.lload 4, 2) := by decide +kernel
theorem dX2_setKeysBehind_105 : decode cX2_setKeysBehind 105 = .ok (.bipush 7, 2) := by decide +kernel
theorem dX2_setKeysBehind_107 : decode cX2_setKeysBehind 107 = .ok (.bipush 6, 2) := by decide +kernel
theorem dX2_setKeysBehind_109 : decode cX2_setKeysBehind 109 = .ok (.aload_n 0, 1) := by decide +kernel
theorem dX2_setKeysBehind_110 : decode cX2_setKeysBehind 110 = .ok (.getfield 25, 3) := by decide +kernel
theorem dX2_setKeysBehind_113 : decode cX2_setKeysBehind 113 = .ok (.getfield 70, 3) := by decide +kernel
theorem dX2_setKeysBehind_116 : decode cX2_setKeysBehind 116 = .ok (.iload_n 3, 1) := by decide +kernel
theorem dX2_setKeysBehind_117 : decode cX2_setKeysBehind 117 = .ok (.iaload, 1) := by decide +kernel
theorem dX2_setKeysBehind_118 : decode cX2_setKeysBehind 118 = .ok (.isub, 1) := by decide +kernel
theorem dX2_setKeysBehind_119 : decode cX2_setKeysBehind 119 = .ok (.imul, 1) := by decide +kernel
theorem dX2_setKeysBehind_120 : decode cX2_setKeysBehind 120 = .ok (.lshl, 1) := by decide +kernel
theorem dX2_setKeysBehind_121 : decode cX2_setKeysBehind 121 = .ok (.lastore, 1) := by decide +kernel
theorem dX2_setKeysBehind_122 : decode cX2_setKeysBehind 122 = .ok (.iinc 3 1, 3) := by decide +kernel
theorem dX2_setKeysBehind_125 : decode cX2_setKeysBehind 125 = .ok (.goto (-118), 3) := by decide +kernel
theorem dX2_setKeysBehind_128 : decode cX2_setKeysBehind 128 = .ok (.return_, 1) := by decide +kernel
set_option maxRecDepth 20000 in
theorem ggX2_rankByKeys_X2_addUnlikeKey : GoodIn wsX2_rankByKeys wsX2_addUnlikeKey := goodIn_r _ [9, 10, 11, 12, 13, 8, 14, 15, 16, 17, 18, 19, 20, 21] (by decide +kernel) (by decide +kernel)
set_option maxRecDepth 20000 in
theorem gX2_rankByKeys_X2_addUnlikeKey : GoodIn wsX2_rankByKeys (wsV RX2 85 RX2 yX2_addUnlikeKey wsX2_addUnlikeKey) := goodIn_app (goodIn_of _ (by decide +kernel)) ggX2_rankByKeys_X2_addUnlikeKey
set_option maxRecDepth 20000 in
theorem ggX2_rankByKeys_X2_keysBelow : GoodIn wsX2_rankByKeys wsX2_keysBelow := goodIn_r _ [14, 10, 15, 16, 17, 18, 19, 20, 21] (by decide +kernel) (by decide +kernel)
set_option maxRecDepth 20000 in
theorem gX2_rankByKeys_X2_keysBelow : GoodIn wsX2_rankByKeys (wsV RX2 89 RX2 yX2_keysBelow wsX2_keysBelow) := goodIn_app (goodIn_of _ (by decide +kernel)) ggX2_rankByKeys_X2_keysBelow
theorem dX2_rankByKeys_0 : decode cX2_rankByKeys 0 = .ok (.iconst 0, 1) := by decide +kernel
theorem dX2_rankByKeys_1 : decode cX2_rankByKeys 1 = .ok (.istore_n 2, 1) := by decide +kernel
theorem dX2_rankByKeys_2 : decode cX2_rankByKeys 2 = .ok (.iconst 0, 1) := by decide +kernel
theorem dX2_rankByKeys_3 : decode cX2_rankByKeys 3 = .ok (.istore_n 3, 1) := by decide +kernel
theorem dX2_rankByKeys_4 : decode cX2_rankByKeys 4 = .ok (.iload_n 3, 1) := by decide +kernel
theorem dX2_rankByKeys_5 : decode cX2_rankByKeys 5 = .ok (.aload_n 0, 1) := by decide +kernel
theorem dX2_rankByKeys_6 : decode cX2_rankByKeys 6 = .ok (.getfield 25, 3) := by decide +kernel
theorem dX2_rankByKeys_9 : decode cX2_rankByKeys 9 = .ok (.getfield 49, 3) := by decide +kernel
theorem dX2_rankByKeys_12 : decode cX2_rankByKeys 12 = .ok (.if_icmp .ge 21, 3) := by decide +kernel
theorem dX2_rankByKeys_15 : decode cX2_rankByKeys 15 = .ok (.aload_n 0, 1) := by decide +kernel
theorem dX2_rankByKeys_16 : decode cX2_rankByKeys 16 = .ok (.aload_n 0, 1) := by decide +kernel
theorem dX2_rankByKeys_17 : decode cX2_rankByKeys 17 = .ok (.getfield 18, 3) := by decide +kernel
theorem dX2_rankByKeys_20 : decode cX2_rankByKeys 20 = .ok (.iload_n 3, 1) := by decide +kernel
theorem dX2_rankByKeys_21 : decode cX2_rankByKeys 21 = .ok (.laload, 1) := by decide +kernel
theorem dX2_rankByKeys_22 : decode cX2_rankByKeys 22 = .ok (.iload_n 2, 1) := by decide +kernel
theorem dX2_rankByKeys_23 : decode cX2_rankByKeys 23 = .ok (.invokevirtual 85, 3) := by decide +kernel
theorem dX2_rankByKeys_26 : decode cX2_rankByKeys 26 = .ok (.istore_n 2, 1) := by decide +kernel
theorem dX2_rankByKeys_27 : decode cX2_rankByKeys 27 = .ok (.iinc 3 1, 3) := by decide +kernel
theorem dX2_rankByKeys_30 : decode cX2_rankByKeys 30 = .ok (.goto (-26), 3) := by decide +kernel
theorem dX2_rankByKeys_33 : decode cX2_rankByKeys 33 = .ok (.iconst 0, 1) := by decide +kernel
theorem dX2_rankByKeys_34 : decode cX2_rankByKeys 34 = .ok (.istore_n 3, 1) := by decide +kernel
theorem dX2_rankByKeys_35 : decode cX2_rankByKeys 35 = .ok (.iload_n 3, 1) := by decide +kernel
theorem dX2_rankByKeys_36 : decode cX2_rankByKeys 36 = .ok (.aload_n 0, 1) := by decide +kernel
theorem dX2_rankByKeys_37 : decode cX2_rankByKeys 37 = .ok (.getfield 25, 3) := by decide +kernel
theorem dX2_rankByKeys_40 : decode cX2_rankByKeys 40 = .ok (.getfield 49, 3) := by decide +kernel
theorem dX2_rankByKeys_43 : decode cX2_rankByKeys 43 = .ok (.if_icmp .ge 31, 3) := by decide +kernel
theorem dX2_rankByKeys_46 : decode cX2_rankByKeys 46 = .ok (.aload_n 0, 1) := by decide +kernel
theorem dX2_rankByKeys_47 : decode cX2_rankByKeys 47 = .ok (.getfield 9, 3) := by decide +kernel
theorem dX2_rankByKeys_50 : decode cX2_rankByKeys 50 = .ok (.iload_n 1, 1) := by decide +kernel
theorem dX2_rankByKeys_51 : decode cX2_rankByKeys 51 = .ok (.bipush 12, 2) := by decide +kernel
theorem dX2_rankByKeys_53 : decode cX2_rankByKeys 53 = .ok (.imul, 1) := by decide +kernel
theorem dX2_rankByKeys_54 : decode cX2_rankByKeys 54 = .ok (.iload_n 3, 1) := by decide +kernel
theorem dX2_rankByKeys_55 : decode cX2_rankByKeys 55 = .ok (.iadd, 1) := by decide +kernel
theorem dX2_rankByKeys_56 : decode cX2_rankByKeys 56 = .ok (.aload_n 0, 1) := by decide +kernel
theorem dX2_rankByKeys_57 : decode cX2_rankByKeys 57 = .ok (.aload_n 0, 1) := by decide +kernel
theorem dX2_rankByKeys_58 : decode cX2_rankByKeys 58 = .ok (.getfield 18, 3) := by decide +kernel
theorem dX2_rankByKeys_61 : decode cX2_rankByKeys 61 = .ok (.iload_n 3, 1) := by decide +kernel
theorem dX2_rankByKeys_62 : decode cX2_rankByKeys 62 = .ok (.laload, 1) := by decide +kernel
theorem dX2_rankByKeys_63 : decode cX2_rankByKeys 63 = .ok (.iload_n 2, 1) := by decide +kernel
theorem dX2_rankByKeys_64 : decode cX2_rankByKeys 64 = .ok (.invokevirtual 89, 3) := by decide +kernel
theorem dX2_rankByKeys_67 : decode cX2_rankByKeys 67 = .ok (.iastore, 1) := by decide +kernel
theorem dX2_rankByKeys_68 : decode cX2_rankByKeys 68 = .ok (.iinc 3 1, 3) := by decide +kernel
theorem dX2_rankByKeys_71 : decode cX2_rankByKeys 71 = .ok (.goto (-36), 3) := by decide +kernel
theorem dX2_rankByKeys_74 : decode cX2_rankByKeys 74 = .ok (.iload_n 2, 1) := by decide +kernel
theorem dX2_rankByKeys_75 : decode cX2_rankByKeys 75 = .ok (.ireturn, 1) := by decide +kernel
set_option maxRecDepth 20000 in
theorem ggX2_addUnlikeKey_X2_keysBelow : GoodIn wsX2_addUnlikeKey wsX2_keysBelow := goodIn_r _ [6, 1, 7, 8, 9, 10, 11, 12, 13] (by decide +kernel) (by decide +kernel)
set_option maxRecDepth 20000 in
theorem gX2_addUnlikeKey_X2_keysBelow : GoodIn wsX2_addUnlikeKey (wsV RX2 89 RX2 yX2_keysBelow wsX2_keysBelow) := goodIn_app (goodIn_of _ (by decide +kernel)) ggX2_addUnlikeKey_X2_keysBelow
theorem dX2_addUnlikeKey_0 : decode cX2_addUnlikeKey 0 = .ok (.aload_n 0, 1) := by decide +kernel
theorem dX2_addUnlikeKey_1 : decode cX2_addUnlikeKey 1 = .ok (.lload_n 1, 1) := by decide +kernel
theorem dX2_addUnlikeKey_2 : decode cX2_addUnlikeKey 2 = .ok (.iload_n 3, 1) := by decide +kernel
theorem dX2_addUnlikeKey_3 : decode cX2_addUnlikeKey 3 = .ok (.invokevirtual 89, 3) := by decide +kernel
theorem dX2_addUnlikeKey_6 : decode cX2_addUnlikeKey 6 = .ok (.istore 4, 2) := by decide +kernel
theorem dX2_addUnlikeKey_8 : decode cX2_addUnlikeKey 8 = .ok (.iload 4, 2) := by decide +kernel
theorem dX2_addUnlikeKey_10 : decode cX2_addUnlikeKey 10 = .ok (.iload_n 3, 1) := by decide +kernel
theorem dX2_addUnlikeKey_11 : decode cX2_addUnlikeKey 11 = .ok (.if_icmp .ge 17, 3) := by decide +kernel
theorem dX2_addUnlikeKey_14 : decode cX2_addUnlikeKey 14 = .ok (.aload_n 0, 1) := by decide +kernel
theorem dX2_addUnlikeKey_15 : decode cX2_addUnlikeKey 15 = .ok (.getfield 22, 3) := by decide +kernel
theorem dX2_addUnlikeKey_18 : decode cX2_addUnlikeKey 18 = .ok (.iload 4, 2) := by decide +kernel
theorem dX2_addUnlikeKey_20 : decode cX2_addUnlikeKey 20 = .ok (.laload, 1) := by decide +kernel
theorem dX2_addUnlikeKey_21 : decode cX2_addUnlikeKey 21 = .ok (.lload_n 1, 1) := by decide +kernel
theorem dX2_addUnlikeKey_22 : decode cX2_addUnlikeKey 22 = .ok (.lcmp, 1) := by decide +kernel
theorem dX2_addUnlikeKey_23 : decode cX2_addUnlikeKey 23 = .ok (.ifCond .ne 5, 3) := by decide +kernel
theorem dX2_addUnlikeKey_26 : decode cX2_addUnlikeKey 26 = .ok (.iload_n 3, 1) := by decide +kernel
theorem dX2_addUnlikeKey_27 : decode cX2_addUnlikeKey 27 = .ok (.ireturn, 1) := by decide +kernel
theorem dX2_addUnlikeKey_28 : decode cX2_addUnlikeKey 28 = .ok (.iload_n 3, 1) := by decide +kernel
theorem dX2_addUnlikeKey_29 : decode cX2_addUnlikeKey 29 = .ok (.istore 5, 2) := by decide +kernel
theorem dX2_addUnlikeKey_31 : decode cX2_addUnlikeKey 31 = .ok (.iload 5, 2) := by decide +kernel
theorem dX2_addUnlikeKey_33 : decode cX2_addUnlikeKey 33 = .ok (.iload 4, 2) := by decide +kernel
theorem dX2_addUnlikeKey_35 : decode cX2_addUnlikeKey 35 = .ok (.if_icmp .le 25, 3) := by decide +kernel
theorem dX2_addUnlikeKey_38 : decode cX2_addUnlikeKey 38 = .ok (.aload_n 0, 1) := by decide +kernel
theorem dX2_addUnlikeKey_39 : decode cX2_addUnlikeKey 39 = .ok (.getfield 22, 3) := by decide +kernel
theorem dX2_addUnlikeKey_42 : decode cX2_addUnlikeKey 42 = .ok (.iload 5, 2) := by decide +kernel
theorem dX2_addUnlikeKey_44 : decode cX2_addUnlikeKey 44 = .ok (.aload_n 0, 1) := by decide +kernel
theorem dX2_addUnlikeKey_45 : decode cX2_addUnlikeKey 45 = .ok (.getfield 22, 3) := by decide +kernel
theorem dX2_addUnlikeKey_48 : decode cX2_addUnlikeKey 48 = .ok (.iload 5, 2) := by decide +kernel
theorem dX2_addUnlikeKey_50 : decode cX2_addUnlikeKey 50 = .ok (.iconst 1, 1) := by decide +kernel
theorem dX2_addUnlikeKey_51 : decode cX2_addUnlikeKey 51 = .ok (.isub, 1) := by decide +kernel
theorem dX2_addUnlikeKey_52 : decode cX2_addUnlikeKey 52 = .ok (.laload, 1) := by decide +kernel
theorem dX2_addUnlikeKey_53 : decode cX2_addUnlikeKey 53 = .ok (.lastore, 1) := by decide +kernel
theorem dX2_addUnlikeKey_54 : decode cX2_addUnlikeKey 54 = .ok (.iinc 5 (-1), 3) := by decide +kernel
theorem dX2_addUnlikeKey_57 : decode cX2_addUnlikeKey 57 = .ok (.goto (-26), 3) := by decide +kernel
theorem dX2_addUnlikeKey_60 : decode cX2_addUnlikeKey 60 = .ok (.aload_n 0, 1) := by decide +kernel
theorem dX2_addUnlikeKey_61 : decode cX2_addUnlikeKey 61 = .ok (.getfield 22, 3) := by decide +kernel
theorem dX2_addUnlikeKey_64 : decode cX2_addUnlikeKey 64 = .ok (.iload 4, 2) := by decide +kernel
theorem dX2_addUnlikeKey_66 : decode cX2_addUnlikeKey 66 = .ok (.lload_n 1, 1) := by decide +kernel
theorem dX2_addUnlikeKey_67 : decode cX2_addUnlikeKey 67 = .ok (.lastore, 1) := by decide +kernel
theorem dX2_addUnlikeKey_68 : decode cX2_addUnlikeKey 68 = .ok (.iload_n 3, 1) := by decide +kernel
theorem dX2_addUnlikeKey_69 : decode cX2_addUnlikeKey 69 = .ok (.iconst 1, 1) := by decide +kernel
theorem dX2_addUnlikeKey_70 : decode cX2_addUnlikeKey 70 = .ok (.iadd, 1) := by decide +kernel
theorem dX2_addUnlikeKey_71 : decode cX2_addUnlikeKey 71 = .ok (.ireturn, 1) := by decide +kernel
theorem dX2_keysBelow_0 : decode cX2_keysBelow 0 = .ok (.iconst 0, 1) := by decide +kernel
theorem dX2_keysBelow_1 : decode cX2_keysBelow 1 = .ok (.istore 4, 2) := by decide +kernel
theorem dX2_keysBelow_3 : decode cX2_keysBelow 3 = .ok (.iload 4, 2) := by decide +kernel
theorem dX2_keysBelow_5 : decode cX2_keysBelow 5 = .ok (.iload_n 3, 1) := by decide +kernel
theorem dX2_keysBelow_6 : decode cX2_keysBelow 6 = .ok (.if_icmp .ge 21, 3) := by decide +kernel
theorem dX2_keysBelow_9 : decode cX2_keysBelow 9 = .ok (.aload_n 0, 1) := by decide +kernel
theorem dX2_keysBelow_10 : decode cX2_keysBelow 10 = .ok (.getfield 22, 3) := by decide +kernel
theorem dX2_keysBelow_13 : decode cX2_keysBelow 13 = .ok (.iload 4, 2) := by decide +kernel
theorem dX2_keysBelow_15 : decode cX2_keysBelow 15 = .ok (.laload, 1) := by decide +kernel
theorem dX2_keysBelow_16 : decode cX2_keysBelow 16 = .ok (.lload_n 1, 1) := by decide +kernel
theorem dX2_keysBelow_17 : decode cX2_keysBelow 17 = .ok (.lcmp, 1) := by decide +kernel
theorem dX2_keysBelow_18 : decode cX2_keysBelow 18 = .ok (.ifCond .ge 9, 3) := by decide +kernel
theorem dX2_keysBelow_21 : decode cX2_keysBelow 21 = .ok (.iinc 4 1, 3) := by decide +kernel
theorem dX2_keysBelow_24 : decode cX2_keysBelow 24 = .ok (.goto (-21), 3) := by decide +kernel
theorem dX2_keysBelow_27 : decode cX2_keysBelow 27 = .ok (.iload 4, 2) := by decide +kernel
theorem dX2_keysBelow_29 : decode cX2_keysBelow 29 = .ok (.ireturn, 1) := by decide +kernel
theorem dX3_init_0 : decode cX3_init 0 = .ok (.aload_n 0, 1) := by decide +kernel
theorem dX3_init_1 : decode cX3_init 1 = .ok (.invokespecial 3, 3) := by decide +kernel
theorem dX3_init_4 : decode cX3_init 4 = .ok (.aload_n 0, 1) := by decide +kernel
theorem dX3_init_5 : decode cX3_init 5 = .ok (.bipush 60, 2) := by decide +kernel
theorem dX3_init_7 : decode cX3_init 7 = .ok (.newarray .int, 2) := by decide +kernel
theorem dX3_init_9 : decode cX3_init 9 = .ok (.putfield 9, 3) := by decide +kernel
theorem dX3_init_12 : decode cX3_init 12 = .ok (.return_, 1) := by decide +kernel
set_option maxRecDepth 20000 in
theorem ggX3_renew_J7_fill_53178 : GoodIn wsX3_renew wsJ7_fill_53178 := goodIn_r _ [8] (by decide +kernel) (by decide +kernel)
set_option maxRecDepth 20000 in
theorem gX3_renew_J7_fill_53178 : GoodIn wsX3_renew (va_wsS RX3 26 yJ7_fill_53178 wsJ7_fill_53178) := goodIn_app (goodIn_of _ (by decide +kernel)) ggX3_renew_J7_fill_53178
theorem dX3_renew_0 : decode cX3_renew 0 = .ok (.aload_n 0, 1) := by decide +kernel
theorem dX3_renew_1 : decode cX3_renew 1 = .ok (.iconst 1, 1) := by decide +kernel
theorem dX3_renew_2 : decode cX3_renew 2 = .ok (.putfield 15, 3) := by decide +kernel
theorem dX3_renew_5 : decode cX3_renew 5 = .ok (.aload_n 0, 1) := by decide +kernel
theorem dX3_renew_6 : decode cX3_renew 6 = .ok (.iload_n 1, 1) := by decide +kernel
theorem dX3_renew_7 : decode cX3_renew 7 = .ok (.putfield 19, 3) := by decide +kernel
theorem dX3_renew_10 : decode cX3_renew 10 = .ok (.aload_n 0, 1) := by decide +kernel
theorem dX3_renew_11 : decode cX3_renew 11 = .ok (.iload_n 2, 1) := by decide +kernel
theorem dX3_renew_12 : decode cX3_renew 12 = .ok (.putfield 23, 3) := by decide +kernel
theorem dX3_renew_15 : decode cX3_renew 15 = .ok (.aload_n 0, 1) := by decide +kernel
theorem dX3_renew_16 : decode cX3_renew 16 = .ok (.getfield 9, 3) := by decide +kernel
theorem dX3_renew_19 : decode cX3_renew 19 = .ok (.iconst 0, 1) := by decide +kernel
theorem dX3_renew_20 : decode cX3_renew 20 = .ok (.invokestatic 26, 3) := by decide +kernel
theorem dX3_renew_23 : decode cX3_renew 23 = .ok (.return_, 1) := by decide +kernel
theorem dX3_holds_0 : decode cX3_holds 0 = .ok (.iload_n 1, 1) := by decide +kernel
theorem dX3_holds_1 : decode cX3_holds 1 = .ok (.ifCond .lt 33, 3) := by decide +kernel
theorem dX3_holds_4 : decode cX3_holds 4 = .ok (.iload_n 1, 1) := by decide +kernel
theorem dX3_holds_5 : decode cX3_holds 5 = .ok (.aload_n 0, 1) := by decide +kernel
theorem dX3_holds_6 : decode cX3_holds 6 = .ok (.getfield 23, 3) := by decide +kernel
theorem dX3_holds_9 : decode cX3_holds 9 = .ok (.if_icmp .gt 25, 3) := by decide +kernel
theorem dX3_holds_12 : decode cX3_holds 12 = .ok (.lload_n 2, 1) := by decide +kernel
theorem dX3_holds_13 : decode cX3_holds 13 = .ok (.lconst 0, 1) := by decide +kernel
theorem dX3_holds_14 : decode cX3_holds 14 = .ok (.lcmp, 1) := by decide +kernel
theorem dX3_holds_15 : decode cX3_holds 15 = .ok (.ifCond .lt 19, 3) := by decide +kernel
theorem dX3_holds_18 : decode cX3_holds 18 = .ok (.lload_n 2, 1) := by decide +kernel
theorem dX3_holds_19 : decode cX3_holds 19 = .ok (.aload_n 0, 1) := by decide +kernel
theorem dX3_holds_20 : decode cX3_holds 20 = .ok (.getfield 23, 3) := by decide +kernel
theorem dX3_holds_23 : decode cX3_holds 23 = .ok (.iload_n 1, 1) := by decide +kernel
theorem dX3_holds_24 : decode cX3_holds 24 = .ok (.isub, 1) := by decide +kernel
theorem dX3_holds_25 : decode cX3_holds 25 = .ok (.i2l, 1) := by decide +kernel
theorem dX3_holds_26 : decode cX3_holds 26 = .ok (.lcmp, 1) := by decide +kernel
theorem dX3_holds_27 : decode cX3_holds 27 = .ok (.ifCond .gt 7, 3) := by decide +kernel
theorem dX3_holds_30 : decode cX3_holds 30 = .ok (.iconst 1, 1) := by decide +kernel
theorem dX3_holds_31 : decode cX3_holds 31 = .ok (.goto 4, 3) := by decide +kernel
theorem dX3_holds_34 : decode cX3_holds 34 = .ok (.iconst 0, 1) := by decide +kernel
theorem dX3_holds_35 : decode cX3_holds 35 = .ok (.ireturn, 1) := by decide +kernel
theorem dJ9_min_7cf53_0 : decode cJ9_min_7cf53 0 = .ok (.iload_n 0, 1) := by decide +kernel
theorem dJ9_min_7cf53_1 : decode cJ9_min_7cf53 1 = .ok (.iload_n 1, 1) := by decide +kernel
theorem dJ9_min_7cf53_2 : decode cJ9_min_7cf53 2 = .ok (.if_icmp .gt 7, 3) := by decide +kernel
theorem dJ9_min_7cf53_5 : decode cJ9_min_7cf53 5 = .ok (.iload_n 0, 1) := by decide +kernel
theorem dJ9_min_7cf53_6 : decode cJ9_min_7cf53 6 = .ok (.goto 4, 3) := by decide +kernel
theorem dJ9_min_7cf53_9 : decode cJ9_min_7cf53 9 = .ok (.iload_n 1, 1) := by decide +kernel
theorem dJ9_min_7cf53_10 : decode cJ9_min_7cf53 10 = .ok (.ireturn, 1) := by decide +kernel
theorem dJ7_fill_53178_0 : decode cJ7_fill_53178 0 = .ok (.iconst 0, 1) := by decide +kernel
theorem dJ7_fill_53178_1 : decode cJ7_fill_53178 1 = .ok (.istore_n 2, 1) := by decide +kernel
theorem dJ7_fill_53178_2 : decode cJ7_fill_53178 2 = .ok (.aload_n 0, 1) := by decide +kernel
theorem dJ7_fill_53178_3 : decode cJ7_fill_53178 3 = .ok (.arraylength, 1) := by decide +kernel
theorem dJ7_fill_53178_4 : decode cJ7_fill_53178 4 = .ok (.istore_n 3, 1) := by decide +kernel
theorem dJ7_fill_53178_5 : decode cJ7_fill_53178 5 = .ok (.iload_n 2, 1) := by decide +kernel
theorem dJ7_fill_53178_6 : decode cJ7_fill_53178 6 = .ok (.iload_n 3, 1) := by decide +kernel
theorem dJ7_fill_53178_7 : decode cJ7_fill_53178 7 = .ok (.if_icmp .ge 13, 3) := by decide +kernel
theorem dJ7_fill_53178_10 : decode cJ7_fill_53178 10 = .ok (.aload_n 0, 1) := by decide +kernel
theorem dJ7_fill_53178_11 : decode cJ7_fill_53178 11 = .ok (.iload_n 2, 1) := by decide +kernel
theorem dJ7_fill_53178_12 : decode cJ7_fill_53178 12 = .ok (.iload_n 1, 1) := by decide +kernel
theorem dJ7_fill_53178_13 : decode cJ7_fill_53178 13 = .ok (.iastore, 1) := by decide +kernel
theorem dJ7_fill_53178_14 : decode cJ7_fill_53178 14 = .ok (.iinc 2 1, 3) := by decide +kernel
theorem dJ7_fill_53178_17 : decode cJ7_fill_53178 17 = .ok (.goto (-12), 3) := by decide +kernel
theorem dJ7_fill_53178_20 : decode cJ7_fill_53178 20 = .ok (.return_, 1) := by decide +kernel
