set_option maxRecDepth 20000 in
theorem ggX7_init_X7_begin : GoodIn wsX7_init wsX7_begin := goodIn_r _ [17] (by decide +kernel) (by decide +kernel)
set_option maxRecDepth 20000 in
theorem gX7_init_X7_begin : GoodIn wsX7_init (va_wsS RX7 35 yX7_begin wsX7_begin) := goodIn_app (goodIn_of _ (by decide +kernel)) ggX7_init_X7_begin
set_option maxRecDepth 20000 in
theorem ggX7_init_X7_insert : GoodIn wsX7_init wsX7_insert := goodIn_r _ [20, 21, 22, 16, 23] (by decide +kernel) (by decide +kernel)
set_option maxRecDepth 20000 in
theorem gX7_init_X7_insert : GoodIn wsX7_init (va_wsS RX7 39 yX7_insert wsX7_insert) := goodIn_app (goodIn_of _ (by decide +kernel)) ggX7_init_X7_insert
theorem dX7_init_0 : decode cX7_init 0 = .ok (.aload_n 0, 1) := by decide +kernel
theorem dX7_init_1 : decode cX7_init 1 = .ok (.invokespecial 1, 3) := by decide +kernel
theorem dX7_init_4 : decode cX7_init 4 = .ok (.aload_n 0, 1) := by decide +kernel
theorem dX7_init_5 : decode cX7_init 5 = .ok (.bipush 60, 2) := by decide +kernel
theorem dX7_init_7 : decode cX7_init 7 = .ok (.newarray .int, 2) := by decide +kernel
theorem dX7_init_9 : decode cX7_init 9 = .ok (.putfield 7, 3) := by decide +kernel
theorem dX7_init_12 : decode cX7_init 12 = .ok (.aload_n 0, 1) := by decide +kernel
theorem dX7_init_13 : decode cX7_init 13 = .ok (.sipush 131, 3) := by decide +kernel
theorem dX7_init_16 : decode cX7_init 16 = .ok (.newarray .int, 2) := by decide +kernel
theorem dX7_init_18 : decode cX7_init 18 = .ok (.putfield 13, 3) := by decide +kernel
theorem dX7_init_21 : decode cX7_init 21 = .ok (.aload_n 0, 1) := by decide +kernel
theorem dX7_init_22 : decode cX7_init 22 = .ok (.sipush 131, 3) := by decide +kernel
theorem dX7_init_25 : decode cX7_init 25 = .ok (.newarray .int, 2) := by decide +kernel
theorem dX7_init_27 : decode cX7_init 27 = .ok (.putfield 16, 3) := by decide +kernel
theorem dX7_init_30 : decode cX7_init 30 = .ok (.aload_n 0, 1) := by decide +kernel
theorem dX7_init_31 : decode cX7_init 31 = .ok (.sipush 1834, 3) := by decide +kernel
theorem dX7_init_34 : decode cX7_init 34 = .ok (.newarray .int, 2) := by decide +kernel
theorem dX7_init_36 : decode cX7_init 36 = .ok (.putfield 19, 3) := by decide +kernel
theorem dX7_init_39 : decode cX7_init 39 = .ok (.aload_n 0, 1) := by decide +kernel
theorem dX7_init_40 : decode cX7_init 40 = .ok (.sipush 262, 3) := by decide +kernel
theorem dX7_init_43 : decode cX7_init 43 = .ok (.newarray .int, 2) := by decide +kernel
theorem dX7_init_45 : decode cX7_init 45 = .ok (.putfield 22, 3) := by decide +kernel
theorem dX7_init_48 : decode cX7_init 48 = .ok (.aload_n 0, 1) := by decide +kernel
theorem dX7_init_49 : decode cX7_init 49 = .ok (.iconst 2, 1) := by decide +kernel
theorem dX7_init_50 : decode cX7_init 50 = .ok (.newarray .boolean, 2) := by decide +kernel
theorem dX7_init_52 : decode cX7_init 52 = .ok (.putfield 25, 3) := by decide +kernel
theorem dX7_init_55 : decode cX7_init 55 = .ok (.aload_n 0, 1) := by decide +kernel
theorem dX7_init_56 : decode cX7_init 56 = .ok (.bipush 16, 2) := by decide +kernel
theorem dX7_init_58 : decode cX7_init 58 = .ok (.newarray .int, 2) := by decide +kernel
theorem dX7_init_60 : decode cX7_init 60 = .ok (.putfield 29, 3) := by decide +kernel
theorem dX7_init_63 : decode cX7_init 63 = .ok (.aload_n 0, 1) := by decide +kernel
theorem dX7_init_64 : decode cX7_init 64 = .ok (.bipush 16, 2) := by decide +kernel
theorem dX7_init_66 : decode cX7_init 66 = .ok (.newarray .int, 2) := by decide +kernel
theorem dX7_init_68 : decode cX7_init 68 = .ok (.putfield 32, 3) := by decide +kernel
theorem dX7_init_71 : decode cX7_init 71 = .ok (.aload_n 0, 1) := by decide +kernel
theorem dX7_init_72 : decode cX7_init 72 = .ok (.getfield 13, 3) := by decide +kernel
theorem dX7_init_75 : decode cX7_init 75 = .ok (.invokestatic 35, 3) := by decide +kernel
theorem dX7_init_78 : decode cX7_init 78 = .ok (.aload_n 0, 1) := by decide +kernel
theorem dX7_init_79 : decode cX7_init 79 = .ok (.getfield 13, 3) := by decide +kernel
theorem dX7_init_82 : decode cX7_init 82 = .ok (.iconst 0, 1) := by decide +kernel
theorem dX7_init_83 : decode cX7_init 83 = .ok (.iconst 0, 1) := by decide +kernel
theorem dX7_init_84 : decode cX7_init 84 = .ok (.invokestatic 39, 3) := by decide +kernel
theorem dX7_init_87 : decode cX7_init 87 = .ok (.pop, 1) := by decide +kernel
theorem dX7_init_88 : decode cX7_init 88 = .ok (.return_, 1) := by decide +kernel
theorem dX7_thrown_0 : decode cX7_thrown 0 = .ok (.aload_n 0, 1) := by decide +kernel
theorem dX7_thrown_1 : decode cX7_thrown 1 = .ok (.getfield 43, 3) := by decide +kernel
theorem dX7_thrown_4 : decode cX7_thrown 4 = .ok (.ireturn, 1) := by decide +kernel
theorem dX7_refused_0 : decode cX7_refused 0 = .ok (.aload_n 0, 1) := by decide +kernel
theorem dX7_refused_1 : decode cX7_refused 1 = .ok (.iload_n 1, 1) := by decide +kernel
theorem dX7_refused_2 : decode cX7_refused 2 = .ok (.putfield 43, 3) := by decide +kernel
theorem dX7_refused_5 : decode cX7_refused 5 = .ok (.iload_n 1, 1) := by decide +kernel
theorem dX7_refused_6 : decode cX7_refused 6 = .ok (.ifCond .le 7, 3) := by decide +kernel
theorem dX7_refused_9 : decode cX7_refused 9 = .ok (.iconst 1, 1) := by decide +kernel
theorem dX7_refused_10 : decode cX7_refused 10 = .ok (.goto 4, 3) := by decide +kernel
theorem dX7_refused_13 : decode cX7_refused 13 = .ok (.iconst 0, 1) := by decide +kernel
theorem dX7_refused_14 : decode cX7_refused 14 = .ok (.ireturn, 1) := by decide +kernel
theorem dX7_in_0 : decode cX7_in 0 = .ok (.lload_n 0, 1) := by decide +kernel
theorem dX7_in_1 : decode cX7_in 1 = .ok (.lload_n 2, 1) := by decide +kernel
theorem dX7_in_2 : decode cX7_in 2 = .ok (.lcmp, 1) := by decide +kernel
theorem dX7_in_3 : decode cX7_in 3 = .ok (.ifCond .lt 14, 3) := by decide +kernel
theorem dX7_in_6 : decode cX7_in 6 = .ok (.lload_n 0, 1) := by decide +kernel
theorem dX7_in_7 : decode cX7_in 7 = .ok (.lload 4, 2) := by decide +kernel
theorem dX7_in_9 : decode cX7_in 9 = .ok (.lcmp, 1) := by decide +kernel
theorem dX7_in_10 : decode cX7_in 10 = .ok (.ifCond .gt 7, 3) := by decide +kernel
theorem dX7_in_13 : decode cX7_in 13 = .ok (.iconst 1, 1) := by decide +kernel
theorem dX7_in_14 : decode cX7_in 14 = .ok (.goto 4, 3) := by decide +kernel
theorem dX7_in_17 : decode cX7_in 17 = .ok (.iconst 0, 1) := by decide +kernel
theorem dX7_in_18 : decode cX7_in 18 = .ok (.ireturn, 1) := by decide +kernel
theorem dX7_copyState_0 : decode cX7_copyState 0 = .ok (.iconst 0, 1) := by decide +kernel
theorem dX7_copyState_1 : decode cX7_copyState 1 = .ok (.istore 4, 2) := by decide +kernel
theorem dX7_copyState_3 : decode cX7_copyState 3 = .ok (.iload 4, 2) := by decide +kernel
theorem dX7_copyState_5 : decode cX7_copyState 5 = .ok (.sipush 131, 3) := by decide +kernel
theorem dX7_copyState_8 : decode cX7_copyState 8 = .ok (.if_icmp .ge 21, 3) := by decide +kernel
theorem dX7_copyState_11 : decode cX7_copyState 11 = .ok (.aload_n 2, 1) := by decide +kernel
theorem dX7_copyState_12 : decode cX7_copyState 12 = .ok (.iload_n 3, 1) := by decide +kernel
theorem dX7_copyState_13 : decode cX7_copyState 13 = .ok (.iload 4, 2) := by decide +kernel
theorem dX7_copyState_15 : decode cX7_copyState 15 = .ok (.iadd, 1) := by decide +kernel
theorem dX7_copyState_16 : decode cX7_copyState 16 = .ok (.aload_n 0, 1) := by decide +kernel
theorem dX7_copyState_17 : decode cX7_copyState 17 = .ok (.iload_n 1, 1) := by decide +kernel
theorem dX7_copyState_18 : decode cX7_copyState 18 = .ok (.iload 4, 2) := by decide +kernel
theorem dX7_copyState_20 : decode cX7_copyState 20 = .ok (.iadd, 1) := by decide +kernel
theorem dX7_copyState_21 : decode cX7_copyState 21 = .ok (.iaload, 1) := by decide +kernel
theorem dX7_copyState_22 : decode cX7_copyState 22 = .ok (.iastore, 1) := by decide +kernel
theorem dX7_copyState_23 : decode cX7_copyState 23 = .ok (.iinc 4 1, 3) := by decide +kernel
theorem dX7_copyState_26 : decode cX7_copyState 26 = .ok (.goto (-23), 3) := by decide +kernel
theorem dX7_copyState_29 : decode cX7_copyState 29 = .ok (.return_, 1) := by decide +kernel
theorem dX7_begin_0 : decode cX7_begin 0 = .ok (.iconst 0, 1) := by decide +kernel
theorem dX7_begin_1 : decode cX7_begin 1 = .ok (.istore_n 1, 1) := by decide +kernel
theorem dX7_begin_2 : decode cX7_begin 2 = .ok (.iload_n 1, 1) := by decide +kernel
theorem dX7_begin_3 : decode cX7_begin 3 = .ok (.sipush 131, 3) := by decide +kernel
theorem dX7_begin_6 : decode cX7_begin 6 = .ok (.if_icmp .ge 13, 3) := by decide +kernel
theorem dX7_begin_9 : decode cX7_begin 9 = .ok (.aload_n 0, 1) := by decide +kernel
theorem dX7_begin_10 : decode cX7_begin 10 = .ok (.iload_n 1, 1) := by decide +kernel
theorem dX7_begin_11 : decode cX7_begin 11 = .ok (.iconst 0, 1) := by decide +kernel
theorem dX7_begin_12 : decode cX7_begin 12 = .ok (.iastore, 1) := by decide +kernel
theorem dX7_begin_13 : decode cX7_begin 13 = .ok (.iinc 1 1, 3) := by decide +kernel
theorem dX7_begin_16 : decode cX7_begin 16 = .ok (.goto (-14), 3) := by decide +kernel
theorem dX7_begin_19 : decode cX7_begin 19 = .ok (.return_, 1) := by decide +kernel
set_option maxRecDepth 20000 in
theorem ggX7_isLevel_X7_in : GoodIn wsX7_isLevel wsX7_in := goodIn_r _ [4] (by decide +kernel) (by decide +kernel)
set_option maxRecDepth 20000 in
theorem gX7_isLevel_X7_in : GoodIn wsX7_isLevel (va_wsS RX7 47 yX7_in wsX7_in) := goodIn_app (goodIn_of _ (by decide +kernel)) ggX7_isLevel_X7_in
theorem dX7_isLevel_0 : decode cX7_isLevel 0 = .ok (.iload_n 1, 1) := by decide +kernel
theorem dX7_isLevel_1 : decode cX7_isLevel 1 = .ok (.i2l, 1) := by decide +kernel
theorem dX7_isLevel_2 : decode cX7_isLevel 2 = .ok (.lconst 0, 1) := by decide +kernel
theorem dX7_isLevel_3 : decode cX7_isLevel 3 = .ok (.aload_n 0, 1) := by decide +kernel
theorem dX7_isLevel_4 : decode cX7_isLevel 4 = .ok (.iconst 0, 1) := by decide +kernel
theorem dX7_isLevel_5 : decode cX7_isLevel 5 = .ok (.iaload, 1) := by decide +kernel
theorem dX7_isLevel_6 : decode cX7_isLevel 6 = .ok (.iconst 1, 1) := by decide +kernel
theorem dX7_isLevel_7 : decode cX7_isLevel 7 = .ok (.isub, 1) := by decide +kernel
theorem dX7_isLevel_8 : decode cX7_isLevel 8 = .ok (.i2l, 1) := by decide +kernel
theorem dX7_isLevel_9 : decode cX7_isLevel 9 = .ok (.invokestatic 47, 3) := by decide +kernel
theorem dX7_isLevel_12 : decode cX7_isLevel 12 = .ok (.ireturn, 1) := by decide +kernel
set_option maxRecDepth 20000 in
theorem ggX7_isCar_X7_in : GoodIn wsX7_isCar wsX7_in := goodIn_r _ [5] (by decide +kernel) (by decide +kernel)
set_option maxRecDepth 20000 in
theorem gX7_isCar_X7_in : GoodIn wsX7_isCar (va_wsS RX7 47 yX7_in wsX7_in) := goodIn_app (goodIn_of _ (by decide +kernel)) ggX7_isCar_X7_in
theorem dX7_isCar_0 : decode cX7_isCar 0 = .ok (.iload_n 0, 1) := by decide +kernel
theorem dX7_isCar_1 : decode cX7_isCar 1 = .ok (.i2l, 1) := by decide +kernel
theorem dX7_isCar_2 : decode cX7_isCar 2 = .ok (.lconst 0, 1) := by decide +kernel
theorem dX7_isCar_3 : decode cX7_isCar 3 = .ok (.ldc2_w 51, 3) := by decide +kernel
theorem dX7_isCar_6 : decode cX7_isCar 6 = .ok (.invokestatic 47, 3) := by decide +kernel
theorem dX7_isCar_9 : decode cX7_isCar 9 = .ok (.ireturn, 1) := by decide +kernel
set_option maxRecDepth 20000 in
theorem ggX7_isKind_X7_in : GoodIn wsX7_isKind wsX7_in := goodIn_r _ [5] (by decide +kernel) (by decide +kernel)
set_option maxRecDepth 20000 in
theorem gX7_isKind_X7_in : GoodIn wsX7_isKind (va_wsS RX7 47 yX7_in wsX7_in) := goodIn_app (goodIn_of _ (by decide +kernel)) ggX7_isKind_X7_in
theorem dX7_isKind_0 : decode cX7_isKind 0 = .ok (.iload_n 0, 1) := by decide +kernel
theorem dX7_isKind_1 : decode cX7_isKind 1 = .ok (.i2l, 1) := by decide +kernel
theorem dX7_isKind_2 : decode cX7_isKind 2 = .ok (.lconst 0, 1) := by decide +kernel
theorem dX7_isKind_3 : decode cX7_isKind 3 = .ok (.ldc2_w 53, 3) := by decide +kernel
theorem dX7_isKind_6 : decode cX7_isKind 6 = .ok (.invokestatic 47, 3) := by decide +kernel
theorem dX7_isKind_9 : decode cX7_isKind 9 = .ok (.ireturn, 1) := by decide +kernel
set_option maxRecDepth 20000 in
theorem ggX7_isStorey_X7_in : GoodIn wsX7_isStorey wsX7_in := goodIn_r _ [5] (by decide +kernel) (by decide +kernel)
set_option maxRecDepth 20000 in
theorem gX7_isStorey_X7_in : GoodIn wsX7_isStorey (va_wsS RX7 47 yX7_in wsX7_in) := goodIn_app (goodIn_of _ (by decide +kernel)) ggX7_isStorey_X7_in
theorem dX7_isStorey_0 : decode cX7_isStorey 0 = .ok (.iload_n 0, 1) := by decide +kernel
theorem dX7_isStorey_1 : decode cX7_isStorey 1 = .ok (.i2l, 1) := by decide +kernel
theorem dX7_isStorey_2 : decode cX7_isStorey 2 = .ok (.lconst 1, 1) := by decide +kernel
theorem dX7_isStorey_3 : decode cX7_isStorey 3 = .ok (.ldc2_w 55, 3) := by decide +kernel
theorem dX7_isStorey_6 : decode cX7_isStorey 6 = .ok (.invokestatic 47, 3) := by decide +kernel
theorem dX7_isStorey_9 : decode cX7_isStorey 9 = .ok (.ireturn, 1) := by decide +kernel
theorem dX7_skips_0 : decode cX7_skips 0 = .ok (.iload_n 1, 1) := by decide +kernel
theorem dX7_skips_1 : decode cX7_skips 1 = .ok (.bipush 30, 2) := by decide +kernel
theorem dX7_skips_3 : decode cX7_skips 3 = .ok (.if_icmp .gt 18, 3) := by decide +kernel
theorem dX7_skips_6 : decode cX7_skips 6 = .ok (.aload_n 0, 1) := by decide +kernel
theorem dX7_skips_7 : decode cX7_skips 7 = .ok (.iconst 2, 1) := by decide +kernel
theorem dX7_skips_8 : decode cX7_skips 8 = .ok (.iaload, 1) := by decide +kernel
theorem dX7_skips_9 : decode cX7_skips 9 = .ok (.iload_n 1, 1) := by decide +kernel
theorem dX7_skips_10 : decode cX7_skips 10 = .ok (.ishr, 1) := by decide +kernel
theorem dX7_skips_11 : decode cX7_skips 11 = .ok (.iconst 1, 1) := by decide +kernel
theorem dX7_skips_12 : decode cX7_skips 12 = .ok (.iand, 1) := by decide +kernel
theorem dX7_skips_13 : decode cX7_skips 13 = .ok (.iconst 1, 1) := by decide +kernel
theorem dX7_skips_14 : decode cX7_skips 14 = .ok (.if_icmp .ne 7, 3) := by decide +kernel
theorem dX7_skips_17 : decode cX7_skips 17 = .ok (.iconst 1, 1) := by decide +kernel
theorem dX7_skips_18 : decode cX7_skips 18 = .ok (.goto 4, 3) := by decide +kernel
theorem dX7_skips_21 : decode cX7_skips 21 = .ok (.iconst 0, 1) := by decide +kernel
theorem dX7_skips_22 : decode cX7_skips 22 = .ok (.ireturn, 1) := by decide +kernel
theorem dX7_serves_0 : decode cX7_serves 0 = .ok (.aload_n 0, 1) := by decide +kernel
theorem dX7_serves_1 : decode cX7_serves 1 = .ok (.bipush 83, 2) := by decide +kernel
theorem dX7_serves_3 : decode cX7_serves 3 = .ok (.bipush 16, 2) := by decide +kernel
theorem dX7_serves_5 : decode cX7_serves 5 = .ok (.iload_n 1, 1) := by decide +kernel
theorem dX7_serves_6 : decode cX7_serves 6 = .ok (.imul, 1) := by decide +kernel
theorem dX7_serves_7 : decode cX7_serves 7 = .ok (.iadd, 1) := by decide +kernel
theorem dX7_serves_8 : decode cX7_serves 8 = .ok (.iload_n 2, 1) := by decide +kernel
theorem dX7_serves_9 : decode cX7_serves 9 = .ok (.iadd, 1) := by decide +kernel
theorem dX7_serves_10 : decode cX7_serves 10 = .ok (.iaload, 1) := by decide +kernel
theorem dX7_serves_11 : decode cX7_serves 11 = .ok (.iconst 1, 1) := by decide +kernel
theorem dX7_serves_12 : decode cX7_serves 12 = .ok (.if_icmp .ne 7, 3) := by decide +kernel
theorem dX7_serves_15 : decode cX7_serves 15 = .ok (.iconst 1, 1) := by decide +kernel
theorem dX7_serves_16 : decode cX7_serves 16 = .ok (.goto 4, 3) := by decide +kernel
theorem dX7_serves_19 : decode cX7_serves 19 = .ok (.iconst 0, 1) := by decide +kernel
theorem dX7_serves_20 : decode cX7_serves 20 = .ok (.ireturn, 1) := by decide +kernel
theorem dX7_says_0 : decode cX7_says 0 = .ok (.aload_n 0, 1) := by decide +kernel
theorem dX7_says_1 : decode cX7_says 1 = .ok (.bipush 35, 2) := by decide +kernel
theorem dX7_says_3 : decode cX7_says 3 = .ok (.bipush 16, 2) := by decide +kernel
theorem dX7_says_5 : decode cX7_says 5 = .ok (.iload_n 1, 1) := by decide +kernel
theorem dX7_says_6 : decode cX7_says 6 = .ok (.imul, 1) := by decide +kernel
theorem dX7_says_7 : decode cX7_says 7 = .ok (.iadd, 1) := by decide +kernel
theorem dX7_says_8 : decode cX7_says 8 = .ok (.iload_n 2, 1) := by decide +kernel
theorem dX7_says_9 : decode cX7_says 9 = .ok (.iadd, 1) := by decide +kernel
theorem dX7_says_10 : decode cX7_says 10 = .ok (.iaload, 1) := by decide +kernel
theorem dX7_says_11 : decode cX7_says 11 = .ok (.ireturn, 1) := by decide +kernel
theorem dX7_shift_0 : decode cX7_shift 0 = .ok (.aload_n 0, 1) := by decide +kernel
theorem dX7_shift_1 : decode cX7_shift 1 = .ok (.iconst 3, 1) := by decide +kernel
theorem dX7_shift_2 : decode cX7_shift 2 = .ok (.iload_n 2, 1) := by decide +kernel
theorem dX7_shift_3 : decode cX7_shift 3 = .ok (.iadd, 1) := by decide +kernel
theorem dX7_shift_4 : decode cX7_shift 4 = .ok (.aload_n 0, 1) := by decide +kernel
theorem dX7_shift_5 : decode cX7_shift 5 = .ok (.iconst 3, 1) := by decide +kernel
theorem dX7_shift_6 : decode cX7_shift 6 = .ok (.iload_n 1, 1) := by decide +kernel
theorem dX7_shift_7 : decode cX7_shift 7 = .ok (.iadd, 1) := by decide +kernel
theorem dX7_shift_8 : decode cX7_shift 8 = .ok (.iaload, 1) := by decide +kernel
theorem dX7_shift_9 : decode cX7_shift 9 = .ok (.iastore, 1) := by decide +kernel
theorem dX7_shift_10 : decode cX7_shift 10 = .ok (.aload_n 0, 1) := by decide +kernel
theorem dX7_shift_11 : decode cX7_shift 11 = .ok (.bipush 19, 2) := by decide +kernel
theorem dX7_shift_13 : decode cX7_shift 13 = .ok (.iload_n 2, 1) := by decide +kernel
theorem dX7_shift_14 : decode cX7_shift 14 = .ok (.iadd, 1) := by decide +kernel
theorem dX7_shift_15 : decode cX7_shift 15 = .ok (.aload_n 0, 1) := by decide +kernel
theorem dX7_shift_16 : decode cX7_shift 16 = .ok (.bipush 19, 2) := by decide +kernel
theorem dX7_shift_18 : decode cX7_shift 18 = .ok (.iload_n 1, 1) := by decide +kernel
theorem dX7_shift_19 : decode cX7_shift 19 = .ok (.iadd, 1) := by decide +kernel
theorem dX7_shift_20 : decode cX7_shift 20 = .ok (.iaload, 1) := by decide +kernel
theorem dX7_shift_21 : decode cX7_shift 21 = .ok (.iastore, 1) := by decide +kernel
theorem dX7_shift_22 : decode cX7_shift 22 = .ok (.iconst 0, 1) := by decide +kernel
theorem dX7_shift_23 : decode cX7_shift 23 = .ok (.istore_n 3, 1) := by decide +kernel
theorem dX7_shift_24 : decode cX7_shift 24 = .ok (.iload_n 3, 1) := by decide +kernel
theorem dX7_shift_25 : decode cX7_shift 25 = .ok (.iconst 3, 1) := by decide +kernel
theorem dX7_shift_26 : decode cX7_shift 26 = .ok (.if_icmp .ge 53, 3) := by decide +kernel
theorem dX7_shift_29 : decode cX7_shift 29 = .ok (.aload_n 0, 1) := by decide +kernel
theorem dX7_shift_30 : decode cX7_shift 30 = .ok (.bipush 35, 2) := by decide +kernel
theorem dX7_shift_32 : decode cX7_shift 32 = .ok (.bipush 16, 2) := by decide +kernel
theorem dX7_shift_34 : decode cX7_shift 34 = .ok (.iload_n 3, 1) := by decide +kernel
theorem dX7_shift_35 : decode cX7_shift 35 = .ok (.imul, 1) := by decide +kernel
theorem dX7_shift_36 : decode cX7_shift 36 = .ok (.iadd, 1) := by decide +kernel
theorem dX7_shift_37 : decode cX7_shift 37 = .ok (.iload_n 2, 1) := by decide +kernel
theorem dX7_shift_38 : decode cX7_shift 38 = .ok (.iadd, 1) := by decide +kernel
theorem dX7_shift_39 : decode cX7_shift 39 = .ok (.aload_n 0, 1) := by decide +kernel
theorem dX7_shift_40 : decode cX7_shift 40 = .ok (.bipush 35, 2) := by decide +kernel
theorem dX7_shift_42 : decode cX7_shift 42 = .ok (.bipush 16, 2) := by decide +kernel
theorem dX7_shift_44 : decode cX7_shift 44 = .ok (.iload_n 3, 1) := by decide +kernel
theorem dX7_shift_45 : decode cX7_shift 45 = .ok (.imul, 1) := by decide +kernel
theorem dX7_shift_46 : decode cX7_shift 46 = .ok (.iadd, 1) := by decide +kernel
theorem dX7_shift_47 : decode cX7_shift 47 = .ok (.iload_n 1, 1) := by decide +kernel
theorem dX7_shift_48 : decode cX7_shift 48 = .ok (.iadd, 1) := by decide +kernel
theorem dX7_shift_49 : decode cX7_shift 49 = .ok (.iaload, 1) := by decide +kernel
theorem dX7_shift_50 : decode cX7_shift 50 = .ok (.iastore, 1) := by decide +kernel
theorem dX7_shift_51 : decode cX7_shift 51 = .ok (.aload_n 0, 1) := by decide +kernel
theorem dX7_shift_52 : decode cX7_shift 52 = .ok (.bipush 83, 2) := by decide +kernel
theorem dX7_shift_54 : decode cX7_shift 54 = .ok (.bipush 16, 2) := by decide +kernel
theorem dX7_shift_56 : decode cX7_shift 56 = .ok (.iload_n 3, 1) := by decide +kernel
theorem dX7_shift_57 : decode cX7_shift 57 = .ok (.imul, 1) := by decide +kernel
theorem dX7_shift_58 : decode cX7_shift 58 = .ok (.iadd, 1) := by decide +kernel
theorem dX7_shift_59 : decode cX7_shift 59 = .ok (.iload_n 2, 1) := by decide +kernel
theorem dX7_shift_60 : decode cX7_shift 60 = .ok (.iadd, 1) := by decide +kernel
theorem dX7_shift_61 : decode cX7_shift 61 = .ok (.aload_n 0, 1) := by decide +kernel
theorem dX7_shift_62 : decode cX7_shift 62 = .ok (.bipush 83, 2) := by decide +kernel
theorem dX7_shift_64 : decode cX7_shift 64 = .ok (.bipush 16, 2) := by decide +kernel
theorem dX7_shift_66 : decode cX7_shift 66 = .ok (.iload_n 3, 1) := by decide +kernel
theorem dX7_shift_67 : decode cX7_shift 67 = .ok (.imul, 1) := by decide +kernel
theorem dX7_shift_68 : decode cX7_shift 68 = .ok (.iadd, 1) := by decide +kernel
theorem dX7_shift_69 : decode cX7_shift 69 = .ok (.iload_n 1, 1) := by decide +kernel
theorem dX7_shift_70 : decode cX7_shift 70 = .ok (.iadd, 1) := by decide +kernel
theorem dX7_shift_71 : decode cX7_shift 71 = .ok (.iaload, 1) := by decide +kernel
theorem dX7_shift_72 : decode cX7_shift 72 = .ok (.iastore, 1) := by decide +kernel
theorem dX7_shift_73 : decode cX7_shift 73 = .ok (.iinc 3 1, 3) := by decide +kernel
theorem dX7_shift_76 : decode cX7_shift 76 = .ok (.goto (-52), 3) := by decide +kernel
theorem dX7_shift_79 : decode cX7_shift 79 = .ok (.return_, 1) := by decide +kernel
set_option maxRecDepth 20000 in
theorem ggX7_insert_X7_shift : GoodIn wsX7_insert wsX7_shift := goodIn_r _ [4] (by decide +kernel) (by decide +kernel)
set_option maxRecDepth 20000 in
theorem gX7_insert_X7_shift : GoodIn wsX7_insert (va_wsS RX7 57 yX7_shift wsX7_shift) := goodIn_app (goodIn_of _ (by decide +kernel)) ggX7_insert_X7_shift
theorem dX7_insert_0 : decode cX7_insert 0 = .ok (.aload_n 0, 1) := by decide +kernel
theorem dX7_insert_1 : decode cX7_insert 1 = .ok (.iconst 0, 1) := by decide +kernel
theorem dX7_insert_2 : decode cX7_insert 2 = .ok (.iaload, 1) := by decide +kernel
theorem dX7_insert_3 : decode cX7_insert 3 = .ok (.iconst 1, 1) := by decide +kernel
theorem dX7_insert_4 : decode cX7_insert 4 = .ok (.isub, 1) := by decide +kernel
theorem dX7_insert_5 : decode cX7_insert 5 = .ok (.istore_n 3, 1) := by decide +kernel
theorem dX7_insert_6 : decode cX7_insert 6 = .ok (.iload_n 3, 1) := by decide +kernel
theorem dX7_insert_7 : decode cX7_insert 7 = .ok (.iload_n 1, 1) := by decide +kernel
theorem dX7_insert_8 : decode cX7_insert 8 = .ok (.if_icmp .lt 17, 3) := by decide +kernel
theorem dX7_insert_11 : decode cX7_insert 11 = .ok (.aload_n 0, 1) := by decide +kernel
theorem dX7_insert_12 : decode cX7_insert 12 = .ok (.iload_n 3, 1) := by decide +kernel
theorem dX7_insert_13 : decode cX7_insert 13 = .ok (.iload_n 3, 1) := by decide +kernel
theorem dX7_insert_14 : decode cX7_insert 14 = .ok (.iconst 1, 1) := by decide +kernel
theorem dX7_insert_15 : decode cX7_insert 15 = .ok (.iadd, 1) := by decide +kernel
theorem dX7_insert_16 : decode cX7_insert 16 = .ok (.invokestatic 57, 3) := by decide +kernel
theorem dX7_insert_19 : decode cX7_insert 19 = .ok (.iinc 3 (-1), 3) := by decide +kernel
theorem dX7_insert_22 : decode cX7_insert 22 = .ok (.goto (-16), 3) := by decide +kernel
theorem dX7_insert_25 : decode cX7_insert 25 = .ok (.aload_n 0, 1) := by decide +kernel
theorem dX7_insert_26 : decode cX7_insert 26 = .ok (.iconst 1, 1) := by decide +kernel
theorem dX7_insert_27 : decode cX7_insert 27 = .ok (.dup2, 1) := by decide +kernel
theorem dX7_insert_28 : decode cX7_insert 28 = .ok (.iaload, 1) := by decide +kernel
theorem dX7_insert_29 : decode cX7_insert 29 = .ok (.iload_n 1, 1) := by decide +kernel
theorem dX7_insert_30 : decode cX7_insert 30 = .ok (.aload_n 0, 1) := by decide +kernel
theorem dX7_insert_31 : decode cX7_insert 31 = .ok (.iconst 1, 1) := by decide +kernel
theorem dX7_insert_32 : decode cX7_insert 32 = .ok (.iaload, 1) := by decide +kernel
theorem dX7_insert_33 : decode cX7_insert 33 = .ok (.if_icmp .gt 13, 3) := by decide +kernel
theorem dX7_insert_36 : decode cX7_insert 36 = .ok (.aload_n 0, 1) := by decide +kernel
theorem dX7_insert_37 : decode cX7_insert 37 = .ok (.iconst 0, 1) := by decide +kernel
theorem dX7_insert_38 : decode cX7_insert 38 = .ok (.iaload, 1) := by decide +kernel
theorem dX7_insert_39 : decode cX7_insert 39 = .ok (.ifCond .le 7, 3) := by decide +kernel
theorem dX7_insert_42 : decode cX7_insert 42 = .ok (.iconst 1, 1) := by decide +kernel
theorem dX7_insert_43 : decode cX7_insert 43 = .ok (.goto 4, 3) := by decide +kernel
theorem dX7_insert_46 : decode cX7_insert 46 = .ok (.iconst 0, 1) := by decide +kernel
theorem dX7_insert_47 : decode cX7_insert 47 = .ok (.iadd, 1) := by decide +kernel
theorem dX7_insert_48 : decode cX7_insert 48 = .ok (.iastore, 1) := by decide +kernel
theorem dX7_insert_49 : decode cX7_insert 49 = .ok (.aload_n 0, 1) := by decide +kernel
theorem dX7_insert_50 : decode cX7_insert 50 = .ok (.iconst 3, 1) := by decide +kernel
theorem dX7_insert_51 : decode cX7_insert 51 = .ok (.iload_n 1, 1) := by decide +kernel
theorem dX7_insert_52 : decode cX7_insert 52 = .ok (.iadd, 1) := by decide +kernel
theorem dX7_insert_53 : decode cX7_insert 53 = .ok (.iload_n 2, 1) := by decide +kernel
theorem dX7_insert_54 : decode cX7_insert 54 = .ok (.iastore, 1) := by decide +kernel
theorem dX7_insert_55 : decode cX7_insert 55 = .ok (.aload_n 0, 1) := by decide +kernel
theorem dX7_insert_56 : decode cX7_insert 56 = .ok (.bipush 19, 2) := by decide +kernel
theorem dX7_insert_58 : decode cX7_insert 58 = .ok (.iload_n 1, 1) := by decide +kernel
theorem dX7_insert_59 : decode cX7_insert 59 = .ok (.iadd, 1) := by decide +kernel
theorem dX7_insert_60 : decode cX7_insert 60 = .ok (.iconst (-1), 1) := by decide +kernel
theorem dX7_insert_61 : decode cX7_insert 61 = .ok (.iastore, 1) := by decide +kernel
theorem dX7_insert_62 : decode cX7_insert 62 = .ok (.iconst 0, 1) := by decide +kernel
theorem dX7_insert_63 : decode cX7_insert 63 = .ok (.istore_n 3, 1) := by decide +kernel
theorem dX7_insert_64 : decode cX7_insert 64 = .ok (.iload_n 3, 1) := by decide +kernel
theorem dX7_insert_65 : decode cX7_insert 65 = .ok (.iconst 3, 1) := by decide +kernel
theorem dX7_insert_66 : decode cX7_insert 66 = .ok (.if_icmp .ge 33, 3) := by decide +kernel
theorem dX7_insert_69 : decode cX7_insert 69 = .ok (.aload_n 0, 1) := by decide +kernel
theorem dX7_insert_70 : decode cX7_insert 70 = .ok (.bipush 35, 2) := by decide +kernel
theorem dX7_insert_72 : decode cX7_insert 72 = .ok (.bipush 16, 2) := by decide +kernel
theorem dX7_insert_74 : decode cX7_insert 74 = .ok (.iload_n 3, 1) := by decide +kernel
theorem dX7_insert_75 : decode cX7_insert 75 = .ok (.imul, 1) := by decide +kernel
theorem dX7_insert_76 : decode cX7_insert 76 = .ok (.iadd, 1) := by decide +kernel
theorem dX7_insert_77 : decode cX7_insert 77 = .ok (.iload_n 1, 1) := by decide +kernel
theorem dX7_insert_78 : decode cX7_insert 78 = .ok (.iadd, 1) := by decide +kernel
theorem dX7_insert_79 : decode cX7_insert 79 = .ok (.iconst (-1), 1) := by decide +kernel
theorem dX7_insert_80 : decode cX7_insert 80 = .ok (.iastore, 1) := by decide +kernel
theorem dX7_insert_81 : decode cX7_insert 81 = .ok (.aload_n 0, 1) := by decide +kernel
theorem dX7_insert_82 : decode cX7_insert 82 = .ok (.bipush 83, 2) := by decide +kernel
theorem dX7_insert_84 : decode cX7_insert 84 = .ok (.bipush 16, 2) := by decide +kernel
theorem dX7_insert_86 : decode cX7_insert 86 = .ok (.iload_n 3, 1) := by decide +kernel
theorem dX7_insert_87 : decode cX7_insert 87 = .ok (.imul, 1) := by decide +kernel
theorem dX7_insert_88 : decode cX7_insert 88 = .ok (.iadd, 1) := by decide +kernel
theorem dX7_insert_89 : decode cX7_insert 89 = .ok (.iload_n 1, 1) := by decide +kernel
theorem dX7_insert_90 : decode cX7_insert 90 = .ok (.iadd, 1) := by decide +kernel
theorem dX7_insert_91 : decode cX7_insert 91 = .ok (.iconst 1, 1) := by decide +kernel
theorem dX7_insert_92 : decode cX7_insert 92 = .ok (.iastore, 1) := by decide +kernel
theorem dX7_insert_93 : decode cX7_insert 93 = .ok (.iinc 3 1, 3) := by decide +kernel
theorem dX7_insert_96 : decode cX7_insert 96 = .ok (.goto (-32), 3) := by decide +kernel
theorem dX7_insert_99 : decode cX7_insert 99 = .ok (.aload_n 0, 1) := by decide +kernel
theorem dX7_insert_100 : decode cX7_insert 100 = .ok (.iconst 0, 1) := by decide +kernel
theorem dX7_insert_101 : decode cX7_insert 101 = .ok (.dup2, 1) := by decide +kernel
theorem dX7_insert_102 : decode cX7_insert 102 = .ok (.iaload, 1) := by decide +kernel
theorem dX7_insert_103 : decode cX7_insert 103 = .ok (.iconst 1, 1) := by decide +kernel
theorem dX7_insert_104 : decode cX7_insert 104 = .ok (.iadd, 1) := by decide +kernel
theorem dX7_insert_105 : decode cX7_insert 105 = .ok (.iastore, 1) := by decide +kernel
theorem dX7_insert_106 : decode cX7_insert 106 = .ok (.aload_n 0, 1) := by decide +kernel
theorem dX7_insert_107 : decode cX7_insert 107 = .ok (.iconst 0, 1) := by decide +kernel
theorem dX7_insert_108 : decode cX7_insert 108 = .ok (.iaload, 1) := by decide +kernel
theorem dX7_insert_109 : decode cX7_insert 109 = .ok (.ireturn, 1) := by decide +kernel
set_option maxRecDepth 20000 in
theorem ggX7_removeOn_X7_shift : GoodIn wsX7_removeOn wsX7_shift := goodIn_r _ [4] (by decide +kernel) (by decide +kernel)
set_option maxRecDepth 20000 in
theorem gX7_removeOn_X7_shift : GoodIn wsX7_removeOn (va_wsS RX7 57 yX7_shift wsX7_shift) := goodIn_app (goodIn_of _ (by decide +kernel)) ggX7_removeOn_X7_shift
theorem dX7_removeOn_0 : decode cX7_removeOn 0 = .ok (.aload_n 0, 1) := by decide +kernel
theorem dX7_removeOn_1 : decode cX7_removeOn 1 = .ok (.iconst 0, 1) := by decide +kernel
theorem dX7_removeOn_2 : decode cX7_removeOn 2 = .ok (.dup2, 1) := by decide +kernel
theorem dX7_removeOn_3 : decode cX7_removeOn 3 = .ok (.iaload, 1) := by decide +kernel
theorem dX7_removeOn_4 : decode cX7_removeOn 4 = .ok (.iconst 1, 1) := by decide +kernel
theorem dX7_removeOn_5 : decode cX7_removeOn 5 = .ok (.isub, 1) := by decide +kernel
theorem dX7_removeOn_6 : decode cX7_removeOn 6 = .ok (.iastore, 1) := by decide +kernel
theorem dX7_removeOn_7 : decode cX7_removeOn 7 = .ok (.iload_n 1, 1) := by decide +kernel
theorem dX7_removeOn_8 : decode cX7_removeOn 8 = .ok (.istore_n 2, 1) := by decide +kernel
theorem dX7_removeOn_9 : decode cX7_removeOn 9 = .ok (.iload_n 2, 1) := by decide +kernel
theorem dX7_removeOn_10 : decode cX7_removeOn 10 = .ok (.aload_n 0, 1) := by decide +kernel
theorem dX7_removeOn_11 : decode cX7_removeOn 11 = .ok (.iconst 0, 1) := by decide +kernel
theorem dX7_removeOn_12 : decode cX7_removeOn 12 = .ok (.iaload, 1) := by decide +kernel
theorem dX7_removeOn_13 : decode cX7_removeOn 13 = .ok (.if_icmp .ge 17, 3) := by decide +kernel
theorem dX7_removeOn_16 : decode cX7_removeOn 16 = .ok (.aload_n 0, 1) := by decide +kernel
theorem dX7_removeOn_17 : decode cX7_removeOn 17 = .ok (.iload_n 2, 1) := by decide +kernel
theorem dX7_removeOn_18 : decode cX7_removeOn 18 = .ok (.iconst 1, 1) := by decide +kernel
theorem dX7_removeOn_19 : decode cX7_removeOn 19 = .ok (.iadd, 1) := by decide +kernel
theorem dX7_removeOn_20 : decode cX7_removeOn 20 = .ok (.iload_n 2, 1) := by decide +kernel
theorem dX7_removeOn_21 : decode cX7_removeOn 21 = .ok (.invokestatic 57, 3) := by decide +kernel
theorem dX7_removeOn_24 : decode cX7_removeOn 24 = .ok (.iinc 2 1, 3) := by decide +kernel
theorem dX7_removeOn_27 : decode cX7_removeOn 27 = .ok (.goto (-18), 3) := by decide +kernel
theorem dX7_removeOn_30 : decode cX7_removeOn 30 = .ok (.aload_n 0, 1) := by decide +kernel
theorem dX7_removeOn_31 : decode cX7_removeOn 31 = .ok (.iconst 1, 1) := by decide +kernel
theorem dX7_removeOn_32 : decode cX7_removeOn 32 = .ok (.dup2, 1) := by decide +kernel
theorem dX7_removeOn_33 : decode cX7_removeOn 33 = .ok (.iaload, 1) := by decide +kernel
theorem dX7_removeOn_34 : decode cX7_removeOn 34 = .ok (.iload_n 1, 1) := by decide +kernel
theorem dX7_removeOn_35 : decode cX7_removeOn 35 = .ok (.aload_n 0, 1) := by decide +kernel
theorem dX7_removeOn_36 : decode cX7_removeOn 36 = .ok (.iconst 1, 1) := by decide +kernel
theorem dX7_removeOn_37 : decode cX7_removeOn 37 = .ok (.iaload, 1) := by decide +kernel
theorem dX7_removeOn_38 : decode cX7_removeOn 38 = .ok (.if_icmp .ge 7, 3) := by decide +kernel
theorem dX7_removeOn_41 : decode cX7_removeOn 41 = .ok (.iconst 1, 1) := by decide +kernel
theorem dX7_removeOn_42 : decode cX7_removeOn 42 = .ok (.goto 4, 3) := by decide +kernel
theorem dX7_removeOn_45 : decode cX7_removeOn 45 = .ok (.iconst 0, 1) := by decide +kernel
theorem dX7_removeOn_46 : decode cX7_removeOn 46 = .ok (.isub, 1) := by decide +kernel
theorem dX7_removeOn_47 : decode cX7_removeOn 47 = .ok (.iastore, 1) := by decide +kernel
theorem dX7_removeOn_48 : decode cX7_removeOn 48 = .ok (.aload_n 0, 1) := by decide +kernel
theorem dX7_removeOn_49 : decode cX7_removeOn 49 = .ok (.iconst 0, 1) := by decide +kernel
theorem dX7_removeOn_50 : decode cX7_removeOn 50 = .ok (.iaload, 1) := by decide +kernel
theorem dX7_removeOn_51 : decode cX7_removeOn 51 = .ok (.ireturn, 1) := by decide +kernel
theorem dX7_near_0 : decode cX7_near 0 = .ok (.iload_n 2, 1) := by decide +kernel
theorem dX7_near_1 : decode cX7_near 1 = .ok (.istore 5, 2) := by decide +kernel
theorem dX7_near_3 : decode cX7_near 3 = .ok (.aload_n 1, 1) := by decide +kernel
theorem dX7_near_4 : decode cX7_near 4 = .ok (.iconst 3, 1) := by decide +kernel
theorem dX7_near_5 : decode cX7_near 5 = .ok (.iload 5, 2) := by decide +kernel
theorem dX7_near_7 : decode cX7_near 7 = .ok (.iadd, 1) := by decide +kernel
theorem dX7_near_8 : decode cX7_near 8 = .ok (.iaload, 1) := by decide +kernel
theorem dX7_near_9 : decode cX7_near 9 = .ok (.iconst 3, 1) := by decide +kernel
theorem dX7_near_10 : decode cX7_near 10 = .ok (.if_icmp .eq 18, 3) := by decide +kernel
theorem dX7_near_13 : decode cX7_near 13 = .ok (.iload 4, 2) := by decide +kernel
theorem dX7_near_15 : decode cX7_near 15 = .ok (.ifCond .eq 22, 3) := by decide +kernel
theorem dX7_near_18 : decode cX7_near 18 = .ok (.aload_n 1, 1) := by decide +kernel
theorem dX7_near_19 : decode cX7_near 19 = .ok (.iconst 3, 1) := by decide +kernel
theorem dX7_near_20 : decode cX7_near 20 = .ok (.iload 5, 2) := by decide +kernel
theorem dX7_near_22 : decode cX7_near 22 = .ok (.iadd, 1) := by decide +kernel
theorem dX7_near_23 : decode cX7_near 23 = .ok (.iaload, 1) := by decide +kernel
theorem dX7_near_24 : decode cX7_near 24 = .ok (.iconst 1, 1) := by decide +kernel
theorem dX7_near_25 : decode cX7_near 25 = .ok (.if_icmp .ne 12, 3) := by decide +kernel
theorem dX7_near_28 : decode cX7_near 28 = .ok (.iload 5, 2) := by decide +kernel
theorem dX7_near_30 : decode cX7_near 30 = .ok (.iload_n 3, 1) := by decide +kernel
theorem dX7_near_31 : decode cX7_near 31 = .ok (.iadd, 1) := by decide +kernel
theorem dX7_near_32 : decode cX7_near 32 = .ok (.istore 5, 2) := by decide +kernel
theorem dX7_near_34 : decode cX7_near 34 = .ok (.goto (-31), 3) := by decide +kernel
theorem dX7_near_37 : decode cX7_near 37 = .ok (.aload_n 0, 1) := by decide +kernel
theorem dX7_near_38 : decode cX7_near 38 = .ok (.getfield 32, 3) := by decide +kernel
theorem dX7_near_41 : decode cX7_near 41 = .ok (.iload 5, 2) := by decide +kernel
theorem dX7_near_43 : decode cX7_near 43 = .ok (.iaload, 1) := by decide +kernel
theorem dX7_near_44 : decode cX7_near 44 = .ok (.ireturn, 1) := by decide +kernel
set_option maxRecDepth 20000 in
theorem ggX7_nameLevel_X7_near : GoodIn wsX7_nameLevel wsX7_near := goodIn_r _ [7, 1, 8, 9, 10, 11, 12, 13, 14, 15, 16, 17, 18] (by decide +kernel) (by decide +kernel)
set_option maxRecDepth 20000 in
theorem gX7_nameLevel_X7_near : GoodIn wsX7_nameLevel (wsV RX7 61 RX7 yX7_near wsX7_near) := goodIn_app (goodIn_of _ (by decide +kernel)) ggX7_nameLevel_X7_near
theorem dX7_nameLevel_0 : decode cX7_nameLevel 0 = .ok (.aload_n 1, 1) := by decide +kernel
theorem dX7_nameLevel_1 : decode cX7_nameLevel 1 = .ok (.iconst 3, 1) := by decide +kernel
theorem dX7_nameLevel_2 : decode cX7_nameLevel 2 = .ok (.iload_n 2, 1) := by decide +kernel
theorem dX7_nameLevel_3 : decode cX7_nameLevel 3 = .ok (.iadd, 1) := by decide +kernel
theorem dX7_nameLevel_4 : decode cX7_nameLevel 4 = .ok (.iaload, 1) := by decide +kernel
theorem dX7_nameLevel_5 : decode cX7_nameLevel 5 = .ok (.istore 5, 2) := by decide +kernel
theorem dX7_nameLevel_7 : decode cX7_nameLevel 7 = .ok (.aload_n 0, 1) := by decide +kernel
theorem dX7_nameLevel_8 : decode cX7_nameLevel 8 = .ok (.getfield 32, 3) := by decide +kernel
theorem dX7_nameLevel_11 : decode cX7_nameLevel 11 = .ok (.iload_n 2, 1) := by decide +kernel
theorem dX7_nameLevel_12 : decode cX7_nameLevel 12 = .ok (.iload 5, 2) := by decide +kernel
theorem dX7_nameLevel_14 : decode cX7_nameLevel 14 = .ok (.ifCond .ne 8, 3) := by decide +kernel
theorem dX7_nameLevel_17 : decode cX7_nameLevel 17 = .ok (.iload 4, 2) := by decide +kernel
theorem dX7_nameLevel_19 : decode cX7_nameLevel 19 = .ok (.goto 24, 3) := by decide +kernel
theorem dX7_nameLevel_22 : decode cX7_nameLevel 22 = .ok (.aload_n 0, 1) := by decide +kernel
theorem dX7_nameLevel_23 : decode cX7_nameLevel 23 = .ok (.aload_n 1, 1) := by decide +kernel
theorem dX7_nameLevel_24 : decode cX7_nameLevel 24 = .ok (.iload_n 2, 1) := by decide +kernel
theorem dX7_nameLevel_25 : decode cX7_nameLevel 25 = .ok (.iload_n 3, 1) := by decide +kernel
theorem dX7_nameLevel_26 : decode cX7_nameLevel 26 = .ok (.isub, 1) := by decide +kernel
theorem dX7_nameLevel_27 : decode cX7_nameLevel 27 = .ok (.iload_n 3, 1) := by decide +kernel
theorem dX7_nameLevel_28 : decode cX7_nameLevel 28 = .ok (.ineg, 1) := by decide +kernel
theorem dX7_nameLevel_29 : decode cX7_nameLevel 29 = .ok (.iload 5, 2) := by decide +kernel
theorem dX7_nameLevel_31 : decode cX7_nameLevel 31 = .ok (.iconst 2, 1) := by decide +kernel
theorem dX7_nameLevel_32 : decode cX7_nameLevel 32 = .ok (.if_icmp .ne 7, 3) := by decide +kernel
theorem dX7_nameLevel_35 : decode cX7_nameLevel 35 = .ok (.iconst 1, 1) := by decide +kernel
theorem dX7_nameLevel_36 : decode cX7_nameLevel 36 = .ok (.goto 4, 3) := by decide +kernel
theorem dX7_nameLevel_39 : decode cX7_nameLevel 39 = .ok (.iconst 0, 1) := by decide +kernel
theorem dX7_nameLevel_40 : decode cX7_nameLevel 40 = .ok (.invokevirtual 61, 3) := by decide +kernel
theorem dX7_nameLevel_43 : decode cX7_nameLevel 43 = .ok (.iastore, 1) := by decide +kernel
theorem dX7_nameLevel_44 : decode cX7_nameLevel 44 = .ok (.aload_n 0, 1) := by decide +kernel
theorem dX7_nameLevel_45 : decode cX7_nameLevel 45 = .ok (.getfield 29, 3) := by decide +kernel
theorem dX7_nameLevel_48 : decode cX7_nameLevel 48 = .ok (.iload_n 2, 1) := by decide +kernel
theorem dX7_nameLevel_49 : decode cX7_nameLevel 49 = .ok (.iload 5, 2) := by decide +kernel
theorem dX7_nameLevel_51 : decode cX7_nameLevel 51 = .ok (.iconst 3, 1) := by decide +kernel
theorem dX7_nameLevel_52 : decode cX7_nameLevel 52 = .ok (.if_icmp .ne 7, 3) := by decide +kernel
theorem dX7_nameLevel_55 : decode cX7_nameLevel 55 = .ok (.iconst (-1), 1) := by decide +kernel
theorem dX7_nameLevel_56 : decode cX7_nameLevel 56 = .ok (.goto 14, 3) := by decide +kernel
theorem dX7_nameLevel_59 : decode cX7_nameLevel 59 = .ok (.iconst 4, 1) := by decide +kernel
theorem dX7_nameLevel_60 : decode cX7_nameLevel 60 = .ok (.aload_n 0, 1) := by decide +kernel
theorem dX7_nameLevel_61 : decode cX7_nameLevel 61 = .ok (.getfield 32, 3) := by decide +kernel
theorem dX7_nameLevel_64 : decode cX7_nameLevel 64 = .ok (.iload_n 2, 1) := by decide +kernel
theorem dX7_nameLevel_65 : decode cX7_nameLevel 65 = .ok (.iaload, 1) := by decide +kernel
theorem dX7_nameLevel_66 : decode cX7_nameLevel 66 = .ok (.imul, 1) := by decide +kernel
theorem dX7_nameLevel_67 : decode cX7_nameLevel 67 = .ok (.iload 5, 2) := by decide +kernel
theorem dX7_nameLevel_69 : decode cX7_nameLevel 69 = .ok (.iadd, 1) := by decide +kernel
theorem dX7_nameLevel_70 : decode cX7_nameLevel 70 = .ok (.iastore, 1) := by decide +kernel
theorem dX7_nameLevel_71 : decode cX7_nameLevel 71 = .ok (.return_, 1) := by decide +kernel
set_option maxRecDepth 20000 in
theorem ggX7_name_X7_skips : GoodIn wsX7_name wsX7_skips := goodIn_r _ [6] (by decide +kernel) (by decide +kernel)
set_option maxRecDepth 20000 in
theorem gX7_name_X7_skips : GoodIn wsX7_name (va_wsS RX7 65 yX7_skips wsX7_skips) := goodIn_app (goodIn_of _ (by decide +kernel)) ggX7_name_X7_skips
set_option maxRecDepth 20000 in
theorem ggX7_name_X7_nameLevel : GoodIn wsX7_name wsX7_nameLevel := goodIn_r _ [10, 1, 2, 11, 12, 13, 5, 14, 15, 16, 17, 18, 19, 20, 21, 22, 23, 24, 25] (by decide +kernel) (by decide +kernel)
set_option maxRecDepth 20000 in
theorem gX7_name_X7_nameLevel : GoodIn wsX7_name (wsV RX7 69 RX7 yX7_nameLevel wsX7_nameLevel) := goodIn_app (goodIn_of _ (by decide +kernel)) ggX7_name_X7_nameLevel
theorem dX7_name_0 : decode cX7_name 0 = .ok (.aload_n 1, 1) := by decide +kernel
theorem dX7_name_1 : decode cX7_name 1 = .ok (.iconst 1, 1) := by decide +kernel
theorem dX7_name_2 : decode cX7_name 2 = .ok (.iaload, 1) := by decide +kernel
theorem dX7_name_3 : decode cX7_name 3 = .ok (.istore_n 2, 1) := by decide +kernel
theorem dX7_name_4 : decode cX7_name 4 = .ok (.aload_n 0, 1) := by decide +kernel
theorem dX7_name_5 : decode cX7_name 5 = .ok (.getfield 32, 3) := by decide +kernel
theorem dX7_name_8 : decode cX7_name 8 = .ok (.iload_n 2, 1) := by decide +kernel
theorem dX7_name_9 : decode cX7_name 9 = .ok (.iconst 0, 1) := by decide +kernel
theorem dX7_name_10 : decode cX7_name 10 = .ok (.iastore, 1) := by decide +kernel
theorem dX7_name_11 : decode cX7_name 11 = .ok (.aload_n 0, 1) := by decide +kernel
theorem dX7_name_12 : decode cX7_name 12 = .ok (.getfield 29, 3) := by decide +kernel
theorem dX7_name_15 : decode cX7_name 15 = .ok (.iload_n 2, 1) := by decide +kernel
theorem dX7_name_16 : decode cX7_name 16 = .ok (.iconst 0, 1) := by decide +kernel
theorem dX7_name_17 : decode cX7_name 17 = .ok (.iastore, 1) := by decide +kernel
theorem dX7_name_18 : decode cX7_name 18 = .ok (.iconst 0, 1) := by decide +kernel
theorem dX7_name_19 : decode cX7_name 19 = .ok (.istore_n 3, 1) := by decide +kernel
theorem dX7_name_20 : decode cX7_name 20 = .ok (.iload_n 2, 1) := by decide +kernel
theorem dX7_name_21 : decode cX7_name 21 = .ok (.iconst 1, 1) := by decide +kernel
theorem dX7_name_22 : decode cX7_name 22 = .ok (.iadd, 1) := by decide +kernel
theorem dX7_name_23 : decode cX7_name 23 = .ok (.istore 4, 2) := by decide +kernel
theorem dX7_name_25 : decode cX7_name 25 = .ok (.iload 4, 2) := by decide +kernel
theorem dX7_name_27 : decode cX7_name 27 = .ok (.aload_n 1, 1) := by decide +kernel
theorem dX7_name_28 : decode cX7_name 28 = .ok (.iconst 0, 1) := by decide +kernel
theorem dX7_name_29 : decode cX7_name 29 = .ok (.iaload, 1) := by decide +kernel
theorem dX7_name_30 : decode cX7_name 30 = .ok (.if_icmp .ge 44, 3) := by decide +kernel
theorem dX7_name_33 : decode cX7_name 33 = .ok (.aload_n 1, 1) := by decide +kernel
theorem dX7_name_34 : decode cX7_name 34 = .ok (.iconst 3, 1) := by decide +kernel
theorem dX7_name_35 : decode cX7_name 35 = .ok (.iload 4, 2) := by decide +kernel
theorem dX7_name_37 : decode cX7_name 37 = .ok (.iadd, 1) := by decide +kernel
theorem dX7_name_38 : decode cX7_name 38 = .ok (.iaload, 1) := by decide +kernel
theorem dX7_name_39 : decode cX7_name 39 = .ok (.ifCond .ne 20, 3) := by decide +kernel
theorem dX7_name_42 : decode cX7_name 42 = .ok (.iinc 3 1, 3) := by decide +kernel
theorem dX7_name_45 : decode cX7_name 45 = .ok (.aload_n 1, 1) := by decide +kernel
theorem dX7_name_46 : decode cX7_name 46 = .ok (.iload_n 3, 1) := by decide +kernel
theorem dX7_name_47 : decode cX7_name 47 = .ok (.invokestatic 65, 3) := by decide +kernel
theorem dX7_name_50 : decode cX7_name 50 = .ok (.ifCond .eq 9, 3) := by decide +kernel
theorem dX7_name_53 : decode cX7_name 53 = .ok (.iinc 3 1, 3) := by decide +kernel
theorem dX7_name_56 : decode cX7_name 56 = .ok (.goto (-11), 3) := by decide +kernel
theorem dX7_name_59 : decode cX7_name 59 = .ok (.aload_n 0, 1) := by decide +kernel
theorem dX7_name_60 : decode cX7_name 60 = .ok (.aload_n 1, 1) := by decide +kernel
theorem dX7_name_61 : decode cX7_name 61 = .ok (.iload 4, 2) := by decide +kernel
theorem dX7_name_63 : decode cX7_name 63 = .ok (.iconst 1, 1) := by decide +kernel
theorem dX7_name_64 : decode cX7_name 64 = .ok (.iload_n 3, 1) := by decide +kernel
theorem dX7_name_65 : decode cX7_name 65 = .ok (.invokevirtual 69, 3) := by decide +kernel
theorem dX7_name_68 : decode cX7_name 68 = .ok (.iinc 4 1, 3) := by decide +kernel
theorem dX7_name_71 : decode cX7_name 71 = .ok (.goto (-46), 3) := by decide +kernel
theorem dX7_name_74 : decode cX7_name 74 = .ok (.iconst 0, 1) := by decide +kernel
theorem dX7_name_75 : decode cX7_name 75 = .ok (.istore_n 3, 1) := by decide +kernel
theorem dX7_name_76 : decode cX7_name 76 = .ok (.iload_n 2, 1) := by decide +kernel
theorem dX7_name_77 : decode cX7_name 77 = .ok (.iconst 1, 1) := by decide +kernel
theorem dX7_name_78 : decode cX7_name 78 = .ok (.isub, 1) := by decide +kernel
theorem dX7_name_79 : decode cX7_name 79 = .ok (.istore 4, 2) := by decide +kernel
theorem dX7_name_81 : decode cX7_name 81 = .ok (.iload 4, 2) := by decide +kernel
theorem dX7_name_83 : decode cX7_name 83 = .ok (.ifCond .lt 35, 3) := by decide +kernel
theorem dX7_name_86 : decode cX7_name 86 = .ok (.iload_n 3, 1) := by decide +kernel
theorem dX7_name_87 : decode cX7_name 87 = .ok (.aload_n 1, 1) := by decide +kernel
theorem dX7_name_88 : decode cX7_name 88 = .ok (.iconst 3, 1) := by decide +kernel
theorem dX7_name_89 : decode cX7_name 89 = .ok (.iload 4, 2) := by decide +kernel
theorem dX7_name_91 : decode cX7_name 91 = .ok (.iadd, 1) := by decide +kernel
theorem dX7_name_92 : decode cX7_name 92 = .ok (.iaload, 1) := by decide +kernel
theorem dX7_name_93 : decode cX7_name 93 = .ok (.ifCond .ne 7, 3) := by decide +kernel
theorem dX7_name_96 : decode cX7_name 96 = .ok (.iconst 1, 1) := by decide +kernel
theorem dX7_name_97 : decode cX7_name 97 = .ok (.goto 4, 3) := by decide +kernel
theorem dX7_name_100 : decode cX7_name 100 = .ok (.iconst 0, 1) := by decide +kernel
theorem dX7_name_101 : decode cX7_name 101 = .ok (.isub, 1) := by decide +kernel
theorem dX7_name_102 : decode cX7_name 102 = .ok (.istore_n 3, 1) := by decide +kernel
theorem dX7_name_103 : decode cX7_name 103 = .ok (.aload_n 0, 1) := by decide +kernel
theorem dX7_name_104 : decode cX7_name 104 = .ok (.aload_n 1, 1) := by decide +kernel
theorem dX7_name_105 : decode cX7_name 105 = .ok (.iload 4, 2) := by decide +kernel
theorem dX7_name_107 : decode cX7_name 107 = .ok (.iconst (-1), 1) := by decide +kernel
theorem dX7_name_108 : decode cX7_name 108 = .ok (.iload_n 3, 1) := by decide +kernel
theorem dX7_name_109 : decode cX7_name 109 = .ok (.invokevirtual 69, 3) := by decide +kernel
theorem dX7_name_112 : decode cX7_name 112 = .ok (.iinc 4 (-1), 3) := by decide +kernel
theorem dX7_name_115 : decode cX7_name 115 = .ok (.goto (-34), 3) := by decide +kernel
theorem dX7_name_118 : decode cX7_name 118 = .ok (.return_, 1) := by decide +kernel
theorem dX7_wrongSigns_0 : decode cX7_wrongSigns 0 = .ok (.iconst 0, 1) := by decide +kernel
theorem dX7_wrongSigns_1 : decode cX7_wrongSigns 1 = .ok (.istore_n 2, 1) := by decide +kernel
theorem dX7_wrongSigns_2 : decode cX7_wrongSigns 2 = .ok (.iconst 0, 1) := by decide +kernel
theorem dX7_wrongSigns_3 : decode cX7_wrongSigns 3 = .ok (.istore_n 3, 1) := by decide +kernel
theorem dX7_wrongSigns_4 : decode cX7_wrongSigns 4 = .ok (.iload_n 3, 1) := by decide +kernel
theorem dX7_wrongSigns_5 : decode cX7_wrongSigns 5 = .ok (.aload_n 1, 1) := by decide +kernel
theorem dX7_wrongSigns_6 : decode cX7_wrongSigns 6 = .ok (.iconst 0, 1) := by decide +kernel
theorem dX7_wrongSigns_7 : decode cX7_wrongSigns 7 = .ok (.iaload, 1) := by decide +kernel
theorem dX7_wrongSigns_8 : decode cX7_wrongSigns 8 = .ok (.if_icmp .ge 32, 3) := by decide +kernel
theorem dX7_wrongSigns_11 : decode cX7_wrongSigns 11 = .ok (.iload_n 2, 1) := by decide +kernel
theorem dX7_wrongSigns_12 : decode cX7_wrongSigns 12 = .ok (.aload_n 1, 1) := by decide +kernel
theorem dX7_wrongSigns_13 : decode cX7_wrongSigns 13 = .ok (.bipush 19, 2) := by decide +kernel
theorem dX7_wrongSigns_15 : decode cX7_wrongSigns 15 = .ok (.iload_n 3, 1) := by decide +kernel
theorem dX7_wrongSigns_16 : decode cX7_wrongSigns 16 = .ok (.iadd, 1) := by decide +kernel
theorem dX7_wrongSigns_17 : decode cX7_wrongSigns 17 = .ok (.iaload, 1) := by decide +kernel
theorem dX7_wrongSigns_18 : decode cX7_wrongSigns 18 = .ok (.aload_n 0, 1) := by decide +kernel
theorem dX7_wrongSigns_19 : decode cX7_wrongSigns 19 = .ok (.getfield 29, 3) := by decide +kernel
theorem dX7_wrongSigns_22 : decode cX7_wrongSigns 22 = .ok (.iload_n 3, 1) := by decide +kernel
theorem dX7_wrongSigns_23 : decode cX7_wrongSigns 23 = .ok (.iaload, 1) := by decide +kernel
theorem dX7_wrongSigns_24 : decode cX7_wrongSigns 24 = .ok (.if_icmp .ne 7, 3) := by decide +kernel
theorem dX7_wrongSigns_27 : decode cX7_wrongSigns 27 = .ok (.iconst 0, 1) := by decide +kernel
theorem dX7_wrongSigns_28 : decode cX7_wrongSigns 28 = .ok (.goto 4, 3) := by decide +kernel
theorem dX7_wrongSigns_31 : decode cX7_wrongSigns 31 = .ok (.iconst 1, 1) := by decide +kernel
theorem dX7_wrongSigns_32 : decode cX7_wrongSigns 32 = .ok (.iadd, 1) := by decide +kernel
theorem dX7_wrongSigns_33 : decode cX7_wrongSigns 33 = .ok (.istore_n 2, 1) := by decide +kernel
theorem dX7_wrongSigns_34 : decode cX7_wrongSigns 34 = .ok (.iinc 3 1, 3) := by decide +kernel
theorem dX7_wrongSigns_37 : decode cX7_wrongSigns 37 = .ok (.goto (-33), 3) := by decide +kernel
theorem dX7_wrongSigns_40 : decode cX7_wrongSigns 40 = .ok (.iload_n 2, 1) := by decide +kernel
theorem dX7_wrongSigns_41 : decode cX7_wrongSigns 41 = .ok (.ireturn, 1) := by decide +kernel
set_option maxRecDepth 20000 in
theorem ggX7_wrongButtons_X7_says : GoodIn wsX7_wrongButtons wsX7_says := goodIn_r _ [5] (by decide +kernel) (by decide +kernel)
set_option maxRecDepth 20000 in
theorem gX7_wrongButtons_X7_says : GoodIn wsX7_wrongButtons (va_wsS RX7 73 yX7_says wsX7_says) := goodIn_app (goodIn_of _ (by decide +kernel)) ggX7_wrongButtons_X7_says
theorem dX7_wrongButtons_0 : decode cX7_wrongButtons 0 = .ok (.iconst 0, 1) := by decide +kernel
theorem dX7_wrongButtons_1 : decode cX7_wrongButtons 1 = .ok (.istore_n 3, 1) := by decide +kernel
theorem dX7_wrongButtons_2 : decode cX7_wrongButtons 2 = .ok (.iconst 0, 1) := by decide +kernel
theorem dX7_wrongButtons_3 : decode cX7_wrongButtons 3 = .ok (.istore 4, 2) := by decide +kernel
theorem dX7_wrongButtons_5 : decode cX7_wrongButtons 5 = .ok (.iload 4, 2) := by decide +kernel
theorem dX7_wrongButtons_7 : decode cX7_wrongButtons 7 = .ok (.aload_n 1, 1) := by decide +kernel
theorem dX7_wrongButtons_8 : decode cX7_wrongButtons 8 = .ok (.iconst 0, 1) := by decide +kernel
theorem dX7_wrongButtons_9 : decode cX7_wrongButtons 9 = .ok (.iaload, 1) := by decide +kernel
theorem dX7_wrongButtons_10 : decode cX7_wrongButtons 10 = .ok (.if_icmp .ge 34, 3) := by decide +kernel
theorem dX7_wrongButtons_13 : decode cX7_wrongButtons 13 = .ok (.iload_n 3, 1) := by decide +kernel
theorem dX7_wrongButtons_14 : decode cX7_wrongButtons 14 = .ok (.aload_n 1, 1) := by decide +kernel
theorem dX7_wrongButtons_15 : decode cX7_wrongButtons 15 = .ok (.iload_n 2, 1) := by decide +kernel
theorem dX7_wrongButtons_16 : decode cX7_wrongButtons 16 = .ok (.iload 4, 2) := by decide +kernel
theorem dX7_wrongButtons_18 : decode cX7_wrongButtons 18 = .ok (.invokestatic 73, 3) := by decide +kernel
theorem dX7_wrongButtons_21 : decode cX7_wrongButtons 21 = .ok (.aload_n 0, 1) := by decide +kernel
theorem dX7_wrongButtons_22 : decode cX7_wrongButtons 22 = .ok (.getfield 29, 3) := by decide +kernel
theorem dX7_wrongButtons_25 : decode cX7_wrongButtons 25 = .ok (.iload 4, 2) := by decide +kernel
theorem dX7_wrongButtons_27 : decode cX7_wrongButtons 27 = .ok (.iaload, 1) := by decide +kernel
theorem dX7_wrongButtons_28 : decode cX7_wrongButtons 28 = .ok (.if_icmp .ne 7, 3) := by decide +kernel
theorem dX7_wrongButtons_31 : decode cX7_wrongButtons 31 = .ok (.iconst 0, 1) := by decide +kernel
theorem dX7_wrongButtons_32 : decode cX7_wrongButtons 32 = .ok (.goto 4, 3) := by decide +kernel
theorem dX7_wrongButtons_35 : decode cX7_wrongButtons 35 = .ok (.iconst 1, 1) := by decide +kernel
theorem dX7_wrongButtons_36 : decode cX7_wrongButtons 36 = .ok (.iadd, 1) := by decide +kernel
theorem dX7_wrongButtons_37 : decode cX7_wrongButtons 37 = .ok (.istore_n 3, 1) := by decide +kernel
theorem dX7_wrongButtons_38 : decode cX7_wrongButtons 38 = .ok (.iinc 4 1, 3) := by decide +kernel
theorem dX7_wrongButtons_41 : decode cX7_wrongButtons 41 = .ok (.goto (-36), 3) := by decide +kernel
theorem dX7_wrongButtons_44 : decode cX7_wrongButtons 44 = .ok (.iload_n 3, 1) := by decide +kernel
theorem dX7_wrongButtons_45 : decode cX7_wrongButtons 45 = .ok (.ireturn, 1) := by decide +kernel
set_option maxRecDepth 20000 in
theorem ggX7_wrong_X7_name : GoodIn wsX7_wrong wsX7_name := goodIn_r _ [5, 6, 7, 8, 9, 4, 10, 11, 12, 13, 14, 15, 16, 17, 18, 30, 31, 32, 33, 34, 35, 36, 37, 38, 39, 40] (by decide +kernel) (by decide +kernel)
set_option maxRecDepth 20000 in
theorem gX7_wrong_X7_name : GoodIn wsX7_wrong (wsV RX7 76 RX7 yX7_name wsX7_name) := goodIn_app (goodIn_of _ (by decide +kernel)) ggX7_wrong_X7_name
set_option maxRecDepth 20000 in
theorem ggX7_wrong_X7_wrongSigns : GoodIn wsX7_wrong wsX7_wrongSigns := goodIn_r _ [22, 7, 30, 31, 32, 33, 34, 35, 36, 37, 38, 39, 40] (by decide +kernel) (by decide +kernel)
set_option maxRecDepth 20000 in
theorem gX7_wrong_X7_wrongSigns : GoodIn wsX7_wrong (wsV RX7 79 RX7 yX7_wrongSigns wsX7_wrongSigns) := goodIn_app (goodIn_of _ (by decide +kernel)) ggX7_wrong_X7_wrongSigns
set_option maxRecDepth 20000 in
theorem ggX7_wrong_X7_wrongButtons : GoodIn wsX7_wrong wsX7_wrongButtons := goodIn_r _ [26, 7, 27, 28, 4, 29, 30, 31, 32, 33, 34, 35, 36, 37, 38, 39, 40] (by decide +kernel) (by decide +kernel)
set_option maxRecDepth 20000 in
theorem gX7_wrong_X7_wrongButtons : GoodIn wsX7_wrong (wsV RX7 83 RX7 yX7_wrongButtons wsX7_wrongButtons) := goodIn_app (goodIn_of _ (by decide +kernel)) ggX7_wrong_X7_wrongButtons
theorem dX7_wrong_0 : decode cX7_wrong 0 = .ok (.aload_n 0, 1) := by decide +kernel
theorem dX7_wrong_1 : decode cX7_wrong 1 = .ok (.aload_n 1, 1) := by decide +kernel
theorem dX7_wrong_2 : decode cX7_wrong 2 = .ok (.invokevirtual 76, 3) := by decide +kernel
theorem dX7_wrong_5 : decode cX7_wrong 5 = .ok (.aload_n 0, 1) := by decide +kernel
theorem dX7_wrong_6 : decode cX7_wrong 6 = .ok (.aload_n 1, 1) := by decide +kernel
theorem dX7_wrong_7 : decode cX7_wrong 7 = .ok (.invokevirtual 79, 3) := by decide +kernel
theorem dX7_wrong_10 : decode cX7_wrong 10 = .ok (.aload_n 0, 1) := by decide +kernel
theorem dX7_wrong_11 : decode cX7_wrong 11 = .ok (.aload_n 1, 1) := by decide +kernel
theorem dX7_wrong_12 : decode cX7_wrong 12 = .ok (.iconst 0, 1) := by decide +kernel
theorem dX7_wrong_13 : decode cX7_wrong 13 = .ok (.invokevirtual 83, 3) := by decide +kernel
theorem dX7_wrong_16 : decode cX7_wrong 16 = .ok (.iadd, 1) := by decide +kernel
theorem dX7_wrong_17 : decode cX7_wrong 17 = .ok (.aload_n 0, 1) := by decide +kernel
theorem dX7_wrong_18 : decode cX7_wrong 18 = .ok (.aload_n 1, 1) := by decide +kernel
theorem dX7_wrong_19 : decode cX7_wrong 19 = .ok (.iconst 1, 1) := by decide +kernel
theorem dX7_wrong_20 : decode cX7_wrong 20 = .ok (.invokevirtual 83, 3) := by decide +kernel
theorem dX7_wrong_23 : decode cX7_wrong 23 = .ok (.iadd, 1) := by decide +kernel
theorem dX7_wrong_24 : decode cX7_wrong 24 = .ok (.aload_n 0, 1) := by decide +kernel
theorem dX7_wrong_25 : decode cX7_wrong 25 = .ok (.aload_n 1, 1) := by decide +kernel
theorem dX7_wrong_26 : decode cX7_wrong 26 = .ok (.iconst 2, 1) := by decide +kernel
theorem dX7_wrong_27 : decode cX7_wrong 27 = .ok (.invokevirtual 83, 3) := by decide +kernel
theorem dX7_wrong_30 : decode cX7_wrong 30 = .ok (.iadd, 1) := by decide +kernel
theorem dX7_wrong_31 : decode cX7_wrong 31 = .ok (.ireturn, 1) := by decide +kernel
theorem dX7_alike_0 : decode cX7_alike 0 = .ok (.iconst 0, 1) := by decide +kernel
theorem dX7_alike_1 : decode cX7_alike 1 = .ok (.istore_n 3, 1) := by decide +kernel
theorem dX7_alike_2 : decode cX7_alike 2 = .ok (.iconst 0, 1) := by decide +kernel
theorem dX7_alike_3 : decode cX7_alike 3 = .ok (.istore 4, 2) := by decide +kernel
theorem dX7_alike_5 : decode cX7_alike 5 = .ok (.iload 4, 2) := by decide +kernel
theorem dX7_alike_7 : decode cX7_alike 7 = .ok (.aload_n 1, 1) := by decide +kernel
theorem dX7_alike_8 : decode cX7_alike 8 = .ok (.iconst 0, 1) := by decide +kernel
theorem dX7_alike_9 : decode cX7_alike 9 = .ok (.iaload, 1) := by decide +kernel
theorem dX7_alike_10 : decode cX7_alike 10 = .ok (.if_icmp .ge 33, 3) := by decide +kernel
theorem dX7_alike_13 : decode cX7_alike 13 = .ok (.iload_n 3, 1) := by decide +kernel
theorem dX7_alike_14 : decode cX7_alike 14 = .ok (.iload_n 2, 1) := by decide +kernel
theorem dX7_alike_15 : decode cX7_alike 15 = .ok (.iconst (-1), 1) := by decide +kernel
theorem dX7_alike_16 : decode cX7_alike 16 = .ok (.if_icmp .eq 18, 3) := by decide +kernel
theorem dX7_alike_19 : decode cX7_alike 19 = .ok (.aload_n 0, 1) := by decide +kernel
theorem dX7_alike_20 : decode cX7_alike 20 = .ok (.getfield 29, 3) := by decide +kernel
theorem dX7_alike_23 : decode cX7_alike 23 = .ok (.iload 4, 2) := by decide +kernel
theorem dX7_alike_25 : decode cX7_alike 25 = .ok (.iaload, 1) := by decide +kernel
theorem dX7_alike_26 : decode cX7_alike 26 = .ok (.iload_n 2, 1) := by decide +kernel
theorem dX7_alike_27 : decode cX7_alike 27 = .ok (.if_icmp .ne 7, 3) := by decide +kernel
theorem dX7_alike_30 : decode cX7_alike 30 = .ok (.iconst 1, 1) := by decide +kernel
theorem dX7_alike_31 : decode cX7_alike 31 = .ok (.goto 4, 3) := by decide +kernel
theorem dX7_alike_34 : decode cX7_alike 34 = .ok (.iconst 0, 1) := by decide +kernel
theorem dX7_alike_35 : decode cX7_alike 35 = .ok (.iadd, 1) := by decide +kernel
theorem dX7_alike_36 : decode cX7_alike 36 = .ok (.istore_n 3, 1) := by decide +kernel
theorem dX7_alike_37 : decode cX7_alike 37 = .ok (.iinc 4 1, 3) := by decide +kernel
theorem dX7_alike_40 : decode cX7_alike 40 = .ok (.goto (-35), 3) := by decide +kernel
theorem dX7_alike_43 : decode cX7_alike 43 = .ok (.iload_n 3, 1) := by decide +kernel
theorem dX7_alike_44 : decode cX7_alike 44 = .ok (.ireturn, 1) := by decide +kernel
set_option maxRecDepth 20000 in
theorem ggX7_skippedMany_X7_skips : GoodIn wsX7_skippedMany wsX7_skips := goodIn_r _ [4] (by decide +kernel) (by decide +kernel)
set_option maxRecDepth 20000 in
theorem gX7_skippedMany_X7_skips : GoodIn wsX7_skippedMany (va_wsS RX7 65 yX7_skips wsX7_skips) := goodIn_app (goodIn_of _ (by decide +kernel)) ggX7_skippedMany_X7_skips
theorem dX7_skippedMany_0 : decode cX7_skippedMany 0 = .ok (.iconst 0, 1) := by decide +kernel
theorem dX7_skippedMany_1 : decode cX7_skippedMany 1 = .ok (.istore_n 1, 1) := by decide +kernel
theorem dX7_skippedMany_2 : decode cX7_skippedMany 2 = .ok (.iconst 1, 1) := by decide +kernel
theorem dX7_skippedMany_3 : decode cX7_skippedMany 3 = .ok (.istore_n 2, 1) := by decide +kernel
theorem dX7_skippedMany_4 : decode cX7_skippedMany 4 = .ok (.iload_n 2, 1) := by decide +kernel
theorem dX7_skippedMany_5 : decode cX7_skippedMany 5 = .ok (.bipush 30, 2) := by decide +kernel
theorem dX7_skippedMany_7 : decode cX7_skippedMany 7 = .ok (.if_icmp .gt 25, 3) := by decide +kernel
theorem dX7_skippedMany_10 : decode cX7_skippedMany 10 = .ok (.iload_n 1, 1) := by decide +kernel
theorem dX7_skippedMany_11 : decode cX7_skippedMany 11 = .ok (.aload_n 0, 1) := by decide +kernel
theorem dX7_skippedMany_12 : decode cX7_skippedMany 12 = .ok (.iload_n 2, 1) := by decide +kernel
theorem dX7_skippedMany_13 : decode cX7_skippedMany 13 = .ok (.invokestatic 65, 3) := by decide +kernel
theorem dX7_skippedMany_16 : decode cX7_skippedMany 16 = .ok (.ifCond .eq 7, 3) := by decide +kernel
theorem dX7_skippedMany_19 : decode cX7_skippedMany 19 = .ok (.iconst 1, 1) := by decide +kernel
theorem dX7_skippedMany_20 : decode cX7_skippedMany 20 = .ok (.goto 4, 3) := by decide +kernel
theorem dX7_skippedMany_23 : decode cX7_skippedMany 23 = .ok (.iconst 0, 1) := by decide +kernel
theorem dX7_skippedMany_24 : decode cX7_skippedMany 24 = .ok (.iadd, 1) := by decide +kernel
theorem dX7_skippedMany_25 : decode cX7_skippedMany 25 = .ok (.istore_n 1, 1) := by decide +kernel
theorem dX7_skippedMany_26 : decode cX7_skippedMany 26 = .ok (.iinc 2 1, 3) := by decide +kernel
theorem dX7_skippedMany_29 : decode cX7_skippedMany 29 = .ok (.goto (-25), 3) := by decide +kernel
theorem dX7_skippedMany_32 : decode cX7_skippedMany 32 = .ok (.iload_n 1, 1) := by decide +kernel
theorem dX7_skippedMany_33 : decode cX7_skippedMany 33 = .ok (.ireturn, 1) := by decide +kernel
set_option maxRecDepth 20000 in
theorem ggX7_skipOn_X7_skippedMany : GoodIn wsX7_skipOn wsX7_skippedMany := goodIn_r _ [4, 5, 6, 3, 7] (by decide +kernel) (by decide +kernel)
set_option maxRecDepth 20000 in
theorem gX7_skipOn_X7_skippedMany : GoodIn wsX7_skipOn (va_wsS RX7 87 yX7_skippedMany wsX7_skippedMany) := goodIn_app (goodIn_of _ (by decide +kernel)) ggX7_skipOn_X7_skippedMany
theorem dX7_skipOn_0 : decode cX7_skipOn 0 = .ok (.aload_n 0, 1) := by decide +kernel
theorem dX7_skipOn_1 : decode cX7_skipOn 1 = .ok (.iconst 2, 1) := by decide +kernel
theorem dX7_skipOn_2 : decode cX7_skipOn 2 = .ok (.iload_n 2, 1) := by decide +kernel
theorem dX7_skipOn_3 : decode cX7_skipOn 3 = .ok (.ifCond .eq 13, 3) := by decide +kernel
theorem dX7_skipOn_6 : decode cX7_skipOn 6 = .ok (.aload_n 0, 1) := by decide +kernel
theorem dX7_skipOn_7 : decode cX7_skipOn 7 = .ok (.iconst 2, 1) := by decide +kernel
theorem dX7_skipOn_8 : decode cX7_skipOn 8 = .ok (.iaload, 1) := by decide +kernel
theorem dX7_skipOn_9 : decode cX7_skipOn 9 = .ok (.iconst 1, 1) := by decide +kernel
theorem dX7_skipOn_10 : decode cX7_skipOn 10 = .ok (.iload_n 1, 1) := by decide +kernel
theorem dX7_skipOn_11 : decode cX7_skipOn 11 = .ok (.ishl, 1) := by decide +kernel
theorem dX7_skipOn_12 : decode cX7_skipOn 12 = .ok (.ior, 1) := by decide +kernel
theorem dX7_skipOn_13 : decode cX7_skipOn 13 = .ok (.goto 12, 3) := by decide +kernel
theorem dX7_skipOn_16 : decode cX7_skipOn 16 = .ok (.aload_n 0, 1) := by decide +kernel
theorem dX7_skipOn_17 : decode cX7_skipOn 17 = .ok (.iconst 2, 1) := by decide +kernel
theorem dX7_skipOn_18 : decode cX7_skipOn 18 = .ok (.iaload, 1) := by decide +kernel
theorem dX7_skipOn_19 : decode cX7_skipOn 19 = .ok (.iconst 1, 1) := by decide +kernel
theorem dX7_skipOn_20 : decode cX7_skipOn 20 = .ok (.iload_n 1, 1) := by decide +kernel
theorem dX7_skipOn_21 : decode cX7_skipOn 21 = .ok (.ishl, 1) := by decide +kernel
theorem dX7_skipOn_22 : decode cX7_skipOn 22 = .ok (.iconst (-1), 1) := by decide +kernel
theorem dX7_skipOn_23 : decode cX7_skipOn 23 = .ok (.ixor, 1) := by decide +kernel
theorem dX7_skipOn_24 : decode cX7_skipOn 24 = .ok (.iand, 1) := by decide +kernel
theorem dX7_skipOn_25 : decode cX7_skipOn 25 = .ok (.iastore, 1) := by decide +kernel
theorem dX7_skipOn_26 : decode cX7_skipOn 26 = .ok (.aload_n 0, 1) := by decide +kernel
theorem dX7_skipOn_27 : decode cX7_skipOn 27 = .ok (.invokestatic 87, 3) := by decide +kernel
theorem dX7_skipOn_30 : decode cX7_skipOn 30 = .ok (.ireturn, 1) := by decide +kernel
set_option maxRecDepth 20000 in
theorem ggX7_putSignOn_X7_name : GoodIn wsX7_putSignOn wsX7_name := goodIn_r _ [6, 7, 1, 8, 9, 5, 10, 11, 12, 13, 14, 15, 16, 17, 18, 19, 20, 21, 22, 23, 24, 25, 26, 27, 28, 29] (by decide +kernel) (by decide +kernel)
set_option maxRecDepth 20000 in
theorem gX7_putSignOn_X7_name : GoodIn wsX7_putSignOn (wsV RX7 76 RX7 yX7_name wsX7_name) := goodIn_app (goodIn_of _ (by decide +kernel)) ggX7_putSignOn_X7_name
theorem dX7_putSignOn_0 : decode cX7_putSignOn 0 = .ok (.aload_n 0, 1) := by decide +kernel
theorem dX7_putSignOn_1 : decode cX7_putSignOn 1 = .ok (.aload_n 1, 1) := by decide +kernel
theorem dX7_putSignOn_2 : decode cX7_putSignOn 2 = .ok (.invokevirtual 76, 3) := by decide +kernel
theorem dX7_putSignOn_5 : decode cX7_putSignOn 5 = .ok (.aload_n 1, 1) := by decide +kernel
theorem dX7_putSignOn_6 : decode cX7_putSignOn 6 = .ok (.bipush 19, 2) := by decide +kernel
theorem dX7_putSignOn_8 : decode cX7_putSignOn 8 = .ok (.iload_n 2, 1) := by decide +kernel
theorem dX7_putSignOn_9 : decode cX7_putSignOn 9 = .ok (.iadd, 1) := by decide +kernel
theorem dX7_putSignOn_10 : decode cX7_putSignOn 10 = .ok (.iaload, 1) := by decide +kernel
theorem dX7_putSignOn_11 : decode cX7_putSignOn 11 = .ok (.istore_n 3, 1) := by decide +kernel
theorem dX7_putSignOn_12 : decode cX7_putSignOn 12 = .ok (.aload_n 1, 1) := by decide +kernel
theorem dX7_putSignOn_13 : decode cX7_putSignOn 13 = .ok (.bipush 19, 2) := by decide +kernel
theorem dX7_putSignOn_15 : decode cX7_putSignOn 15 = .ok (.iload_n 2, 1) := by decide +kernel
theorem dX7_putSignOn_16 : decode cX7_putSignOn 16 = .ok (.iadd, 1) := by decide +kernel
theorem dX7_putSignOn_17 : decode cX7_putSignOn 17 = .ok (.aload_n 0, 1) := by decide +kernel
theorem dX7_putSignOn_18 : decode cX7_putSignOn 18 = .ok (.getfield 29, 3) := by decide +kernel
theorem dX7_putSignOn_21 : decode cX7_putSignOn 21 = .ok (.iload_n 2, 1) := by decide +kernel
theorem dX7_putSignOn_22 : decode cX7_putSignOn 22 = .ok (.iaload, 1) := by decide +kernel
theorem dX7_putSignOn_23 : decode cX7_putSignOn 23 = .ok (.iastore, 1) := by decide +kernel
theorem dX7_putSignOn_24 : decode cX7_putSignOn 24 = .ok (.iload_n 3, 1) := by decide +kernel
theorem dX7_putSignOn_25 : decode cX7_putSignOn 25 = .ok (.ireturn, 1) := by decide +kernel
set_option maxRecDepth 20000 in
theorem ggX7_putButtonOn_X7_name : GoodIn wsX7_putButtonOn wsX7_name := goodIn_r _ [6, 7, 1, 8, 9, 5, 10, 11, 12, 13, 14, 15, 16, 17, 18, 22, 23, 24, 25, 26, 27, 28, 29, 30, 31, 32] (by decide +kernel) (by decide +kernel)
set_option maxRecDepth 20000 in
theorem gX7_putButtonOn_X7_name : GoodIn wsX7_putButtonOn (wsV RX7 76 RX7 yX7_name wsX7_name) := goodIn_app (goodIn_of _ (by decide +kernel)) ggX7_putButtonOn_X7_name
set_option maxRecDepth 20000 in
theorem ggX7_putButtonOn_X7_says : GoodIn wsX7_putButtonOn wsX7_says := goodIn_r _ [21] (by decide +kernel) (by decide +kernel)
set_option maxRecDepth 20000 in
theorem gX7_putButtonOn_X7_says : GoodIn wsX7_putButtonOn (va_wsS RX7 73 yX7_says wsX7_says) := goodIn_app (goodIn_of _ (by decide +kernel)) ggX7_putButtonOn_X7_says
theorem dX7_putButtonOn_0 : decode cX7_putButtonOn 0 = .ok (.aload_n 0, 1) := by decide +kernel
theorem dX7_putButtonOn_1 : decode cX7_putButtonOn 1 = .ok (.aload_n 1, 1) := by decide +kernel
theorem dX7_putButtonOn_2 : decode cX7_putButtonOn 2 = .ok (.invokevirtual 76, 3) := by decide +kernel
theorem dX7_putButtonOn_5 : decode cX7_putButtonOn 5 = .ok (.aload_n 1, 1) := by decide +kernel
theorem dX7_putButtonOn_6 : decode cX7_putButtonOn 6 = .ok (.iload_n 2, 1) := by decide +kernel
theorem dX7_putButtonOn_7 : decode cX7_putButtonOn 7 = .ok (.iload_n 3, 1) := by decide +kernel
theorem dX7_putButtonOn_8 : decode cX7_putButtonOn 8 = .ok (.invokestatic 73, 3) := by decide +kernel
theorem dX7_putButtonOn_11 : decode cX7_putButtonOn 11 = .ok (.istore 4, 2) := by decide +kernel
theorem dX7_putButtonOn_13 : decode cX7_putButtonOn 13 = .ok (.aload_n 1, 1) := by decide +kernel
theorem dX7_putButtonOn_14 : decode cX7_putButtonOn 14 = .ok (.bipush 35, 2) := by decide +kernel
theorem dX7_putButtonOn_16 : decode cX7_putButtonOn 16 = .ok (.bipush 16, 2) := by decide +kernel
theorem dX7_putButtonOn_18 : decode cX7_putButtonOn 18 = .ok (.iload_n 2, 1) := by decide +kernel
theorem dX7_putButtonOn_19 : decode cX7_putButtonOn 19 = .ok (.imul, 1) := by decide +kernel
theorem dX7_putButtonOn_20 : decode cX7_putButtonOn 20 = .ok (.iadd, 1) := by decide +kernel
theorem dX7_putButtonOn_21 : decode cX7_putButtonOn 21 = .ok (.iload_n 3, 1) := by decide +kernel
theorem dX7_putButtonOn_22 : decode cX7_putButtonOn 22 = .ok (.iadd, 1) := by decide +kernel
theorem dX7_putButtonOn_23 : decode cX7_putButtonOn 23 = .ok (.aload_n 0, 1) := by decide +kernel
theorem dX7_putButtonOn_24 : decode cX7_putButtonOn 24 = .ok (.getfield 29, 3) := by decide +kernel
theorem dX7_putButtonOn_27 : decode cX7_putButtonOn 27 = .ok (.iload_n 3, 1) := by decide +kernel
theorem dX7_putButtonOn_28 : decode cX7_putButtonOn 28 = .ok (.iaload, 1) := by decide +kernel
theorem dX7_putButtonOn_29 : decode cX7_putButtonOn 29 = .ok (.iastore, 1) := by decide +kernel
theorem dX7_putButtonOn_30 : decode cX7_putButtonOn 30 = .ok (.iload 4, 2) := by decide +kernel
theorem dX7_putButtonOn_32 : decode cX7_putButtonOn 32 = .ok (.ireturn, 1) := by decide +kernel
set_option maxRecDepth 20000 in
theorem ggX7_putCarOn_X7_name : GoodIn wsX7_putCarOn wsX7_name := goodIn_r _ [6, 7, 1, 8, 9, 5, 10, 11, 12, 13, 14, 15, 16, 17, 18, 26, 27, 28, 29, 30, 31, 32, 33, 34, 35, 36] (by decide +kernel) (by decide +kernel)
set_option maxRecDepth 20000 in
theorem gX7_putCarOn_X7_name : GoodIn wsX7_putCarOn (wsV RX7 76 RX7 yX7_name wsX7_name) := goodIn_app (goodIn_of _ (by decide +kernel)) ggX7_putCarOn_X7_name
set_option maxRecDepth 20000 in
theorem ggX7_putCarOn_X7_wrongButtons : GoodIn wsX7_putCarOn wsX7_wrongButtons := goodIn_r _ [22, 1, 23, 24, 5, 25, 26, 27, 28, 29, 30, 31, 32, 33, 34, 35, 36] (by decide +kernel) (by decide +kernel)
set_option maxRecDepth 20000 in
theorem gX7_putCarOn_X7_wrongButtons : GoodIn wsX7_putCarOn (wsV RX7 83 RX7 yX7_wrongButtons wsX7_wrongButtons) := goodIn_app (goodIn_of _ (by decide +kernel)) ggX7_putCarOn_X7_wrongButtons
theorem dX7_putCarOn_0 : decode cX7_putCarOn 0 = .ok (.aload_n 0, 1) := by decide +kernel
theorem dX7_putCarOn_1 : decode cX7_putCarOn 1 = .ok (.aload_n 1, 1) := by decide +kernel
theorem dX7_putCarOn_2 : decode cX7_putCarOn 2 = .ok (.invokevirtual 76, 3) := by decide +kernel
theorem dX7_putCarOn_5 : decode cX7_putCarOn 5 = .ok (.aload_n 0, 1) := by decide +kernel
theorem dX7_putCarOn_6 : decode cX7_putCarOn 6 = .ok (.aload_n 1, 1) := by decide +kernel
theorem dX7_putCarOn_7 : decode cX7_putCarOn 7 = .ok (.iload_n 2, 1) := by decide +kernel
theorem dX7_putCarOn_8 : decode cX7_putCarOn 8 = .ok (.invokevirtual 83, 3) := by decide +kernel
theorem dX7_putCarOn_11 : decode cX7_putCarOn 11 = .ok (.istore_n 3, 1) := by decide +kernel
theorem dX7_putCarOn_12 : decode cX7_putCarOn 12 = .ok (.iconst 0, 1) := by decide +kernel
theorem dX7_putCarOn_13 : decode cX7_putCarOn 13 = .ok (.istore 4, 2) := by decide +kernel
theorem dX7_putCarOn_15 : decode cX7_putCarOn 15 = .ok (.iload 4, 2) := by decide +kernel
theorem dX7_putCarOn_17 : decode cX7_putCarOn 17 = .ok (.aload_n 1, 1) := by decide +kernel
theorem dX7_putCarOn_18 : decode cX7_putCarOn 18 = .ok (.iconst 0, 1) := by decide +kernel
theorem dX7_putCarOn_19 : decode cX7_putCarOn 19 = .ok (.iaload, 1) := by decide +kernel
theorem dX7_putCarOn_20 : decode cX7_putCarOn 20 = .ok (.if_icmp .ge 28, 3) := by decide +kernel
theorem dX7_putCarOn_23 : decode cX7_putCarOn 23 = .ok (.aload_n 1, 1) := by decide +kernel
theorem dX7_putCarOn_24 : decode cX7_putCarOn 24 = .ok (.bipush 35, 2) := by decide +kernel
theorem dX7_putCarOn_26 : decode cX7_putCarOn 26 = .ok (.bipush 16, 2) := by decide +kernel
theorem dX7_putCarOn_28 : decode cX7_putCarOn 28 = .ok (.iload_n 2, 1) := by decide +kernel
theorem dX7_putCarOn_29 : decode cX7_putCarOn 29 = .ok (.imul, 1) := by decide +kernel
theorem dX7_putCarOn_30 : decode cX7_putCarOn 30 = .ok (.iadd, 1) := by decide +kernel
theorem dX7_putCarOn_31 : decode cX7_putCarOn 31 = .ok (.iload 4, 2) := by decide +kernel
theorem dX7_putCarOn_33 : decode cX7_putCarOn 33 = .ok (.iadd, 1) := by decide +kernel
theorem dX7_putCarOn_34 : decode cX7_putCarOn 34 = .ok (.aload_n 0, 1) := by decide +kernel
theorem dX7_putCarOn_35 : decode cX7_putCarOn 35 = .ok (.getfield 29, 3) := by decide +kernel
theorem dX7_putCarOn_38 : decode cX7_putCarOn 38 = .ok (.iload 4, 2) := by decide +kernel
theorem dX7_putCarOn_40 : decode cX7_putCarOn 40 = .ok (.iaload, 1) := by decide +kernel
theorem dX7_putCarOn_41 : decode cX7_putCarOn 41 = .ok (.iastore, 1) := by decide +kernel
theorem dX7_putCarOn_42 : decode cX7_putCarOn 42 = .ok (.iinc 4 1, 3) := by decide +kernel
theorem dX7_putCarOn_45 : decode cX7_putCarOn 45 = .ok (.goto (-30), 3) := by decide +kernel
theorem dX7_putCarOn_48 : decode cX7_putCarOn 48 = .ok (.iload_n 3, 1) := by decide +kernel
theorem dX7_putCarOn_49 : decode cX7_putCarOn 49 = .ok (.ireturn, 1) := by decide +kernel
set_option maxRecDepth 20000 in
theorem ggX7_serveOn_X7_serves : GoodIn wsX7_serveOn wsX7_serves := goodIn_r _ [4] (by decide +kernel) (by decide +kernel)
set_option maxRecDepth 20000 in
theorem gX7_serveOn_X7_serves : GoodIn wsX7_serveOn (va_wsS RX7 90 yX7_serves wsX7_serves) := goodIn_app (goodIn_of _ (by decide +kernel)) ggX7_serveOn_X7_serves
theorem dX7_serveOn_0 : decode cX7_serveOn 0 = .ok (.aload_n 0, 1) := by decide +kernel
theorem dX7_serveOn_1 : decode cX7_serveOn 1 = .ok (.bipush 83, 2) := by decide +kernel
theorem dX7_serveOn_3 : decode cX7_serveOn 3 = .ok (.bipush 16, 2) := by decide +kernel
theorem dX7_serveOn_5 : decode cX7_serveOn 5 = .ok (.iload_n 1, 1) := by decide +kernel
theorem dX7_serveOn_6 : decode cX7_serveOn 6 = .ok (.imul, 1) := by decide +kernel
theorem dX7_serveOn_7 : decode cX7_serveOn 7 = .ok (.iadd, 1) := by decide +kernel
theorem dX7_serveOn_8 : decode cX7_serveOn 8 = .ok (.iload_n 2, 1) := by decide +kernel
theorem dX7_serveOn_9 : decode cX7_serveOn 9 = .ok (.iadd, 1) := by decide +kernel
theorem dX7_serveOn_10 : decode cX7_serveOn 10 = .ok (.iload_n 3, 1) := by decide +kernel
theorem dX7_serveOn_11 : decode cX7_serveOn 11 = .ok (.ifCond .eq 7, 3) := by decide +kernel
theorem dX7_serveOn_14 : decode cX7_serveOn 14 = .ok (.iconst 1, 1) := by decide +kernel
theorem dX7_serveOn_15 : decode cX7_serveOn 15 = .ok (.goto 4, 3) := by decide +kernel
theorem dX7_serveOn_18 : decode cX7_serveOn 18 = .ok (.iconst 0, 1) := by decide +kernel
theorem dX7_serveOn_19 : decode cX7_serveOn 19 = .ok (.iastore, 1) := by decide +kernel
theorem dX7_serveOn_20 : decode cX7_serveOn 20 = .ok (.iconst 0, 1) := by decide +kernel
theorem dX7_serveOn_21 : decode cX7_serveOn 21 = .ok (.istore 4, 2) := by decide +kernel
theorem dX7_serveOn_23 : decode cX7_serveOn 23 = .ok (.iconst 0, 1) := by decide +kernel
theorem dX7_serveOn_24 : decode cX7_serveOn 24 = .ok (.istore 5, 2) := by decide +kernel
theorem dX7_serveOn_26 : decode cX7_serveOn 26 = .ok (.iload 5, 2) := by decide +kernel
theorem dX7_serveOn_28 : decode cX7_serveOn 28 = .ok (.aload_n 0, 1) := by decide +kernel
theorem dX7_serveOn_29 : decode cX7_serveOn 29 = .ok (.iconst 0, 1) := by decide +kernel
theorem dX7_serveOn_30 : decode cX7_serveOn 30 = .ok (.iaload, 1) := by decide +kernel
theorem dX7_serveOn_31 : decode cX7_serveOn 31 = .ok (.if_icmp .ge 29, 3) := by decide +kernel
theorem dX7_serveOn_34 : decode cX7_serveOn 34 = .ok (.iload 4, 2) := by decide +kernel
theorem dX7_serveOn_36 : decode cX7_serveOn 36 = .ok (.aload_n 0, 1) := by decide +kernel
theorem dX7_serveOn_37 : decode cX7_serveOn 37 = .ok (.iload_n 1, 1) := by decide +kernel
theorem dX7_serveOn_38 : decode cX7_serveOn 38 = .ok (.iload 5, 2) := by decide +kernel
theorem dX7_serveOn_40 : decode cX7_serveOn 40 = .ok (.invokestatic 90, 3) := by decide +kernel
theorem dX7_serveOn_43 : decode cX7_serveOn 43 = .ok (.ifCond .eq 7, 3) := by decide +kernel
theorem dX7_serveOn_46 : decode cX7_serveOn 46 = .ok (.iconst 1, 1) := by decide +kernel
theorem dX7_serveOn_47 : decode cX7_serveOn 47 = .ok (.goto 4, 3) := by decide +kernel
theorem dX7_serveOn_50 : decode cX7_serveOn 50 = .ok (.iconst 0, 1) := by decide +kernel
theorem dX7_serveOn_51 : decode cX7_serveOn 51 = .ok (.iadd, 1) := by decide +kernel
theorem dX7_serveOn_52 : decode cX7_serveOn 52 = .ok (.istore 4, 2) := by decide +kernel
theorem dX7_serveOn_54 : decode cX7_serveOn 54 = .ok (.iinc 5 1, 3) := by decide +kernel
theorem dX7_serveOn_57 : decode cX7_serveOn 57 = .ok (.goto (-31), 3) := by decide +kernel
theorem dX7_serveOn_60 : decode cX7_serveOn 60 = .ok (.iload 4, 2) := by decide +kernel
theorem dX7_serveOn_62 : decode cX7_serveOn 62 = .ok (.ireturn, 1) := by decide +kernel
set_option maxRecDepth 20000 in
theorem ggX7_exchangeOn_X7_says : GoodIn wsX7_exchangeOn wsX7_says := goodIn_r _ [5] (by decide +kernel) (by decide +kernel)
set_option maxRecDepth 20000 in
theorem gX7_exchangeOn_X7_says : GoodIn wsX7_exchangeOn (va_wsS RX7 73 yX7_says wsX7_says) := goodIn_app (goodIn_of _ (by decide +kernel)) ggX7_exchangeOn_X7_says
set_option maxRecDepth 20000 in
theorem ggX7_exchangeOn_X7_name : GoodIn wsX7_exchangeOn wsX7_name := goodIn_r _ [9, 10, 1, 11, 12, 4, 13, 14, 15, 16, 17, 18, 19, 20, 21, 22, 23, 24, 25, 26, 27, 28, 29, 30, 31, 32] (by decide +kernel) (by decide +kernel)
set_option maxRecDepth 20000 in
theorem gX7_exchangeOn_X7_name : GoodIn wsX7_exchangeOn (wsV RX7 76 RX7 yX7_name wsX7_name) := goodIn_app (goodIn_of _ (by decide +kernel)) ggX7_exchangeOn_X7_name
theorem dX7_exchangeOn_0 : decode cX7_exchangeOn 0 = .ok (.aload_n 1, 1) := by decide +kernel
theorem dX7_exchangeOn_1 : decode cX7_exchangeOn 1 = .ok (.iload_n 2, 1) := by decide +kernel
theorem dX7_exchangeOn_2 : decode cX7_exchangeOn 2 = .ok (.iload_n 3, 1) := by decide +kernel
theorem dX7_exchangeOn_3 : decode cX7_exchangeOn 3 = .ok (.invokestatic 73, 3) := by decide +kernel
theorem dX7_exchangeOn_6 : decode cX7_exchangeOn 6 = .ok (.istore 5, 2) := by decide +kernel
theorem dX7_exchangeOn_8 : decode cX7_exchangeOn 8 = .ok (.aload_n 1, 1) := by decide +kernel
theorem dX7_exchangeOn_9 : decode cX7_exchangeOn 9 = .ok (.bipush 35, 2) := by decide +kernel
theorem dX7_exchangeOn_11 : decode cX7_exchangeOn 11 = .ok (.bipush 16, 2) := by decide +kernel
theorem dX7_exchangeOn_13 : decode cX7_exchangeOn 13 = .ok (.iload_n 2, 1) := by decide +kernel
theorem dX7_exchangeOn_14 : decode cX7_exchangeOn 14 = .ok (.imul, 1) := by decide +kernel
theorem dX7_exchangeOn_15 : decode cX7_exchangeOn 15 = .ok (.iadd, 1) := by decide +kernel
theorem dX7_exchangeOn_16 : decode cX7_exchangeOn 16 = .ok (.iload_n 3, 1) := by decide +kernel
theorem dX7_exchangeOn_17 : decode cX7_exchangeOn 17 = .ok (.iadd, 1) := by decide +kernel
theorem dX7_exchangeOn_18 : decode cX7_exchangeOn 18 = .ok (.aload_n 1, 1) := by decide +kernel
theorem dX7_exchangeOn_19 : decode cX7_exchangeOn 19 = .ok (.iload_n 2, 1) := by decide +kernel
theorem dX7_exchangeOn_20 : decode cX7_exchangeOn 20 = .ok (.iload 4, 2) := by decide +kernel
theorem dX7_exchangeOn_22 : decode cX7_exchangeOn 22 = .ok (.invokestatic 73, 3) := by decide +kernel
theorem dX7_exchangeOn_25 : decode cX7_exchangeOn 25 = .ok (.iastore, 1) := by decide +kernel
theorem dX7_exchangeOn_26 : decode cX7_exchangeOn 26 = .ok (.aload_n 1, 1) := by decide +kernel
theorem dX7_exchangeOn_27 : decode cX7_exchangeOn 27 = .ok (.bipush 35, 2) := by decide +kernel
theorem dX7_exchangeOn_29 : decode cX7_exchangeOn 29 = .ok (.bipush 16, 2) := by decide +kernel
theorem dX7_exchangeOn_31 : decode cX7_exchangeOn 31 = .ok (.iload_n 2, 1) := by decide +kernel
theorem dX7_exchangeOn_32 : decode cX7_exchangeOn 32 = .ok (.imul, 1) := by decide +kernel
theorem dX7_exchangeOn_33 : decode cX7_exchangeOn 33 = .ok (.iadd, 1) := by decide +kernel
theorem dX7_exchangeOn_34 : decode cX7_exchangeOn 34 = .ok (.iload 4, 2) := by decide +kernel
theorem dX7_exchangeOn_36 : decode cX7_exchangeOn 36 = .ok (.iadd, 1) := by decide +kernel
theorem dX7_exchangeOn_37 : decode cX7_exchangeOn 37 = .ok (.iload 5, 2) := by decide +kernel
theorem dX7_exchangeOn_39 : decode cX7_exchangeOn 39 = .ok (.iastore, 1) := by decide +kernel
theorem dX7_exchangeOn_40 : decode cX7_exchangeOn 40 = .ok (.aload_n 0, 1) := by decide +kernel
theorem dX7_exchangeOn_41 : decode cX7_exchangeOn 41 = .ok (.aload_n 1, 1) := by decide +kernel
theorem dX7_exchangeOn_42 : decode cX7_exchangeOn 42 = .ok (.invokevirtual 76, 3) := by decide +kernel
theorem dX7_exchangeOn_45 : decode cX7_exchangeOn 45 = .ok (.aload_n 1, 1) := by decide +kernel
theorem dX7_exchangeOn_46 : decode cX7_exchangeOn 46 = .ok (.iload_n 2, 1) := by decide +kernel
theorem dX7_exchangeOn_47 : decode cX7_exchangeOn 47 = .ok (.iload_n 3, 1) := by decide +kernel
theorem dX7_exchangeOn_48 : decode cX7_exchangeOn 48 = .ok (.invokestatic 73, 3) := by decide +kernel
theorem dX7_exchangeOn_51 : decode cX7_exchangeOn 51 = .ok (.aload_n 0, 1) := by decide +kernel
theorem dX7_exchangeOn_52 : decode cX7_exchangeOn 52 = .ok (.getfield 29, 3) := by decide +kernel
theorem dX7_exchangeOn_55 : decode cX7_exchangeOn 55 = .ok (.iload_n 3, 1) := by decide +kernel
theorem dX7_exchangeOn_56 : decode cX7_exchangeOn 56 = .ok (.iaload, 1) := by decide +kernel
theorem dX7_exchangeOn_57 : decode cX7_exchangeOn 57 = .ok (.if_icmp .ne 7, 3) := by decide +kernel
theorem dX7_exchangeOn_60 : decode cX7_exchangeOn 60 = .ok (.iconst 0, 1) := by decide +kernel
theorem dX7_exchangeOn_61 : decode cX7_exchangeOn 61 = .ok (.goto 4, 3) := by decide +kernel
theorem dX7_exchangeOn_64 : decode cX7_exchangeOn 64 = .ok (.iconst 1, 1) := by decide +kernel
theorem dX7_exchangeOn_65 : decode cX7_exchangeOn 65 = .ok (.istore 6, 2) := by decide +kernel
theorem dX7_exchangeOn_67 : decode cX7_exchangeOn 67 = .ok (.iload 6, 2) := by decide +kernel
theorem dX7_exchangeOn_69 : decode cX7_exchangeOn 69 = .ok (.iload_n 3, 1) := by decide +kernel
theorem dX7_exchangeOn_70 : decode cX7_exchangeOn 70 = .ok (.iload 4, 2) := by decide +kernel
theorem dX7_exchangeOn_72 : decode cX7_exchangeOn 72 = .ok (.if_icmp .eq 20, 3) := by decide +kernel
theorem dX7_exchangeOn_75 : decode cX7_exchangeOn 75 = .ok (.aload_n 1, 1) := by decide +kernel
theorem dX7_exchangeOn_76 : decode cX7_exchangeOn 76 = .ok (.iload_n 2, 1) := by decide +kernel
theorem dX7_exchangeOn_77 : decode cX7_exchangeOn 77 = .ok (.iload 4, 2) := by decide +kernel
theorem dX7_exchangeOn_79 : decode cX7_exchangeOn 79 = .ok (.invokestatic 73, 3) := by decide +kernel
theorem dX7_exchangeOn_82 : decode cX7_exchangeOn 82 = .ok (.aload_n 0, 1) := by decide +kernel
theorem dX7_exchangeOn_83 : decode cX7_exchangeOn 83 = .ok (.getfield 29, 3) := by decide +kernel
theorem dX7_exchangeOn_86 : decode cX7_exchangeOn 86 = .ok (.iload 4, 2) := by decide +kernel
theorem dX7_exchangeOn_88 : decode cX7_exchangeOn 88 = .ok (.iaload, 1) := by decide +kernel
theorem dX7_exchangeOn_89 : decode cX7_exchangeOn 89 = .ok (.if_icmp .ne 7, 3) := by decide +kernel
theorem dX7_exchangeOn_92 : decode cX7_exchangeOn 92 = .ok (.iconst 0, 1) := by decide +kernel
theorem dX7_exchangeOn_93 : decode cX7_exchangeOn 93 = .ok (.goto 4, 3) := by decide +kernel
theorem dX7_exchangeOn_96 : decode cX7_exchangeOn 96 = .ok (.iconst 1, 1) := by decide +kernel
theorem dX7_exchangeOn_97 : decode cX7_exchangeOn 97 = .ok (.iadd, 1) := by decide +kernel
theorem dX7_exchangeOn_98 : decode cX7_exchangeOn 98 = .ok (.ireturn, 1) := by decide +kernel
set_option maxRecDepth 20000 in
theorem ggX7_whyNotAdd_X7_in : GoodIn wsX7_whyNotAdd wsX7_in := goodIn_r _ [4] (by decide +kernel) (by decide +kernel)
set_option maxRecDepth 20000 in
theorem gX7_whyNotAdd_X7_in : GoodIn wsX7_whyNotAdd (va_wsS RX7 47 yX7_in wsX7_in) := goodIn_app (goodIn_of _ (by decide +kernel)) ggX7_whyNotAdd_X7_in
set_option maxRecDepth 20000 in
theorem ggX7_whyNotAdd_X7_isKind : GoodIn wsX7_whyNotAdd wsX7_isKind := goodIn_r _ [7, 8, 1, 2, 3, 4] (by decide +kernel) (by decide +kernel)
set_option maxRecDepth 20000 in
theorem gX7_whyNotAdd_X7_isKind : GoodIn wsX7_whyNotAdd (va_wsS RX7 94 yX7_isKind wsX7_isKind) := goodIn_app (goodIn_of _ (by decide +kernel)) ggX7_whyNotAdd_X7_isKind
theorem dX7_whyNotAdd_0 : decode cX7_whyNotAdd 0 = .ok (.iload_n 1, 1) := by decide +kernel
theorem dX7_whyNotAdd_1 : decode cX7_whyNotAdd 1 = .ok (.i2l, 1) := by decide +kernel
theorem dX7_whyNotAdd_2 : decode cX7_whyNotAdd 2 = .ok (.lconst 0, 1) := by decide +kernel
theorem dX7_whyNotAdd_3 : decode cX7_whyNotAdd 3 = .ok (.aload_n 0, 1) := by decide +kernel
theorem dX7_whyNotAdd_4 : decode cX7_whyNotAdd 4 = .ok (.iconst 0, 1) := by decide +kernel
theorem dX7_whyNotAdd_5 : decode cX7_whyNotAdd 5 = .ok (.iaload, 1) := by decide +kernel
theorem dX7_whyNotAdd_6 : decode cX7_whyNotAdd 6 = .ok (.i2l, 1) := by decide +kernel
theorem dX7_whyNotAdd_7 : decode cX7_whyNotAdd 7 = .ok (.invokestatic 47, 3) := by decide +kernel
theorem dX7_whyNotAdd_10 : decode cX7_whyNotAdd 10 = .ok (.ifCond .ne 7, 3) := by decide +kernel
theorem dX7_whyNotAdd_13 : decode cX7_whyNotAdd 13 = .ok (.iconst 1, 1) := by decide +kernel
theorem dX7_whyNotAdd_14 : decode cX7_whyNotAdd 14 = .ok (.goto 27, 3) := by decide +kernel
theorem dX7_whyNotAdd_17 : decode cX7_whyNotAdd 17 = .ok (.iload_n 2, 1) := by decide +kernel
theorem dX7_whyNotAdd_18 : decode cX7_whyNotAdd 18 = .ok (.invokestatic 94, 3) := by decide +kernel
theorem dX7_whyNotAdd_21 : decode cX7_whyNotAdd 21 = .ok (.ifCond .ne 7, 3) := by decide +kernel
theorem dX7_whyNotAdd_24 : decode cX7_whyNotAdd 24 = .ok (.iconst 2, 1) := by decide +kernel
theorem dX7_whyNotAdd_25 : decode cX7_whyNotAdd 25 = .ok (.goto 16, 3) := by decide +kernel
theorem dX7_whyNotAdd_28 : decode cX7_whyNotAdd 28 = .ok (.aload_n 0, 1) := by decide +kernel
theorem dX7_whyNotAdd_29 : decode cX7_whyNotAdd 29 = .ok (.iconst 0, 1) := by decide +kernel
theorem dX7_whyNotAdd_30 : decode cX7_whyNotAdd 30 = .ok (.iaload, 1) := by decide +kernel
theorem dX7_whyNotAdd_31 : decode cX7_whyNotAdd 31 = .ok (.bipush 16, 2) := by decide +kernel
theorem dX7_whyNotAdd_33 : decode cX7_whyNotAdd 33 = .ok (.if_icmp .ne 7, 3) := by decide +kernel
theorem dX7_whyNotAdd_36 : decode cX7_whyNotAdd 36 = .ok (.iconst 3, 1) := by decide +kernel
theorem dX7_whyNotAdd_37 : decode cX7_whyNotAdd 37 = .ok (.goto 4, 3) := by decide +kernel
theorem dX7_whyNotAdd_40 : decode cX7_whyNotAdd 40 = .ok (.iconst 0, 1) := by decide +kernel
theorem dX7_whyNotAdd_41 : decode cX7_whyNotAdd 41 = .ok (.ireturn, 1) := by decide +kernel
set_option maxRecDepth 20000 in
theorem ggX7_whyNotRemove_X7_isLevel : GoodIn wsX7_whyNotRemove wsX7_isLevel := goodIn_r _ [4, 5, 6, 3, 7] (by decide +kernel) (by decide +kernel)
set_option maxRecDepth 20000 in
theorem gX7_whyNotRemove_X7_isLevel : GoodIn wsX7_whyNotRemove (va_wsS RX7 98 yX7_isLevel wsX7_isLevel) := goodIn_app (goodIn_of _ (by decide +kernel)) ggX7_whyNotRemove_X7_isLevel
theorem dX7_whyNotRemove_0 : decode cX7_whyNotRemove 0 = .ok (.aload_n 0, 1) := by decide +kernel
theorem dX7_whyNotRemove_1 : decode cX7_whyNotRemove 1 = .ok (.iload_n 1, 1) := by decide +kernel
theorem dX7_whyNotRemove_2 : decode cX7_whyNotRemove 2 = .ok (.invokestatic 98, 3) := by decide +kernel
theorem dX7_whyNotRemove_5 : decode cX7_whyNotRemove 5 = .ok (.ifCond .ne 7, 3) := by decide +kernel
theorem dX7_whyNotRemove_8 : decode cX7_whyNotRemove 8 = .ok (.iconst 1, 1) := by decide +kernel
theorem dX7_whyNotRemove_9 : decode cX7_whyNotRemove 9 = .ok (.goto 15, 3) := by decide +kernel
theorem dX7_whyNotRemove_12 : decode cX7_whyNotRemove 12 = .ok (.iload_n 1, 1) := by decide +kernel
theorem dX7_whyNotRemove_13 : decode cX7_whyNotRemove 13 = .ok (.aload_n 0, 1) := by decide +kernel
theorem dX7_whyNotRemove_14 : decode cX7_whyNotRemove 14 = .ok (.iconst 1, 1) := by decide +kernel
theorem dX7_whyNotRemove_15 : decode cX7_whyNotRemove 15 = .ok (.iaload, 1) := by decide +kernel
theorem dX7_whyNotRemove_16 : decode cX7_whyNotRemove 16 = .ok (.if_icmp .ne 7, 3) := by decide +kernel
theorem dX7_whyNotRemove_19 : decode cX7_whyNotRemove 19 = .ok (.iconst 2, 1) := by decide +kernel
theorem dX7_whyNotRemove_20 : decode cX7_whyNotRemove 20 = .ok (.goto 4, 3) := by decide +kernel
theorem dX7_whyNotRemove_23 : decode cX7_whyNotRemove 23 = .ok (.iconst 0, 1) := by decide +kernel
theorem dX7_whyNotRemove_24 : decode cX7_whyNotRemove 24 = .ok (.ireturn, 1) := by decide +kernel
set_option maxRecDepth 20000 in
theorem ggX7_whyNotKind_X7_isLevel : GoodIn wsX7_whyNotKind wsX7_isLevel := goodIn_r _ [4, 5, 6, 3, 7] (by decide +kernel) (by decide +kernel)
set_option maxRecDepth 20000 in
theorem gX7_whyNotKind_X7_isLevel : GoodIn wsX7_whyNotKind (va_wsS RX7 98 yX7_isLevel wsX7_isLevel) := goodIn_app (goodIn_of _ (by decide +kernel)) ggX7_whyNotKind_X7_isLevel
set_option maxRecDepth 20000 in
theorem ggX7_whyNotKind_X7_isKind : GoodIn wsX7_whyNotKind wsX7_isKind := goodIn_r _ [10, 11, 5, 6, 3, 7] (by decide +kernel) (by decide +kernel)
set_option maxRecDepth 20000 in
theorem gX7_whyNotKind_X7_isKind : GoodIn wsX7_whyNotKind (va_wsS RX7 94 yX7_isKind wsX7_isKind) := goodIn_app (goodIn_of _ (by decide +kernel)) ggX7_whyNotKind_X7_isKind
theorem dX7_whyNotKind_0 : decode cX7_whyNotKind 0 = .ok (.aload_n 0, 1) := by decide +kernel
theorem dX7_whyNotKind_1 : decode cX7_whyNotKind 1 = .ok (.iload_n 1, 1) := by decide +kernel
theorem dX7_whyNotKind_2 : decode cX7_whyNotKind 2 = .ok (.invokestatic 98, 3) := by decide +kernel
theorem dX7_whyNotKind_5 : decode cX7_whyNotKind 5 = .ok (.ifCond .ne 7, 3) := by decide +kernel
theorem dX7_whyNotKind_8 : decode cX7_whyNotKind 8 = .ok (.iconst 1, 1) := by decide +kernel
theorem dX7_whyNotKind_9 : decode cX7_whyNotKind 9 = .ok (.goto 30, 3) := by decide +kernel
theorem dX7_whyNotKind_12 : decode cX7_whyNotKind 12 = .ok (.iload_n 2, 1) := by decide +kernel
theorem dX7_whyNotKind_13 : decode cX7_whyNotKind 13 = .ok (.invokestatic 94, 3) := by decide +kernel
theorem dX7_whyNotKind_16 : decode cX7_whyNotKind 16 = .ok (.ifCond .ne 7, 3) := by decide +kernel
theorem dX7_whyNotKind_19 : decode cX7_whyNotKind 19 = .ok (.iconst 2, 1) := by decide +kernel
theorem dX7_whyNotKind_20 : decode cX7_whyNotKind 20 = .ok (.goto 19, 3) := by decide +kernel
theorem dX7_whyNotKind_23 : decode cX7_whyNotKind 23 = .ok (.iload_n 1, 1) := by decide +kernel
theorem dX7_whyNotKind_24 : decode cX7_whyNotKind 24 = .ok (.aload_n 0, 1) := by decide +kernel
theorem dX7_whyNotKind_25 : decode cX7_whyNotKind 25 = .ok (.iconst 1, 1) := by decide +kernel
theorem dX7_whyNotKind_26 : decode cX7_whyNotKind 26 = .ok (.iaload, 1) := by decide +kernel
theorem dX7_whyNotKind_27 : decode cX7_whyNotKind 27 = .ok (.if_icmp .ne 11, 3) := by decide +kernel
theorem dX7_whyNotKind_30 : decode cX7_whyNotKind 30 = .ok (.iload_n 2, 1) := by decide +kernel
theorem dX7_whyNotKind_31 : decode cX7_whyNotKind 31 = .ok (.ifCond .eq 7, 3) := by decide +kernel
theorem dX7_whyNotKind_34 : decode cX7_whyNotKind 34 = .ok (.iconst 3, 1) := by decide +kernel
theorem dX7_whyNotKind_35 : decode cX7_whyNotKind 35 = .ok (.goto 4, 3) := by decide +kernel
theorem dX7_whyNotKind_38 : decode cX7_whyNotKind 38 = .ok (.iconst 0, 1) := by decide +kernel
theorem dX7_whyNotKind_39 : decode cX7_whyNotKind 39 = .ok (.ireturn, 1) := by decide +kernel
set_option maxRecDepth 20000 in
theorem ggX7_whyNotGround_X7_isLevel : GoodIn wsX7_whyNotGround wsX7_isLevel := goodIn_r _ [4, 5, 6, 3, 7] (by decide +kernel) (by decide +kernel)
set_option maxRecDepth 20000 in
theorem gX7_whyNotGround_X7_isLevel : GoodIn wsX7_whyNotGround (va_wsS RX7 98 yX7_isLevel wsX7_isLevel) := goodIn_app (goodIn_of _ (by decide +kernel)) ggX7_whyNotGround_X7_isLevel
theorem dX7_whyNotGround_0 : decode cX7_whyNotGround 0 = .ok (.aload_n 0, 1) := by decide +kernel
theorem dX7_whyNotGround_1 : decode cX7_whyNotGround 1 = .ok (.iload_n 1, 1) := by decide +kernel
theorem dX7_whyNotGround_2 : decode cX7_whyNotGround 2 = .ok (.invokestatic 98, 3) := by decide +kernel
theorem dX7_whyNotGround_5 : decode cX7_whyNotGround 5 = .ok (.ifCond .ne 7, 3) := by decide +kernel
theorem dX7_whyNotGround_8 : decode cX7_whyNotGround 8 = .ok (.iconst 1, 1) := by decide +kernel
theorem dX7_whyNotGround_9 : decode cX7_whyNotGround 9 = .ok (.goto 16, 3) := by decide +kernel
theorem dX7_whyNotGround_12 : decode cX7_whyNotGround 12 = .ok (.aload_n 0, 1) := by decide +kernel
theorem dX7_whyNotGround_13 : decode cX7_whyNotGround 13 = .ok (.iconst 3, 1) := by decide +kernel
theorem dX7_whyNotGround_14 : decode cX7_whyNotGround 14 = .ok (.iload_n 1, 1) := by decide +kernel
theorem dX7_whyNotGround_15 : decode cX7_whyNotGround 15 = .ok (.iadd, 1) := by decide +kernel
theorem dX7_whyNotGround_16 : decode cX7_whyNotGround 16 = .ok (.iaload, 1) := by decide +kernel
theorem dX7_whyNotGround_17 : decode cX7_whyNotGround 17 = .ok (.ifCond .eq 7, 3) := by decide +kernel
theorem dX7_whyNotGround_20 : decode cX7_whyNotGround 20 = .ok (.iconst 2, 1) := by decide +kernel
theorem dX7_whyNotGround_21 : decode cX7_whyNotGround 21 = .ok (.goto 4, 3) := by decide +kernel
theorem dX7_whyNotGround_24 : decode cX7_whyNotGround 24 = .ok (.iconst 0, 1) := by decide +kernel
theorem dX7_whyNotGround_25 : decode cX7_whyNotGround 25 = .ok (.ireturn, 1) := by decide +kernel
theorem dX7_lay_0 : decode cX7_lay 0 = .ok (.aload_n 0, 1) := by decide +kernel
theorem dX7_lay_1 : decode cX7_lay 1 = .ok (.iload_n 1, 1) := by decide +kernel
theorem dX7_lay_2 : decode cX7_lay 2 = .ok (.iaload, 1) := by decide +kernel
theorem dX7_lay_3 : decode cX7_lay 3 = .ok (.istore_n 3, 1) := by decide +kernel
theorem dX7_lay_4 : decode cX7_lay 4 = .ok (.aload_n 0, 1) := by decide +kernel
theorem dX7_lay_5 : decode cX7_lay 5 = .ok (.iload_n 1, 1) := by decide +kernel
theorem dX7_lay_6 : decode cX7_lay 6 = .ok (.iload_n 2, 1) := by decide +kernel
theorem dX7_lay_7 : decode cX7_lay 7 = .ok (.iastore, 1) := by decide +kernel
theorem dX7_lay_8 : decode cX7_lay 8 = .ok (.iload_n 3, 1) := by decide +kernel
theorem dX7_lay_9 : decode cX7_lay 9 = .ok (.ireturn, 1) := by decide +kernel
set_option maxRecDepth 20000 in
theorem ggX7_append_X7_in : GoodIn wsX7_append wsX7_in := goodIn_r _ [7] (by decide +kernel) (by decide +kernel)
set_option maxRecDepth 20000 in
theorem gX7_append_X7_in : GoodIn wsX7_append (va_wsS RX7 47 yX7_in wsX7_in) := goodIn_app (goodIn_of _ (by decide +kernel)) ggX7_append_X7_in
set_option maxRecDepth 20000 in
theorem ggX7_append_X7_refused : GoodIn wsX7_append wsX7_refused := goodIn_r _ [11, 12, 13, 14, 15, 16, 17, 18, 19, 20, 21, 22, 23] (by decide +kernel) (by decide +kernel)
set_option maxRecDepth 20000 in
theorem gX7_append_X7_refused : GoodIn wsX7_append (wsV RX7 106 RX7 yX7_refused wsX7_refused) := goodIn_app (goodIn_of _ (by decide +kernel)) ggX7_append_X7_refused
theorem dX7_append_0 : decode cX7_append 0 = .ok (.aload_n 0, 1) := by decide +kernel
theorem dX7_append_1 : decode cX7_append 1 = .ok (.iload_n 1, 1) := by decide +kernel
theorem dX7_append_2 : decode cX7_append 2 = .ok (.i2l, 1) := by decide +kernel
theorem dX7_append_3 : decode cX7_append 3 = .ok (.lconst 0, 1) := by decide +kernel
theorem dX7_append_4 : decode cX7_append 4 = .ok (.ldc2_w 101, 3) := by decide +kernel
theorem dX7_append_7 : decode cX7_append 7 = .ok (.invokestatic 47, 3) := by decide +kernel
theorem dX7_append_10 : decode cX7_append 10 = .ok (.ifCond .ne 7, 3) := by decide +kernel
theorem dX7_append_13 : decode cX7_append 13 = .ok (.iconst 1, 1) := by decide +kernel
theorem dX7_append_14 : decode cX7_append 14 = .ok (.goto 17, 3) := by decide +kernel
theorem dX7_append_17 : decode cX7_append 17 = .ok (.aload_n 0, 1) := by decide +kernel
theorem dX7_append_18 : decode cX7_append 18 = .ok (.getfield 103, 3) := by decide +kernel
theorem dX7_append_21 : decode cX7_append 21 = .ok (.bipush 60, 2) := by decide +kernel
theorem dX7_append_23 : decode cX7_append 23 = .ok (.if_icmp .ne 7, 3) := by decide +kernel
theorem dX7_append_26 : decode cX7_append 26 = .ok (.iconst 2, 1) := by decide +kernel
theorem dX7_append_27 : decode cX7_append 27 = .ok (.goto 4, 3) := by decide +kernel
theorem dX7_append_30 : decode cX7_append 30 = .ok (.iconst 0, 1) := by decide +kernel
theorem dX7_append_31 : decode cX7_append 31 = .ok (.invokevirtual 106, 3) := by decide +kernel
theorem dX7_append_34 : decode cX7_append 34 = .ok (.ifCond .eq 5, 3) := by decide +kernel
theorem dX7_append_37 : decode cX7_append 37 = .ok (.iconst 0, 1) := by decide +kernel
theorem dX7_append_38 : decode cX7_append 38 = .ok (.ireturn, 1) := by decide +kernel
theorem dX7_append_39 : decode cX7_append 39 = .ok (.aload_n 0, 1) := by decide +kernel
theorem dX7_append_40 : decode cX7_append 40 = .ok (.getfield 7, 3) := by decide +kernel
theorem dX7_append_43 : decode cX7_append 43 = .ok (.aload_n 0, 1) := by decide +kernel
theorem dX7_append_44 : decode cX7_append 44 = .ok (.getfield 103, 3) := by decide +kernel
theorem dX7_append_47 : decode cX7_append 47 = .ok (.iload_n 1, 1) := by decide +kernel
theorem dX7_append_48 : decode cX7_append 48 = .ok (.iastore, 1) := by decide +kernel
theorem dX7_append_49 : decode cX7_append 49 = .ok (.aload_n 0, 1) := by decide +kernel
theorem dX7_append_50 : decode cX7_append 50 = .ok (.dup, 1) := by decide +kernel
theorem dX7_append_51 : decode cX7_append 51 = .ok (.getfield 103, 3) := by decide +kernel
theorem dX7_append_54 : decode cX7_append 54 = .ok (.iconst 1, 1) := by decide +kernel
theorem dX7_append_55 : decode cX7_append 55 = .ok (.iadd, 1) := by decide +kernel
theorem dX7_append_56 : decode cX7_append 56 = .ok (.putfield 103, 3) := by decide +kernel
theorem dX7_append_59 : decode cX7_append 59 = .ok (.aload_n 0, 1) := by decide +kernel
theorem dX7_append_60 : decode cX7_append 60 = .ok (.getfield 103, 3) := by decide +kernel
theorem dX7_append_63 : decode cX7_append 63 = .ok (.ireturn, 1) := by decide +kernel
theorem dX7_clearText_0 : decode cX7_clearText 0 = .ok (.aload_n 0, 1) := by decide +kernel
theorem dX7_clearText_1 : decode cX7_clearText 1 = .ok (.iconst 0, 1) := by decide +kernel
theorem dX7_clearText_2 : decode cX7_clearText 2 = .ok (.putfield 43, 3) := by decide +kernel
theorem dX7_clearText_5 : decode cX7_clearText 5 = .ok (.aload_n 0, 1) := by decide +kernel
theorem dX7_clearText_6 : decode cX7_clearText 6 = .ok (.getfield 103, 3) := by decide +kernel
theorem dX7_clearText_9 : decode cX7_clearText 9 = .ok (.istore_n 1, 1) := by decide +kernel
theorem dX7_clearText_10 : decode cX7_clearText 10 = .ok (.aload_n 0, 1) := by decide +kernel
theorem dX7_clearText_11 : decode cX7_clearText 11 = .ok (.iconst 0, 1) := by decide +kernel
theorem dX7_clearText_12 : decode cX7_clearText 12 = .ok (.putfield 103, 3) := by decide +kernel
theorem dX7_clearText_15 : decode cX7_clearText 15 = .ok (.iload_n 1, 1) := by decide +kernel
theorem dX7_clearText_16 : decode cX7_clearText 16 = .ok (.ireturn, 1) := by decide +kernel
theorem dX7_kindOf_0 : decode cX7_kindOf 0 = .ok (.iload_n 0, 1) := by decide +kernel
theorem dX7_kindOf_1 : decode cX7_kindOf 1 = .ok (.bipush 71, 2) := by decide +kernel
theorem dX7_kindOf_3 : decode cX7_kindOf 3 = .ok (.if_icmp .eq 9, 3) := by decide +kernel
theorem dX7_kindOf_6 : decode cX7_kindOf 6 = .ok (.iload_n 0, 1) := by decide +kernel
theorem dX7_kindOf_7 : decode cX7_kindOf 7 = .ok (.bipush 119, 2) := by decide +kernel
theorem dX7_kindOf_9 : decode cX7_kindOf 9 = .ok (.if_icmp .ne 7, 3) := by decide +kernel
theorem dX7_kindOf_12 : decode cX7_kindOf 12 = .ok (.iconst 0, 1) := by decide +kernel
theorem dX7_kindOf_13 : decode cX7_kindOf 13 = .ok (.goto 34, 3) := by decide +kernel
theorem dX7_kindOf_16 : decode cX7_kindOf 16 = .ok (.iload_n 0, 1) := by decide +kernel
theorem dX7_kindOf_17 : decode cX7_kindOf 17 = .ok (.bipush 104, 2) := by decide +kernel
theorem dX7_kindOf_19 : decode cX7_kindOf 19 = .ok (.if_icmp .ne 7, 3) := by decide +kernel
theorem dX7_kindOf_22 : decode cX7_kindOf 22 = .ok (.iconst 1, 1) := by decide +kernel
theorem dX7_kindOf_23 : decode cX7_kindOf 23 = .ok (.goto 24, 3) := by decide +kernel
theorem dX7_kindOf_26 : decode cX7_kindOf 26 = .ok (.iload_n 0, 1) := by decide +kernel
theorem dX7_kindOf_27 : decode cX7_kindOf 27 = .ok (.bipush 106, 2) := by decide +kernel
theorem dX7_kindOf_29 : decode cX7_kindOf 29 = .ok (.if_icmp .ne 7, 3) := by decide +kernel
theorem dX7_kindOf_32 : decode cX7_kindOf 32 = .ok (.iconst 2, 1) := by decide +kernel
theorem dX7_kindOf_33 : decode cX7_kindOf 33 = .ok (.goto 14, 3) := by decide +kernel
theorem dX7_kindOf_36 : decode cX7_kindOf 36 = .ok (.iload_n 0, 1) := by decide +kernel
theorem dX7_kindOf_37 : decode cX7_kindOf 37 = .ok (.bipush 120, 2) := by decide +kernel
theorem dX7_kindOf_39 : decode cX7_kindOf 39 = .ok (.if_icmp .ne 7, 3) := by decide +kernel
theorem dX7_kindOf_42 : decode cX7_kindOf 42 = .ok (.iconst 3, 1) := by decide +kernel
theorem dX7_kindOf_43 : decode cX7_kindOf 43 = .ok (.goto 4, 3) := by decide +kernel
theorem dX7_kindOf_46 : decode cX7_kindOf 46 = .ok (.iconst (-1), 1) := by decide +kernel
theorem dX7_kindOf_47 : decode cX7_kindOf 47 = .ok (.ireturn, 1) := by decide +kernel
theorem dX7_at_0 : decode cX7_at 0 = .ok (.iload_n 1, 1) := by decide +kernel
theorem dX7_at_1 : decode cX7_at 1 = .ok (.aload_n 0, 1) := by decide +kernel
theorem dX7_at_2 : decode cX7_at 2 = .ok (.getfield 103, 3) := by decide +kernel
theorem dX7_at_5 : decode cX7_at 5 = .ok (.if_icmp .ge 12, 3) := by decide +kernel
theorem dX7_at_8 : decode cX7_at 8 = .ok (.aload_n 0, 1) := by decide +kernel
theorem dX7_at_9 : decode cX7_at 9 = .ok (.getfield 7, 3) := by decide +kernel
theorem dX7_at_12 : decode cX7_at 12 = .ok (.iload_n 1, 1) := by decide +kernel
theorem dX7_at_13 : decode cX7_at 13 = .ok (.iaload, 1) := by decide +kernel
theorem dX7_at_14 : decode cX7_at 14 = .ok (.goto 4, 3) := by decide +kernel
theorem dX7_at_17 : decode cX7_at 17 = .ok (.iconst (-1), 1) := by decide +kernel
theorem dX7_at_18 : decode cX7_at 18 = .ok (.ireturn, 1) := by decide +kernel
set_option maxRecDepth 20000 in
theorem ggX7_readLevels_X7_at : GoodIn wsX7_readLevels wsX7_at := goodIn_r _ [5, 6, 7, 17, 18, 19, 20, 21, 22, 23, 24, 25, 26, 27] (by decide +kernel) (by decide +kernel)
set_option maxRecDepth 20000 in
theorem gX7_readLevels_X7_at : GoodIn wsX7_readLevels (wsV RX7 109 RX7 yX7_at wsX7_at) := goodIn_app (goodIn_of _ (by decide +kernel)) ggX7_readLevels_X7_at
set_option maxRecDepth 20000 in
theorem ggX7_readLevels_X7_kindOf : GoodIn wsX7_readLevels wsX7_kindOf := goodIn_r _ [10] (by decide +kernel) (by decide +kernel)
set_option maxRecDepth 20000 in
theorem gX7_readLevels_X7_kindOf : GoodIn wsX7_readLevels (va_wsS RX7 113 yX7_kindOf wsX7_kindOf) := goodIn_app (goodIn_of _ (by decide +kernel)) ggX7_readLevels_X7_kindOf
set_option maxRecDepth 20000 in
theorem ggX7_readLevels_X7_insert : GoodIn wsX7_readLevels wsX7_insert := goodIn_r _ [13, 14, 15, 4, 16] (by decide +kernel) (by decide +kernel)
set_option maxRecDepth 20000 in
theorem gX7_readLevels_X7_insert : GoodIn wsX7_readLevels (va_wsS RX7 39 yX7_insert wsX7_insert) := goodIn_app (goodIn_of _ (by decide +kernel)) ggX7_readLevels_X7_insert
theorem dX7_readLevels_0 : decode cX7_readLevels 0 = .ok (.iconst 0, 1) := by decide +kernel
theorem dX7_readLevels_1 : decode cX7_readLevels 1 = .ok (.istore_n 2, 1) := by decide +kernel
theorem dX7_readLevels_2 : decode cX7_readLevels 2 = .ok (.iconst (-1), 1) := by decide +kernel
theorem dX7_readLevels_3 : decode cX7_readLevels 3 = .ok (.istore_n 3, 1) := by decide +kernel
theorem dX7_readLevels_4 : decode cX7_readLevels 4 = .ok (.aload_n 0, 1) := by decide +kernel
theorem dX7_readLevels_5 : decode cX7_readLevels 5 = .ok (.iload_n 2, 1) := by decide +kernel
theorem dX7_readLevels_6 : decode cX7_readLevels 6 = .ok (.invokevirtual 109, 3) := by decide +kernel
theorem dX7_readLevels_9 : decode cX7_readLevels 9 = .ok (.invokestatic 113, 3) := by decide +kernel
theorem dX7_readLevels_12 : decode cX7_readLevels 12 = .ok (.iconst (-1), 1) := by decide +kernel
theorem dX7_readLevels_13 : decode cX7_readLevels 13 = .ok (.if_icmp .eq 89, 3) := by decide +kernel
theorem dX7_readLevels_16 : decode cX7_readLevels 16 = .ok (.aload_n 1, 1) := by decide +kernel
theorem dX7_readLevels_17 : decode cX7_readLevels 17 = .ok (.iconst 0, 1) := by decide +kernel
theorem dX7_readLevels_18 : decode cX7_readLevels 18 = .ok (.iaload, 1) := by decide +kernel
theorem dX7_readLevels_19 : decode cX7_readLevels 19 = .ok (.bipush 16, 2) := by decide +kernel
theorem dX7_readLevels_21 : decode cX7_readLevels 21 = .ok (.if_icmp .ge 81, 3) := by decide +kernel
theorem dX7_readLevels_24 : decode cX7_readLevels 24 = .ok (.aload_n 0, 1) := by decide +kernel
theorem dX7_readLevels_25 : decode cX7_readLevels 25 = .ok (.iload_n 2, 1) := by decide +kernel
theorem dX7_readLevels_26 : decode cX7_readLevels 26 = .ok (.invokevirtual 109, 3) := by decide +kernel
theorem dX7_readLevels_29 : decode cX7_readLevels 29 = .ok (.bipush 71, 2) := by decide +kernel
theorem dX7_readLevels_31 : decode cX7_readLevels 31 = .ok (.if_icmp .ne 7, 3) := by decide +kernel
theorem dX7_readLevels_34 : decode cX7_readLevels 34 = .ok (.iconst 1, 1) := by decide +kernel
theorem dX7_readLevels_35 : decode cX7_readLevels 35 = .ok (.goto 4, 3) := by decide +kernel
theorem dX7_readLevels_38 : decode cX7_readLevels 38 = .ok (.iconst 0, 1) := by decide +kernel
theorem dX7_readLevels_39 : decode cX7_readLevels 39 = .ok (.istore 4, 2) := by decide +kernel
theorem dX7_readLevels_41 : decode cX7_readLevels 41 = .ok (.iload 4, 2) := by decide +kernel
theorem dX7_readLevels_43 : decode cX7_readLevels 43 = .ok (.ifCond .eq 11, 3) := by decide +kernel
theorem dX7_readLevels_46 : decode cX7_readLevels 46 = .ok (.iload_n 3, 1) := by decide +kernel
theorem dX7_readLevels_47 : decode cX7_readLevels 47 = .ok (.iconst (-1), 1) := by decide +kernel
theorem dX7_readLevels_48 : decode cX7_readLevels 48 = .ok (.if_icmp .eq 21, 3) := by decide +kernel
theorem dX7_readLevels_51 : decode cX7_readLevels 51 = .ok (.goto 16, 3) := by decide +kernel
theorem dX7_readLevels_54 : decode cX7_readLevels 54 = .ok (.iload_n 3, 1) := by decide +kernel
theorem dX7_readLevels_55 : decode cX7_readLevels 55 = .ok (.iconst (-1), 1) := by decide +kernel
theorem dX7_readLevels_56 : decode cX7_readLevels 56 = .ok (.if_icmp .ne 13, 3) := by decide +kernel
theorem dX7_readLevels_59 : decode cX7_readLevels 59 = .ok (.aload_n 1, 1) := by decide +kernel
theorem dX7_readLevels_60 : decode cX7_readLevels 60 = .ok (.iconst 0, 1) := by decide +kernel
theorem dX7_readLevels_61 : decode cX7_readLevels 61 = .ok (.iaload, 1) := by decide +kernel
theorem dX7_readLevels_62 : decode cX7_readLevels 62 = .ok (.bipush 15, 2) := by decide +kernel
theorem dX7_readLevels_64 : decode cX7_readLevels 64 = .ok (.if_icmp .ne 5, 3) := by decide +kernel
theorem dX7_readLevels_67 : decode cX7_readLevels 67 = .ok (.iload_n 2, 1) := by decide +kernel
theorem dX7_readLevels_68 : decode cX7_readLevels 68 = .ok (.ireturn, 1) := by decide +kernel
theorem dX7_readLevels_69 : decode cX7_readLevels 69 = .ok (.iload 4, 2) := by decide +kernel
theorem dX7_readLevels_71 : decode cX7_readLevels 71 = .ok (.ifCond .eq 7, 3) := by decide +kernel
theorem dX7_readLevels_74 : decode cX7_readLevels 74 = .ok (.iload_n 2, 1) := by decide +kernel
theorem dX7_readLevels_75 : decode cX7_readLevels 75 = .ok (.goto 4, 3) := by decide +kernel
theorem dX7_readLevels_78 : decode cX7_readLevels 78 = .ok (.iload_n 3, 1) := by decide +kernel
theorem dX7_readLevels_79 : decode cX7_readLevels 79 = .ok (.istore_n 3, 1) := by decide +kernel
theorem dX7_readLevels_80 : decode cX7_readLevels 80 = .ok (.aload_n 1, 1) := by decide +kernel
theorem dX7_readLevels_81 : decode cX7_readLevels 81 = .ok (.aload_n 1, 1) := by decide +kernel
theorem dX7_readLevels_82 : decode cX7_readLevels 82 = .ok (.iconst 0, 1) := by decide +kernel
theorem dX7_readLevels_83 : decode cX7_readLevels 83 = .ok (.iaload, 1) := by decide +kernel
theorem dX7_readLevels_84 : decode cX7_readLevels 84 = .ok (.aload_n 0, 1) := by decide +kernel
theorem dX7_readLevels_85 : decode cX7_readLevels 85 = .ok (.iload_n 2, 1) := by decide +kernel
theorem dX7_readLevels_86 : decode cX7_readLevels 86 = .ok (.invokevirtual 109, 3) := by decide +kernel
theorem dX7_readLevels_89 : decode cX7_readLevels 89 = .ok (.invokestatic 113, 3) := by decide +kernel
theorem dX7_readLevels_92 : decode cX7_readLevels 92 = .ok (.invokestatic 39, 3) := by decide +kernel
theorem dX7_readLevels_95 : decode cX7_readLevels 95 = .ok (.pop, 1) := by decide +kernel
theorem dX7_readLevels_96 : decode cX7_readLevels 96 = .ok (.iinc 2 1, 3) := by decide +kernel
theorem dX7_readLevels_99 : decode cX7_readLevels 99 = .ok (.goto (-95), 3) := by decide +kernel
theorem dX7_readLevels_102 : decode cX7_readLevels 102 = .ok (.aload_n 1, 1) := by decide +kernel
theorem dX7_readLevels_103 : decode cX7_readLevels 103 = .ok (.iconst 1, 1) := by decide +kernel
theorem dX7_readLevels_104 : decode cX7_readLevels 104 = .ok (.iload_n 3, 1) := by decide +kernel
theorem dX7_readLevels_105 : decode cX7_readLevels 105 = .ok (.iastore, 1) := by decide +kernel
theorem dX7_readLevels_106 : decode cX7_readLevels 106 = .ok (.iload_n 2, 1) := by decide +kernel
theorem dX7_readLevels_107 : decode cX7_readLevels 107 = .ok (.ireturn, 1) := by decide +kernel
set_option maxRecDepth 20000 in
theorem ggX7_readText_X7_begin : GoodIn wsX7_readText wsX7_begin := goodIn_r _ [8] (by decide +kernel) (by decide +kernel)
set_option maxRecDepth 20000 in
theorem gX7_readText_X7_begin : GoodIn wsX7_readText (va_wsS RX7 35 yX7_begin wsX7_begin) := goodIn_app (goodIn_of _ (by decide +kernel)) ggX7_readText_X7_begin
set_option maxRecDepth 20000 in
theorem ggX7_readText_X7_readLevels : GoodIn wsX7_readText wsX7_readLevels := goodIn_r _ [12, 13, 14, 15, 7, 16, 1, 17, 18, 19, 20, 21, 22, 23, 24, 25, 26, 39, 40, 41, 42, 43, 44, 45, 46, 47, 48, 49] (by decide +kernel) (by decide +kernel)
set_option maxRecDepth 20000 in
theorem gX7_readText_X7_readLevels : GoodIn wsX7_readText (wsV RX7 116 RX7 yX7_readLevels wsX7_readLevels) := goodIn_app (goodIn_of _ (by decide +kernel)) ggX7_readText_X7_readLevels
set_option maxRecDepth 20000 in
theorem ggX7_readText_X7_at : GoodIn wsX7_readText wsX7_at := goodIn_r _ [16, 1, 17, 39, 40, 41, 42, 43, 44, 45, 46, 47, 48, 49] (by decide +kernel) (by decide +kernel)
set_option maxRecDepth 20000 in
theorem gX7_readText_X7_at : GoodIn wsX7_readText (wsV RX7 109 RX7 yX7_at wsX7_at) := goodIn_app (goodIn_of _ (by decide +kernel)) ggX7_readText_X7_at
set_option maxRecDepth 20000 in
theorem ggX7_readText_X7_in : GoodIn wsX7_readText wsX7_in := goodIn_r _ [29] (by decide +kernel) (by decide +kernel)
set_option maxRecDepth 20000 in
theorem gX7_readText_X7_in : GoodIn wsX7_readText (va_wsS RX7 47 yX7_in wsX7_in) := goodIn_app (goodIn_of _ (by decide +kernel)) ggX7_readText_X7_in
set_option maxRecDepth 20000 in
theorem ggX7_readText_X7_skipOn : GoodIn wsX7_readText wsX7_skipOn := goodIn_r _ [32, 33, 34, 7, 35, 36, 37, 38] (by decide +kernel) (by decide +kernel)
set_option maxRecDepth 20000 in
theorem gX7_readText_X7_skipOn : GoodIn wsX7_readText (va_wsS RX7 125 yX7_skipOn wsX7_skipOn) := goodIn_app (goodIn_of _ (by decide +kernel)) ggX7_readText_X7_skipOn
theorem dX7_readText_0 : decode cX7_readText 0 = .ok (.aload_n 1, 1) := by decide +kernel
theorem dX7_readText_1 : decode cX7_readText 1 = .ok (.invokestatic 35, 3) := by decide +kernel
theorem dX7_readText_4 : decode cX7_readText 4 = .ok (.aload_n 1, 1) := by decide +kernel
theorem dX7_readText_5 : decode cX7_readText 5 = .ok (.iconst 1, 1) := by decide +kernel
theorem dX7_readText_6 : decode cX7_readText 6 = .ok (.iconst (-1), 1) := by decide +kernel
theorem dX7_readText_7 : decode cX7_readText 7 = .ok (.iastore, 1) := by decide +kernel
theorem dX7_readText_8 : decode cX7_readText 8 = .ok (.aload_n 0, 1) := by decide +kernel
theorem dX7_readText_9 : decode cX7_readText 9 = .ok (.aload_n 1, 1) := by decide +kernel
theorem dX7_readText_10 : decode cX7_readText 10 = .ok (.invokevirtual 116, 3) := by decide +kernel
theorem dX7_readText_13 : decode cX7_readText 13 = .ok (.istore_n 2, 1) := by decide +kernel
theorem dX7_readText_14 : decode cX7_readText 14 = .ok (.aload_n 1, 1) := by decide +kernel
theorem dX7_readText_15 : decode cX7_readText 15 = .ok (.iconst 1, 1) := by decide +kernel
theorem dX7_readText_16 : decode cX7_readText 16 = .ok (.iaload, 1) := by decide +kernel
theorem dX7_readText_17 : decode cX7_readText 17 = .ok (.iconst (-1), 1) := by decide +kernel
theorem dX7_readText_18 : decode cX7_readText 18 = .ok (.if_icmp .ne 5, 3) := by decide +kernel
theorem dX7_readText_21 : decode cX7_readText 21 = .ok (.iload_n 2, 1) := by decide +kernel
theorem dX7_readText_22 : decode cX7_readText 22 = .ok (.ireturn, 1) := by decide +kernel
theorem dX7_readText_23 : decode cX7_readText 23 = .ok (.aload_n 0, 1) := by decide +kernel
theorem dX7_readText_24 : decode cX7_readText 24 = .ok (.iload_n 2, 1) := by decide +kernel
theorem dX7_readText_25 : decode cX7_readText 25 = .ok (.invokevirtual 109, 3) := by decide +kernel
theorem dX7_readText_28 : decode cX7_readText 28 = .ok (.bipush 47, 2) := by decide +kernel
theorem dX7_readText_30 : decode cX7_readText 30 = .ok (.if_icmp .eq 17, 3) := by decide +kernel
theorem dX7_readText_33 : decode cX7_readText 33 = .ok (.iload_n 2, 1) := by decide +kernel
theorem dX7_readText_34 : decode cX7_readText 34 = .ok (.aload_n 0, 1) := by decide +kernel
theorem dX7_readText_35 : decode cX7_readText 35 = .ok (.getfield 103, 3) := by decide +kernel
theorem dX7_readText_38 : decode cX7_readText 38 = .ok (.if_icmp .ge 7, 3) := by decide +kernel
theorem dX7_readText_41 : decode cX7_readText 41 = .ok (.iload_n 2, 1) := by decide +kernel
theorem dX7_readText_42 : decode cX7_readText 42 = .ok (.goto 4, 3) := by decide +kernel
theorem dX7_readText_45 : decode cX7_readText 45 = .ok (.iconst (-1), 1) := by decide +kernel
theorem dX7_readText_46 : decode cX7_readText 46 = .ok (.ireturn, 1) := by decide +kernel
theorem dX7_readText_47 : decode cX7_readText 47 = .ok (.iconst 0, 1) := by decide +kernel
theorem dX7_readText_48 : decode cX7_readText 48 = .ok (.istore_n 3, 1) := by decide +kernel
theorem dX7_readText_49 : decode cX7_readText 49 = .ok (.aload_n 0, 1) := by decide +kernel
theorem dX7_readText_50 : decode cX7_readText 50 = .ok (.iload_n 2, 1) := by decide +kernel
theorem dX7_readText_51 : decode cX7_readText 51 = .ok (.invokevirtual 109, 3) := by decide +kernel
theorem dX7_readText_54 : decode cX7_readText 54 = .ok (.bipush 47, 2) := by decide +kernel
theorem dX7_readText_56 : decode cX7_readText 56 = .ok (.if_icmp .eq 13, 3) := by decide +kernel
theorem dX7_readText_59 : decode cX7_readText 59 = .ok (.aload_n 0, 1) := by decide +kernel
theorem dX7_readText_60 : decode cX7_readText 60 = .ok (.iload_n 2, 1) := by decide +kernel
theorem dX7_readText_61 : decode cX7_readText 61 = .ok (.invokevirtual 109, 3) := by decide +kernel
theorem dX7_readText_64 : decode cX7_readText 64 = .ok (.bipush 44, 2) := by decide +kernel
theorem dX7_readText_66 : decode cX7_readText 66 = .ok (.if_icmp .ne 113, 3) := by decide +kernel
theorem dX7_readText_69 : decode cX7_readText 69 = .ok (.iinc 2 1, 3) := by decide +kernel
theorem dX7_readText_72 : decode cX7_readText 72 = .ok (.iconst 0, 1) := by decide +kernel
theorem dX7_readText_73 : decode cX7_readText 73 = .ok (.istore 4, 2) := by decide +kernel
theorem dX7_readText_75 : decode cX7_readText 75 = .ok (.aload_n 0, 1) := by decide +kernel
theorem dX7_readText_76 : decode cX7_readText 76 = .ok (.iload_n 2, 1) := by decide +kernel
theorem dX7_readText_77 : decode cX7_readText 77 = .ok (.invokevirtual 109, 3) := by decide +kernel
theorem dX7_readText_80 : decode cX7_readText 80 = .ok (.i2l, 1) := by decide +kernel
theorem dX7_readText_81 : decode cX7_readText 81 = .ok (.iload 4, 2) := by decide +kernel
theorem dX7_readText_83 : decode cX7_readText 83 = .ok (.ifCond .ne 9, 3) := by decide +kernel
theorem dX7_readText_86 : decode cX7_readText 86 = .ok (.ldc2_w 119, 3) := by decide +kernel
theorem dX7_readText_89 : decode cX7_readText 89 = .ok (.goto 6, 3) := by decide +kernel
theorem dX7_readText_92 : decode cX7_readText 92 = .ok (.ldc2_w 121, 3) := by decide +kernel
theorem dX7_readText_95 : decode cX7_readText 95 = .ok (.ldc2_w 123, 3) := by decide +kernel
theorem dX7_readText_98 : decode cX7_readText 98 = .ok (.invokestatic 47, 3) := by decide +kernel
theorem dX7_readText_101 : decode cX7_readText 101 = .ok (.ifCond .eq 44, 3) := by decide +kernel
theorem dX7_readText_104 : decode cX7_readText 104 = .ok (.bipush 10, 2) := by decide +kernel
theorem dX7_readText_106 : decode cX7_readText 106 = .ok (.iload 4, 2) := by decide +kernel
theorem dX7_readText_108 : decode cX7_readText 108 = .ok (.imul, 1) := by decide +kernel
theorem dX7_readText_109 : decode cX7_readText 109 = .ok (.aload_n 0, 1) := by decide +kernel
theorem dX7_readText_110 : decode cX7_readText 110 = .ok (.iload_n 2, 1) := by decide +kernel
theorem dX7_readText_111 : decode cX7_readText 111 = .ok (.invokevirtual 109, 3) := by decide +kernel
theorem dX7_readText_114 : decode cX7_readText 114 = .ok (.iadd, 1) := by decide +kernel
theorem dX7_readText_115 : decode cX7_readText 115 = .ok (.bipush 48, 2) := by decide +kernel
theorem dX7_readText_117 : decode cX7_readText 117 = .ok (.isub, 1) := by decide +kernel
theorem dX7_readText_118 : decode cX7_readText 118 = .ok (.bipush 30, 2) := by decide +kernel
theorem dX7_readText_120 : decode cX7_readText 120 = .ok (.if_icmp .gt 25, 3) := by decide +kernel
theorem dX7_readText_123 : decode cX7_readText 123 = .ok (.bipush 10, 2) := by decide +kernel
theorem dX7_readText_125 : decode cX7_readText 125 = .ok (.iload 4, 2) := by decide +kernel
theorem dX7_readText_127 : decode cX7_readText 127 = .ok (.imul, 1) := by decide +kernel
theorem dX7_readText_128 : decode cX7_readText 128 = .ok (.aload_n 0, 1) := by decide +kernel
theorem dX7_readText_129 : decode cX7_readText 129 = .ok (.iload_n 2, 1) := by decide +kernel
theorem dX7_readText_130 : decode cX7_readText 130 = .ok (.invokevirtual 109, 3) := by decide +kernel
theorem dX7_readText_133 : decode cX7_readText 133 = .ok (.iadd, 1) := by decide +kernel
theorem dX7_readText_134 : decode cX7_readText 134 = .ok (.bipush 48, 2) := by decide +kernel
theorem dX7_readText_136 : decode cX7_readText 136 = .ok (.isub, 1) := by decide +kernel
theorem dX7_readText_137 : decode cX7_readText 137 = .ok (.istore 4, 2) := by decide +kernel
theorem dX7_readText_139 : decode cX7_readText 139 = .ok (.iinc 2 1, 3) := by decide +kernel
theorem dX7_readText_142 : decode cX7_readText 142 = .ok (.goto (-67), 3) := by decide +kernel
theorem dX7_readText_145 : decode cX7_readText 145 = .ok (.iload 4, 2) := by decide +kernel
theorem dX7_readText_147 : decode cX7_readText 147 = .ok (.iload_n 3, 1) := by decide +kernel
theorem dX7_readText_148 : decode cX7_readText 148 = .ok (.if_icmp .gt 5, 3) := by decide +kernel
theorem dX7_readText_151 : decode cX7_readText 151 = .ok (.iload_n 2, 1) := by decide +kernel
theorem dX7_readText_152 : decode cX7_readText 152 = .ok (.ireturn, 1) := by decide +kernel
theorem dX7_readText_153 : decode cX7_readText 153 = .ok (.aload_n 1, 1) := by decide +kernel
theorem dX7_readText_154 : decode cX7_readText 154 = .ok (.iload 4, 2) := by decide +kernel
theorem dX7_readText_156 : decode cX7_readText 156 = .ok (.iconst 1, 1) := by decide +kernel
theorem dX7_readText_157 : decode cX7_readText 157 = .ok (.invokestatic 125, 3) := by decide +kernel
theorem dX7_readText_160 : decode cX7_readText 160 = .ok (.pop, 1) := by decide +kernel
theorem dX7_readText_161 : decode cX7_readText 161 = .ok (.iload 4, 2) := by decide +kernel
theorem dX7_readText_163 : decode cX7_readText 163 = .ok (.istore_n 3, 1) := by decide +kernel
theorem dX7_readText_164 : decode cX7_readText 164 = .ok (.aload_n 0, 1) := by decide +kernel
theorem dX7_readText_165 : decode cX7_readText 165 = .ok (.iload_n 2, 1) := by decide +kernel
theorem dX7_readText_166 : decode cX7_readText 166 = .ok (.invokevirtual 109, 3) := by decide +kernel
theorem dX7_readText_169 : decode cX7_readText 169 = .ok (.bipush 47, 2) := by decide +kernel
theorem dX7_readText_171 : decode cX7_readText 171 = .ok (.if_icmp .ne 5, 3) := by decide +kernel
theorem dX7_readText_174 : decode cX7_readText 174 = .ok (.iload_n 2, 1) := by decide +kernel
theorem dX7_readText_175 : decode cX7_readText 175 = .ok (.ireturn, 1) := by decide +kernel
theorem dX7_readText_176 : decode cX7_readText 176 = .ok (.goto (-127), 3) := by decide +kernel
theorem dX7_readText_179 : decode cX7_readText 179 = .ok (.iload_n 2, 1) := by decide +kernel
theorem dX7_readText_180 : decode cX7_readText 180 = .ok (.aload_n 0, 1) := by decide +kernel
theorem dX7_readText_181 : decode cX7_readText 181 = .ok (.getfield 103, 3) := by decide +kernel
theorem dX7_readText_184 : decode cX7_readText 184 = .ok (.if_icmp .ge 7, 3) := by decide +kernel
theorem dX7_readText_187 : decode cX7_readText 187 = .ok (.iload_n 2, 1) := by decide +kernel
theorem dX7_readText_188 : decode cX7_readText 188 = .ok (.goto 4, 3) := by decide +kernel
theorem dX7_readText_191 : decode cX7_readText 191 = .ok (.iconst (-1), 1) := by decide +kernel
theorem dX7_readText_192 : decode cX7_readText 192 = .ok (.ireturn, 1) := by decide +kernel
set_option maxRecDepth 20000 in
theorem ggX7_errorPosition_X7_readText : GoodIn wsX7_errorPosition wsX7_readText := goodIn_r _ [7, 8, 9, 10, 11, 12, 13, 6, 14, 15, 16, 17, 18, 19, 20, 21, 22, 23, 24, 25, 26, 27, 28, 29, 30, 31, 32, 33, 34, 35, 36, 37, 38, 39, 40, 41, 42, 43, 44, 45, 46, 47, 48, 49, 50, 51, 52, 53, 54, 55] (by decide +kernel) (by decide +kernel)
set_option maxRecDepth 20000 in
theorem gX7_errorPosition_X7_readText : GoodIn wsX7_errorPosition (wsV RX7 129 RX7 yX7_readText wsX7_readText) := goodIn_app (goodIn_of _ (by decide +kernel)) ggX7_errorPosition_X7_readText
theorem dX7_errorPosition_0 : decode cX7_errorPosition 0 = .ok (.aload_n 0, 1) := by decide +kernel
theorem dX7_errorPosition_1 : decode cX7_errorPosition 1 = .ok (.iconst 0, 1) := by decide +kernel
theorem dX7_errorPosition_2 : decode cX7_errorPosition 2 = .ok (.putfield 43, 3) := by decide +kernel
theorem dX7_errorPosition_5 : decode cX7_errorPosition 5 = .ok (.aload_n 0, 1) := by decide +kernel
theorem dX7_errorPosition_6 : decode cX7_errorPosition 6 = .ok (.aload_n 0, 1) := by decide +kernel
theorem dX7_errorPosition_7 : decode cX7_errorPosition 7 = .ok (.getfield 16, 3) := by decide +kernel
theorem dX7_errorPosition_10 : decode cX7_errorPosition 10 = .ok (.invokevirtual 129, 3) := by decide +kernel
theorem dX7_errorPosition_13 : decode cX7_errorPosition 13 = .ok (.ireturn, 1) := by decide +kernel
set_option maxRecDepth 20000 in
theorem ggX7_load_X7_readText : GoodIn wsX7_load wsX7_readText := goodIn_r _ [9, 10, 11, 12, 13, 14, 15, 8, 16, 17, 18, 19, 20, 21, 22, 23, 24, 25, 26, 27, 28, 29, 30, 31, 32, 33, 34, 35, 36, 37, 38, 39, 40, 41, 42, 43, 44, 45, 46, 55, 56, 57, 58, 59, 60, 61, 62, 63, 64, 65] (by decide +kernel) (by decide +kernel)
set_option maxRecDepth 20000 in
theorem gX7_load_X7_readText : GoodIn wsX7_load (wsV RX7 129 RX7 yX7_readText wsX7_readText) := goodIn_app (goodIn_of _ (by decide +kernel)) ggX7_load_X7_readText
set_option maxRecDepth 20000 in
theorem ggX7_load_X7_refused : GoodIn wsX7_load wsX7_refused := goodIn_r _ [50, 51, 55, 56, 57, 58, 59, 60, 61, 62, 63, 64, 65] (by decide +kernel) (by decide +kernel)
set_option maxRecDepth 20000 in
theorem gX7_load_X7_refused : GoodIn wsX7_load (wsV RX7 106 RX7 yX7_refused wsX7_refused) := goodIn_app (goodIn_of _ (by decide +kernel)) ggX7_load_X7_refused
set_option maxRecDepth 20000 in
theorem ggX7_load_X7_copyState : GoodIn wsX7_load wsX7_copyState := goodIn_r _ [54] (by decide +kernel) (by decide +kernel)
set_option maxRecDepth 20000 in
theorem gX7_load_X7_copyState : GoodIn wsX7_load (va_wsS RX7 132 yX7_copyState wsX7_copyState) := goodIn_app (goodIn_of _ (by decide +kernel)) ggX7_load_X7_copyState
theorem dX7_load_0 : decode cX7_load 0 = .ok (.aload_n 0, 1) := by decide +kernel
theorem dX7_load_1 : decode cX7_load 1 = .ok (.aload_n 0, 1) := by decide +kernel
theorem dX7_load_2 : decode cX7_load 2 = .ok (.aload_n 0, 1) := by decide +kernel
theorem dX7_load_3 : decode cX7_load 3 = .ok (.getfield 16, 3) := by decide +kernel
theorem dX7_load_6 : decode cX7_load 6 = .ok (.invokevirtual 129, 3) := by decide +kernel
theorem dX7_load_9 : decode cX7_load 9 = .ok (.iconst (-1), 1) := by decide +kernel
theorem dX7_load_10 : decode cX7_load 10 = .ok (.if_icmp .ne 7, 3) := by decide +kernel
theorem dX7_load_13 : decode cX7_load 13 = .ok (.iconst 0, 1) := by decide +kernel
theorem dX7_load_14 : decode cX7_load 14 = .ok (.goto 4, 3) := by decide +kernel
theorem dX7_load_17 : decode cX7_load 17 = .ok (.iconst 1, 1) := by decide +kernel
theorem dX7_load_18 : decode cX7_load 18 = .ok (.invokevirtual 106, 3) := by decide +kernel
theorem dX7_load_21 : decode cX7_load 21 = .ok (.ifCond .eq 5, 3) := by decide +kernel
theorem dX7_load_24 : decode cX7_load 24 = .ok (.iconst 0, 1) := by decide +kernel
theorem dX7_load_25 : decode cX7_load 25 = .ok (.ireturn, 1) := by decide +kernel
theorem dX7_load_26 : decode cX7_load 26 = .ok (.aload_n 0, 1) := by decide +kernel
theorem dX7_load_27 : decode cX7_load 27 = .ok (.getfield 16, 3) := by decide +kernel
theorem dX7_load_30 : decode cX7_load 30 = .ok (.iconst 0, 1) := by decide +kernel
theorem dX7_load_31 : decode cX7_load 31 = .ok (.aload_n 0, 1) := by decide +kernel
theorem dX7_load_32 : decode cX7_load 32 = .ok (.getfield 13, 3) := by decide +kernel
theorem dX7_load_35 : decode cX7_load 35 = .ok (.iconst 0, 1) := by decide +kernel
theorem dX7_load_36 : decode cX7_load 36 = .ok (.invokestatic 132, 3) := by decide +kernel
theorem dX7_load_39 : decode cX7_load 39 = .ok (.aload_n 0, 1) := by decide +kernel
theorem dX7_load_40 : decode cX7_load 40 = .ok (.iconst 0, 1) := by decide +kernel
theorem dX7_load_41 : decode cX7_load 41 = .ok (.putfield 136, 3) := by decide +kernel
theorem dX7_load_44 : decode cX7_load 44 = .ok (.aload_n 0, 1) := by decide +kernel
theorem dX7_load_45 : decode cX7_load 45 = .ok (.getfield 25, 3) := by decide +kernel
theorem dX7_load_48 : decode cX7_load 48 = .ok (.iconst 0, 1) := by decide +kernel
theorem dX7_load_49 : decode cX7_load 49 = .ok (.iconst 0, 1) := by decide +kernel
theorem dX7_load_50 : decode cX7_load 50 = .ok (.bastore, 1) := by decide +kernel
theorem dX7_load_51 : decode cX7_load 51 = .ok (.aload_n 0, 1) := by decide +kernel
theorem dX7_load_52 : decode cX7_load 52 = .ok (.getfield 25, 3) := by decide +kernel
theorem dX7_load_55 : decode cX7_load 55 = .ok (.iconst 1, 1) := by decide +kernel
theorem dX7_load_56 : decode cX7_load 56 = .ok (.iconst 0, 1) := by decide +kernel
theorem dX7_load_57 : decode cX7_load 57 = .ok (.bastore, 1) := by decide +kernel
theorem dX7_load_58 : decode cX7_load 58 = .ok (.aload_n 0, 1) := by decide +kernel
theorem dX7_load_59 : decode cX7_load 59 = .ok (.getfield 13, 3) := by decide +kernel
theorem dX7_load_62 : decode cX7_load 62 = .ok (.iconst 0, 1) := by decide +kernel
theorem dX7_load_63 : decode cX7_load 63 = .ok (.iaload, 1) := by decide +kernel
theorem dX7_load_64 : decode cX7_load 64 = .ok (.ireturn, 1) := by decide +kernel
theorem dX7_storey_0 : decode cX7_storey 0 = .ok (.iconst 0, 1) := by decide +kernel
theorem dX7_storey_1 : decode cX7_storey 1 = .ok (.istore_n 3, 1) := by decide +kernel
theorem dX7_storey_2 : decode cX7_storey 2 = .ok (.iconst 0, 1) := by decide +kernel
theorem dX7_storey_3 : decode cX7_storey 3 = .ok (.istore 4, 2) := by decide +kernel
theorem dX7_storey_5 : decode cX7_storey 5 = .ok (.iload 4, 2) := by decide +kernel
theorem dX7_storey_7 : decode cX7_storey 7 = .ok (.aload_n 1, 1) := by decide +kernel
theorem dX7_storey_8 : decode cX7_storey 8 = .ok (.iconst 0, 1) := by decide +kernel
theorem dX7_storey_9 : decode cX7_storey 9 = .ok (.iaload, 1) := by decide +kernel
theorem dX7_storey_10 : decode cX7_storey 10 = .ok (.if_icmp .ge 73, 3) := by decide +kernel
theorem dX7_storey_13 : decode cX7_storey 13 = .ok (.aload_n 0, 1) := by decide +kernel
theorem dX7_storey_14 : decode cX7_storey 14 = .ok (.getfield 29, 3) := by decide +kernel
theorem dX7_storey_17 : decode cX7_storey 17 = .ok (.iload 4, 2) := by decide +kernel
theorem dX7_storey_19 : decode cX7_storey 19 = .ok (.iaload, 1) := by decide +kernel
theorem dX7_storey_20 : decode cX7_storey 20 = .ok (.iconst (-1), 1) := by decide +kernel
theorem dX7_storey_21 : decode cX7_storey 21 = .ok (.if_icmp .eq 36, 3) := by decide +kernel
theorem dX7_storey_24 : decode cX7_storey 24 = .ok (.iload_n 2, 1) := by decide +kernel
theorem dX7_storey_25 : decode cX7_storey 25 = .ok (.ifCond .eq 17, 3) := by decide +kernel
theorem dX7_storey_28 : decode cX7_storey 28 = .ok (.aload_n 0, 1) := by decide +kernel
theorem dX7_storey_29 : decode cX7_storey 29 = .ok (.getfield 32, 3) := by decide +kernel
theorem dX7_storey_32 : decode cX7_storey 32 = .ok (.iload 4, 2) := by decide +kernel
theorem dX7_storey_34 : decode cX7_storey 34 = .ok (.iaload, 1) := by decide +kernel
theorem dX7_storey_35 : decode cX7_storey 35 = .ok (.iload_n 3, 1) := by decide +kernel
theorem dX7_storey_36 : decode cX7_storey 36 = .ok (.if_icmp .le 21, 3) := by decide +kernel
theorem dX7_storey_39 : decode cX7_storey 39 = .ok (.goto 14, 3) := by decide +kernel
theorem dX7_storey_42 : decode cX7_storey 42 = .ok (.aload_n 0, 1) := by decide +kernel
theorem dX7_storey_43 : decode cX7_storey 43 = .ok (.getfield 32, 3) := by decide +kernel
theorem dX7_storey_46 : decode cX7_storey 46 = .ok (.iload 4, 2) := by decide +kernel
theorem dX7_storey_48 : decode cX7_storey 48 = .ok (.iaload, 1) := by decide +kernel
theorem dX7_storey_49 : decode cX7_storey 49 = .ok (.iload_n 3, 1) := by decide +kernel
theorem dX7_storey_50 : decode cX7_storey 50 = .ok (.if_icmp .ge 7, 3) := by decide +kernel
theorem dX7_storey_53 : decode cX7_storey 53 = .ok (.iconst 1, 1) := by decide +kernel
theorem dX7_storey_54 : decode cX7_storey 54 = .ok (.goto 4, 3) := by decide +kernel
theorem dX7_storey_57 : decode cX7_storey 57 = .ok (.iconst 0, 1) := by decide +kernel
theorem dX7_storey_58 : decode cX7_storey 58 = .ok (.istore 5, 2) := by decide +kernel
theorem dX7_storey_60 : decode cX7_storey 60 = .ok (.iload 5, 2) := by decide +kernel
theorem dX7_storey_62 : decode cX7_storey 62 = .ok (.ifCond .eq 13, 3) := by decide +kernel
theorem dX7_storey_65 : decode cX7_storey 65 = .ok (.aload_n 0, 1) := by decide +kernel
theorem dX7_storey_66 : decode cX7_storey 66 = .ok (.getfield 32, 3) := by decide +kernel
theorem dX7_storey_69 : decode cX7_storey 69 = .ok (.iload 4, 2) := by decide +kernel
theorem dX7_storey_71 : decode cX7_storey 71 = .ok (.iaload, 1) := by decide +kernel
theorem dX7_storey_72 : decode cX7_storey 72 = .ok (.goto 4, 3) := by decide +kernel
theorem dX7_storey_75 : decode cX7_storey 75 = .ok (.iload_n 3, 1) := by decide +kernel
theorem dX7_storey_76 : decode cX7_storey 76 = .ok (.istore_n 3, 1) := by decide +kernel
theorem dX7_storey_77 : decode cX7_storey 77 = .ok (.iinc 4 1, 3) := by decide +kernel
theorem dX7_storey_80 : decode cX7_storey 80 = .ok (.goto (-75), 3) := by decide +kernel
theorem dX7_storey_83 : decode cX7_storey 83 = .ok (.iload_n 3, 1) := by decide +kernel
theorem dX7_storey_84 : decode cX7_storey 84 = .ok (.ireturn, 1) := by decide +kernel
set_option maxRecDepth 20000 in
theorem ggX7_about_X7_in : GoodIn wsX7_about wsX7_in := goodIn_r _ [7] (by decide +kernel) (by decide +kernel)
set_option maxRecDepth 20000 in
theorem gX7_about_X7_in : GoodIn wsX7_about (va_wsS RX7 47 yX7_in wsX7_in) := goodIn_app (goodIn_of _ (by decide +kernel)) ggX7_about_X7_in
set_option maxRecDepth 20000 in
theorem ggX7_about_X7_refused : GoodIn wsX7_about wsX7_refused := goodIn_r _ [11, 12, 55, 56, 57, 58, 59, 60, 61, 62, 63, 64, 65] (by decide +kernel) (by decide +kernel)
set_option maxRecDepth 20000 in
theorem gX7_about_X7_refused : GoodIn wsX7_about (wsV RX7 106 RX7 yX7_refused wsX7_refused) := goodIn_app (goodIn_of _ (by decide +kernel)) ggX7_about_X7_refused
set_option maxRecDepth 20000 in
theorem ggX7_about_X7_name : GoodIn wsX7_about wsX7_name := goodIn_r _ [16, 17, 3, 18, 19, 6, 20, 21, 22, 23, 24, 25, 26, 27, 28, 55, 56, 57, 58, 59, 60, 61, 62, 63, 64, 65] (by decide +kernel) (by decide +kernel)
set_option maxRecDepth 20000 in
theorem gX7_about_X7_name : GoodIn wsX7_about (wsV RX7 76 RX7 yX7_name wsX7_name) := goodIn_app (goodIn_of _ (by decide +kernel)) ggX7_about_X7_name
set_option maxRecDepth 20000 in
theorem ggX7_about_X7_alike : GoodIn wsX7_about wsX7_alike := goodIn_r _ [32, 3, 55, 56, 57, 58, 59, 60, 61, 62, 63, 64, 65] (by decide +kernel) (by decide +kernel)
set_option maxRecDepth 20000 in
theorem gX7_about_X7_alike : GoodIn wsX7_about (wsV RX7 141 RX7 yX7_alike wsX7_alike) := goodIn_app (goodIn_of _ (by decide +kernel)) ggX7_about_X7_alike
set_option maxRecDepth 20000 in
theorem ggX7_about_X7_wrongSigns : GoodIn wsX7_about wsX7_wrongSigns := goodIn_r _ [36, 3, 55, 56, 57, 58, 59, 60, 61, 62, 63, 64, 65] (by decide +kernel) (by decide +kernel)
set_option maxRecDepth 20000 in
theorem gX7_about_X7_wrongSigns : GoodIn wsX7_about (wsV RX7 79 RX7 yX7_wrongSigns wsX7_wrongSigns) := goodIn_app (goodIn_of _ (by decide +kernel)) ggX7_about_X7_wrongSigns
set_option maxRecDepth 20000 in
theorem ggX7_about_X7_wrong : GoodIn wsX7_about wsX7_wrong := goodIn_r _ [40, 13, 14, 15, 6, 16, 17, 3, 18, 19, 20, 21, 22, 23, 24, 25, 26, 27, 28, 33, 34, 35, 36, 41, 42, 43, 44, 45, 46, 47, 55, 56, 57, 58, 59, 60, 61, 62, 63, 64, 65] (by decide +kernel) (by decide +kernel)
set_option maxRecDepth 20000 in
theorem gX7_about_X7_wrong : GoodIn wsX7_about (wsV RX7 144 RX7 yX7_wrong wsX7_wrong) := goodIn_app (goodIn_of _ (by decide +kernel)) ggX7_about_X7_wrong
set_option maxRecDepth 20000 in
theorem ggX7_about_X7_skippedMany : GoodIn wsX7_about wsX7_skippedMany := goodIn_r _ [50, 18, 19, 6, 20] (by decide +kernel) (by decide +kernel)
set_option maxRecDepth 20000 in
theorem gX7_about_X7_skippedMany : GoodIn wsX7_about (va_wsS RX7 87 yX7_skippedMany wsX7_skippedMany) := goodIn_app (goodIn_of _ (by decide +kernel)) ggX7_about_X7_skippedMany
set_option maxRecDepth 20000 in
theorem ggX7_about_X7_storey : GoodIn wsX7_about wsX7_storey := goodIn_r _ [54, 3, 17, 55, 56, 57, 58, 59, 60, 61, 62, 63, 64, 65] (by decide +kernel) (by decide +kernel)
set_option maxRecDepth 20000 in
theorem gX7_about_X7_storey : GoodIn wsX7_about (wsV RX7 147 RX7 yX7_storey wsX7_storey) := goodIn_app (goodIn_of _ (by decide +kernel)) ggX7_about_X7_storey
theorem dX7_about_0 : decode cX7_about 0 = .ok (.aload_n 0, 1) := by decide +kernel
theorem dX7_about_1 : decode cX7_about 1 = .ok (.iload_n 1, 1) := by decide +kernel
theorem dX7_about_2 : decode cX7_about 2 = .ok (.i2l, 1) := by decide +kernel
theorem dX7_about_3 : decode cX7_about 3 = .ok (.lconst 0, 1) := by decide +kernel
theorem dX7_about_4 : decode cX7_about 4 = .ok (.ldc2_w 139, 3) := by decide +kernel
theorem dX7_about_7 : decode cX7_about 7 = .ok (.invokestatic 47, 3) := by decide +kernel
theorem dX7_about_10 : decode cX7_about 10 = .ok (.ifCond .eq 7, 3) := by decide +kernel
theorem dX7_about_13 : decode cX7_about 13 = .ok (.iconst 0, 1) := by decide +kernel
theorem dX7_about_14 : decode cX7_about 14 = .ok (.goto 4, 3) := by decide +kernel
theorem dX7_about_17 : decode cX7_about 17 = .ok (.iconst 1, 1) := by decide +kernel
theorem dX7_about_18 : decode cX7_about 18 = .ok (.invokevirtual 106, 3) := by decide +kernel
theorem dX7_about_21 : decode cX7_about 21 = .ok (.ifCond .eq 5, 3) := by decide +kernel
theorem dX7_about_24 : decode cX7_about 24 = .ok (.iconst 0, 1) := by decide +kernel
theorem dX7_about_25 : decode cX7_about 25 = .ok (.ireturn, 1) := by decide +kernel
theorem dX7_about_26 : decode cX7_about 26 = .ok (.aload_n 0, 1) := by decide +kernel
theorem dX7_about_27 : decode cX7_about 27 = .ok (.aload_n 0, 1) := by decide +kernel
theorem dX7_about_28 : decode cX7_about 28 = .ok (.getfield 13, 3) := by decide +kernel
theorem dX7_about_31 : decode cX7_about 31 = .ok (.invokevirtual 76, 3) := by decide +kernel
theorem dX7_about_34 : decode cX7_about 34 = .ok (.iconst 0, 1) := by decide +kernel
theorem dX7_about_35 : decode cX7_about 35 = .ok (.istore_n 2, 1) := by decide +kernel
theorem dX7_about_36 : decode cX7_about 36 = .ok (.iconst 0, 1) := by decide +kernel
theorem dX7_about_37 : decode cX7_about 37 = .ok (.istore_n 3, 1) := by decide +kernel
theorem dX7_about_38 : decode cX7_about 38 = .ok (.iconst 0, 1) := by decide +kernel
theorem dX7_about_39 : decode cX7_about 39 = .ok (.istore 4, 2) := by decide +kernel
theorem dX7_about_41 : decode cX7_about 41 = .ok (.iload 4, 2) := by decide +kernel
theorem dX7_about_43 : decode cX7_about 43 = .ok (.aload_n 0, 1) := by decide +kernel
theorem dX7_about_44 : decode cX7_about 44 = .ok (.getfield 13, 3) := by decide +kernel
theorem dX7_about_47 : decode cX7_about 47 = .ok (.iconst 0, 1) := by decide +kernel
theorem dX7_about_48 : decode cX7_about 48 = .ok (.iaload, 1) := by decide +kernel
theorem dX7_about_49 : decode cX7_about 49 = .ok (.if_icmp .ge 55, 3) := by decide +kernel
theorem dX7_about_52 : decode cX7_about 52 = .ok (.iload_n 2, 1) := by decide +kernel
theorem dX7_about_53 : decode cX7_about 53 = .ok (.aload_n 0, 1) := by decide +kernel
theorem dX7_about_54 : decode cX7_about 54 = .ok (.getfield 29, 3) := by decide +kernel
theorem dX7_about_57 : decode cX7_about 57 = .ok (.iload 4, 2) := by decide +kernel
theorem dX7_about_59 : decode cX7_about 59 = .ok (.iaload, 1) := by decide +kernel
theorem dX7_about_60 : decode cX7_about 60 = .ok (.iconst (-1), 1) := by decide +kernel
theorem dX7_about_61 : decode cX7_about 61 = .ok (.if_icmp .ne 7, 3) := by decide +kernel
theorem dX7_about_64 : decode cX7_about 64 = .ok (.iconst 1, 1) := by decide +kernel
theorem dX7_about_65 : decode cX7_about 65 = .ok (.goto 4, 3) := by decide +kernel
theorem dX7_about_68 : decode cX7_about 68 = .ok (.iconst 0, 1) := by decide +kernel
theorem dX7_about_69 : decode cX7_about 69 = .ok (.iadd, 1) := by decide +kernel
theorem dX7_about_70 : decode cX7_about 70 = .ok (.istore_n 2, 1) := by decide +kernel
theorem dX7_about_71 : decode cX7_about 71 = .ok (.iload_n 3, 1) := by decide +kernel
theorem dX7_about_72 : decode cX7_about 72 = .ok (.aload_n 0, 1) := by decide +kernel
theorem dX7_about_73 : decode cX7_about 73 = .ok (.aload_n 0, 1) := by decide +kernel
theorem dX7_about_74 : decode cX7_about 74 = .ok (.getfield 13, 3) := by decide +kernel
theorem dX7_about_77 : decode cX7_about 77 = .ok (.aload_n 0, 1) := by decide +kernel
theorem dX7_about_78 : decode cX7_about 78 = .ok (.getfield 29, 3) := by decide +kernel
theorem dX7_about_81 : decode cX7_about 81 = .ok (.iload 4, 2) := by decide +kernel
theorem dX7_about_83 : decode cX7_about 83 = .ok (.iaload, 1) := by decide +kernel
theorem dX7_about_84 : decode cX7_about 84 = .ok (.invokevirtual 141, 3) := by decide +kernel
theorem dX7_about_87 : decode cX7_about 87 = .ok (.iconst 1, 1) := by decide +kernel
theorem dX7_about_88 : decode cX7_about 88 = .ok (.if_icmp .le 7, 3) := by decide +kernel
theorem dX7_about_91 : decode cX7_about 91 = .ok (.iconst 1, 1) := by decide +kernel
theorem dX7_about_92 : decode cX7_about 92 = .ok (.goto 4, 3) := by decide +kernel
theorem dX7_about_95 : decode cX7_about 95 = .ok (.iconst 0, 1) := by decide +kernel
theorem dX7_about_96 : decode cX7_about 96 = .ok (.iadd, 1) := by decide +kernel
theorem dX7_about_97 : decode cX7_about 97 = .ok (.istore_n 3, 1) := by decide +kernel
theorem dX7_about_98 : decode cX7_about 98 = .ok (.iinc 4 1, 3) := by decide +kernel
theorem dX7_about_101 : decode cX7_about 101 = .ok (.goto (-60), 3) := by decide +kernel
theorem dX7_about_104 : decode cX7_about 104 = .ok (.iload_n 1, 1) := by decide +kernel
theorem dX7_about_105 : decode cX7_about 105 = .ok (.tableswitch 102 2 8 #[43, 52, 70, 72, 74, 82, 82], 43) := by decide +kernel
theorem dX7_about_148 : decode cX7_about 148 = .ok (.aload_n 0, 1) := by decide +kernel
theorem dX7_about_149 : decode cX7_about 149 = .ok (.aload_n 0, 1) := by decide +kernel
theorem dX7_about_150 : decode cX7_about 150 = .ok (.getfield 13, 3) := by decide +kernel
theorem dX7_about_153 : decode cX7_about 153 = .ok (.invokevirtual 79, 3) := by decide +kernel
theorem dX7_about_156 : decode cX7_about 156 = .ok (.ireturn, 1) := by decide +kernel
theorem dX7_about_157 : decode cX7_about 157 = .ok (.aload_n 0, 1) := by decide +kernel
theorem dX7_about_158 : decode cX7_about 158 = .ok (.aload_n 0, 1) := by decide +kernel
theorem dX7_about_159 : decode cX7_about 159 = .ok (.getfield 13, 3) := by decide +kernel
theorem dX7_about_162 : decode cX7_about 162 = .ok (.invokevirtual 144, 3) := by decide +kernel
theorem dX7_about_165 : decode cX7_about 165 = .ok (.aload_n 0, 1) := by decide +kernel
theorem dX7_about_166 : decode cX7_about 166 = .ok (.aload_n 0, 1) := by decide +kernel
theorem dX7_about_167 : decode cX7_about 167 = .ok (.getfield 13, 3) := by decide +kernel
theorem dX7_about_170 : decode cX7_about 170 = .ok (.invokevirtual 79, 3) := by decide +kernel
theorem dX7_about_173 : decode cX7_about 173 = .ok (.isub, 1) := by decide +kernel
theorem dX7_about_174 : decode cX7_about 174 = .ok (.ireturn, 1) := by decide +kernel
theorem dX7_about_175 : decode cX7_about 175 = .ok (.iload_n 2, 1) := by decide +kernel
theorem dX7_about_176 : decode cX7_about 176 = .ok (.ireturn, 1) := by decide +kernel
theorem dX7_about_177 : decode cX7_about 177 = .ok (.iload_n 3, 1) := by decide +kernel
theorem dX7_about_178 : decode cX7_about 178 = .ok (.ireturn, 1) := by decide +kernel
theorem dX7_about_179 : decode cX7_about 179 = .ok (.aload_n 0, 1) := by decide +kernel
theorem dX7_about_180 : decode cX7_about 180 = .ok (.getfield 13, 3) := by decide +kernel
theorem dX7_about_183 : decode cX7_about 183 = .ok (.invokestatic 87, 3) := by decide +kernel
theorem dX7_about_186 : decode cX7_about 186 = .ok (.ireturn, 1) := by decide +kernel
theorem dX7_about_187 : decode cX7_about 187 = .ok (.aload_n 0, 1) := by decide +kernel
theorem dX7_about_188 : decode cX7_about 188 = .ok (.aload_n 0, 1) := by decide +kernel
theorem dX7_about_189 : decode cX7_about 189 = .ok (.getfield 13, 3) := by decide +kernel
theorem dX7_about_192 : decode cX7_about 192 = .ok (.iload_n 1, 1) := by decide +kernel
theorem dX7_about_193 : decode cX7_about 193 = .ok (.bipush 7, 2) := by decide +kernel
theorem dX7_about_195 : decode cX7_about 195 = .ok (.if_icmp .ne 7, 3) := by decide +kernel
theorem dX7_about_198 : decode cX7_about 198 = .ok (.iconst 1, 1) := by decide +kernel
theorem dX7_about_199 : decode cX7_about 199 = .ok (.goto 4, 3) := by decide +kernel
theorem dX7_about_202 : decode cX7_about 202 = .ok (.iconst 0, 1) := by decide +kernel
theorem dX7_about_203 : decode cX7_about 203 = .ok (.invokevirtual 147, 3) := by decide +kernel
theorem dX7_about_206 : decode cX7_about 206 = .ok (.ireturn, 1) := by decide +kernel
theorem dX7_about_207 : decode cX7_about 207 = .ok (.aload_n 0, 1) := by decide +kernel
theorem dX7_about_208 : decode cX7_about 208 = .ok (.getfield 13, 3) := by decide +kernel
theorem dX7_about_211 : decode cX7_about 211 = .ok (.iload_n 1, 1) := by decide +kernel
theorem dX7_about_212 : decode cX7_about 212 = .ok (.iaload, 1) := by decide +kernel
theorem dX7_about_213 : decode cX7_about 213 = .ok (.ireturn, 1) := by decide +kernel
set_option maxRecDepth 20000 in
theorem ggX7_level_X7_isLevel : GoodIn wsX7_level wsX7_isLevel := goodIn_r _ [7, 8, 9, 6, 10] (by decide +kernel) (by decide +kernel)
set_option maxRecDepth 20000 in
theorem gX7_level_X7_isLevel : GoodIn wsX7_level (va_wsS RX7 98 yX7_isLevel wsX7_isLevel) := goodIn_app (goodIn_of _ (by decide +kernel)) ggX7_level_X7_isLevel
set_option maxRecDepth 20000 in
theorem ggX7_level_X7_in : GoodIn wsX7_level wsX7_in := goodIn_r _ [10] (by decide +kernel) (by decide +kernel)
set_option maxRecDepth 20000 in
theorem gX7_level_X7_in : GoodIn wsX7_level (va_wsS RX7 47 yX7_in wsX7_in) := goodIn_app (goodIn_of _ (by decide +kernel)) ggX7_level_X7_in
set_option maxRecDepth 20000 in
theorem ggX7_level_X7_refused : GoodIn wsX7_level wsX7_refused := goodIn_r _ [14, 15, 36, 37, 38, 39, 40, 41, 42, 43, 44, 45, 46] (by decide +kernel) (by decide +kernel)
set_option maxRecDepth 20000 in
theorem gX7_level_X7_refused : GoodIn wsX7_level (wsV RX7 106 RX7 yX7_refused wsX7_refused) := goodIn_app (goodIn_of _ (by decide +kernel)) ggX7_level_X7_refused
set_option maxRecDepth 20000 in
theorem ggX7_level_X7_name : GoodIn wsX7_level wsX7_name := goodIn_r _ [19, 20, 3, 21, 22, 6, 23, 24, 25, 26, 27, 28, 29, 30, 31, 36, 37, 38, 39, 40, 41, 42, 43, 44, 45, 46] (by decide +kernel) (by decide +kernel)
set_option maxRecDepth 20000 in
theorem gX7_level_X7_name : GoodIn wsX7_level (wsV RX7 76 RX7 yX7_name wsX7_name) := goodIn_app (goodIn_of _ (by decide +kernel)) ggX7_level_X7_name
set_option maxRecDepth 20000 in
theorem ggX7_level_X7_alike : GoodIn wsX7_level wsX7_alike := goodIn_r _ [35, 3, 36, 37, 38, 39, 40, 41, 42, 43, 44, 45, 46] (by decide +kernel) (by decide +kernel)
set_option maxRecDepth 20000 in
theorem gX7_level_X7_alike : GoodIn wsX7_level (wsV RX7 141 RX7 yX7_alike wsX7_alike) := goodIn_app (goodIn_of _ (by decide +kernel)) ggX7_level_X7_alike
theorem dX7_level_0 : decode cX7_level 0 = .ok (.aload_n 0, 1) := by decide +kernel
theorem dX7_level_1 : decode cX7_level 1 = .ok (.aload_n 0, 1) := by decide +kernel
theorem dX7_level_2 : decode cX7_level 2 = .ok (.getfield 13, 3) := by decide +kernel
theorem dX7_level_5 : decode cX7_level 5 = .ok (.iload_n 1, 1) := by decide +kernel
theorem dX7_level_6 : decode cX7_level 6 = .ok (.invokestatic 98, 3) := by decide +kernel
theorem dX7_level_9 : decode cX7_level 9 = .ok (.ifCond .ne 7, 3) := by decide +kernel
theorem dX7_level_12 : decode cX7_level 12 = .ok (.iconst 1, 1) := by decide +kernel
theorem dX7_level_13 : decode cX7_level 13 = .ok (.goto 20, 3) := by decide +kernel
theorem dX7_level_16 : decode cX7_level 16 = .ok (.iload_n 2, 1) := by decide +kernel
theorem dX7_level_17 : decode cX7_level 17 = .ok (.i2l, 1) := by decide +kernel
theorem dX7_level_18 : decode cX7_level 18 = .ok (.lconst 0, 1) := by decide +kernel
theorem dX7_level_19 : decode cX7_level 19 = .ok (.ldc2_w 151, 3) := by decide +kernel
theorem dX7_level_22 : decode cX7_level 22 = .ok (.invokestatic 47, 3) := by decide +kernel
theorem dX7_level_25 : decode cX7_level 25 = .ok (.ifCond .eq 7, 3) := by decide +kernel
theorem dX7_level_28 : decode cX7_level 28 = .ok (.iconst 0, 1) := by decide +kernel
theorem dX7_level_29 : decode cX7_level 29 = .ok (.goto 4, 3) := by decide +kernel
theorem dX7_level_32 : decode cX7_level 32 = .ok (.iconst 2, 1) := by decide +kernel
theorem dX7_level_33 : decode cX7_level 33 = .ok (.invokevirtual 106, 3) := by decide +kernel
theorem dX7_level_36 : decode cX7_level 36 = .ok (.ifCond .eq 5, 3) := by decide +kernel
theorem dX7_level_39 : decode cX7_level 39 = .ok (.iconst 0, 1) := by decide +kernel
theorem dX7_level_40 : decode cX7_level 40 = .ok (.ireturn, 1) := by decide +kernel
theorem dX7_level_41 : decode cX7_level 41 = .ok (.aload_n 0, 1) := by decide +kernel
theorem dX7_level_42 : decode cX7_level 42 = .ok (.aload_n 0, 1) := by decide +kernel
theorem dX7_level_43 : decode cX7_level 43 = .ok (.getfield 13, 3) := by decide +kernel
theorem dX7_level_46 : decode cX7_level 46 = .ok (.invokevirtual 76, 3) := by decide +kernel
theorem dX7_level_49 : decode cX7_level 49 = .ok (.iload_n 2, 1) := by decide +kernel
theorem dX7_level_50 : decode cX7_level 50 = .ok (.ifCond .ne 14, 3) := by decide +kernel
theorem dX7_level_53 : decode cX7_level 53 = .ok (.aload_n 0, 1) := by decide +kernel
theorem dX7_level_54 : decode cX7_level 54 = .ok (.getfield 13, 3) := by decide +kernel
theorem dX7_level_57 : decode cX7_level 57 = .ok (.iconst 3, 1) := by decide +kernel
theorem dX7_level_58 : decode cX7_level 58 = .ok (.iload_n 1, 1) := by decide +kernel
theorem dX7_level_59 : decode cX7_level 59 = .ok (.iadd, 1) := by decide +kernel
theorem dX7_level_60 : decode cX7_level 60 = .ok (.iaload, 1) := by decide +kernel
theorem dX7_level_61 : decode cX7_level 61 = .ok (.goto 79, 3) := by decide +kernel
theorem dX7_level_64 : decode cX7_level 64 = .ok (.iload_n 2, 1) := by decide +kernel
theorem dX7_level_65 : decode cX7_level 65 = .ok (.iconst 1, 1) := by decide +kernel
theorem dX7_level_66 : decode cX7_level 66 = .ok (.if_icmp .ne 12, 3) := by decide +kernel
theorem dX7_level_69 : decode cX7_level 69 = .ok (.aload_n 0, 1) := by decide +kernel
theorem dX7_level_70 : decode cX7_level 70 = .ok (.getfield 29, 3) := by decide +kernel
theorem dX7_level_73 : decode cX7_level 73 = .ok (.iload_n 1, 1) := by decide +kernel
theorem dX7_level_74 : decode cX7_level 74 = .ok (.iaload, 1) := by decide +kernel
theorem dX7_level_75 : decode cX7_level 75 = .ok (.goto 65, 3) := by decide +kernel
theorem dX7_level_78 : decode cX7_level 78 = .ok (.iload_n 2, 1) := by decide +kernel
theorem dX7_level_79 : decode cX7_level 79 = .ok (.iconst 2, 1) := by decide +kernel
theorem dX7_level_80 : decode cX7_level 80 = .ok (.if_icmp .ne 15, 3) := by decide +kernel
theorem dX7_level_83 : decode cX7_level 83 = .ok (.aload_n 0, 1) := by decide +kernel
theorem dX7_level_84 : decode cX7_level 84 = .ok (.getfield 13, 3) := by decide +kernel
theorem dX7_level_87 : decode cX7_level 87 = .ok (.bipush 19, 2) := by decide +kernel
theorem dX7_level_89 : decode cX7_level 89 = .ok (.iload_n 1, 1) := by decide +kernel
theorem dX7_level_90 : decode cX7_level 90 = .ok (.iadd, 1) := by decide +kernel
theorem dX7_level_91 : decode cX7_level 91 = .ok (.iaload, 1) := by decide +kernel
theorem dX7_level_92 : decode cX7_level 92 = .ok (.goto 48, 3) := by decide +kernel
theorem dX7_level_95 : decode cX7_level 95 = .ok (.iload_n 2, 1) := by decide +kernel
theorem dX7_level_96 : decode cX7_level 96 = .ok (.iconst 3, 1) := by decide +kernel
theorem dX7_level_97 : decode cX7_level 97 = .ok (.if_icmp .ne 29, 3) := by decide +kernel
theorem dX7_level_100 : decode cX7_level 100 = .ok (.aload_n 0, 1) := by decide +kernel
theorem dX7_level_101 : decode cX7_level 101 = .ok (.getfield 13, 3) := by decide +kernel
theorem dX7_level_104 : decode cX7_level 104 = .ok (.bipush 19, 2) := by decide +kernel
theorem dX7_level_106 : decode cX7_level 106 = .ok (.iload_n 1, 1) := by decide +kernel
theorem dX7_level_107 : decode cX7_level 107 = .ok (.iadd, 1) := by decide +kernel
theorem dX7_level_108 : decode cX7_level 108 = .ok (.iaload, 1) := by decide +kernel
theorem dX7_level_109 : decode cX7_level 109 = .ok (.aload_n 0, 1) := by decide +kernel
theorem dX7_level_110 : decode cX7_level 110 = .ok (.getfield 29, 3) := by decide +kernel
theorem dX7_level_113 : decode cX7_level 113 = .ok (.iload_n 1, 1) := by decide +kernel
theorem dX7_level_114 : decode cX7_level 114 = .ok (.iaload, 1) := by decide +kernel
theorem dX7_level_115 : decode cX7_level 115 = .ok (.if_icmp .ne 7, 3) := by decide +kernel
theorem dX7_level_118 : decode cX7_level 118 = .ok (.iconst 1, 1) := by decide +kernel
theorem dX7_level_119 : decode cX7_level 119 = .ok (.goto 21, 3) := by decide +kernel
theorem dX7_level_122 : decode cX7_level 122 = .ok (.iconst 0, 1) := by decide +kernel
theorem dX7_level_123 : decode cX7_level 123 = .ok (.goto 17, 3) := by decide +kernel
theorem dX7_level_126 : decode cX7_level 126 = .ok (.aload_n 0, 1) := by decide +kernel
theorem dX7_level_127 : decode cX7_level 127 = .ok (.aload_n 0, 1) := by decide +kernel
theorem dX7_level_128 : decode cX7_level 128 = .ok (.getfield 13, 3) := by decide +kernel
theorem dX7_level_131 : decode cX7_level 131 = .ok (.aload_n 0, 1) := by decide +kernel
theorem dX7_level_132 : decode cX7_level 132 = .ok (.getfield 29, 3) := by decide +kernel
theorem dX7_level_135 : decode cX7_level 135 = .ok (.iload_n 1, 1) := by decide +kernel
theorem dX7_level_136 : decode cX7_level 136 = .ok (.iaload, 1) := by decide +kernel
theorem dX7_level_137 : decode cX7_level 137 = .ok (.invokevirtual 141, 3) := by decide +kernel
theorem dX7_level_140 : decode cX7_level 140 = .ok (.ireturn, 1) := by decide +kernel
set_option maxRecDepth 20000 in
theorem ggX7_button_X7_isCar : GoodIn wsX7_button wsX7_isCar := goodIn_r _ [7, 2, 8, 9, 6, 10] (by decide +kernel) (by decide +kernel)
set_option maxRecDepth 20000 in
theorem gX7_button_X7_isCar : GoodIn wsX7_button (va_wsS RX7 153 yX7_isCar wsX7_isCar) := goodIn_app (goodIn_of _ (by decide +kernel)) ggX7_button_X7_isCar
set_option maxRecDepth 20000 in
theorem ggX7_button_X7_isLevel : GoodIn wsX7_button wsX7_isLevel := goodIn_r _ [13, 8, 9, 6, 10] (by decide +kernel) (by decide +kernel)
set_option maxRecDepth 20000 in
theorem gX7_button_X7_isLevel : GoodIn wsX7_button (va_wsS RX7 98 yX7_isLevel wsX7_isLevel) := goodIn_app (goodIn_of _ (by decide +kernel)) ggX7_button_X7_isLevel
set_option maxRecDepth 20000 in
theorem ggX7_button_X7_in : GoodIn wsX7_button wsX7_in := goodIn_r _ [10] (by decide +kernel) (by decide +kernel)
set_option maxRecDepth 20000 in
theorem gX7_button_X7_in : GoodIn wsX7_button (va_wsS RX7 47 yX7_in wsX7_in) := goodIn_app (goodIn_of _ (by decide +kernel)) ggX7_button_X7_in
set_option maxRecDepth 20000 in
theorem ggX7_button_X7_refused : GoodIn wsX7_button wsX7_refused := goodIn_r _ [17, 18, 41, 42, 43, 44, 45, 46, 47, 48, 49, 50, 51] (by decide +kernel) (by decide +kernel)
set_option maxRecDepth 20000 in
theorem gX7_button_X7_refused : GoodIn wsX7_button (wsV RX7 106 RX7 yX7_refused wsX7_refused) := goodIn_app (goodIn_of _ (by decide +kernel)) ggX7_button_X7_refused
set_option maxRecDepth 20000 in
theorem ggX7_button_X7_name : GoodIn wsX7_button wsX7_name := goodIn_r _ [22, 23, 3, 24, 25, 6, 26, 27, 28, 29, 30, 31, 32, 33, 34, 41, 42, 43, 44, 45, 46, 47, 48, 49, 50, 51] (by decide +kernel) (by decide +kernel)
set_option maxRecDepth 20000 in
theorem gX7_button_X7_name : GoodIn wsX7_button (wsV RX7 76 RX7 yX7_name wsX7_name) := goodIn_app (goodIn_of _ (by decide +kernel)) ggX7_button_X7_name
set_option maxRecDepth 20000 in
theorem ggX7_button_X7_says : GoodIn wsX7_button wsX7_says := goodIn_r _ [37] (by decide +kernel) (by decide +kernel)
set_option maxRecDepth 20000 in
theorem gX7_button_X7_says : GoodIn wsX7_button (va_wsS RX7 73 yX7_says wsX7_says) := goodIn_app (goodIn_of _ (by decide +kernel)) ggX7_button_X7_says
set_option maxRecDepth 20000 in
theorem ggX7_button_X7_serves : GoodIn wsX7_button wsX7_serves := goodIn_r _ [40] (by decide +kernel) (by decide +kernel)
set_option maxRecDepth 20000 in
theorem gX7_button_X7_serves : GoodIn wsX7_button (va_wsS RX7 90 yX7_serves wsX7_serves) := goodIn_app (goodIn_of _ (by decide +kernel)) ggX7_button_X7_serves
theorem dX7_button_0 : decode cX7_button 0 = .ok (.aload_n 0, 1) := by decide +kernel
theorem dX7_button_1 : decode cX7_button 1 = .ok (.iload_n 1, 1) := by decide +kernel
theorem dX7_button_2 : decode cX7_button 2 = .ok (.invokestatic 153, 3) := by decide +kernel
theorem dX7_button_5 : decode cX7_button 5 = .ok (.ifCond .eq 14, 3) := by decide +kernel
theorem dX7_button_8 : decode cX7_button 8 = .ok (.aload_n 0, 1) := by decide +kernel
theorem dX7_button_9 : decode cX7_button 9 = .ok (.getfield 13, 3) := by decide +kernel
theorem dX7_button_12 : decode cX7_button 12 = .ok (.iload_n 2, 1) := by decide +kernel
theorem dX7_button_13 : decode cX7_button 13 = .ok (.invokestatic 98, 3) := by decide +kernel
theorem dX7_button_16 : decode cX7_button 16 = .ok (.ifCond .ne 7, 3) := by decide +kernel
theorem dX7_button_19 : decode cX7_button 19 = .ok (.iconst 1, 1) := by decide +kernel
theorem dX7_button_20 : decode cX7_button 20 = .ok (.goto 20, 3) := by decide +kernel
theorem dX7_button_23 : decode cX7_button 23 = .ok (.iload_n 3, 1) := by decide +kernel
theorem dX7_button_24 : decode cX7_button 24 = .ok (.i2l, 1) := by decide +kernel
theorem dX7_button_25 : decode cX7_button 25 = .ok (.lconst 0, 1) := by decide +kernel
theorem dX7_button_26 : decode cX7_button 26 = .ok (.ldc2_w 51, 3) := by decide +kernel
theorem dX7_button_29 : decode cX7_button 29 = .ok (.invokestatic 47, 3) := by decide +kernel
theorem dX7_button_32 : decode cX7_button 32 = .ok (.ifCond .eq 7, 3) := by decide +kernel
theorem dX7_button_35 : decode cX7_button 35 = .ok (.iconst 0, 1) := by decide +kernel
theorem dX7_button_36 : decode cX7_button 36 = .ok (.goto 4, 3) := by decide +kernel
theorem dX7_button_39 : decode cX7_button 39 = .ok (.iconst 2, 1) := by decide +kernel
theorem dX7_button_40 : decode cX7_button 40 = .ok (.invokevirtual 106, 3) := by decide +kernel
theorem dX7_button_43 : decode cX7_button 43 = .ok (.ifCond .eq 5, 3) := by decide +kernel
theorem dX7_button_46 : decode cX7_button 46 = .ok (.iconst 0, 1) := by decide +kernel
theorem dX7_button_47 : decode cX7_button 47 = .ok (.ireturn, 1) := by decide +kernel
theorem dX7_button_48 : decode cX7_button 48 = .ok (.aload_n 0, 1) := by decide +kernel
theorem dX7_button_49 : decode cX7_button 49 = .ok (.aload_n 0, 1) := by decide +kernel
theorem dX7_button_50 : decode cX7_button 50 = .ok (.getfield 13, 3) := by decide +kernel
theorem dX7_button_53 : decode cX7_button 53 = .ok (.invokevirtual 76, 3) := by decide +kernel
theorem dX7_button_56 : decode cX7_button 56 = .ok (.iload_n 3, 1) := by decide +kernel
theorem dX7_button_57 : decode cX7_button 57 = .ok (.ifCond .ne 15, 3) := by decide +kernel
theorem dX7_button_60 : decode cX7_button 60 = .ok (.aload_n 0, 1) := by decide +kernel
theorem dX7_button_61 : decode cX7_button 61 = .ok (.getfield 13, 3) := by decide +kernel
theorem dX7_button_64 : decode cX7_button 64 = .ok (.iload_n 1, 1) := by decide +kernel
theorem dX7_button_65 : decode cX7_button 65 = .ok (.iload_n 2, 1) := by decide +kernel
theorem dX7_button_66 : decode cX7_button 66 = .ok (.invokestatic 73, 3) := by decide +kernel
theorem dX7_button_69 : decode cX7_button 69 = .ok (.goto 51, 3) := by decide +kernel
theorem dX7_button_72 : decode cX7_button 72 = .ok (.iload_n 3, 1) := by decide +kernel
theorem dX7_button_73 : decode cX7_button 73 = .ok (.iconst 1, 1) := by decide +kernel
theorem dX7_button_74 : decode cX7_button 74 = .ok (.if_icmp .ne 29, 3) := by decide +kernel
theorem dX7_button_77 : decode cX7_button 77 = .ok (.aload_n 0, 1) := by decide +kernel
theorem dX7_button_78 : decode cX7_button 78 = .ok (.getfield 13, 3) := by decide +kernel
theorem dX7_button_81 : decode cX7_button 81 = .ok (.iload_n 1, 1) := by decide +kernel
theorem dX7_button_82 : decode cX7_button 82 = .ok (.iload_n 2, 1) := by decide +kernel
theorem dX7_button_83 : decode cX7_button 83 = .ok (.invokestatic 73, 3) := by decide +kernel
theorem dX7_button_86 : decode cX7_button 86 = .ok (.aload_n 0, 1) := by decide +kernel
theorem dX7_button_87 : decode cX7_button 87 = .ok (.getfield 29, 3) := by decide +kernel
theorem dX7_button_90 : decode cX7_button 90 = .ok (.iload_n 2, 1) := by decide +kernel
theorem dX7_button_91 : decode cX7_button 91 = .ok (.iaload, 1) := by decide +kernel
theorem dX7_button_92 : decode cX7_button 92 = .ok (.if_icmp .ne 7, 3) := by decide +kernel
theorem dX7_button_95 : decode cX7_button 95 = .ok (.iconst 1, 1) := by decide +kernel
theorem dX7_button_96 : decode cX7_button 96 = .ok (.goto 24, 3) := by decide +kernel
theorem dX7_button_99 : decode cX7_button 99 = .ok (.iconst 0, 1) := by decide +kernel
theorem dX7_button_100 : decode cX7_button 100 = .ok (.goto 20, 3) := by decide +kernel
theorem dX7_button_103 : decode cX7_button 103 = .ok (.aload_n 0, 1) := by decide +kernel
theorem dX7_button_104 : decode cX7_button 104 = .ok (.getfield 13, 3) := by decide +kernel
theorem dX7_button_107 : decode cX7_button 107 = .ok (.iload_n 1, 1) := by decide +kernel
theorem dX7_button_108 : decode cX7_button 108 = .ok (.iload_n 2, 1) := by decide +kernel
theorem dX7_button_109 : decode cX7_button 109 = .ok (.invokestatic 90, 3) := by decide +kernel
theorem dX7_button_112 : decode cX7_button 112 = .ok (.ifCond .eq 7, 3) := by decide +kernel
theorem dX7_button_115 : decode cX7_button 115 = .ok (.iconst 1, 1) := by decide +kernel
theorem dX7_button_116 : decode cX7_button 116 = .ok (.goto 4, 3) := by decide +kernel
theorem dX7_button_119 : decode cX7_button 119 = .ok (.iconst 0, 1) := by decide +kernel
theorem dX7_button_120 : decode cX7_button 120 = .ok (.ireturn, 1) := by decide +kernel
set_option maxRecDepth 20000 in
theorem ggX7_isSkipped_X7_isStorey : GoodIn wsX7_isSkipped wsX7_isStorey := goodIn_r _ [5, 6, 7, 8, 4, 9] (by decide +kernel) (by decide +kernel)
set_option maxRecDepth 20000 in
theorem gX7_isSkipped_X7_isStorey : GoodIn wsX7_isSkipped (va_wsS RX7 156 yX7_isStorey wsX7_isStorey) := goodIn_app (goodIn_of _ (by decide +kernel)) ggX7_isSkipped_X7_isStorey
set_option maxRecDepth 20000 in
theorem ggX7_isSkipped_X7_refused : GoodIn wsX7_isSkipped wsX7_refused := goodIn_r _ [13, 14, 18, 19, 20, 21, 22, 23, 24, 25, 26, 27, 28] (by decide +kernel) (by decide +kernel)
set_option maxRecDepth 20000 in
theorem gX7_isSkipped_X7_refused : GoodIn wsX7_isSkipped (wsV RX7 106 RX7 yX7_refused wsX7_refused) := goodIn_app (goodIn_of _ (by decide +kernel)) ggX7_isSkipped_X7_refused
set_option maxRecDepth 20000 in
theorem ggX7_isSkipped_X7_skips : GoodIn wsX7_isSkipped wsX7_skips := goodIn_r _ [17] (by decide +kernel) (by decide +kernel)
set_option maxRecDepth 20000 in
theorem gX7_isSkipped_X7_skips : GoodIn wsX7_isSkipped (va_wsS RX7 65 yX7_skips wsX7_skips) := goodIn_app (goodIn_of _ (by decide +kernel)) ggX7_isSkipped_X7_skips
theorem dX7_isSkipped_0 : decode cX7_isSkipped 0 = .ok (.aload_n 0, 1) := by decide +kernel
theorem dX7_isSkipped_1 : decode cX7_isSkipped 1 = .ok (.iload_n 1, 1) := by decide +kernel
theorem dX7_isSkipped_2 : decode cX7_isSkipped 2 = .ok (.invokestatic 156, 3) := by decide +kernel
theorem dX7_isSkipped_5 : decode cX7_isSkipped 5 = .ok (.ifCond .eq 7, 3) := by decide +kernel
theorem dX7_isSkipped_8 : decode cX7_isSkipped 8 = .ok (.iconst 0, 1) := by decide +kernel
theorem dX7_isSkipped_9 : decode cX7_isSkipped 9 = .ok (.goto 4, 3) := by decide +kernel
theorem dX7_isSkipped_12 : decode cX7_isSkipped 12 = .ok (.iconst 1, 1) := by decide +kernel
theorem dX7_isSkipped_13 : decode cX7_isSkipped 13 = .ok (.invokevirtual 106, 3) := by decide +kernel
theorem dX7_isSkipped_16 : decode cX7_isSkipped 16 = .ok (.ifCond .eq 5, 3) := by decide +kernel
theorem dX7_isSkipped_19 : decode cX7_isSkipped 19 = .ok (.iconst 0, 1) := by decide +kernel
theorem dX7_isSkipped_20 : decode cX7_isSkipped 20 = .ok (.ireturn, 1) := by decide +kernel
theorem dX7_isSkipped_21 : decode cX7_isSkipped 21 = .ok (.aload_n 0, 1) := by decide +kernel
theorem dX7_isSkipped_22 : decode cX7_isSkipped 22 = .ok (.getfield 13, 3) := by decide +kernel
theorem dX7_isSkipped_25 : decode cX7_isSkipped 25 = .ok (.iload_n 1, 1) := by decide +kernel
theorem dX7_isSkipped_26 : decode cX7_isSkipped 26 = .ok (.invokestatic 65, 3) := by decide +kernel
theorem dX7_isSkipped_29 : decode cX7_isSkipped 29 = .ok (.ireturn, 1) := by decide +kernel
set_option maxRecDepth 20000 in
theorem ggX7_named_X7_refused : GoodIn wsX7_named wsX7_refused := goodIn_r _ [7, 8, 25, 26, 27, 28, 29, 30, 31, 32, 33, 34, 35] (by decide +kernel) (by decide +kernel)
set_option maxRecDepth 20000 in
theorem gX7_named_X7_refused : GoodIn wsX7_named (wsV RX7 106 RX7 yX7_refused wsX7_refused) := goodIn_app (goodIn_of _ (by decide +kernel)) ggX7_named_X7_refused
set_option maxRecDepth 20000 in
theorem ggX7_named_X7_name : GoodIn wsX7_named wsX7_name := goodIn_r _ [12, 13, 2, 14, 15, 6, 16, 17, 18, 19, 20, 21, 22, 23, 24, 25, 26, 27, 28, 29, 30, 31, 32, 33, 34, 35] (by decide +kernel) (by decide +kernel)
set_option maxRecDepth 20000 in
theorem gX7_named_X7_name : GoodIn wsX7_named (wsV RX7 76 RX7 yX7_name wsX7_name) := goodIn_app (goodIn_of _ (by decide +kernel)) ggX7_named_X7_name
theorem dX7_named_0 : decode cX7_named 0 = .ok (.aload_n 0, 1) := by decide +kernel
theorem dX7_named_1 : decode cX7_named 1 = .ok (.iload_n 2, 1) := by decide +kernel
theorem dX7_named_2 : decode cX7_named 2 = .ok (.ifCond .lt 7, 3) := by decide +kernel
theorem dX7_named_5 : decode cX7_named 5 = .ok (.iconst 0, 1) := by decide +kernel
theorem dX7_named_6 : decode cX7_named 6 = .ok (.goto 4, 3) := by decide +kernel
theorem dX7_named_9 : decode cX7_named 9 = .ok (.iconst 1, 1) := by decide +kernel
theorem dX7_named_10 : decode cX7_named 10 = .ok (.invokevirtual 106, 3) := by decide +kernel
theorem dX7_named_13 : decode cX7_named 13 = .ok (.ifCond .eq 5, 3) := by decide +kernel
theorem dX7_named_16 : decode cX7_named 16 = .ok (.iconst 0, 1) := by decide +kernel
theorem dX7_named_17 : decode cX7_named 17 = .ok (.ireturn, 1) := by decide +kernel
theorem dX7_named_18 : decode cX7_named 18 = .ok (.aload_n 0, 1) := by decide +kernel
theorem dX7_named_19 : decode cX7_named 19 = .ok (.aload_n 0, 1) := by decide +kernel
theorem dX7_named_20 : decode cX7_named 20 = .ok (.getfield 13, 3) := by decide +kernel
theorem dX7_named_23 : decode cX7_named 23 = .ok (.invokevirtual 76, 3) := by decide +kernel
theorem dX7_named_26 : decode cX7_named 26 = .ok (.iload_n 2, 1) := by decide +kernel
theorem dX7_named_27 : decode cX7_named 27 = .ok (.istore_n 3, 1) := by decide +kernel
theorem dX7_named_28 : decode cX7_named 28 = .ok (.iconst 0, 1) := by decide +kernel
theorem dX7_named_29 : decode cX7_named 29 = .ok (.istore 4, 2) := by decide +kernel
theorem dX7_named_31 : decode cX7_named 31 = .ok (.iload 4, 2) := by decide +kernel
theorem dX7_named_33 : decode cX7_named 33 = .ok (.aload_n 0, 1) := by decide +kernel
theorem dX7_named_34 : decode cX7_named 34 = .ok (.getfield 13, 3) := by decide +kernel
theorem dX7_named_37 : decode cX7_named 37 = .ok (.iconst 0, 1) := by decide +kernel
theorem dX7_named_38 : decode cX7_named 38 = .ok (.iaload, 1) := by decide +kernel
theorem dX7_named_39 : decode cX7_named 39 = .ok (.if_icmp .ge 35, 3) := by decide +kernel
theorem dX7_named_42 : decode cX7_named 42 = .ok (.iload_n 1, 1) := by decide +kernel
theorem dX7_named_43 : decode cX7_named 43 = .ok (.iconst (-1), 1) := by decide +kernel
theorem dX7_named_44 : decode cX7_named 44 = .ok (.if_icmp .eq 24, 3) := by decide +kernel
theorem dX7_named_47 : decode cX7_named 47 = .ok (.aload_n 0, 1) := by decide +kernel
theorem dX7_named_48 : decode cX7_named 48 = .ok (.getfield 29, 3) := by decide +kernel
theorem dX7_named_51 : decode cX7_named 51 = .ok (.iload 4, 2) := by decide +kernel
theorem dX7_named_53 : decode cX7_named 53 = .ok (.iaload, 1) := by decide +kernel
theorem dX7_named_54 : decode cX7_named 54 = .ok (.iload_n 1, 1) := by decide +kernel
theorem dX7_named_55 : decode cX7_named 55 = .ok (.if_icmp .ne 13, 3) := by decide +kernel
theorem dX7_named_58 : decode cX7_named 58 = .ok (.iload_n 3, 1) := by decide +kernel
theorem dX7_named_59 : decode cX7_named 59 = .ok (.ifCond .ne 6, 3) := by decide +kernel
theorem dX7_named_62 : decode cX7_named 62 = .ok (.iload 4, 2) := by decide +kernel
theorem dX7_named_64 : decode cX7_named 64 = .ok (.ireturn, 1) := by decide +kernel
theorem dX7_named_65 : decode cX7_named 65 = .ok (.iinc 3 (-1), 3) := by decide +kernel
theorem dX7_named_68 : decode cX7_named 68 = .ok (.iinc 4 1, 3) := by decide +kernel
theorem dX7_named_71 : decode cX7_named 71 = .ok (.goto (-40), 3) := by decide +kernel
theorem dX7_named_74 : decode cX7_named 74 = .ok (.iconst (-1), 1) := by decide +kernel
theorem dX7_named_75 : decode cX7_named 75 = .ok (.ireturn, 1) := by decide +kernel
set_option maxRecDepth 20000 in
theorem ggX7_remember_X7_copyState : GoodIn wsX7_remember wsX7_copyState := goodIn_r _ [7] (by decide +kernel) (by decide +kernel)
set_option maxRecDepth 20000 in
theorem gX7_remember_X7_copyState : GoodIn wsX7_remember (va_wsS RX7 132 yX7_copyState wsX7_copyState) := goodIn_app (goodIn_of _ (by decide +kernel)) ggX7_remember_X7_copyState
theorem dX7_remember_0 : decode cX7_remember 0 = .ok (.aload_n 0, 1) := by decide +kernel
theorem dX7_remember_1 : decode cX7_remember 1 = .ok (.getfield 136, 3) := by decide +kernel
theorem dX7_remember_4 : decode cX7_remember 4 = .ok (.bipush 14, 2) := by decide +kernel
theorem dX7_remember_6 : decode cX7_remember 6 = .ok (.if_icmp .ne 44, 3) := by decide +kernel
theorem dX7_remember_9 : decode cX7_remember 9 = .ok (.iconst 0, 1) := by decide +kernel
theorem dX7_remember_10 : decode cX7_remember 10 = .ok (.istore_n 1, 1) := by decide +kernel
theorem dX7_remember_11 : decode cX7_remember 11 = .ok (.iload_n 1, 1) := by decide +kernel
theorem dX7_remember_12 : decode cX7_remember 12 = .ok (.sipush 1703, 3) := by decide +kernel
theorem dX7_remember_15 : decode cX7_remember 15 = .ok (.if_icmp .ge 25, 3) := by decide +kernel
theorem dX7_remember_18 : decode cX7_remember 18 = .ok (.aload_n 0, 1) := by decide +kernel
theorem dX7_remember_19 : decode cX7_remember 19 = .ok (.getfield 19, 3) := by decide +kernel
theorem dX7_remember_22 : decode cX7_remember 22 = .ok (.iload_n 1, 1) := by decide +kernel
theorem dX7_remember_23 : decode cX7_remember 23 = .ok (.aload_n 0, 1) := by decide +kernel
theorem dX7_remember_24 : decode cX7_remember 24 = .ok (.getfield 19, 3) := by decide +kernel
theorem dX7_remember_27 : decode cX7_remember 27 = .ok (.iload_n 1, 1) := by decide +kernel
theorem dX7_remember_28 : decode cX7_remember 28 = .ok (.sipush 131, 3) := by decide +kernel
theorem dX7_remember_31 : decode cX7_remember 31 = .ok (.iadd, 1) := by decide +kernel
theorem dX7_remember_32 : decode cX7_remember 32 = .ok (.iaload, 1) := by decide +kernel
theorem dX7_remember_33 : decode cX7_remember 33 = .ok (.iastore, 1) := by decide +kernel
theorem dX7_remember_34 : decode cX7_remember 34 = .ok (.iinc 1 1, 3) := by decide +kernel
theorem dX7_remember_37 : decode cX7_remember 37 = .ok (.goto (-26), 3) := by decide +kernel
theorem dX7_remember_40 : decode cX7_remember 40 = .ok (.aload_n 0, 1) := by decide +kernel
theorem dX7_remember_41 : decode cX7_remember 41 = .ok (.dup, 1) := by decide +kernel
theorem dX7_remember_42 : decode cX7_remember 42 = .ok (.getfield 136, 3) := by decide +kernel
theorem dX7_remember_45 : decode cX7_remember 45 = .ok (.iconst 1, 1) := by decide +kernel
theorem dX7_remember_46 : decode cX7_remember 46 = .ok (.isub, 1) := by decide +kernel
theorem dX7_remember_47 : decode cX7_remember 47 = .ok (.putfield 136, 3) := by decide +kernel
theorem dX7_remember_50 : decode cX7_remember 50 = .ok (.aload_n 0, 1) := by decide +kernel
theorem dX7_remember_51 : decode cX7_remember 51 = .ok (.getfield 13, 3) := by decide +kernel
theorem dX7_remember_54 : decode cX7_remember 54 = .ok (.iconst 0, 1) := by decide +kernel
theorem dX7_remember_55 : decode cX7_remember 55 = .ok (.aload_n 0, 1) := by decide +kernel
theorem dX7_remember_56 : decode cX7_remember 56 = .ok (.getfield 19, 3) := by decide +kernel
theorem dX7_remember_59 : decode cX7_remember 59 = .ok (.sipush 131, 3) := by decide +kernel
theorem dX7_remember_62 : decode cX7_remember 62 = .ok (.aload_n 0, 1) := by decide +kernel
theorem dX7_remember_63 : decode cX7_remember 63 = .ok (.getfield 136, 3) := by decide +kernel
theorem dX7_remember_66 : decode cX7_remember 66 = .ok (.imul, 1) := by decide +kernel
theorem dX7_remember_67 : decode cX7_remember 67 = .ok (.invokestatic 132, 3) := by decide +kernel
theorem dX7_remember_70 : decode cX7_remember 70 = .ok (.aload_n 0, 1) := by decide +kernel
theorem dX7_remember_71 : decode cX7_remember 71 = .ok (.dup, 1) := by decide +kernel
theorem dX7_remember_72 : decode cX7_remember 72 = .ok (.getfield 136, 3) := by decide +kernel
theorem dX7_remember_75 : decode cX7_remember 75 = .ok (.iconst 1, 1) := by decide +kernel
theorem dX7_remember_76 : decode cX7_remember 76 = .ok (.iadd, 1) := by decide +kernel
theorem dX7_remember_77 : decode cX7_remember 77 = .ok (.putfield 136, 3) := by decide +kernel
theorem dX7_remember_80 : decode cX7_remember 80 = .ok (.return_, 1) := by decide +kernel
set_option maxRecDepth 20000 in
theorem ggX7_add_X7_whyNotAdd : GoodIn wsX7_add wsX7_whyNotAdd := goodIn_r _ [5, 6, 7, 4, 8, 9, 10, 11, 12] (by decide +kernel) (by decide +kernel)
set_option maxRecDepth 20000 in
theorem gX7_add_X7_whyNotAdd : GoodIn wsX7_add (va_wsS RX7 159 yX7_whyNotAdd wsX7_whyNotAdd) := goodIn_app (goodIn_of _ (by decide +kernel)) ggX7_add_X7_whyNotAdd
set_option maxRecDepth 20000 in
theorem ggX7_add_X7_refused : GoodIn wsX7_add wsX7_refused := goodIn_r _ [16, 17, 33, 34, 35, 36, 37, 38, 39, 40, 41, 42, 43] (by decide +kernel) (by decide +kernel)
set_option maxRecDepth 20000 in
theorem gX7_add_X7_refused : GoodIn wsX7_add (wsV RX7 106 RX7 yX7_refused wsX7_refused) := goodIn_app (goodIn_of _ (by decide +kernel)) ggX7_add_X7_refused
set_option maxRecDepth 20000 in
theorem ggX7_add_X7_remember : GoodIn wsX7_add wsX7_remember := goodIn_r _ [21, 22, 23, 1, 24, 25, 4, 26, 33, 34, 35, 36, 37, 38, 39, 40, 41, 42, 43] (by decide +kernel) (by decide +kernel)
set_option maxRecDepth 20000 in
theorem gX7_add_X7_remember : GoodIn wsX7_add (wsV RX7 162 RX7 yX7_remember wsX7_remember) := goodIn_app (goodIn_of _ (by decide +kernel)) ggX7_add_X7_remember
set_option maxRecDepth 20000 in
theorem ggX7_add_X7_insert : GoodIn wsX7_add wsX7_insert := goodIn_r _ [29, 30, 31, 4, 32] (by decide +kernel) (by decide +kernel)
set_option maxRecDepth 20000 in
theorem gX7_add_X7_insert : GoodIn wsX7_add (va_wsS RX7 39 yX7_insert wsX7_insert) := goodIn_app (goodIn_of _ (by decide +kernel)) ggX7_add_X7_insert
theorem dX7_add_0 : decode cX7_add 0 = .ok (.aload_n 0, 1) := by decide +kernel
theorem dX7_add_1 : decode cX7_add 1 = .ok (.aload_n 0, 1) := by decide +kernel
theorem dX7_add_2 : decode cX7_add 2 = .ok (.getfield 13, 3) := by decide +kernel
theorem dX7_add_5 : decode cX7_add 5 = .ok (.iload_n 1, 1) := by decide +kernel
theorem dX7_add_6 : decode cX7_add 6 = .ok (.iload_n 2, 1) := by decide +kernel
theorem dX7_add_7 : decode cX7_add 7 = .ok (.invokestatic 159, 3) := by decide +kernel
theorem dX7_add_10 : decode cX7_add 10 = .ok (.invokevirtual 106, 3) := by decide +kernel
theorem dX7_add_13 : decode cX7_add 13 = .ok (.ifCond .eq 5, 3) := by decide +kernel
theorem dX7_add_16 : decode cX7_add 16 = .ok (.iconst 0, 1) := by decide +kernel
theorem dX7_add_17 : decode cX7_add 17 = .ok (.ireturn, 1) := by decide +kernel
theorem dX7_add_18 : decode cX7_add 18 = .ok (.aload_n 0, 1) := by decide +kernel
theorem dX7_add_19 : decode cX7_add 19 = .ok (.invokevirtual 162, 3) := by decide +kernel
theorem dX7_add_22 : decode cX7_add 22 = .ok (.aload_n 0, 1) := by decide +kernel
theorem dX7_add_23 : decode cX7_add 23 = .ok (.getfield 13, 3) := by decide +kernel
theorem dX7_add_26 : decode cX7_add 26 = .ok (.iload_n 1, 1) := by decide +kernel
theorem dX7_add_27 : decode cX7_add 27 = .ok (.iload_n 2, 1) := by decide +kernel
theorem dX7_add_28 : decode cX7_add 28 = .ok (.invokestatic 39, 3) := by decide +kernel
theorem dX7_add_31 : decode cX7_add 31 = .ok (.ireturn, 1) := by decide +kernel
set_option maxRecDepth 20000 in
theorem ggX7_remove_X7_whyNotRemove : GoodIn wsX7_remove wsX7_whyNotRemove := goodIn_r _ [5, 6, 7, 4, 8, 9, 10, 11] (by decide +kernel) (by decide +kernel)
set_option maxRecDepth 20000 in
theorem gX7_remove_X7_whyNotRemove : GoodIn wsX7_remove (va_wsS RX7 165 yX7_whyNotRemove wsX7_whyNotRemove) := goodIn_app (goodIn_of _ (by decide +kernel)) ggX7_remove_X7_whyNotRemove
set_option maxRecDepth 20000 in
theorem ggX7_remove_X7_refused : GoodIn wsX7_remove wsX7_refused := goodIn_r _ [15, 16, 32, 33, 34, 35, 36, 37, 38, 39, 40, 41, 42] (by decide +kernel) (by decide +kernel)
set_option maxRecDepth 20000 in
theorem gX7_remove_X7_refused : GoodIn wsX7_remove (wsV RX7 106 RX7 yX7_refused wsX7_refused) := goodIn_app (goodIn_of _ (by decide +kernel)) ggX7_remove_X7_refused
set_option maxRecDepth 20000 in
theorem ggX7_remove_X7_remember : GoodIn wsX7_remove wsX7_remember := goodIn_r _ [20, 21, 22, 1, 23, 24, 4, 25, 32, 33, 34, 35, 36, 37, 38, 39, 40, 41, 42] (by decide +kernel) (by decide +kernel)
set_option maxRecDepth 20000 in
theorem gX7_remove_X7_remember : GoodIn wsX7_remove (wsV RX7 162 RX7 yX7_remember wsX7_remember) := goodIn_app (goodIn_of _ (by decide +kernel)) ggX7_remove_X7_remember
set_option maxRecDepth 20000 in
theorem ggX7_remove_X7_removeOn : GoodIn wsX7_remove wsX7_removeOn := goodIn_r _ [28, 29, 30, 4, 31] (by decide +kernel) (by decide +kernel)
set_option maxRecDepth 20000 in
theorem gX7_remove_X7_removeOn : GoodIn wsX7_remove (va_wsS RX7 168 yX7_removeOn wsX7_removeOn) := goodIn_app (goodIn_of _ (by decide +kernel)) ggX7_remove_X7_removeOn
theorem dX7_remove_0 : decode cX7_remove 0 = .ok (.aload_n 0, 1) := by decide +kernel
theorem dX7_remove_1 : decode cX7_remove 1 = .ok (.aload_n 0, 1) := by decide +kernel
theorem dX7_remove_2 : decode cX7_remove 2 = .ok (.getfield 13, 3) := by decide +kernel
theorem dX7_remove_5 : decode cX7_remove 5 = .ok (.iload_n 1, 1) := by decide +kernel
theorem dX7_remove_6 : decode cX7_remove 6 = .ok (.invokestatic 165, 3) := by decide +kernel
theorem dX7_remove_9 : decode cX7_remove 9 = .ok (.invokevirtual 106, 3) := by decide +kernel
theorem dX7_remove_12 : decode cX7_remove 12 = .ok (.ifCond .eq 5, 3) := by decide +kernel
theorem dX7_remove_15 : decode cX7_remove 15 = .ok (.iconst 0, 1) := by decide +kernel
theorem dX7_remove_16 : decode cX7_remove 16 = .ok (.ireturn, 1) := by decide +kernel
theorem dX7_remove_17 : decode cX7_remove 17 = .ok (.aload_n 0, 1) := by decide +kernel
theorem dX7_remove_18 : decode cX7_remove 18 = .ok (.invokevirtual 162, 3) := by decide +kernel
theorem dX7_remove_21 : decode cX7_remove 21 = .ok (.aload_n 0, 1) := by decide +kernel
theorem dX7_remove_22 : decode cX7_remove 22 = .ok (.getfield 13, 3) := by decide +kernel
theorem dX7_remove_25 : decode cX7_remove 25 = .ok (.iload_n 1, 1) := by decide +kernel
theorem dX7_remove_26 : decode cX7_remove 26 = .ok (.invokestatic 168, 3) := by decide +kernel
theorem dX7_remove_29 : decode cX7_remove 29 = .ok (.ireturn, 1) := by decide +kernel
set_option maxRecDepth 20000 in
theorem ggX7_kind_X7_whyNotKind : GoodIn wsX7_kind wsX7_whyNotKind := goodIn_r _ [5, 6, 7, 4, 8, 9, 10, 11, 12, 13, 14, 15] (by decide +kernel) (by decide +kernel)
set_option maxRecDepth 20000 in
theorem gX7_kind_X7_whyNotKind : GoodIn wsX7_kind (va_wsS RX7 171 yX7_whyNotKind wsX7_whyNotKind) := goodIn_app (goodIn_of _ (by decide +kernel)) ggX7_kind_X7_whyNotKind
set_option maxRecDepth 20000 in
theorem ggX7_kind_X7_refused : GoodIn wsX7_kind wsX7_refused := goodIn_r _ [19, 20, 33, 34, 35, 36, 37, 38, 39, 40, 41, 42, 43] (by decide +kernel) (by decide +kernel)
set_option maxRecDepth 20000 in
theorem gX7_kind_X7_refused : GoodIn wsX7_kind (wsV RX7 106 RX7 yX7_refused wsX7_refused) := goodIn_app (goodIn_of _ (by decide +kernel)) ggX7_kind_X7_refused
set_option maxRecDepth 20000 in
theorem ggX7_kind_X7_remember : GoodIn wsX7_kind wsX7_remember := goodIn_r _ [24, 25, 26, 1, 27, 28, 4, 29, 33, 34, 35, 36, 37, 38, 39, 40, 41, 42, 43] (by decide +kernel) (by decide +kernel)
set_option maxRecDepth 20000 in
theorem gX7_kind_X7_remember : GoodIn wsX7_kind (wsV RX7 162 RX7 yX7_remember wsX7_remember) := goodIn_app (goodIn_of _ (by decide +kernel)) ggX7_kind_X7_remember
set_option maxRecDepth 20000 in
theorem ggX7_kind_X7_lay : GoodIn wsX7_kind wsX7_lay := goodIn_r _ [32] (by decide +kernel) (by decide +kernel)
set_option maxRecDepth 20000 in
theorem gX7_kind_X7_lay : GoodIn wsX7_kind (va_wsS RX7 174 yX7_lay wsX7_lay) := goodIn_app (goodIn_of _ (by decide +kernel)) ggX7_kind_X7_lay
theorem dX7_kind_0 : decode cX7_kind 0 = .ok (.aload_n 0, 1) := by decide +kernel
theorem dX7_kind_1 : decode cX7_kind 1 = .ok (.aload_n 0, 1) := by decide +kernel
theorem dX7_kind_2 : decode cX7_kind 2 = .ok (.getfield 13, 3) := by decide +kernel
theorem dX7_kind_5 : decode cX7_kind 5 = .ok (.iload_n 1, 1) := by decide +kernel
theorem dX7_kind_6 : decode cX7_kind 6 = .ok (.iload_n 2, 1) := by decide +kernel
theorem dX7_kind_7 : decode cX7_kind 7 = .ok (.invokestatic 171, 3) := by decide +kernel
theorem dX7_kind_10 : decode cX7_kind 10 = .ok (.invokevirtual 106, 3) := by decide +kernel
theorem dX7_kind_13 : decode cX7_kind 13 = .ok (.ifCond .eq 5, 3) := by decide +kernel
theorem dX7_kind_16 : decode cX7_kind 16 = .ok (.iconst 0, 1) := by decide +kernel
theorem dX7_kind_17 : decode cX7_kind 17 = .ok (.ireturn, 1) := by decide +kernel
theorem dX7_kind_18 : decode cX7_kind 18 = .ok (.aload_n 0, 1) := by decide +kernel
theorem dX7_kind_19 : decode cX7_kind 19 = .ok (.invokevirtual 162, 3) := by decide +kernel
theorem dX7_kind_22 : decode cX7_kind 22 = .ok (.aload_n 0, 1) := by decide +kernel
theorem dX7_kind_23 : decode cX7_kind 23 = .ok (.getfield 13, 3) := by decide +kernel
theorem dX7_kind_26 : decode cX7_kind 26 = .ok (.iconst 3, 1) := by decide +kernel
theorem dX7_kind_27 : decode cX7_kind 27 = .ok (.iload_n 1, 1) := by decide +kernel
theorem dX7_kind_28 : decode cX7_kind 28 = .ok (.iadd, 1) := by decide +kernel
theorem dX7_kind_29 : decode cX7_kind 29 = .ok (.iload_n 2, 1) := by decide +kernel
theorem dX7_kind_30 : decode cX7_kind 30 = .ok (.invokestatic 174, 3) := by decide +kernel
theorem dX7_kind_33 : decode cX7_kind 33 = .ok (.ireturn, 1) := by decide +kernel
set_option maxRecDepth 20000 in
theorem ggX7_ground_X7_whyNotGround : GoodIn wsX7_ground wsX7_whyNotGround := goodIn_r _ [5, 6, 7, 4, 8, 9, 10, 11] (by decide +kernel) (by decide +kernel)
set_option maxRecDepth 20000 in
theorem gX7_ground_X7_whyNotGround : GoodIn wsX7_ground (va_wsS RX7 177 yX7_whyNotGround wsX7_whyNotGround) := goodIn_app (goodIn_of _ (by decide +kernel)) ggX7_ground_X7_whyNotGround
set_option maxRecDepth 20000 in
theorem ggX7_ground_X7_refused : GoodIn wsX7_ground wsX7_refused := goodIn_r _ [15, 16, 29, 30, 31, 32, 33, 34, 35, 36, 37, 38, 39] (by decide +kernel) (by decide +kernel)
set_option maxRecDepth 20000 in
theorem gX7_ground_X7_refused : GoodIn wsX7_ground (wsV RX7 106 RX7 yX7_refused wsX7_refused) := goodIn_app (goodIn_of _ (by decide +kernel)) ggX7_ground_X7_refused
set_option maxRecDepth 20000 in
theorem ggX7_ground_X7_remember : GoodIn wsX7_ground wsX7_remember := goodIn_r _ [20, 21, 22, 1, 23, 24, 4, 25, 29, 30, 31, 32, 33, 34, 35, 36, 37, 38, 39] (by decide +kernel) (by decide +kernel)
set_option maxRecDepth 20000 in
theorem gX7_ground_X7_remember : GoodIn wsX7_ground (wsV RX7 162 RX7 yX7_remember wsX7_remember) := goodIn_app (goodIn_of _ (by decide +kernel)) ggX7_ground_X7_remember
set_option maxRecDepth 20000 in
theorem ggX7_ground_X7_lay : GoodIn wsX7_ground wsX7_lay := goodIn_r _ [28] (by decide +kernel) (by decide +kernel)
set_option maxRecDepth 20000 in
theorem gX7_ground_X7_lay : GoodIn wsX7_ground (va_wsS RX7 174 yX7_lay wsX7_lay) := goodIn_app (goodIn_of _ (by decide +kernel)) ggX7_ground_X7_lay
theorem dX7_ground_0 : decode cX7_ground 0 = .ok (.aload_n 0, 1) := by decide +kernel
theorem dX7_ground_1 : decode cX7_ground 1 = .ok (.aload_n 0, 1) := by decide +kernel
theorem dX7_ground_2 : decode cX7_ground 2 = .ok (.getfield 13, 3) := by decide +kernel
theorem dX7_ground_5 : decode cX7_ground 5 = .ok (.iload_n 1, 1) := by decide +kernel
theorem dX7_ground_6 : decode cX7_ground 6 = .ok (.invokestatic 177, 3) := by decide +kernel
theorem dX7_ground_9 : decode cX7_ground 9 = .ok (.invokevirtual 106, 3) := by decide +kernel
theorem dX7_ground_12 : decode cX7_ground 12 = .ok (.ifCond .eq 5, 3) := by decide +kernel
theorem dX7_ground_15 : decode cX7_ground 15 = .ok (.iconst 0, 1) := by decide +kernel
theorem dX7_ground_16 : decode cX7_ground 16 = .ok (.ireturn, 1) := by decide +kernel
theorem dX7_ground_17 : decode cX7_ground 17 = .ok (.aload_n 0, 1) := by decide +kernel
theorem dX7_ground_18 : decode cX7_ground 18 = .ok (.invokevirtual 162, 3) := by decide +kernel
theorem dX7_ground_21 : decode cX7_ground 21 = .ok (.aload_n 0, 1) := by decide +kernel
theorem dX7_ground_22 : decode cX7_ground 22 = .ok (.getfield 13, 3) := by decide +kernel
theorem dX7_ground_25 : decode cX7_ground 25 = .ok (.iconst 1, 1) := by decide +kernel
theorem dX7_ground_26 : decode cX7_ground 26 = .ok (.iload_n 1, 1) := by decide +kernel
theorem dX7_ground_27 : decode cX7_ground 27 = .ok (.invokestatic 174, 3) := by decide +kernel
theorem dX7_ground_30 : decode cX7_ground 30 = .ok (.ireturn, 1) := by decide +kernel
set_option maxRecDepth 20000 in
theorem ggX7_skip_X7_isStorey : GoodIn wsX7_skip wsX7_isStorey := goodIn_r _ [5, 6, 7, 8, 4, 9] (by decide +kernel) (by decide +kernel)
set_option maxRecDepth 20000 in
theorem gX7_skip_X7_isStorey : GoodIn wsX7_skip (va_wsS RX7 156 yX7_isStorey wsX7_isStorey) := goodIn_app (goodIn_of _ (by decide +kernel)) ggX7_skip_X7_isStorey
set_option maxRecDepth 20000 in
theorem ggX7_skip_X7_refused : GoodIn wsX7_skip wsX7_refused := goodIn_r _ [13, 14, 33, 34, 35, 36, 37, 38, 39, 40, 41, 42, 43] (by decide +kernel) (by decide +kernel)
set_option maxRecDepth 20000 in
theorem gX7_skip_X7_refused : GoodIn wsX7_skip (wsV RX7 106 RX7 yX7_refused wsX7_refused) := goodIn_app (goodIn_of _ (by decide +kernel)) ggX7_skip_X7_refused
set_option maxRecDepth 20000 in
theorem ggX7_skip_X7_remember : GoodIn wsX7_skip wsX7_remember := goodIn_r _ [18, 19, 20, 1, 21, 22, 4, 23, 33, 34, 35, 36, 37, 38, 39, 40, 41, 42, 43] (by decide +kernel) (by decide +kernel)
set_option maxRecDepth 20000 in
theorem gX7_skip_X7_remember : GoodIn wsX7_skip (wsV RX7 162 RX7 yX7_remember wsX7_remember) := goodIn_app (goodIn_of _ (by decide +kernel)) ggX7_skip_X7_remember
set_option maxRecDepth 20000 in
theorem ggX7_skip_X7_skipOn : GoodIn wsX7_skip wsX7_skipOn := goodIn_r _ [26, 27, 28, 4, 29, 30, 31, 32] (by decide +kernel) (by decide +kernel)
set_option maxRecDepth 20000 in
theorem gX7_skip_X7_skipOn : GoodIn wsX7_skip (va_wsS RX7 125 yX7_skipOn wsX7_skipOn) := goodIn_app (goodIn_of _ (by decide +kernel)) ggX7_skip_X7_skipOn
theorem dX7_skip_0 : decode cX7_skip 0 = .ok (.aload_n 0, 1) := by decide +kernel
theorem dX7_skip_1 : decode cX7_skip 1 = .ok (.iload_n 1, 1) := by decide +kernel
theorem dX7_skip_2 : decode cX7_skip 2 = .ok (.invokestatic 156, 3) := by decide +kernel
theorem dX7_skip_5 : decode cX7_skip 5 = .ok (.ifCond .eq 7, 3) := by decide +kernel
theorem dX7_skip_8 : decode cX7_skip 8 = .ok (.iconst 0, 1) := by decide +kernel
theorem dX7_skip_9 : decode cX7_skip 9 = .ok (.goto 4, 3) := by decide +kernel
theorem dX7_skip_12 : decode cX7_skip 12 = .ok (.iconst 1, 1) := by decide +kernel
theorem dX7_skip_13 : decode cX7_skip 13 = .ok (.invokevirtual 106, 3) := by decide +kernel
theorem dX7_skip_16 : decode cX7_skip 16 = .ok (.ifCond .eq 5, 3) := by decide +kernel
theorem dX7_skip_19 : decode cX7_skip 19 = .ok (.iconst 0, 1) := by decide +kernel
theorem dX7_skip_20 : decode cX7_skip 20 = .ok (.ireturn, 1) := by decide +kernel
theorem dX7_skip_21 : decode cX7_skip 21 = .ok (.aload_n 0, 1) := by decide +kernel
theorem dX7_skip_22 : decode cX7_skip 22 = .ok (.invokevirtual 162, 3) := by decide +kernel
theorem dX7_skip_25 : decode cX7_skip 25 = .ok (.aload_n 0, 1) := by decide +kernel
theorem dX7_skip_26 : decode cX7_skip 26 = .ok (.getfield 13, 3) := by decide +kernel
theorem dX7_skip_29 : decode cX7_skip 29 = .ok (.iload_n 1, 1) := by decide +kernel
theorem dX7_skip_30 : decode cX7_skip 30 = .ok (.iload_n 2, 1) := by decide +kernel
theorem dX7_skip_31 : decode cX7_skip 31 = .ok (.invokestatic 125, 3) := by decide +kernel
theorem dX7_skip_34 : decode cX7_skip 34 = .ok (.ireturn, 1) := by decide +kernel
set_option maxRecDepth 20000 in
theorem ggX7_serve_X7_isCar : GoodIn wsX7_serve wsX7_isCar := goodIn_r _ [5, 6, 7, 8, 4, 9] (by decide +kernel) (by decide +kernel)
set_option maxRecDepth 20000 in
theorem gX7_serve_X7_isCar : GoodIn wsX7_serve (va_wsS RX7 153 yX7_isCar wsX7_isCar) := goodIn_app (goodIn_of _ (by decide +kernel)) ggX7_serve_X7_isCar
set_option maxRecDepth 20000 in
theorem ggX7_serve_X7_isLevel : GoodIn wsX7_serve wsX7_isLevel := goodIn_r _ [12, 7, 8, 4, 9] (by decide +kernel) (by decide +kernel)
set_option maxRecDepth 20000 in
theorem gX7_serve_X7_isLevel : GoodIn wsX7_serve (va_wsS RX7 98 yX7_isLevel wsX7_isLevel) := goodIn_app (goodIn_of _ (by decide +kernel)) ggX7_serve_X7_isLevel
set_option maxRecDepth 20000 in
theorem ggX7_serve_X7_refused : GoodIn wsX7_serve wsX7_refused := goodIn_r _ [16, 17, 33, 34, 35, 36, 37, 38, 39, 40, 41, 42, 43] (by decide +kernel) (by decide +kernel)
set_option maxRecDepth 20000 in
theorem gX7_serve_X7_refused : GoodIn wsX7_serve (wsV RX7 106 RX7 yX7_refused wsX7_refused) := goodIn_app (goodIn_of _ (by decide +kernel)) ggX7_serve_X7_refused
set_option maxRecDepth 20000 in
theorem ggX7_serve_X7_remember : GoodIn wsX7_serve wsX7_remember := goodIn_r _ [21, 22, 23, 1, 24, 25, 4, 26, 33, 34, 35, 36, 37, 38, 39, 40, 41, 42, 43] (by decide +kernel) (by decide +kernel)
set_option maxRecDepth 20000 in
theorem gX7_serve_X7_remember : GoodIn wsX7_serve (wsV RX7 162 RX7 yX7_remember wsX7_remember) := goodIn_app (goodIn_of _ (by decide +kernel)) ggX7_serve_X7_remember
set_option maxRecDepth 20000 in
theorem ggX7_serve_X7_serveOn : GoodIn wsX7_serve wsX7_serveOn := goodIn_r _ [29, 30, 31, 4, 32] (by decide +kernel) (by decide +kernel)
set_option maxRecDepth 20000 in
theorem gX7_serve_X7_serveOn : GoodIn wsX7_serve (va_wsS RX7 180 yX7_serveOn wsX7_serveOn) := goodIn_app (goodIn_of _ (by decide +kernel)) ggX7_serve_X7_serveOn
theorem dX7_serve_0 : decode cX7_serve 0 = .ok (.aload_n 0, 1) := by decide +kernel
theorem dX7_serve_1 : decode cX7_serve 1 = .ok (.iload_n 1, 1) := by decide +kernel
theorem dX7_serve_2 : decode cX7_serve 2 = .ok (.invokestatic 153, 3) := by decide +kernel
theorem dX7_serve_5 : decode cX7_serve 5 = .ok (.ifCond .eq 18, 3) := by decide +kernel
theorem dX7_serve_8 : decode cX7_serve 8 = .ok (.aload_n 0, 1) := by decide +kernel
theorem dX7_serve_9 : decode cX7_serve 9 = .ok (.getfield 13, 3) := by decide +kernel
theorem dX7_serve_12 : decode cX7_serve 12 = .ok (.iload_n 2, 1) := by decide +kernel
theorem dX7_serve_13 : decode cX7_serve 13 = .ok (.invokestatic 98, 3) := by decide +kernel
theorem dX7_serve_16 : decode cX7_serve 16 = .ok (.ifCond .eq 7, 3) := by decide +kernel
theorem dX7_serve_19 : decode cX7_serve 19 = .ok (.iconst 0, 1) := by decide +kernel
theorem dX7_serve_20 : decode cX7_serve 20 = .ok (.goto 4, 3) := by decide +kernel
theorem dX7_serve_23 : decode cX7_serve 23 = .ok (.iconst 1, 1) := by decide +kernel
theorem dX7_serve_24 : decode cX7_serve 24 = .ok (.invokevirtual 106, 3) := by decide +kernel
theorem dX7_serve_27 : decode cX7_serve 27 = .ok (.ifCond .eq 5, 3) := by decide +kernel
theorem dX7_serve_30 : decode cX7_serve 30 = .ok (.iconst 0, 1) := by decide +kernel
theorem dX7_serve_31 : decode cX7_serve 31 = .ok (.ireturn, 1) := by decide +kernel
theorem dX7_serve_32 : decode cX7_serve 32 = .ok (.aload_n 0, 1) := by decide +kernel
theorem dX7_serve_33 : decode cX7_serve 33 = .ok (.invokevirtual 162, 3) := by decide +kernel
theorem dX7_serve_36 : decode cX7_serve 36 = .ok (.aload_n 0, 1) := by decide +kernel
theorem dX7_serve_37 : decode cX7_serve 37 = .ok (.getfield 13, 3) := by decide +kernel
theorem dX7_serve_40 : decode cX7_serve 40 = .ok (.iload_n 1, 1) := by decide +kernel
theorem dX7_serve_41 : decode cX7_serve 41 = .ok (.iload_n 2, 1) := by decide +kernel
theorem dX7_serve_42 : decode cX7_serve 42 = .ok (.iload_n 3, 1) := by decide +kernel
theorem dX7_serve_43 : decode cX7_serve 43 = .ok (.invokestatic 180, 3) := by decide +kernel
theorem dX7_serve_46 : decode cX7_serve 46 = .ok (.ireturn, 1) := by decide +kernel
set_option maxRecDepth 20000 in
theorem ggX7_putSign_X7_isLevel : GoodIn wsX7_putSign wsX7_isLevel := goodIn_r _ [5, 6, 7, 4, 8] (by decide +kernel) (by decide +kernel)
set_option maxRecDepth 20000 in
theorem gX7_putSign_X7_isLevel : GoodIn wsX7_putSign (va_wsS RX7 98 yX7_isLevel wsX7_isLevel) := goodIn_app (goodIn_of _ (by decide +kernel)) ggX7_putSign_X7_isLevel
set_option maxRecDepth 20000 in
theorem ggX7_putSign_X7_refused : GoodIn wsX7_putSign wsX7_refused := goodIn_r _ [12, 13, 44, 45, 46, 47, 48, 49, 50, 51, 52, 53, 54] (by decide +kernel) (by decide +kernel)
set_option maxRecDepth 20000 in
theorem gX7_putSign_X7_refused : GoodIn wsX7_putSign (wsV RX7 106 RX7 yX7_refused wsX7_refused) := goodIn_app (goodIn_of _ (by decide +kernel)) ggX7_putSign_X7_refused
set_option maxRecDepth 20000 in
theorem ggX7_putSign_X7_remember : GoodIn wsX7_putSign wsX7_remember := goodIn_r _ [17, 18, 19, 1, 20, 21, 4, 22, 44, 45, 46, 47, 48, 49, 50, 51, 52, 53, 54] (by decide +kernel) (by decide +kernel)
set_option maxRecDepth 20000 in
theorem gX7_putSign_X7_remember : GoodIn wsX7_putSign (wsV RX7 162 RX7 yX7_remember wsX7_remember) := goodIn_app (goodIn_of _ (by decide +kernel)) ggX7_putSign_X7_remember
set_option maxRecDepth 20000 in
theorem ggX7_putSign_X7_putSignOn : GoodIn wsX7_putSign wsX7_putSignOn := goodIn_r _ [26, 27, 28, 29, 30, 4, 31, 32, 33, 34, 35, 36, 37, 38, 39, 40, 41, 42, 43, 44, 45, 46, 47, 48, 49, 50, 51, 52, 53, 54] (by decide +kernel) (by decide +kernel)
set_option maxRecDepth 20000 in
theorem gX7_putSign_X7_putSignOn : GoodIn wsX7_putSign (wsV RX7 183 RX7 yX7_putSignOn wsX7_putSignOn) := goodIn_app (goodIn_of _ (by decide +kernel)) ggX7_putSign_X7_putSignOn
theorem dX7_putSign_0 : decode cX7_putSign 0 = .ok (.aload_n 0, 1) := by decide +kernel
theorem dX7_putSign_1 : decode cX7_putSign 1 = .ok (.aload_n 0, 1) := by decide +kernel
theorem dX7_putSign_2 : decode cX7_putSign 2 = .ok (.getfield 13, 3) := by decide +kernel
theorem dX7_putSign_5 : decode cX7_putSign 5 = .ok (.iload_n 1, 1) := by decide +kernel
theorem dX7_putSign_6 : decode cX7_putSign 6 = .ok (.invokestatic 98, 3) := by decide +kernel
theorem dX7_putSign_9 : decode cX7_putSign 9 = .ok (.ifCond .eq 7, 3) := by decide +kernel
theorem dX7_putSign_12 : decode cX7_putSign 12 = .ok (.iconst 0, 1) := by decide +kernel
theorem dX7_putSign_13 : decode cX7_putSign 13 = .ok (.goto 4, 3) := by decide +kernel
theorem dX7_putSign_16 : decode cX7_putSign 16 = .ok (.iconst 1, 1) := by decide +kernel
theorem dX7_putSign_17 : decode cX7_putSign 17 = .ok (.invokevirtual 106, 3) := by decide +kernel
theorem dX7_putSign_20 : decode cX7_putSign 20 = .ok (.ifCond .eq 5, 3) := by decide +kernel
theorem dX7_putSign_23 : decode cX7_putSign 23 = .ok (.iconst 0, 1) := by decide +kernel
theorem dX7_putSign_24 : decode cX7_putSign 24 = .ok (.ireturn, 1) := by decide +kernel
theorem dX7_putSign_25 : decode cX7_putSign 25 = .ok (.aload_n 0, 1) := by decide +kernel
theorem dX7_putSign_26 : decode cX7_putSign 26 = .ok (.invokevirtual 162, 3) := by decide +kernel
theorem dX7_putSign_29 : decode cX7_putSign 29 = .ok (.aload_n 0, 1) := by decide +kernel
theorem dX7_putSign_30 : decode cX7_putSign 30 = .ok (.aload_n 0, 1) := by decide +kernel
theorem dX7_putSign_31 : decode cX7_putSign 31 = .ok (.getfield 13, 3) := by decide +kernel
theorem dX7_putSign_34 : decode cX7_putSign 34 = .ok (.iload_n 1, 1) := by decide +kernel
theorem dX7_putSign_35 : decode cX7_putSign 35 = .ok (.invokevirtual 183, 3) := by decide +kernel
theorem dX7_putSign_38 : decode cX7_putSign 38 = .ok (.ireturn, 1) := by decide +kernel
set_option maxRecDepth 20000 in
theorem ggX7_putButton_X7_isCar : GoodIn wsX7_putButton wsX7_isCar := goodIn_r _ [5, 6, 7, 8, 4, 9] (by decide +kernel) (by decide +kernel)
set_option maxRecDepth 20000 in
theorem gX7_putButton_X7_isCar : GoodIn wsX7_putButton (va_wsS RX7 153 yX7_isCar wsX7_isCar) := goodIn_app (goodIn_of _ (by decide +kernel)) ggX7_putButton_X7_isCar
set_option maxRecDepth 20000 in
theorem ggX7_putButton_X7_isLevel : GoodIn wsX7_putButton wsX7_isLevel := goodIn_r _ [12, 7, 8, 4, 9] (by decide +kernel) (by decide +kernel)
set_option maxRecDepth 20000 in
theorem gX7_putButton_X7_isLevel : GoodIn wsX7_putButton (va_wsS RX7 98 yX7_isLevel wsX7_isLevel) := goodIn_app (goodIn_of _ (by decide +kernel)) ggX7_putButton_X7_isLevel
set_option maxRecDepth 20000 in
theorem ggX7_putButton_X7_refused : GoodIn wsX7_putButton wsX7_refused := goodIn_r _ [16, 17, 51, 52, 53, 54, 55, 56, 57, 58, 59, 60, 61] (by decide +kernel) (by decide +kernel)
set_option maxRecDepth 20000 in
theorem gX7_putButton_X7_refused : GoodIn wsX7_putButton (wsV RX7 106 RX7 yX7_refused wsX7_refused) := goodIn_app (goodIn_of _ (by decide +kernel)) ggX7_putButton_X7_refused
set_option maxRecDepth 20000 in
theorem ggX7_putButton_X7_remember : GoodIn wsX7_putButton wsX7_remember := goodIn_r _ [21, 22, 23, 1, 24, 25, 4, 26, 51, 52, 53, 54, 55, 56, 57, 58, 59, 60, 61] (by decide +kernel) (by decide +kernel)
set_option maxRecDepth 20000 in
theorem gX7_putButton_X7_remember : GoodIn wsX7_putButton (wsV RX7 162 RX7 yX7_remember wsX7_remember) := goodIn_app (goodIn_of _ (by decide +kernel)) ggX7_putButton_X7_remember
set_option maxRecDepth 20000 in
theorem ggX7_putButton_X7_putButtonOn : GoodIn wsX7_putButton wsX7_putButtonOn := goodIn_r _ [30, 31, 32, 33, 34, 4, 35, 36, 37, 38, 39, 40, 41, 42, 43, 44, 45, 46, 47, 48, 49, 50, 51, 52, 53, 54, 55, 56, 57, 58, 59, 60, 61] (by decide +kernel) (by decide +kernel)
set_option maxRecDepth 20000 in
theorem gX7_putButton_X7_putButtonOn : GoodIn wsX7_putButton (wsV RX7 186 RX7 yX7_putButtonOn wsX7_putButtonOn) := goodIn_app (goodIn_of _ (by decide +kernel)) ggX7_putButton_X7_putButtonOn
theorem dX7_putButton_0 : decode cX7_putButton 0 = .ok (.aload_n 0, 1) := by decide +kernel
theorem dX7_putButton_1 : decode cX7_putButton 1 = .ok (.iload_n 1, 1) := by decide +kernel
theorem dX7_putButton_2 : decode cX7_putButton 2 = .ok (.invokestatic 153, 3) := by decide +kernel
theorem dX7_putButton_5 : decode cX7_putButton 5 = .ok (.ifCond .eq 18, 3) := by decide +kernel
theorem dX7_putButton_8 : decode cX7_putButton 8 = .ok (.aload_n 0, 1) := by decide +kernel
theorem dX7_putButton_9 : decode cX7_putButton 9 = .ok (.getfield 13, 3) := by decide +kernel
theorem dX7_putButton_12 : decode cX7_putButton 12 = .ok (.iload_n 2, 1) := by decide +kernel
theorem dX7_putButton_13 : decode cX7_putButton 13 = .ok (.invokestatic 98, 3) := by decide +kernel
theorem dX7_putButton_16 : decode cX7_putButton 16 = .ok (.ifCond .eq 7, 3) := by decide +kernel
theorem dX7_putButton_19 : decode cX7_putButton 19 = .ok (.iconst 0, 1) := by decide +kernel
theorem dX7_putButton_20 : decode cX7_putButton 20 = .ok (.goto 4, 3) := by decide +kernel
theorem dX7_putButton_23 : decode cX7_putButton 23 = .ok (.iconst 1, 1) := by decide +kernel
theorem dX7_putButton_24 : decode cX7_putButton 24 = .ok (.invokevirtual 106, 3) := by decide +kernel
theorem dX7_putButton_27 : decode cX7_putButton 27 = .ok (.ifCond .eq 5, 3) := by decide +kernel
theorem dX7_putButton_30 : decode cX7_putButton 30 = .ok (.iconst 0, 1) := by decide +kernel
theorem dX7_putButton_31 : decode cX7_putButton 31 = .ok (.ireturn, 1) := by decide +kernel
theorem dX7_putButton_32 : decode cX7_putButton 32 = .ok (.aload_n 0, 1) := by decide +kernel
theorem dX7_putButton_33 : decode cX7_putButton 33 = .ok (.invokevirtual 162, 3) := by decide +kernel
theorem dX7_putButton_36 : decode cX7_putButton 36 = .ok (.aload_n 0, 1) := by decide +kernel
theorem dX7_putButton_37 : decode cX7_putButton 37 = .ok (.aload_n 0, 1) := by decide +kernel
theorem dX7_putButton_38 : decode cX7_putButton 38 = .ok (.getfield 13, 3) := by decide +kernel
theorem dX7_putButton_41 : decode cX7_putButton 41 = .ok (.iload_n 1, 1) := by decide +kernel
theorem dX7_putButton_42 : decode cX7_putButton 42 = .ok (.iload_n 2, 1) := by decide +kernel
theorem dX7_putButton_43 : decode cX7_putButton 43 = .ok (.invokevirtual 186, 3) := by decide +kernel
theorem dX7_putButton_46 : decode cX7_putButton 46 = .ok (.ireturn, 1) := by decide +kernel
set_option maxRecDepth 20000 in
theorem ggX7_putCar_X7_isCar : GoodIn wsX7_putCar wsX7_isCar := goodIn_r _ [5, 6, 7, 8, 4, 9] (by decide +kernel) (by decide +kernel)
set_option maxRecDepth 20000 in
theorem gX7_putCar_X7_isCar : GoodIn wsX7_putCar (va_wsS RX7 153 yX7_isCar wsX7_isCar) := goodIn_app (goodIn_of _ (by decide +kernel)) ggX7_putCar_X7_isCar
set_option maxRecDepth 20000 in
theorem ggX7_putCar_X7_refused : GoodIn wsX7_putCar wsX7_refused := goodIn_r _ [13, 14, 52, 53, 54, 55, 56, 57, 58, 59, 60, 61, 62] (by decide +kernel) (by decide +kernel)
set_option maxRecDepth 20000 in
theorem gX7_putCar_X7_refused : GoodIn wsX7_putCar (wsV RX7 106 RX7 yX7_refused wsX7_refused) := goodIn_app (goodIn_of _ (by decide +kernel)) ggX7_putCar_X7_refused
set_option maxRecDepth 20000 in
theorem ggX7_putCar_X7_remember : GoodIn wsX7_putCar wsX7_remember := goodIn_r _ [18, 19, 20, 1, 21, 22, 4, 23, 52, 53, 54, 55, 56, 57, 58, 59, 60, 61, 62] (by decide +kernel) (by decide +kernel)
set_option maxRecDepth 20000 in
theorem gX7_putCar_X7_remember : GoodIn wsX7_putCar (wsV RX7 162 RX7 yX7_remember wsX7_remember) := goodIn_app (goodIn_of _ (by decide +kernel)) ggX7_putCar_X7_remember
set_option maxRecDepth 20000 in
theorem ggX7_putCar_X7_putCarOn : GoodIn wsX7_putCar wsX7_putCarOn := goodIn_r _ [27, 28, 29, 30, 31, 4, 32, 33, 34, 35, 36, 37, 38, 39, 40, 41, 42, 43, 44, 45, 46, 47, 48, 49, 50, 51, 52, 53, 54, 55, 56, 57, 58, 59, 60, 61, 62] (by decide +kernel) (by decide +kernel)
set_option maxRecDepth 20000 in
theorem gX7_putCar_X7_putCarOn : GoodIn wsX7_putCar (wsV RX7 189 RX7 yX7_putCarOn wsX7_putCarOn) := goodIn_app (goodIn_of _ (by decide +kernel)) ggX7_putCar_X7_putCarOn
theorem dX7_putCar_0 : decode cX7_putCar 0 = .ok (.aload_n 0, 1) := by decide +kernel
theorem dX7_putCar_1 : decode cX7_putCar 1 = .ok (.iload_n 1, 1) := by decide +kernel
theorem dX7_putCar_2 : decode cX7_putCar 2 = .ok (.invokestatic 153, 3) := by decide +kernel
theorem dX7_putCar_5 : decode cX7_putCar 5 = .ok (.ifCond .eq 7, 3) := by decide +kernel
theorem dX7_putCar_8 : decode cX7_putCar 8 = .ok (.iconst 0, 1) := by decide +kernel
theorem dX7_putCar_9 : decode cX7_putCar 9 = .ok (.goto 4, 3) := by decide +kernel
theorem dX7_putCar_12 : decode cX7_putCar 12 = .ok (.iconst 1, 1) := by decide +kernel
theorem dX7_putCar_13 : decode cX7_putCar 13 = .ok (.invokevirtual 106, 3) := by decide +kernel
theorem dX7_putCar_16 : decode cX7_putCar 16 = .ok (.ifCond .eq 5, 3) := by decide +kernel
theorem dX7_putCar_19 : decode cX7_putCar 19 = .ok (.iconst 0, 1) := by decide +kernel
theorem dX7_putCar_20 : decode cX7_putCar 20 = .ok (.ireturn, 1) := by decide +kernel
theorem dX7_putCar_21 : decode cX7_putCar 21 = .ok (.aload_n 0, 1) := by decide +kernel
theorem dX7_putCar_22 : decode cX7_putCar 22 = .ok (.invokevirtual 162, 3) := by decide +kernel
theorem dX7_putCar_25 : decode cX7_putCar 25 = .ok (.aload_n 0, 1) := by decide +kernel
theorem dX7_putCar_26 : decode cX7_putCar 26 = .ok (.aload_n 0, 1) := by decide +kernel
theorem dX7_putCar_27 : decode cX7_putCar 27 = .ok (.getfield 13, 3) := by decide +kernel
theorem dX7_putCar_30 : decode cX7_putCar 30 = .ok (.iload_n 1, 1) := by decide +kernel
theorem dX7_putCar_31 : decode cX7_putCar 31 = .ok (.invokevirtual 189, 3) := by decide +kernel
theorem dX7_putCar_34 : decode cX7_putCar 34 = .ok (.ireturn, 1) := by decide +kernel
set_option maxRecDepth 20000 in
theorem ggX7_exchange_X7_isCar : GoodIn wsX7_exchange wsX7_isCar := goodIn_r _ [5, 6, 7, 8, 4, 9] (by decide +kernel) (by decide +kernel)
set_option maxRecDepth 20000 in
theorem gX7_exchange_X7_isCar : GoodIn wsX7_exchange (va_wsS RX7 153 yX7_isCar wsX7_isCar) := goodIn_app (goodIn_of _ (by decide +kernel)) ggX7_exchange_X7_isCar
set_option maxRecDepth 20000 in
theorem ggX7_exchange_X7_isLevel : GoodIn wsX7_exchange wsX7_isLevel := goodIn_r _ [12, 7, 8, 4, 9] (by decide +kernel) (by decide +kernel)
set_option maxRecDepth 20000 in
theorem gX7_exchange_X7_isLevel : GoodIn wsX7_exchange (va_wsS RX7 98 yX7_isLevel wsX7_isLevel) := goodIn_app (goodIn_of _ (by decide +kernel)) ggX7_exchange_X7_isLevel
set_option maxRecDepth 20000 in
theorem ggX7_exchange_X7_refused : GoodIn wsX7_exchange wsX7_refused := goodIn_r _ [16, 17, 51, 52, 53, 54, 55, 56, 57, 58, 59, 60, 61] (by decide +kernel) (by decide +kernel)
set_option maxRecDepth 20000 in
theorem gX7_exchange_X7_refused : GoodIn wsX7_exchange (wsV RX7 106 RX7 yX7_refused wsX7_refused) := goodIn_app (goodIn_of _ (by decide +kernel)) ggX7_exchange_X7_refused
set_option maxRecDepth 20000 in
theorem ggX7_exchange_X7_remember : GoodIn wsX7_exchange wsX7_remember := goodIn_r _ [21, 22, 23, 1, 24, 25, 4, 26, 51, 52, 53, 54, 55, 56, 57, 58, 59, 60, 61] (by decide +kernel) (by decide +kernel)
set_option maxRecDepth 20000 in
theorem gX7_exchange_X7_remember : GoodIn wsX7_exchange (wsV RX7 162 RX7 yX7_remember wsX7_remember) := goodIn_app (goodIn_of _ (by decide +kernel)) ggX7_exchange_X7_remember
set_option maxRecDepth 20000 in
theorem ggX7_exchange_X7_exchangeOn : GoodIn wsX7_exchange wsX7_exchangeOn := goodIn_r _ [30, 31, 32, 33, 4, 34, 35, 36, 37, 38, 39, 40, 41, 42, 43, 44, 45, 46, 47, 48, 49, 50, 51, 52, 53, 54, 55, 56, 57, 58, 59, 60, 61] (by decide +kernel) (by decide +kernel)
set_option maxRecDepth 20000 in
theorem gX7_exchange_X7_exchangeOn : GoodIn wsX7_exchange (wsV RX7 192 RX7 yX7_exchangeOn wsX7_exchangeOn) := goodIn_app (goodIn_of _ (by decide +kernel)) ggX7_exchange_X7_exchangeOn
theorem dX7_exchange_0 : decode cX7_exchange 0 = .ok (.aload_n 0, 1) := by decide +kernel
theorem dX7_exchange_1 : decode cX7_exchange 1 = .ok (.iload_n 1, 1) := by decide +kernel
theorem dX7_exchange_2 : decode cX7_exchange 2 = .ok (.invokestatic 153, 3) := by decide +kernel
theorem dX7_exchange_5 : decode cX7_exchange 5 = .ok (.ifCond .eq 29, 3) := by decide +kernel
theorem dX7_exchange_8 : decode cX7_exchange 8 = .ok (.aload_n 0, 1) := by decide +kernel
theorem dX7_exchange_9 : decode cX7_exchange 9 = .ok (.getfield 13, 3) := by decide +kernel
theorem dX7_exchange_12 : decode cX7_exchange 12 = .ok (.iload_n 2, 1) := by decide +kernel
theorem dX7_exchange_13 : decode cX7_exchange 13 = .ok (.invokestatic 98, 3) := by decide +kernel
theorem dX7_exchange_16 : decode cX7_exchange 16 = .ok (.ifCond .eq 18, 3) := by decide +kernel
theorem dX7_exchange_19 : decode cX7_exchange 19 = .ok (.aload_n 0, 1) := by decide +kernel
theorem dX7_exchange_20 : decode cX7_exchange 20 = .ok (.getfield 13, 3) := by decide +kernel
theorem dX7_exchange_23 : decode cX7_exchange 23 = .ok (.iload_n 3, 1) := by decide +kernel
theorem dX7_exchange_24 : decode cX7_exchange 24 = .ok (.invokestatic 98, 3) := by decide +kernel
theorem dX7_exchange_27 : decode cX7_exchange 27 = .ok (.ifCond .eq 7, 3) := by decide +kernel
theorem dX7_exchange_30 : decode cX7_exchange 30 = .ok (.iconst 0, 1) := by decide +kernel
theorem dX7_exchange_31 : decode cX7_exchange 31 = .ok (.goto 4, 3) := by decide +kernel
theorem dX7_exchange_34 : decode cX7_exchange 34 = .ok (.iconst 1, 1) := by decide +kernel
theorem dX7_exchange_35 : decode cX7_exchange 35 = .ok (.invokevirtual 106, 3) := by decide +kernel
theorem dX7_exchange_38 : decode cX7_exchange 38 = .ok (.ifCond .eq 5, 3) := by decide +kernel
theorem dX7_exchange_41 : decode cX7_exchange 41 = .ok (.iconst 0, 1) := by decide +kernel
theorem dX7_exchange_42 : decode cX7_exchange 42 = .ok (.ireturn, 1) := by decide +kernel
theorem dX7_exchange_43 : decode cX7_exchange 43 = .ok (.aload_n 0, 1) := by decide +kernel
theorem dX7_exchange_44 : decode cX7_exchange 44 = .ok (.invokevirtual 162, 3) := by decide +kernel
theorem dX7_exchange_47 : decode cX7_exchange 47 = .ok (.aload_n 0, 1) := by decide +kernel
theorem dX7_exchange_48 : decode cX7_exchange 48 = .ok (.aload_n 0, 1) := by decide +kernel
theorem dX7_exchange_49 : decode cX7_exchange 49 = .ok (.getfield 13, 3) := by decide +kernel
theorem dX7_exchange_52 : decode cX7_exchange 52 = .ok (.iload_n 1, 1) := by decide +kernel
theorem dX7_exchange_53 : decode cX7_exchange 53 = .ok (.iload_n 2, 1) := by decide +kernel
theorem dX7_exchange_54 : decode cX7_exchange 54 = .ok (.iload_n 3, 1) := by decide +kernel
theorem dX7_exchange_55 : decode cX7_exchange 55 = .ok (.invokevirtual 192, 3) := by decide +kernel
theorem dX7_exchange_58 : decode cX7_exchange 58 = .ok (.ireturn, 1) := by decide +kernel
set_option maxRecDepth 20000 in
theorem ggX7_undo_X7_refused : GoodIn wsX7_undo wsX7_refused := goodIn_r _ [8, 9, 13, 14, 15, 16, 17, 18, 19, 20, 21, 22, 23] (by decide +kernel) (by decide +kernel)
set_option maxRecDepth 20000 in
theorem gX7_undo_X7_refused : GoodIn wsX7_undo (wsV RX7 106 RX7 yX7_refused wsX7_refused) := goodIn_app (goodIn_of _ (by decide +kernel)) ggX7_undo_X7_refused
set_option maxRecDepth 20000 in
theorem ggX7_undo_X7_copyState : GoodIn wsX7_undo wsX7_copyState := goodIn_r _ [12] (by decide +kernel) (by decide +kernel)
set_option maxRecDepth 20000 in
theorem gX7_undo_X7_copyState : GoodIn wsX7_undo (va_wsS RX7 132 yX7_copyState wsX7_copyState) := goodIn_app (goodIn_of _ (by decide +kernel)) ggX7_undo_X7_copyState
theorem dX7_undo_0 : decode cX7_undo 0 = .ok (.aload_n 0, 1) := by decide +kernel
theorem dX7_undo_1 : decode cX7_undo 1 = .ok (.aload_n 0, 1) := by decide +kernel
theorem dX7_undo_2 : decode cX7_undo 2 = .ok (.getfield 136, 3) := by decide +kernel
theorem dX7_undo_5 : decode cX7_undo 5 = .ok (.ifCond .ne 7, 3) := by decide +kernel
theorem dX7_undo_8 : decode cX7_undo 8 = .ok (.iconst 1, 1) := by decide +kernel
theorem dX7_undo_9 : decode cX7_undo 9 = .ok (.goto 4, 3) := by decide +kernel
theorem dX7_undo_12 : decode cX7_undo 12 = .ok (.iconst 0, 1) := by decide +kernel
theorem dX7_undo_13 : decode cX7_undo 13 = .ok (.invokevirtual 106, 3) := by decide +kernel
theorem dX7_undo_16 : decode cX7_undo 16 = .ok (.ifCond .eq 5, 3) := by decide +kernel
theorem dX7_undo_19 : decode cX7_undo 19 = .ok (.iconst 0, 1) := by decide +kernel
theorem dX7_undo_20 : decode cX7_undo 20 = .ok (.ireturn, 1) := by decide +kernel
theorem dX7_undo_21 : decode cX7_undo 21 = .ok (.aload_n 0, 1) := by decide +kernel
theorem dX7_undo_22 : decode cX7_undo 22 = .ok (.dup, 1) := by decide +kernel
theorem dX7_undo_23 : decode cX7_undo 23 = .ok (.getfield 136, 3) := by decide +kernel
theorem dX7_undo_26 : decode cX7_undo 26 = .ok (.iconst 1, 1) := by decide +kernel
theorem dX7_undo_27 : decode cX7_undo 27 = .ok (.isub, 1) := by decide +kernel
theorem dX7_undo_28 : decode cX7_undo 28 = .ok (.putfield 136, 3) := by decide +kernel
theorem dX7_undo_31 : decode cX7_undo 31 = .ok (.aload_n 0, 1) := by decide +kernel
theorem dX7_undo_32 : decode cX7_undo 32 = .ok (.getfield 19, 3) := by decide +kernel
theorem dX7_undo_35 : decode cX7_undo 35 = .ok (.sipush 131, 3) := by decide +kernel
theorem dX7_undo_38 : decode cX7_undo 38 = .ok (.aload_n 0, 1) := by decide +kernel
theorem dX7_undo_39 : decode cX7_undo 39 = .ok (.getfield 136, 3) := by decide +kernel
theorem dX7_undo_42 : decode cX7_undo 42 = .ok (.imul, 1) := by decide +kernel
theorem dX7_undo_43 : decode cX7_undo 43 = .ok (.aload_n 0, 1) := by decide +kernel
theorem dX7_undo_44 : decode cX7_undo 44 = .ok (.getfield 13, 3) := by decide +kernel
theorem dX7_undo_47 : decode cX7_undo 47 = .ok (.iconst 0, 1) := by decide +kernel
theorem dX7_undo_48 : decode cX7_undo 48 = .ok (.invokestatic 132, 3) := by decide +kernel
theorem dX7_undo_51 : decode cX7_undo 51 = .ok (.aload_n 0, 1) := by decide +kernel
theorem dX7_undo_52 : decode cX7_undo 52 = .ok (.getfield 136, 3) := by decide +kernel
theorem dX7_undo_55 : decode cX7_undo 55 = .ok (.ireturn, 1) := by decide +kernel
set_option maxRecDepth 20000 in
theorem ggX7_stops_X7_serves : GoodIn wsX7_stops wsX7_serves := goodIn_r _ [6] (by decide +kernel) (by decide +kernel)
set_option maxRecDepth 20000 in
theorem gX7_stops_X7_serves : GoodIn wsX7_stops (va_wsS RX7 90 yX7_serves wsX7_serves) := goodIn_app (goodIn_of _ (by decide +kernel)) ggX7_stops_X7_serves
theorem dX7_stops_0 : decode cX7_stops 0 = .ok (.aload_n 0, 1) := by decide +kernel
theorem dX7_stops_1 : decode cX7_stops 1 = .ok (.getfield 29, 3) := by decide +kernel
theorem dX7_stops_4 : decode cX7_stops 4 = .ok (.iload_n 2, 1) := by decide +kernel
theorem dX7_stops_5 : decode cX7_stops 5 = .ok (.iaload, 1) := by decide +kernel
theorem dX7_stops_6 : decode cX7_stops 6 = .ok (.iconst (-1), 1) := by decide +kernel
theorem dX7_stops_7 : decode cX7_stops 7 = .ok (.if_icmp .eq 19, 3) := by decide +kernel
theorem dX7_stops_10 : decode cX7_stops 10 = .ok (.aload_n 0, 1) := by decide +kernel
theorem dX7_stops_11 : decode cX7_stops 11 = .ok (.getfield 13, 3) := by decide +kernel
theorem dX7_stops_14 : decode cX7_stops 14 = .ok (.iload_n 1, 1) := by decide +kernel
theorem dX7_stops_15 : decode cX7_stops 15 = .ok (.iload_n 2, 1) := by decide +kernel
theorem dX7_stops_16 : decode cX7_stops 16 = .ok (.invokestatic 90, 3) := by decide +kernel
theorem dX7_stops_19 : decode cX7_stops 19 = .ok (.ifCond .eq 7, 3) := by decide +kernel
theorem dX7_stops_22 : decode cX7_stops 22 = .ok (.iconst 1, 1) := by decide +kernel
theorem dX7_stops_23 : decode cX7_stops 23 = .ok (.goto 4, 3) := by decide +kernel
theorem dX7_stops_26 : decode cX7_stops 26 = .ok (.iconst 0, 1) := by decide +kernel
theorem dX7_stops_27 : decode cX7_stops 27 = .ok (.ireturn, 1) := by decide +kernel
set_option maxRecDepth 20000 in
theorem ggX7_ride_X7_stops : GoodIn wsX7_ride wsX7_stops := goodIn_r _ [6, 7, 1, 8, 9, 5, 10, 14, 15, 16, 17, 18, 19, 20, 21, 22, 23, 24] (by decide +kernel) (by decide +kernel)
set_option maxRecDepth 20000 in
theorem gX7_ride_X7_stops : GoodIn wsX7_ride (wsV RX7 196 RX7 yX7_stops wsX7_stops) := goodIn_app (goodIn_of _ (by decide +kernel)) ggX7_ride_X7_stops
set_option maxRecDepth 20000 in
theorem ggX7_ride_X7_says : GoodIn wsX7_ride wsX7_says := goodIn_r _ [13] (by decide +kernel) (by decide +kernel)
set_option maxRecDepth 20000 in
theorem gX7_ride_X7_says : GoodIn wsX7_ride (va_wsS RX7 73 yX7_says wsX7_says) := goodIn_app (goodIn_of _ (by decide +kernel)) ggX7_ride_X7_says
theorem dX7_ride_0 : decode cX7_ride 0 = .ok (.iload_n 3, 1) := by decide +kernel
theorem dX7_ride_1 : decode cX7_ride 1 = .ok (.iconst (-1), 1) := by decide +kernel
theorem dX7_ride_2 : decode cX7_ride 2 = .ok (.if_icmp .eq 12, 3) := by decide +kernel
theorem dX7_ride_5 : decode cX7_ride 5 = .ok (.aload_n 0, 1) := by decide +kernel
theorem dX7_ride_6 : decode cX7_ride 6 = .ok (.iload_n 1, 1) := by decide +kernel
theorem dX7_ride_7 : decode cX7_ride 7 = .ok (.iload_n 2, 1) := by decide +kernel
theorem dX7_ride_8 : decode cX7_ride 8 = .ok (.invokevirtual 196, 3) := by decide +kernel
theorem dX7_ride_11 : decode cX7_ride 11 = .ok (.ifCond .ne 5, 3) := by decide +kernel
theorem dX7_ride_14 : decode cX7_ride 14 = .ok (.iconst (-1), 1) := by decide +kernel
theorem dX7_ride_15 : decode cX7_ride 15 = .ok (.ireturn, 1) := by decide +kernel
theorem dX7_ride_16 : decode cX7_ride 16 = .ok (.iconst 0, 1) := by decide +kernel
theorem dX7_ride_17 : decode cX7_ride 17 = .ok (.istore 4, 2) := by decide +kernel
theorem dX7_ride_19 : decode cX7_ride 19 = .ok (.iload 4, 2) := by decide +kernel
theorem dX7_ride_21 : decode cX7_ride 21 = .ok (.aload_n 0, 1) := by decide +kernel
theorem dX7_ride_22 : decode cX7_ride 22 = .ok (.getfield 13, 3) := by decide +kernel
theorem dX7_ride_25 : decode cX7_ride 25 = .ok (.iconst 0, 1) := by decide +kernel
theorem dX7_ride_26 : decode cX7_ride 26 = .ok (.iaload, 1) := by decide +kernel
theorem dX7_ride_27 : decode cX7_ride 27 = .ok (.if_icmp .ge 42, 3) := by decide +kernel
theorem dX7_ride_30 : decode cX7_ride 30 = .ok (.iload 4, 2) := by decide +kernel
theorem dX7_ride_32 : decode cX7_ride 32 = .ok (.iload_n 2, 1) := by decide +kernel
theorem dX7_ride_33 : decode cX7_ride 33 = .ok (.if_icmp .eq 30, 3) := by decide +kernel
theorem dX7_ride_36 : decode cX7_ride 36 = .ok (.aload_n 0, 1) := by decide +kernel
theorem dX7_ride_37 : decode cX7_ride 37 = .ok (.iload_n 1, 1) := by decide +kernel
theorem dX7_ride_38 : decode cX7_ride 38 = .ok (.iload 4, 2) := by decide +kernel
theorem dX7_ride_40 : decode cX7_ride 40 = .ok (.invokevirtual 196, 3) := by decide +kernel
theorem dX7_ride_43 : decode cX7_ride 43 = .ok (.ifCond .eq 20, 3) := by decide +kernel
theorem dX7_ride_46 : decode cX7_ride 46 = .ok (.aload_n 0, 1) := by decide +kernel
theorem dX7_ride_47 : decode cX7_ride 47 = .ok (.getfield 13, 3) := by decide +kernel
theorem dX7_ride_50 : decode cX7_ride 50 = .ok (.iload_n 1, 1) := by decide +kernel
theorem dX7_ride_51 : decode cX7_ride 51 = .ok (.iload 4, 2) := by decide +kernel
theorem dX7_ride_53 : decode cX7_ride 53 = .ok (.invokestatic 73, 3) := by decide +kernel
theorem dX7_ride_56 : decode cX7_ride 56 = .ok (.iload_n 3, 1) := by decide +kernel
theorem dX7_ride_57 : decode cX7_ride 57 = .ok (.if_icmp .ne 6, 3) := by decide +kernel
theorem dX7_ride_60 : decode cX7_ride 60 = .ok (.iload 4, 2) := by decide +kernel
theorem dX7_ride_62 : decode cX7_ride 62 = .ok (.ireturn, 1) := by decide +kernel
theorem dX7_ride_63 : decode cX7_ride 63 = .ok (.iinc 4 1, 3) := by decide +kernel
theorem dX7_ride_66 : decode cX7_ride 66 = .ok (.goto (-47), 3) := by decide +kernel
theorem dX7_ride_69 : decode cX7_ride 69 = .ok (.iconst (-1), 1) := by decide +kernel
theorem dX7_ride_70 : decode cX7_ride 70 = .ok (.ireturn, 1) := by decide +kernel
set_option maxRecDepth 20000 in
theorem ggX7_goes_X7_isCar : GoodIn wsX7_goes wsX7_isCar := goodIn_r _ [5, 6, 7, 8, 4, 9] (by decide +kernel) (by decide +kernel)
set_option maxRecDepth 20000 in
theorem gX7_goes_X7_isCar : GoodIn wsX7_goes (va_wsS RX7 153 yX7_isCar wsX7_isCar) := goodIn_app (goodIn_of _ (by decide +kernel)) ggX7_goes_X7_isCar
set_option maxRecDepth 20000 in
theorem ggX7_goes_X7_isLevel : GoodIn wsX7_goes wsX7_isLevel := goodIn_r _ [12, 7, 8, 4, 9] (by decide +kernel) (by decide +kernel)
set_option maxRecDepth 20000 in
theorem gX7_goes_X7_isLevel : GoodIn wsX7_goes (va_wsS RX7 98 yX7_isLevel wsX7_isLevel) := goodIn_app (goodIn_of _ (by decide +kernel)) ggX7_goes_X7_isLevel
set_option maxRecDepth 20000 in
theorem ggX7_goes_X7_refused : GoodIn wsX7_goes wsX7_refused := goodIn_r _ [16, 17, 49, 50, 51, 52, 53, 54, 55, 56, 57, 58, 59] (by decide +kernel) (by decide +kernel)
set_option maxRecDepth 20000 in
theorem gX7_goes_X7_refused : GoodIn wsX7_goes (wsV RX7 106 RX7 yX7_refused wsX7_refused) := goodIn_app (goodIn_of _ (by decide +kernel)) ggX7_goes_X7_refused
set_option maxRecDepth 20000 in
theorem ggX7_goes_X7_name : GoodIn wsX7_goes wsX7_name := goodIn_r _ [21, 22, 23, 24, 25, 4, 26, 27, 28, 29, 30, 31, 32, 33, 34, 49, 50, 51, 52, 53, 54, 55, 56, 57, 58, 59] (by decide +kernel) (by decide +kernel)
set_option maxRecDepth 20000 in
theorem gX7_goes_X7_name : GoodIn wsX7_goes (wsV RX7 76 RX7 yX7_name wsX7_name) := goodIn_app (goodIn_of _ (by decide +kernel)) ggX7_goes_X7_name
set_option maxRecDepth 20000 in
theorem ggX7_goes_X7_ride : GoodIn wsX7_goes wsX7_ride := goodIn_r _ [38, 1, 39, 40, 41, 4, 42, 23, 43, 44, 45, 46, 47, 48, 49, 50, 51, 52, 53, 54, 55, 56, 57, 58, 59] (by decide +kernel) (by decide +kernel)
set_option maxRecDepth 20000 in
theorem gX7_goes_X7_ride : GoodIn wsX7_goes (wsV RX7 200 RX7 yX7_ride wsX7_ride) := goodIn_app (goodIn_of _ (by decide +kernel)) ggX7_goes_X7_ride
theorem dX7_goes_0 : decode cX7_goes 0 = .ok (.aload_n 0, 1) := by decide +kernel
theorem dX7_goes_1 : decode cX7_goes 1 = .ok (.iload_n 1, 1) := by decide +kernel
theorem dX7_goes_2 : decode cX7_goes 2 = .ok (.invokestatic 153, 3) := by decide +kernel
theorem dX7_goes_5 : decode cX7_goes 5 = .ok (.ifCond .eq 18, 3) := by decide +kernel
theorem dX7_goes_8 : decode cX7_goes 8 = .ok (.aload_n 0, 1) := by decide +kernel
theorem dX7_goes_9 : decode cX7_goes 9 = .ok (.getfield 13, 3) := by decide +kernel
theorem dX7_goes_12 : decode cX7_goes 12 = .ok (.iload_n 2, 1) := by decide +kernel
theorem dX7_goes_13 : decode cX7_goes 13 = .ok (.invokestatic 98, 3) := by decide +kernel
theorem dX7_goes_16 : decode cX7_goes 16 = .ok (.ifCond .eq 7, 3) := by decide +kernel
theorem dX7_goes_19 : decode cX7_goes 19 = .ok (.iconst 0, 1) := by decide +kernel
theorem dX7_goes_20 : decode cX7_goes 20 = .ok (.goto 4, 3) := by decide +kernel
theorem dX7_goes_23 : decode cX7_goes 23 = .ok (.iconst 1, 1) := by decide +kernel
theorem dX7_goes_24 : decode cX7_goes 24 = .ok (.invokevirtual 106, 3) := by decide +kernel
theorem dX7_goes_27 : decode cX7_goes 27 = .ok (.ifCond .eq 5, 3) := by decide +kernel
theorem dX7_goes_30 : decode cX7_goes 30 = .ok (.iconst 0, 1) := by decide +kernel
theorem dX7_goes_31 : decode cX7_goes 31 = .ok (.ireturn, 1) := by decide +kernel
theorem dX7_goes_32 : decode cX7_goes 32 = .ok (.aload_n 0, 1) := by decide +kernel
theorem dX7_goes_33 : decode cX7_goes 33 = .ok (.aload_n 0, 1) := by decide +kernel
theorem dX7_goes_34 : decode cX7_goes 34 = .ok (.getfield 13, 3) := by decide +kernel
theorem dX7_goes_37 : decode cX7_goes 37 = .ok (.invokevirtual 76, 3) := by decide +kernel
theorem dX7_goes_40 : decode cX7_goes 40 = .ok (.aload_n 0, 1) := by decide +kernel
theorem dX7_goes_41 : decode cX7_goes 41 = .ok (.iload_n 1, 1) := by decide +kernel
theorem dX7_goes_42 : decode cX7_goes 42 = .ok (.iload_n 2, 1) := by decide +kernel
theorem dX7_goes_43 : decode cX7_goes 43 = .ok (.iload_n 3, 1) := by decide +kernel
theorem dX7_goes_44 : decode cX7_goes 44 = .ok (.invokevirtual 200, 3) := by decide +kernel
theorem dX7_goes_47 : decode cX7_goes 47 = .ok (.ireturn, 1) := by decide +kernel
set_option maxRecDepth 20000 in
theorem ggX7_strays_X7_stops : GoodIn wsX7_strays wsX7_stops := goodIn_r _ [6, 7, 1, 8, 9, 5, 10, 18, 19, 20, 21, 22, 23, 24, 25, 26, 27, 28] (by decide +kernel) (by decide +kernel)
set_option maxRecDepth 20000 in
theorem gX7_strays_X7_stops : GoodIn wsX7_strays (wsV RX7 196 RX7 yX7_stops wsX7_stops) := goodIn_app (goodIn_of _ (by decide +kernel)) ggX7_strays_X7_stops
set_option maxRecDepth 20000 in
theorem ggX7_strays_X7_says : GoodIn wsX7_strays wsX7_says := goodIn_r _ [13] (by decide +kernel) (by decide +kernel)
set_option maxRecDepth 20000 in
theorem gX7_strays_X7_says : GoodIn wsX7_strays (va_wsS RX7 73 yX7_says wsX7_says) := goodIn_app (goodIn_of _ (by decide +kernel)) ggX7_strays_X7_says
set_option maxRecDepth 20000 in
theorem ggX7_strays_X7_ride : GoodIn wsX7_strays wsX7_ride := goodIn_r _ [17, 1, 2, 3, 4, 5, 6, 7, 8, 9, 10, 11, 12, 13, 18, 19, 20, 21, 22, 23, 24, 25, 26, 27, 28] (by decide +kernel) (by decide +kernel)
set_option maxRecDepth 20000 in
theorem gX7_strays_X7_ride : GoodIn wsX7_strays (wsV RX7 200 RX7 yX7_ride wsX7_ride) := goodIn_app (goodIn_of _ (by decide +kernel)) ggX7_strays_X7_ride
theorem dX7_strays_0 : decode cX7_strays 0 = .ok (.iconst 0, 1) := by decide +kernel
theorem dX7_strays_1 : decode cX7_strays 1 = .ok (.istore_n 2, 1) := by decide +kernel
theorem dX7_strays_2 : decode cX7_strays 2 = .ok (.iconst 0, 1) := by decide +kernel
theorem dX7_strays_3 : decode cX7_strays 3 = .ok (.istore_n 3, 1) := by decide +kernel
theorem dX7_strays_4 : decode cX7_strays 4 = .ok (.iload_n 3, 1) := by decide +kernel
theorem dX7_strays_5 : decode cX7_strays 5 = .ok (.aload_n 0, 1) := by decide +kernel
theorem dX7_strays_6 : decode cX7_strays 6 = .ok (.getfield 13, 3) := by decide +kernel
theorem dX7_strays_9 : decode cX7_strays 9 = .ok (.iconst 0, 1) := by decide +kernel
theorem dX7_strays_10 : decode cX7_strays 10 = .ok (.iaload, 1) := by decide +kernel
theorem dX7_strays_11 : decode cX7_strays 11 = .ok (.if_icmp .ge 83, 3) := by decide +kernel
theorem dX7_strays_14 : decode cX7_strays 14 = .ok (.iconst 0, 1) := by decide +kernel
theorem dX7_strays_15 : decode cX7_strays 15 = .ok (.istore 4, 2) := by decide +kernel
theorem dX7_strays_17 : decode cX7_strays 17 = .ok (.iload 4, 2) := by decide +kernel
theorem dX7_strays_19 : decode cX7_strays 19 = .ok (.aload_n 0, 1) := by decide +kernel
theorem dX7_strays_20 : decode cX7_strays 20 = .ok (.getfield 13, 3) := by decide +kernel
theorem dX7_strays_23 : decode cX7_strays 23 = .ok (.iconst 0, 1) := by decide +kernel
theorem dX7_strays_24 : decode cX7_strays 24 = .ok (.iaload, 1) := by decide +kernel
theorem dX7_strays_25 : decode cX7_strays 25 = .ok (.if_icmp .ge 63, 3) := by decide +kernel
theorem dX7_strays_28 : decode cX7_strays 28 = .ok (.iload_n 2, 1) := by decide +kernel
theorem dX7_strays_29 : decode cX7_strays 29 = .ok (.iload_n 3, 1) := by decide +kernel
theorem dX7_strays_30 : decode cX7_strays 30 = .ok (.iload 4, 2) := by decide +kernel
theorem dX7_strays_32 : decode cX7_strays 32 = .ok (.if_icmp .eq 47, 3) := by decide +kernel
theorem dX7_strays_35 : decode cX7_strays 35 = .ok (.aload_n 0, 1) := by decide +kernel
theorem dX7_strays_36 : decode cX7_strays 36 = .ok (.iload_n 1, 1) := by decide +kernel
theorem dX7_strays_37 : decode cX7_strays 37 = .ok (.iload_n 3, 1) := by decide +kernel
theorem dX7_strays_38 : decode cX7_strays 38 = .ok (.invokevirtual 196, 3) := by decide +kernel
theorem dX7_strays_41 : decode cX7_strays 41 = .ok (.ifCond .eq 38, 3) := by decide +kernel
theorem dX7_strays_44 : decode cX7_strays 44 = .ok (.aload_n 0, 1) := by decide +kernel
theorem dX7_strays_45 : decode cX7_strays 45 = .ok (.iload_n 1, 1) := by decide +kernel
theorem dX7_strays_46 : decode cX7_strays 46 = .ok (.iload 4, 2) := by decide +kernel
theorem dX7_strays_48 : decode cX7_strays 48 = .ok (.invokevirtual 196, 3) := by decide +kernel
theorem dX7_strays_51 : decode cX7_strays 51 = .ok (.ifCond .eq 28, 3) := by decide +kernel
theorem dX7_strays_54 : decode cX7_strays 54 = .ok (.aload_n 0, 1) := by decide +kernel
theorem dX7_strays_55 : decode cX7_strays 55 = .ok (.iload_n 1, 1) := by decide +kernel
theorem dX7_strays_56 : decode cX7_strays 56 = .ok (.iload_n 3, 1) := by decide +kernel
theorem dX7_strays_57 : decode cX7_strays 57 = .ok (.aload_n 0, 1) := by decide +kernel
theorem dX7_strays_58 : decode cX7_strays 58 = .ok (.getfield 13, 3) := by decide +kernel
theorem dX7_strays_61 : decode cX7_strays 61 = .ok (.iload_n 1, 1) := by decide +kernel
theorem dX7_strays_62 : decode cX7_strays 62 = .ok (.iload 4, 2) := by decide +kernel
theorem dX7_strays_64 : decode cX7_strays 64 = .ok (.invokestatic 73, 3) := by decide +kernel
theorem dX7_strays_67 : decode cX7_strays 67 = .ok (.invokevirtual 200, 3) := by decide +kernel
theorem dX7_strays_70 : decode cX7_strays 70 = .ok (.iload 4, 2) := by decide +kernel
theorem dX7_strays_72 : decode cX7_strays 72 = .ok (.if_icmp .eq 7, 3) := by decide +kernel
theorem dX7_strays_75 : decode cX7_strays 75 = .ok (.iconst 1, 1) := by decide +kernel
theorem dX7_strays_76 : decode cX7_strays 76 = .ok (.goto 4, 3) := by decide +kernel
theorem dX7_strays_79 : decode cX7_strays 79 = .ok (.iconst 0, 1) := by decide +kernel
theorem dX7_strays_80 : decode cX7_strays 80 = .ok (.iadd, 1) := by decide +kernel
theorem dX7_strays_81 : decode cX7_strays 81 = .ok (.istore_n 2, 1) := by decide +kernel
theorem dX7_strays_82 : decode cX7_strays 82 = .ok (.iinc 4 1, 3) := by decide +kernel
theorem dX7_strays_85 : decode cX7_strays 85 = .ok (.goto (-68), 3) := by decide +kernel
theorem dX7_strays_88 : decode cX7_strays 88 = .ok (.iinc 3 1, 3) := by decide +kernel
theorem dX7_strays_91 : decode cX7_strays 91 = .ok (.goto (-87), 3) := by decide +kernel
theorem dX7_strays_94 : decode cX7_strays 94 = .ok (.iload_n 2, 1) := by decide +kernel
theorem dX7_strays_95 : decode cX7_strays 95 = .ok (.ireturn, 1) := by decide +kernel
set_option maxRecDepth 20000 in
theorem ggX7_astray_X7_isCar : GoodIn wsX7_astray wsX7_isCar := goodIn_r _ [5, 6, 7, 8, 4, 9] (by decide +kernel) (by decide +kernel)
set_option maxRecDepth 20000 in
theorem gX7_astray_X7_isCar : GoodIn wsX7_astray (va_wsS RX7 153 yX7_isCar wsX7_isCar) := goodIn_app (goodIn_of _ (by decide +kernel)) ggX7_astray_X7_isCar
set_option maxRecDepth 20000 in
theorem ggX7_astray_X7_refused : GoodIn wsX7_astray wsX7_refused := goodIn_r _ [13, 14, 50, 51, 52, 53, 54, 55, 56, 57, 58, 59, 60] (by decide +kernel) (by decide +kernel)
set_option maxRecDepth 20000 in
theorem gX7_astray_X7_refused : GoodIn wsX7_astray (wsV RX7 106 RX7 yX7_refused wsX7_refused) := goodIn_app (goodIn_of _ (by decide +kernel)) ggX7_astray_X7_refused
set_option maxRecDepth 20000 in
theorem ggX7_astray_X7_name : GoodIn wsX7_astray wsX7_name := goodIn_r _ [18, 19, 20, 21, 22, 4, 23, 24, 25, 26, 27, 28, 29, 30, 31, 50, 51, 52, 53, 54, 55, 56, 57, 58, 59, 60] (by decide +kernel) (by decide +kernel)
set_option maxRecDepth 20000 in
theorem gX7_astray_X7_name : GoodIn wsX7_astray (wsV RX7 76 RX7 yX7_name wsX7_name) := goodIn_app (goodIn_of _ (by decide +kernel)) ggX7_astray_X7_name
set_option maxRecDepth 20000 in
theorem ggX7_astray_X7_strays : GoodIn wsX7_astray wsX7_strays := goodIn_r _ [35, 1, 36, 37, 38, 4, 39, 20, 40, 41, 42, 43, 44, 45, 46, 47, 48, 49, 50, 51, 52, 53, 54, 55, 56, 57, 58, 59, 60] (by decide +kernel) (by decide +kernel)
set_option maxRecDepth 20000 in
theorem gX7_astray_X7_strays : GoodIn wsX7_astray (wsV RX7 204 RX7 yX7_strays wsX7_strays) := goodIn_app (goodIn_of _ (by decide +kernel)) ggX7_astray_X7_strays
theorem dX7_astray_0 : decode cX7_astray 0 = .ok (.aload_n 0, 1) := by decide +kernel
theorem dX7_astray_1 : decode cX7_astray 1 = .ok (.iload_n 1, 1) := by decide +kernel
theorem dX7_astray_2 : decode cX7_astray 2 = .ok (.invokestatic 153, 3) := by decide +kernel
theorem dX7_astray_5 : decode cX7_astray 5 = .ok (.ifCond .eq 7, 3) := by decide +kernel
theorem dX7_astray_8 : decode cX7_astray 8 = .ok (.iconst 0, 1) := by decide +kernel
theorem dX7_astray_9 : decode cX7_astray 9 = .ok (.goto 4, 3) := by decide +kernel
theorem dX7_astray_12 : decode cX7_astray 12 = .ok (.iconst 1, 1) := by decide +kernel
theorem dX7_astray_13 : decode cX7_astray 13 = .ok (.invokevirtual 106, 3) := by decide +kernel
theorem dX7_astray_16 : decode cX7_astray 16 = .ok (.ifCond .eq 5, 3) := by decide +kernel
theorem dX7_astray_19 : decode cX7_astray 19 = .ok (.iconst 0, 1) := by decide +kernel
theorem dX7_astray_20 : decode cX7_astray 20 = .ok (.ireturn, 1) := by decide +kernel
theorem dX7_astray_21 : decode cX7_astray 21 = .ok (.aload_n 0, 1) := by decide +kernel
theorem dX7_astray_22 : decode cX7_astray 22 = .ok (.aload_n 0, 1) := by decide +kernel
theorem dX7_astray_23 : decode cX7_astray 23 = .ok (.getfield 13, 3) := by decide +kernel
theorem dX7_astray_26 : decode cX7_astray 26 = .ok (.invokevirtual 76, 3) := by decide +kernel
theorem dX7_astray_29 : decode cX7_astray 29 = .ok (.aload_n 0, 1) := by decide +kernel
theorem dX7_astray_30 : decode cX7_astray 30 = .ok (.iload_n 1, 1) := by decide +kernel
theorem dX7_astray_31 : decode cX7_astray 31 = .ok (.invokevirtual 204, 3) := by decide +kernel
theorem dX7_astray_34 : decode cX7_astray 34 = .ok (.ireturn, 1) := by decide +kernel
set_option maxRecDepth 20000 in
theorem ggX7_leads_X7_says : GoodIn wsX7_leads wsX7_says := goodIn_r _ [5] (by decide +kernel) (by decide +kernel)
set_option maxRecDepth 20000 in
theorem gX7_leads_X7_says : GoodIn wsX7_leads (va_wsS RX7 73 yX7_says wsX7_says) := goodIn_app (goodIn_of _ (by decide +kernel)) ggX7_leads_X7_says
set_option maxRecDepth 20000 in
theorem ggX7_leads_X7_ride : GoodIn wsX7_leads wsX7_ride := goodIn_r _ [9, 1, 10, 11, 12, 4, 13, 14, 15, 16, 17, 2, 3, 5, 18, 19, 20, 21, 22, 23, 24, 25, 26, 27, 28] (by decide +kernel) (by decide +kernel)
set_option maxRecDepth 20000 in
theorem gX7_leads_X7_ride : GoodIn wsX7_leads (wsV RX7 200 RX7 yX7_ride wsX7_ride) := goodIn_app (goodIn_of _ (by decide +kernel)) ggX7_leads_X7_ride
theorem dX7_leads_0 : decode cX7_leads 0 = .ok (.iconst 0, 1) := by decide +kernel
theorem dX7_leads_1 : decode cX7_leads 1 = .ok (.istore_n 3, 1) := by decide +kernel
theorem dX7_leads_2 : decode cX7_leads 2 = .ok (.iload_n 3, 1) := by decide +kernel
theorem dX7_leads_3 : decode cX7_leads 3 = .ok (.iconst 3, 1) := by decide +kernel
theorem dX7_leads_4 : decode cX7_leads 4 = .ok (.if_icmp .ge 30, 3) := by decide +kernel
theorem dX7_leads_7 : decode cX7_leads 7 = .ok (.aload_n 0, 1) := by decide +kernel
theorem dX7_leads_8 : decode cX7_leads 8 = .ok (.iload_n 3, 1) := by decide +kernel
theorem dX7_leads_9 : decode cX7_leads 9 = .ok (.iload_n 1, 1) := by decide +kernel
theorem dX7_leads_10 : decode cX7_leads 10 = .ok (.aload_n 0, 1) := by decide +kernel
theorem dX7_leads_11 : decode cX7_leads 11 = .ok (.getfield 13, 3) := by decide +kernel
theorem dX7_leads_14 : decode cX7_leads 14 = .ok (.iload_n 3, 1) := by decide +kernel
theorem dX7_leads_15 : decode cX7_leads 15 = .ok (.iload_n 2, 1) := by decide +kernel
theorem dX7_leads_16 : decode cX7_leads 16 = .ok (.invokestatic 73, 3) := by decide +kernel
theorem dX7_leads_19 : decode cX7_leads 19 = .ok (.invokevirtual 200, 3) := by decide +kernel
theorem dX7_leads_22 : decode cX7_leads 22 = .ok (.iload_n 2, 1) := by decide +kernel
theorem dX7_leads_23 : decode cX7_leads 23 = .ok (.if_icmp .ne 5, 3) := by decide +kernel
theorem dX7_leads_26 : decode cX7_leads 26 = .ok (.iconst 1, 1) := by decide +kernel
theorem dX7_leads_27 : decode cX7_leads 27 = .ok (.ireturn, 1) := by decide +kernel
theorem dX7_leads_28 : decode cX7_leads 28 = .ok (.iinc 3 1, 3) := by decide +kernel
theorem dX7_leads_31 : decode cX7_leads 31 = .ok (.goto (-29), 3) := by decide +kernel
theorem dX7_leads_34 : decode cX7_leads 34 = .ok (.iconst 0, 1) := by decide +kernel
theorem dX7_leads_35 : decode cX7_leads 35 = .ok (.ireturn, 1) := by decide +kernel
set_option maxRecDepth 20000 in
theorem ggX7_rides_X7_isLevel : GoodIn wsX7_rides wsX7_isLevel := goodIn_r _ [5, 6, 7, 4, 8] (by decide +kernel) (by decide +kernel)
set_option maxRecDepth 20000 in
theorem gX7_rides_X7_isLevel : GoodIn wsX7_rides (va_wsS RX7 98 yX7_isLevel wsX7_isLevel) := goodIn_app (goodIn_of _ (by decide +kernel)) ggX7_rides_X7_isLevel
set_option maxRecDepth 20000 in
theorem ggX7_rides_X7_refused : GoodIn wsX7_rides wsX7_refused := goodIn_r _ [12, 13, 49, 50, 51, 52, 53, 54, 55, 56, 57, 58, 59] (by decide +kernel) (by decide +kernel)
set_option maxRecDepth 20000 in
theorem gX7_rides_X7_refused : GoodIn wsX7_rides (wsV RX7 106 RX7 yX7_refused wsX7_refused) := goodIn_app (goodIn_of _ (by decide +kernel)) ggX7_rides_X7_refused
set_option maxRecDepth 20000 in
theorem ggX7_rides_X7_name : GoodIn wsX7_rides wsX7_name := goodIn_r _ [17, 18, 19, 20, 21, 4, 22, 23, 24, 25, 26, 27, 28, 29, 30, 49, 50, 51, 52, 53, 54, 55, 56, 57, 58, 59] (by decide +kernel) (by decide +kernel)
set_option maxRecDepth 20000 in
theorem gX7_rides_X7_name : GoodIn wsX7_rides (wsV RX7 76 RX7 yX7_name wsX7_name) := goodIn_app (goodIn_of _ (by decide +kernel)) ggX7_rides_X7_name
set_option maxRecDepth 20000 in
theorem ggX7_rides_X7_leads : GoodIn wsX7_rides wsX7_leads := goodIn_r _ [34, 1, 35, 36, 4, 37, 38, 39, 40, 41, 42, 43, 44, 45, 19, 46, 47, 48, 49, 50, 51, 52, 53, 54, 55, 56, 57, 58, 59] (by decide +kernel) (by decide +kernel)
set_option maxRecDepth 20000 in
theorem gX7_rides_X7_leads : GoodIn wsX7_rides (wsV RX7 207 RX7 yX7_leads wsX7_leads) := goodIn_app (goodIn_of _ (by decide +kernel)) ggX7_rides_X7_leads
theorem dX7_rides_0 : decode cX7_rides 0 = .ok (.aload_n 0, 1) := by decide +kernel
theorem dX7_rides_1 : decode cX7_rides 1 = .ok (.aload_n 0, 1) := by decide +kernel
theorem dX7_rides_2 : decode cX7_rides 2 = .ok (.getfield 13, 3) := by decide +kernel
theorem dX7_rides_5 : decode cX7_rides 5 = .ok (.iload_n 1, 1) := by decide +kernel
theorem dX7_rides_6 : decode cX7_rides 6 = .ok (.invokestatic 98, 3) := by decide +kernel
theorem dX7_rides_9 : decode cX7_rides 9 = .ok (.ifCond .eq 18, 3) := by decide +kernel
theorem dX7_rides_12 : decode cX7_rides 12 = .ok (.aload_n 0, 1) := by decide +kernel
theorem dX7_rides_13 : decode cX7_rides 13 = .ok (.getfield 13, 3) := by decide +kernel
theorem dX7_rides_16 : decode cX7_rides 16 = .ok (.iload_n 2, 1) := by decide +kernel
theorem dX7_rides_17 : decode cX7_rides 17 = .ok (.invokestatic 98, 3) := by decide +kernel
theorem dX7_rides_20 : decode cX7_rides 20 = .ok (.ifCond .eq 7, 3) := by decide +kernel
theorem dX7_rides_23 : decode cX7_rides 23 = .ok (.iconst 0, 1) := by decide +kernel
theorem dX7_rides_24 : decode cX7_rides 24 = .ok (.goto 4, 3) := by decide +kernel
theorem dX7_rides_27 : decode cX7_rides 27 = .ok (.iconst 1, 1) := by decide +kernel
theorem dX7_rides_28 : decode cX7_rides 28 = .ok (.invokevirtual 106, 3) := by decide +kernel
theorem dX7_rides_31 : decode cX7_rides 31 = .ok (.ifCond .eq 5, 3) := by decide +kernel
theorem dX7_rides_34 : decode cX7_rides 34 = .ok (.iconst 0, 1) := by decide +kernel
theorem dX7_rides_35 : decode cX7_rides 35 = .ok (.ireturn, 1) := by decide +kernel
theorem dX7_rides_36 : decode cX7_rides 36 = .ok (.aload_n 0, 1) := by decide +kernel
theorem dX7_rides_37 : decode cX7_rides 37 = .ok (.aload_n 0, 1) := by decide +kernel
theorem dX7_rides_38 : decode cX7_rides 38 = .ok (.getfield 13, 3) := by decide +kernel
theorem dX7_rides_41 : decode cX7_rides 41 = .ok (.invokevirtual 76, 3) := by decide +kernel
theorem dX7_rides_44 : decode cX7_rides 44 = .ok (.iconst 1, 1) := by decide +kernel
theorem dX7_rides_45 : decode cX7_rides 45 = .ok (.iload_n 1, 1) := by decide +kernel
theorem dX7_rides_46 : decode cX7_rides 46 = .ok (.ishl, 1) := by decide +kernel
theorem dX7_rides_47 : decode cX7_rides 47 = .ok (.istore_n 3, 1) := by decide +kernel
theorem dX7_rides_48 : decode cX7_rides 48 = .ok (.iconst 0, 1) := by decide +kernel
theorem dX7_rides_49 : decode cX7_rides 49 = .ok (.istore 4, 2) := by decide +kernel
theorem dX7_rides_51 : decode cX7_rides 51 = .ok (.iload 4, 2) := by decide +kernel
theorem dX7_rides_53 : decode cX7_rides 53 = .ok (.bipush 16, 2) := by decide +kernel
theorem dX7_rides_55 : decode cX7_rides 55 = .ok (.if_icmp .ge 108, 3) := by decide +kernel
theorem dX7_rides_58 : decode cX7_rides 58 = .ok (.iload_n 3, 1) := by decide +kernel
theorem dX7_rides_59 : decode cX7_rides 59 = .ok (.iload_n 2, 1) := by decide +kernel
theorem dX7_rides_60 : decode cX7_rides 60 = .ok (.ishr, 1) := by decide +kernel
theorem dX7_rides_61 : decode cX7_rides 61 = .ok (.iconst 1, 1) := by decide +kernel
theorem dX7_rides_62 : decode cX7_rides 62 = .ok (.iand, 1) := by decide +kernel
theorem dX7_rides_63 : decode cX7_rides 63 = .ok (.iconst 1, 1) := by decide +kernel
theorem dX7_rides_64 : decode cX7_rides 64 = .ok (.if_icmp .ne 6, 3) := by decide +kernel
theorem dX7_rides_67 : decode cX7_rides 67 = .ok (.iload 4, 2) := by decide +kernel
theorem dX7_rides_69 : decode cX7_rides 69 = .ok (.ireturn, 1) := by decide +kernel
theorem dX7_rides_70 : decode cX7_rides 70 = .ok (.iload_n 3, 1) := by decide +kernel
theorem dX7_rides_71 : decode cX7_rides 71 = .ok (.istore 5, 2) := by decide +kernel
theorem dX7_rides_73 : decode cX7_rides 73 = .ok (.iconst 0, 1) := by decide +kernel
theorem dX7_rides_74 : decode cX7_rides 74 = .ok (.istore 6, 2) := by decide +kernel
theorem dX7_rides_76 : decode cX7_rides 76 = .ok (.iload 6, 2) := by decide +kernel
theorem dX7_rides_78 : decode cX7_rides 78 = .ok (.aload_n 0, 1) := by decide +kernel
theorem dX7_rides_79 : decode cX7_rides 79 = .ok (.getfield 13, 3) := by decide +kernel
theorem dX7_rides_82 : decode cX7_rides 82 = .ok (.iconst 0, 1) := by decide +kernel
theorem dX7_rides_83 : decode cX7_rides 83 = .ok (.iaload, 1) := by decide +kernel
theorem dX7_rides_84 : decode cX7_rides 84 = .ok (.if_icmp .ge 70, 3) := by decide +kernel
theorem dX7_rides_87 : decode cX7_rides 87 = .ok (.iconst 0, 1) := by decide +kernel
theorem dX7_rides_88 : decode cX7_rides 88 = .ok (.istore 7, 2) := by decide +kernel
theorem dX7_rides_90 : decode cX7_rides 90 = .ok (.iload 7, 2) := by decide +kernel
theorem dX7_rides_92 : decode cX7_rides 92 = .ok (.aload_n 0, 1) := by decide +kernel
theorem dX7_rides_93 : decode cX7_rides 93 = .ok (.getfield 13, 3) := by decide +kernel
theorem dX7_rides_96 : decode cX7_rides 96 = .ok (.iconst 0, 1) := by decide +kernel
theorem dX7_rides_97 : decode cX7_rides 97 = .ok (.iaload, 1) := by decide +kernel
theorem dX7_rides_98 : decode cX7_rides 98 = .ok (.if_icmp .ge 50, 3) := by decide +kernel
theorem dX7_rides_101 : decode cX7_rides 101 = .ok (.iload 5, 2) := by decide +kernel
theorem dX7_rides_103 : decode cX7_rides 103 = .ok (.iload_n 3, 1) := by decide +kernel
theorem dX7_rides_104 : decode cX7_rides 104 = .ok (.iload 6, 2) := by decide +kernel
theorem dX7_rides_106 : decode cX7_rides 106 = .ok (.ishr, 1) := by decide +kernel
theorem dX7_rides_107 : decode cX7_rides 107 = .ok (.iconst 1, 1) := by decide +kernel
theorem dX7_rides_108 : decode cX7_rides 108 = .ok (.iand, 1) := by decide +kernel
theorem dX7_rides_109 : decode cX7_rides 109 = .ok (.iconst 1, 1) := by decide +kernel
theorem dX7_rides_110 : decode cX7_rides 110 = .ok (.if_icmp .ne 28, 3) := by decide +kernel
theorem dX7_rides_113 : decode cX7_rides 113 = .ok (.iload 6, 2) := by decide +kernel
theorem dX7_rides_115 : decode cX7_rides 115 = .ok (.iload 7, 2) := by decide +kernel
theorem dX7_rides_117 : decode cX7_rides 117 = .ok (.if_icmp .eq 21, 3) := by decide +kernel
theorem dX7_rides_120 : decode cX7_rides 120 = .ok (.aload_n 0, 1) := by decide +kernel
theorem dX7_rides_121 : decode cX7_rides 121 = .ok (.iload 6, 2) := by decide +kernel
theorem dX7_rides_123 : decode cX7_rides 123 = .ok (.iload 7, 2) := by decide +kernel
theorem dX7_rides_125 : decode cX7_rides 125 = .ok (.invokevirtual 207, 3) := by decide +kernel
theorem dX7_rides_128 : decode cX7_rides 128 = .ok (.ifCond .eq 10, 3) := by decide +kernel
theorem dX7_rides_131 : decode cX7_rides 131 = .ok (.iconst 1, 1) := by decide +kernel
theorem dX7_rides_132 : decode cX7_rides 132 = .ok (.iload 7, 2) := by decide +kernel
theorem dX7_rides_134 : decode cX7_rides 134 = .ok (.ishl, 1) := by decide +kernel
theorem dX7_rides_135 : decode cX7_rides 135 = .ok (.goto 4, 3) := by decide +kernel
theorem dX7_rides_138 : decode cX7_rides 138 = .ok (.iconst 0, 1) := by decide +kernel
theorem dX7_rides_139 : decode cX7_rides 139 = .ok (.ior, 1) := by decide +kernel
theorem dX7_rides_140 : decode cX7_rides 140 = .ok (.istore 5, 2) := by decide +kernel
theorem dX7_rides_142 : decode cX7_rides 142 = .ok (.iinc 7 1, 3) := by decide +kernel
theorem dX7_rides_145 : decode cX7_rides 145 = .ok (.goto (-55), 3) := by decide +kernel
theorem dX7_rides_148 : decode cX7_rides 148 = .ok (.iinc 6 1, 3) := by decide +kernel
theorem dX7_rides_151 : decode cX7_rides 151 = .ok (.goto (-75), 3) := by decide +kernel
theorem dX7_rides_154 : decode cX7_rides 154 = .ok (.iload 5, 2) := by decide +kernel
theorem dX7_rides_156 : decode cX7_rides 156 = .ok (.istore_n 3, 1) := by decide +kernel
theorem dX7_rides_157 : decode cX7_rides 157 = .ok (.iinc 4 1, 3) := by decide +kernel
theorem dX7_rides_160 : decode cX7_rides 160 = .ok (.goto (-109), 3) := by decide +kernel
theorem dX7_rides_163 : decode cX7_rides 163 = .ok (.iconst (-1), 1) := by decide +kernel
theorem dX7_rides_164 : decode cX7_rides 164 = .ok (.ireturn, 1) := by decide +kernel
set_option maxRecDepth 20000 in
theorem ggX7_toggled_X7_copyState : GoodIn wsX7_toggled wsX7_copyState := goodIn_r _ [6] (by decide +kernel) (by decide +kernel)
set_option maxRecDepth 20000 in
theorem gX7_toggled_X7_copyState : GoodIn wsX7_toggled (va_wsS RX7 132 yX7_copyState wsX7_copyState) := goodIn_app (goodIn_of _ (by decide +kernel)) ggX7_toggled_X7_copyState
set_option maxRecDepth 20000 in
theorem ggX7_toggled_X7_skips : GoodIn wsX7_toggled wsX7_skips := goodIn_r _ [9] (by decide +kernel) (by decide +kernel)
set_option maxRecDepth 20000 in
theorem gX7_toggled_X7_skips : GoodIn wsX7_toggled (va_wsS RX7 65 yX7_skips wsX7_skips) := goodIn_app (goodIn_of _ (by decide +kernel)) ggX7_toggled_X7_skips
set_option maxRecDepth 20000 in
theorem ggX7_toggled_X7_skipOn : GoodIn wsX7_toggled wsX7_skipOn := goodIn_r _ [12, 13, 14, 5, 15, 7, 8, 9] (by decide +kernel) (by decide +kernel)
set_option maxRecDepth 20000 in
theorem gX7_toggled_X7_skipOn : GoodIn wsX7_toggled (va_wsS RX7 125 yX7_skipOn wsX7_skipOn) := goodIn_app (goodIn_of _ (by decide +kernel)) ggX7_toggled_X7_skipOn
set_option maxRecDepth 20000 in
theorem ggX7_toggled_X7_wrong : GoodIn wsX7_toggled wsX7_wrong := goodIn_r _ [19, 20, 21, 22, 5, 23, 24, 25, 7, 8, 9, 26, 27, 28, 29, 30, 31, 32, 33, 34, 35, 36, 37, 38, 39, 40, 41, 42, 43, 44, 45, 46, 47, 48, 49, 50, 51, 52, 53, 54, 55] (by decide +kernel) (by decide +kernel)
set_option maxRecDepth 20000 in
theorem gX7_toggled_X7_wrong : GoodIn wsX7_toggled (wsV RX7 144 RX7 yX7_wrong wsX7_wrong) := goodIn_app (goodIn_of _ (by decide +kernel)) ggX7_toggled_X7_wrong
theorem dX7_toggled_0 : decode cX7_toggled 0 = .ok (.aload_n 0, 1) := by decide +kernel
theorem dX7_toggled_1 : decode cX7_toggled 1 = .ok (.getfield 13, 3) := by decide +kernel
theorem dX7_toggled_4 : decode cX7_toggled 4 = .ok (.iconst 0, 1) := by decide +kernel
theorem dX7_toggled_5 : decode cX7_toggled 5 = .ok (.aload_n 0, 1) := by decide +kernel
theorem dX7_toggled_6 : decode cX7_toggled 6 = .ok (.getfield 16, 3) := by decide +kernel
theorem dX7_toggled_9 : decode cX7_toggled 9 = .ok (.iconst 0, 1) := by decide +kernel
theorem dX7_toggled_10 : decode cX7_toggled 10 = .ok (.invokestatic 132, 3) := by decide +kernel
theorem dX7_toggled_13 : decode cX7_toggled 13 = .ok (.aload_n 0, 1) := by decide +kernel
theorem dX7_toggled_14 : decode cX7_toggled 14 = .ok (.getfield 16, 3) := by decide +kernel
theorem dX7_toggled_17 : decode cX7_toggled 17 = .ok (.iload_n 1, 1) := by decide +kernel
theorem dX7_toggled_18 : decode cX7_toggled 18 = .ok (.aload_n 0, 1) := by decide +kernel
theorem dX7_toggled_19 : decode cX7_toggled 19 = .ok (.getfield 13, 3) := by decide +kernel
theorem dX7_toggled_22 : decode cX7_toggled 22 = .ok (.iload_n 1, 1) := by decide +kernel
theorem dX7_toggled_23 : decode cX7_toggled 23 = .ok (.invokestatic 65, 3) := by decide +kernel
theorem dX7_toggled_26 : decode cX7_toggled 26 = .ok (.ifCond .ne 7, 3) := by decide +kernel
theorem dX7_toggled_29 : decode cX7_toggled 29 = .ok (.iconst 1, 1) := by decide +kernel
theorem dX7_toggled_30 : decode cX7_toggled 30 = .ok (.goto 4, 3) := by decide +kernel
theorem dX7_toggled_33 : decode cX7_toggled 33 = .ok (.iconst 0, 1) := by decide +kernel
theorem dX7_toggled_34 : decode cX7_toggled 34 = .ok (.invokestatic 125, 3) := by decide +kernel
theorem dX7_toggled_37 : decode cX7_toggled 37 = .ok (.pop, 1) := by decide +kernel
theorem dX7_toggled_38 : decode cX7_toggled 38 = .ok (.aload_n 0, 1) := by decide +kernel
theorem dX7_toggled_39 : decode cX7_toggled 39 = .ok (.aload_n 0, 1) := by decide +kernel
theorem dX7_toggled_40 : decode cX7_toggled 40 = .ok (.getfield 16, 3) := by decide +kernel
theorem dX7_toggled_43 : decode cX7_toggled 43 = .ok (.invokevirtual 144, 3) := by decide +kernel
theorem dX7_toggled_46 : decode cX7_toggled 46 = .ok (.ireturn, 1) := by decide +kernel
set_option maxRecDepth 20000 in
theorem ggX7_ifSkipped_X7_isStorey : GoodIn wsX7_ifSkipped wsX7_isStorey := goodIn_r _ [4, 5, 6, 7, 3, 8] (by decide +kernel) (by decide +kernel)
set_option maxRecDepth 20000 in
theorem gX7_ifSkipped_X7_isStorey : GoodIn wsX7_ifSkipped (va_wsS RX7 156 yX7_isStorey wsX7_isStorey) := goodIn_app (goodIn_of _ (by decide +kernel)) ggX7_ifSkipped_X7_isStorey
set_option maxRecDepth 20000 in
theorem ggX7_ifSkipped_X7_refused : GoodIn wsX7_ifSkipped wsX7_refused := goodIn_r _ [12, 13, 61, 62, 63, 64, 65, 66, 67, 68, 69, 70, 71] (by decide +kernel) (by decide +kernel)
set_option maxRecDepth 20000 in
theorem gX7_ifSkipped_X7_refused : GoodIn wsX7_ifSkipped (wsV RX7 106 RX7 yX7_refused wsX7_refused) := goodIn_app (goodIn_of _ (by decide +kernel)) ggX7_ifSkipped_X7_refused
set_option maxRecDepth 20000 in
theorem ggX7_ifSkipped_X7_toggled : GoodIn wsX7_ifSkipped wsX7_toggled := goodIn_r _ [17, 18, 19, 20, 21, 3, 22, 23, 24, 25, 26, 27, 28, 29, 30, 31, 32, 33, 34, 35, 36, 37, 38, 39, 40, 41, 42, 43, 44, 45, 46, 47, 48, 49, 50, 51, 52, 53, 54, 55, 56, 57, 58, 59, 60, 61, 62, 63, 64, 65, 66, 67, 68, 69, 70, 71] (by decide +kernel) (by decide +kernel)
set_option maxRecDepth 20000 in
theorem gX7_ifSkipped_X7_toggled : GoodIn wsX7_ifSkipped (wsV RX7 210 RX7 yX7_toggled wsX7_toggled) := goodIn_app (goodIn_of _ (by decide +kernel)) ggX7_ifSkipped_X7_toggled
theorem dX7_ifSkipped_0 : decode cX7_ifSkipped 0 = .ok (.aload_n 0, 1) := by decide +kernel
theorem dX7_ifSkipped_1 : decode cX7_ifSkipped 1 = .ok (.iload_n 1, 1) := by decide +kernel
theorem dX7_ifSkipped_2 : decode cX7_ifSkipped 2 = .ok (.invokestatic 156, 3) := by decide +kernel
theorem dX7_ifSkipped_5 : decode cX7_ifSkipped 5 = .ok (.ifCond .eq 7, 3) := by decide +kernel
theorem dX7_ifSkipped_8 : decode cX7_ifSkipped 8 = .ok (.iconst 0, 1) := by decide +kernel
theorem dX7_ifSkipped_9 : decode cX7_ifSkipped 9 = .ok (.goto 4, 3) := by decide +kernel
theorem dX7_ifSkipped_12 : decode cX7_ifSkipped 12 = .ok (.iconst 1, 1) := by decide +kernel
theorem dX7_ifSkipped_13 : decode cX7_ifSkipped 13 = .ok (.invokevirtual 106, 3) := by decide +kernel
theorem dX7_ifSkipped_16 : decode cX7_ifSkipped 16 = .ok (.ifCond .eq 5, 3) := by decide +kernel
theorem dX7_ifSkipped_19 : decode cX7_ifSkipped 19 = .ok (.iconst 0, 1) := by decide +kernel
theorem dX7_ifSkipped_20 : decode cX7_ifSkipped 20 = .ok (.ireturn, 1) := by decide +kernel
theorem dX7_ifSkipped_21 : decode cX7_ifSkipped 21 = .ok (.aload_n 0, 1) := by decide +kernel
theorem dX7_ifSkipped_22 : decode cX7_ifSkipped 22 = .ok (.iload_n 1, 1) := by decide +kernel
theorem dX7_ifSkipped_23 : decode cX7_ifSkipped 23 = .ok (.invokevirtual 210, 3) := by decide +kernel
theorem dX7_ifSkipped_26 : decode cX7_ifSkipped 26 = .ok (.ireturn, 1) := by decide +kernel
set_option maxRecDepth 20000 in
theorem ggX7_bestSkip_X7_wrong : GoodIn wsX7_bestSkip wsX7_wrong := goodIn_r _ [7, 8, 9, 10, 6, 11, 12, 13, 14, 15, 16, 17, 18, 19, 20, 21, 22, 23, 24, 25, 26, 27, 28, 29, 30, 31, 32, 33, 34, 35, 50, 51, 52, 53, 54, 55, 56, 57, 58, 59, 60] (by decide +kernel) (by decide +kernel)
set_option maxRecDepth 20000 in
theorem gX7_bestSkip_X7_wrong : GoodIn wsX7_bestSkip (wsV RX7 144 RX7 yX7_wrong wsX7_wrong) := goodIn_app (goodIn_of _ (by decide +kernel)) ggX7_bestSkip_X7_wrong
set_option maxRecDepth 20000 in
theorem ggX7_bestSkip_X7_toggled : GoodIn wsX7_bestSkip wsX7_toggled := goodIn_r _ [39, 2, 40, 41, 42, 6, 43, 14, 15, 16, 44, 45, 46, 47, 48, 49, 3, 4, 5, 7, 8, 9, 10, 11, 12, 13, 17, 18, 19, 20, 21, 22, 23, 24, 25, 26, 27, 28, 29, 30, 31, 32, 33, 34, 35, 50, 51, 52, 53, 54, 55, 56, 57, 58, 59, 60] (by decide +kernel) (by decide +kernel)
set_option maxRecDepth 20000 in
theorem gX7_bestSkip_X7_toggled : GoodIn wsX7_bestSkip (wsV RX7 210 RX7 yX7_toggled wsX7_toggled) := goodIn_app (goodIn_of _ (by decide +kernel)) ggX7_bestSkip_X7_toggled
theorem dX7_bestSkip_0 : decode cX7_bestSkip 0 = .ok (.aload_n 0, 1) := by decide +kernel
theorem dX7_bestSkip_1 : decode cX7_bestSkip 1 = .ok (.iconst 0, 1) := by decide +kernel
theorem dX7_bestSkip_2 : decode cX7_bestSkip 2 = .ok (.putfield 43, 3) := by decide +kernel
theorem dX7_bestSkip_5 : decode cX7_bestSkip 5 = .ok (.iconst (-1), 1) := by decide +kernel
theorem dX7_bestSkip_6 : decode cX7_bestSkip 6 = .ok (.istore_n 1, 1) := by decide +kernel
theorem dX7_bestSkip_7 : decode cX7_bestSkip 7 = .ok (.aload_n 0, 1) := by decide +kernel
theorem dX7_bestSkip_8 : decode cX7_bestSkip 8 = .ok (.aload_n 0, 1) := by decide +kernel
theorem dX7_bestSkip_9 : decode cX7_bestSkip 9 = .ok (.getfield 13, 3) := by decide +kernel
theorem dX7_bestSkip_12 : decode cX7_bestSkip 12 = .ok (.invokevirtual 144, 3) := by decide +kernel
theorem dX7_bestSkip_15 : decode cX7_bestSkip 15 = .ok (.istore_n 2, 1) := by decide +kernel
theorem dX7_bestSkip_16 : decode cX7_bestSkip 16 = .ok (.iconst 1, 1) := by decide +kernel
theorem dX7_bestSkip_17 : decode cX7_bestSkip 17 = .ok (.istore_n 3, 1) := by decide +kernel
theorem dX7_bestSkip_18 : decode cX7_bestSkip 18 = .ok (.iload_n 3, 1) := by decide +kernel
theorem dX7_bestSkip_19 : decode cX7_bestSkip 19 = .ok (.bipush 30, 2) := by decide +kernel
theorem dX7_bestSkip_21 : decode cX7_bestSkip 21 = .ok (.if_icmp .gt 41, 3) := by decide +kernel
theorem dX7_bestSkip_24 : decode cX7_bestSkip 24 = .ok (.aload_n 0, 1) := by decide +kernel
theorem dX7_bestSkip_25 : decode cX7_bestSkip 25 = .ok (.iload_n 3, 1) := by decide +kernel
theorem dX7_bestSkip_26 : decode cX7_bestSkip 26 = .ok (.invokevirtual 210, 3) := by decide +kernel
theorem dX7_bestSkip_29 : decode cX7_bestSkip 29 = .ok (.istore 4, 2) := by decide +kernel
theorem dX7_bestSkip_31 : decode cX7_bestSkip 31 = .ok (.iload 4, 2) := by decide +kernel
theorem dX7_bestSkip_33 : decode cX7_bestSkip 33 = .ok (.iload_n 2, 1) := by decide +kernel
theorem dX7_bestSkip_34 : decode cX7_bestSkip 34 = .ok (.if_icmp .ge 7, 3) := by decide +kernel
theorem dX7_bestSkip_37 : decode cX7_bestSkip 37 = .ok (.iload_n 3, 1) := by decide +kernel
theorem dX7_bestSkip_38 : decode cX7_bestSkip 38 = .ok (.goto 4, 3) := by decide +kernel
theorem dX7_bestSkip_41 : decode cX7_bestSkip 41 = .ok (.iload_n 1, 1) := by decide +kernel
theorem dX7_bestSkip_42 : decode cX7_bestSkip 42 = .ok (.istore_n 1, 1) := by decide +kernel
theorem dX7_bestSkip_43 : decode cX7_bestSkip 43 = .ok (.iload 4, 2) := by decide +kernel
theorem dX7_bestSkip_45 : decode cX7_bestSkip 45 = .ok (.iload_n 2, 1) := by decide +kernel
theorem dX7_bestSkip_46 : decode cX7_bestSkip 46 = .ok (.if_icmp .ge 8, 3) := by decide +kernel
theorem dX7_bestSkip_49 : decode cX7_bestSkip 49 = .ok (.iload 4, 2) := by decide +kernel
theorem dX7_bestSkip_51 : decode cX7_bestSkip 51 = .ok (.goto 4, 3) := by decide +kernel
theorem dX7_bestSkip_54 : decode cX7_bestSkip 54 = .ok (.iload_n 2, 1) := by decide +kernel
theorem dX7_bestSkip_55 : decode cX7_bestSkip 55 = .ok (.istore_n 2, 1) := by decide +kernel
theorem dX7_bestSkip_56 : decode cX7_bestSkip 56 = .ok (.iinc 3 1, 3) := by decide +kernel
theorem dX7_bestSkip_59 : decode cX7_bestSkip 59 = .ok (.goto (-41), 3) := by decide +kernel
theorem dX7_bestSkip_62 : decode cX7_bestSkip 62 = .ok (.iload_n 1, 1) := by decide +kernel
theorem dX7_bestSkip_63 : decode cX7_bestSkip 63 = .ok (.ireturn, 1) := by decide +kernel
set_option maxRecDepth 20000 in
theorem ggX7_ifAdded_X7_whyNotAdd : GoodIn wsX7_ifAdded wsX7_whyNotAdd := goodIn_r _ [7, 8, 9, 6, 10, 11, 12, 13, 14] (by decide +kernel) (by decide +kernel)
set_option maxRecDepth 20000 in
theorem gX7_ifAdded_X7_whyNotAdd : GoodIn wsX7_ifAdded (va_wsS RX7 159 yX7_whyNotAdd wsX7_whyNotAdd) := goodIn_app (goodIn_of _ (by decide +kernel)) ggX7_ifAdded_X7_whyNotAdd
set_option maxRecDepth 20000 in
theorem ggX7_ifAdded_X7_refused : GoodIn wsX7_ifAdded wsX7_refused := goodIn_r _ [18, 19, 60, 61, 62, 63, 64, 65, 66, 67, 68, 69, 70] (by decide +kernel) (by decide +kernel)
set_option maxRecDepth 20000 in
theorem gX7_ifAdded_X7_refused : GoodIn wsX7_ifAdded (wsV RX7 106 RX7 yX7_refused wsX7_refused) := goodIn_app (goodIn_of _ (by decide +kernel)) ggX7_ifAdded_X7_refused
set_option maxRecDepth 20000 in
theorem ggX7_ifAdded_X7_copyState : GoodIn wsX7_ifAdded wsX7_copyState := goodIn_r _ [22] (by decide +kernel) (by decide +kernel)
set_option maxRecDepth 20000 in
theorem gX7_ifAdded_X7_copyState : GoodIn wsX7_ifAdded (va_wsS RX7 132 yX7_copyState wsX7_copyState) := goodIn_app (goodIn_of _ (by decide +kernel)) ggX7_ifAdded_X7_copyState
set_option maxRecDepth 20000 in
theorem ggX7_ifAdded_X7_insert : GoodIn wsX7_ifAdded wsX7_insert := goodIn_r _ [25, 26, 27, 6, 28] (by decide +kernel) (by decide +kernel)
set_option maxRecDepth 20000 in
theorem gX7_ifAdded_X7_insert : GoodIn wsX7_ifAdded (va_wsS RX7 39 yX7_insert wsX7_insert) := goodIn_app (goodIn_of _ (by decide +kernel)) ggX7_ifAdded_X7_insert
set_option maxRecDepth 20000 in
theorem ggX7_ifAdded_X7_wrong : GoodIn wsX7_ifAdded wsX7_wrong := goodIn_r _ [32, 33, 34, 35, 6, 36, 37, 3, 38, 39, 40, 41, 42, 43, 44, 45, 46, 47, 48, 49, 50, 51, 52, 53, 54, 55, 56, 57, 58, 59, 60, 61, 62, 63, 64, 65, 66, 67, 68, 69, 70] (by decide +kernel) (by decide +kernel)
set_option maxRecDepth 20000 in
theorem gX7_ifAdded_X7_wrong : GoodIn wsX7_ifAdded (wsV RX7 144 RX7 yX7_wrong wsX7_wrong) := goodIn_app (goodIn_of _ (by decide +kernel)) ggX7_ifAdded_X7_wrong
theorem dX7_ifAdded_0 : decode cX7_ifAdded 0 = .ok (.aload_n 0, 1) := by decide +kernel
theorem dX7_ifAdded_1 : decode cX7_ifAdded 1 = .ok (.aload_n 0, 1) := by decide +kernel
theorem dX7_ifAdded_2 : decode cX7_ifAdded 2 = .ok (.getfield 13, 3) := by decide +kernel
theorem dX7_ifAdded_5 : decode cX7_ifAdded 5 = .ok (.iload_n 1, 1) := by decide +kernel
theorem dX7_ifAdded_6 : decode cX7_ifAdded 6 = .ok (.iload_n 2, 1) := by decide +kernel
theorem dX7_ifAdded_7 : decode cX7_ifAdded 7 = .ok (.invokestatic 159, 3) := by decide +kernel
theorem dX7_ifAdded_10 : decode cX7_ifAdded 10 = .ok (.invokevirtual 106, 3) := by decide +kernel
theorem dX7_ifAdded_13 : decode cX7_ifAdded 13 = .ok (.ifCond .eq 5, 3) := by decide +kernel
theorem dX7_ifAdded_16 : decode cX7_ifAdded 16 = .ok (.iconst 0, 1) := by decide +kernel
theorem dX7_ifAdded_17 : decode cX7_ifAdded 17 = .ok (.ireturn, 1) := by decide +kernel
theorem dX7_ifAdded_18 : decode cX7_ifAdded 18 = .ok (.aload_n 0, 1) := by decide +kernel
theorem dX7_ifAdded_19 : decode cX7_ifAdded 19 = .ok (.getfield 13, 3) := by decide +kernel
theorem dX7_ifAdded_22 : decode cX7_ifAdded 22 = .ok (.iconst 0, 1) := by decide +kernel
theorem dX7_ifAdded_23 : decode cX7_ifAdded 23 = .ok (.aload_n 0, 1) := by decide +kernel
theorem dX7_ifAdded_24 : decode cX7_ifAdded 24 = .ok (.getfield 16, 3) := by decide +kernel
theorem dX7_ifAdded_27 : decode cX7_ifAdded 27 = .ok (.iconst 0, 1) := by decide +kernel
theorem dX7_ifAdded_28 : decode cX7_ifAdded 28 = .ok (.invokestatic 132, 3) := by decide +kernel
theorem dX7_ifAdded_31 : decode cX7_ifAdded 31 = .ok (.aload_n 0, 1) := by decide +kernel
theorem dX7_ifAdded_32 : decode cX7_ifAdded 32 = .ok (.getfield 16, 3) := by decide +kernel
theorem dX7_ifAdded_35 : decode cX7_ifAdded 35 = .ok (.iload_n 1, 1) := by decide +kernel
theorem dX7_ifAdded_36 : decode cX7_ifAdded 36 = .ok (.iload_n 2, 1) := by decide +kernel
theorem dX7_ifAdded_37 : decode cX7_ifAdded 37 = .ok (.invokestatic 39, 3) := by decide +kernel
theorem dX7_ifAdded_40 : decode cX7_ifAdded 40 = .ok (.pop, 1) := by decide +kernel
theorem dX7_ifAdded_41 : decode cX7_ifAdded 41 = .ok (.aload_n 0, 1) := by decide +kernel
theorem dX7_ifAdded_42 : decode cX7_ifAdded 42 = .ok (.aload_n 0, 1) := by decide +kernel
theorem dX7_ifAdded_43 : decode cX7_ifAdded 43 = .ok (.getfield 16, 3) := by decide +kernel
theorem dX7_ifAdded_46 : decode cX7_ifAdded 46 = .ok (.invokevirtual 144, 3) := by decide +kernel
theorem dX7_ifAdded_49 : decode cX7_ifAdded 49 = .ok (.istore_n 3, 1) := by decide +kernel
theorem dX7_ifAdded_50 : decode cX7_ifAdded 50 = .ok (.aload_n 0, 1) := by decide +kernel
theorem dX7_ifAdded_51 : decode cX7_ifAdded 51 = .ok (.getfield 29, 3) := by decide +kernel
theorem dX7_ifAdded_54 : decode cX7_ifAdded 54 = .ok (.iload_n 1, 1) := by decide +kernel
theorem dX7_ifAdded_55 : decode cX7_ifAdded 55 = .ok (.iaload, 1) := by decide +kernel
theorem dX7_ifAdded_56 : decode cX7_ifAdded 56 = .ok (.iconst (-1), 1) := by decide +kernel
theorem dX7_ifAdded_57 : decode cX7_ifAdded 57 = .ok (.if_icmp .ne 7, 3) := by decide +kernel
theorem dX7_ifAdded_60 : decode cX7_ifAdded 60 = .ok (.iload_n 3, 1) := by decide +kernel
theorem dX7_ifAdded_61 : decode cX7_ifAdded 61 = .ok (.goto 8, 3) := by decide +kernel
theorem dX7_ifAdded_64 : decode cX7_ifAdded 64 = .ok (.iload_n 3, 1) := by decide +kernel
theorem dX7_ifAdded_65 : decode cX7_ifAdded 65 = .ok (.iconst 1, 1) := by decide +kernel
theorem dX7_ifAdded_66 : decode cX7_ifAdded 66 = .ok (.isub, 1) := by decide +kernel
theorem dX7_ifAdded_67 : decode cX7_ifAdded 67 = .ok (.iconst 3, 1) := by decide +kernel
theorem dX7_ifAdded_68 : decode cX7_ifAdded 68 = .ok (.isub, 1) := by decide +kernel
theorem dX7_ifAdded_69 : decode cX7_ifAdded 69 = .ok (.ireturn, 1) := by decide +kernel
set_option maxRecDepth 20000 in
theorem ggX7_worst_X7_name : GoodIn wsX7_worst wsX7_name := goodIn_r _ [7, 8, 9, 10, 11, 6, 12, 13, 14, 15, 16, 17, 18, 19, 20, 39, 40, 41, 42, 43, 44, 45, 46, 47, 48, 49] (by decide +kernel) (by decide +kernel)
set_option maxRecDepth 20000 in
theorem gX7_worst_X7_name : GoodIn wsX7_worst (wsV RX7 76 RX7 yX7_name wsX7_name) := goodIn_app (goodIn_of _ (by decide +kernel)) ggX7_worst_X7_name
set_option maxRecDepth 20000 in
theorem ggX7_worst_X7_strays : GoodIn wsX7_worst wsX7_strays := goodIn_r _ [24, 2, 25, 26, 27, 6, 28, 9, 29, 30, 31, 32, 33, 34, 35, 36, 37, 38, 39, 40, 41, 42, 43, 44, 45, 46, 47, 48, 49] (by decide +kernel) (by decide +kernel)
set_option maxRecDepth 20000 in
theorem gX7_worst_X7_strays : GoodIn wsX7_worst (wsV RX7 204 RX7 yX7_strays wsX7_strays) := goodIn_app (goodIn_of _ (by decide +kernel)) ggX7_worst_X7_strays
theorem dX7_worst_0 : decode cX7_worst 0 = .ok (.aload_n 0, 1) := by decide +kernel
theorem dX7_worst_1 : decode cX7_worst 1 = .ok (.iconst 0, 1) := by decide +kernel
theorem dX7_worst_2 : decode cX7_worst 2 = .ok (.putfield 43, 3) := by decide +kernel
theorem dX7_worst_5 : decode cX7_worst 5 = .ok (.aload_n 0, 1) := by decide +kernel
theorem dX7_worst_6 : decode cX7_worst 6 = .ok (.aload_n 0, 1) := by decide +kernel
theorem dX7_worst_7 : decode cX7_worst 7 = .ok (.getfield 13, 3) := by decide +kernel
theorem dX7_worst_10 : decode cX7_worst 10 = .ok (.invokevirtual 76, 3) := by decide +kernel
theorem dX7_worst_13 : decode cX7_worst 13 = .ok (.iconst 0, 1) := by decide +kernel
theorem dX7_worst_14 : decode cX7_worst 14 = .ok (.istore_n 1, 1) := by decide +kernel
theorem dX7_worst_15 : decode cX7_worst 15 = .ok (.iconst 1, 1) := by decide +kernel
theorem dX7_worst_16 : decode cX7_worst 16 = .ok (.istore_n 2, 1) := by decide +kernel
theorem dX7_worst_17 : decode cX7_worst 17 = .ok (.iload_n 2, 1) := by decide +kernel
theorem dX7_worst_18 : decode cX7_worst 18 = .ok (.iconst 3, 1) := by decide +kernel
theorem dX7_worst_19 : decode cX7_worst 19 = .ok (.if_icmp .ge 28, 3) := by decide +kernel
theorem dX7_worst_22 : decode cX7_worst 22 = .ok (.aload_n 0, 1) := by decide +kernel
theorem dX7_worst_23 : decode cX7_worst 23 = .ok (.iload_n 2, 1) := by decide +kernel
theorem dX7_worst_24 : decode cX7_worst 24 = .ok (.invokevirtual 204, 3) := by decide +kernel
theorem dX7_worst_27 : decode cX7_worst 27 = .ok (.aload_n 0, 1) := by decide +kernel
theorem dX7_worst_28 : decode cX7_worst 28 = .ok (.iload_n 1, 1) := by decide +kernel
theorem dX7_worst_29 : decode cX7_worst 29 = .ok (.invokevirtual 204, 3) := by decide +kernel
theorem dX7_worst_32 : decode cX7_worst 32 = .ok (.if_icmp .le 7, 3) := by decide +kernel
theorem dX7_worst_35 : decode cX7_worst 35 = .ok (.iload_n 2, 1) := by decide +kernel
theorem dX7_worst_36 : decode cX7_worst 36 = .ok (.goto 4, 3) := by decide +kernel
theorem dX7_worst_39 : decode cX7_worst 39 = .ok (.iload_n 1, 1) := by decide +kernel
theorem dX7_worst_40 : decode cX7_worst 40 = .ok (.istore_n 1, 1) := by decide +kernel
theorem dX7_worst_41 : decode cX7_worst 41 = .ok (.iinc 2 1, 3) := by decide +kernel
theorem dX7_worst_44 : decode cX7_worst 44 = .ok (.goto (-27), 3) := by decide +kernel
theorem dX7_worst_47 : decode cX7_worst 47 = .ok (.iload_n 1, 1) := by decide +kernel
theorem dX7_worst_48 : decode cX7_worst 48 = .ok (.ireturn, 1) := by decide +kernel
set_option maxRecDepth 20000 in
theorem ggX7_command_X7_whyNotAdd : GoodIn wsX7_command wsX7_whyNotAdd := goodIn_r _ [6, 7, 8, 5, 9, 10, 11, 12, 13] (by decide +kernel) (by decide +kernel)
set_option maxRecDepth 20000 in
theorem gX7_command_X7_whyNotAdd : GoodIn wsX7_command (va_wsS RX7 159 yX7_whyNotAdd wsX7_whyNotAdd) := goodIn_app (goodIn_of _ (by decide +kernel)) ggX7_command_X7_whyNotAdd
set_option maxRecDepth 20000 in
theorem ggX7_command_X7_insert : GoodIn wsX7_command wsX7_insert := goodIn_r _ [16, 17, 18, 5, 19] (by decide +kernel) (by decide +kernel)
set_option maxRecDepth 20000 in
theorem gX7_command_X7_insert : GoodIn wsX7_command (va_wsS RX7 39 yX7_insert wsX7_insert) := goodIn_app (goodIn_of _ (by decide +kernel)) ggX7_command_X7_insert
set_option maxRecDepth 20000 in
theorem ggX7_command_X7_whyNotRemove : GoodIn wsX7_command wsX7_whyNotRemove := goodIn_r _ [22, 23, 24, 5, 25, 7, 8, 9] (by decide +kernel) (by decide +kernel)
set_option maxRecDepth 20000 in
theorem gX7_command_X7_whyNotRemove : GoodIn wsX7_command (va_wsS RX7 165 yX7_whyNotRemove wsX7_whyNotRemove) := goodIn_app (goodIn_of _ (by decide +kernel)) ggX7_command_X7_whyNotRemove
set_option maxRecDepth 20000 in
theorem ggX7_command_X7_removeOn : GoodIn wsX7_command wsX7_removeOn := goodIn_r _ [28, 17, 18, 5, 19] (by decide +kernel) (by decide +kernel)
set_option maxRecDepth 20000 in
theorem gX7_command_X7_removeOn : GoodIn wsX7_command (va_wsS RX7 168 yX7_removeOn wsX7_removeOn) := goodIn_app (goodIn_of _ (by decide +kernel)) ggX7_command_X7_removeOn
set_option maxRecDepth 20000 in
theorem ggX7_command_X7_whyNotKind : GoodIn wsX7_command wsX7_whyNotKind := goodIn_r _ [31, 23, 24, 5, 25, 7, 8, 9, 10, 11, 12, 13] (by decide +kernel) (by decide +kernel)
set_option maxRecDepth 20000 in
theorem gX7_command_X7_whyNotKind : GoodIn wsX7_command (va_wsS RX7 171 yX7_whyNotKind wsX7_whyNotKind) := goodIn_app (goodIn_of _ (by decide +kernel)) ggX7_command_X7_whyNotKind
set_option maxRecDepth 20000 in
theorem ggX7_command_X7_lay : GoodIn wsX7_command wsX7_lay := goodIn_r _ [34] (by decide +kernel) (by decide +kernel)
set_option maxRecDepth 20000 in
theorem gX7_command_X7_lay : GoodIn wsX7_command (va_wsS RX7 174 yX7_lay wsX7_lay) := goodIn_app (goodIn_of _ (by decide +kernel)) ggX7_command_X7_lay
set_option maxRecDepth 20000 in
theorem ggX7_command_X7_isStorey : GoodIn wsX7_command wsX7_isStorey := goodIn_r _ [37, 38, 7, 8, 5, 9] (by decide +kernel) (by decide +kernel)
set_option maxRecDepth 20000 in
theorem gX7_command_X7_isStorey : GoodIn wsX7_command (va_wsS RX7 156 yX7_isStorey wsX7_isStorey) := goodIn_app (goodIn_of _ (by decide +kernel)) ggX7_command_X7_isStorey
set_option maxRecDepth 20000 in
theorem ggX7_command_X7_skipOn : GoodIn wsX7_command wsX7_skipOn := goodIn_r _ [41, 42, 43, 5, 44, 45, 46, 47] (by decide +kernel) (by decide +kernel)
set_option maxRecDepth 20000 in
theorem gX7_command_X7_skipOn : GoodIn wsX7_command (va_wsS RX7 125 yX7_skipOn wsX7_skipOn) := goodIn_app (goodIn_of _ (by decide +kernel)) ggX7_command_X7_skipOn
set_option maxRecDepth 20000 in
theorem ggX7_command_X7_isLevel : GoodIn wsX7_command wsX7_isLevel := goodIn_r _ [25, 7, 8, 5, 9] (by decide +kernel) (by decide +kernel)
set_option maxRecDepth 20000 in
theorem gX7_command_X7_isLevel : GoodIn wsX7_command (va_wsS RX7 98 yX7_isLevel wsX7_isLevel) := goodIn_app (goodIn_of _ (by decide +kernel)) ggX7_command_X7_isLevel
set_option maxRecDepth 20000 in
theorem ggX7_command_X7_putSignOn : GoodIn wsX7_command wsX7_putSignOn := goodIn_r _ [51, 2, 52, 53, 54, 5, 55, 56, 45, 46, 47, 57, 58, 59, 60, 61, 62, 63, 64, 92, 93, 94, 95, 96, 97, 98, 99, 100, 101, 102] (by decide +kernel) (by decide +kernel)
set_option maxRecDepth 20000 in
theorem gX7_command_X7_putSignOn : GoodIn wsX7_command (wsV RX7 183 RX7 yX7_putSignOn wsX7_putSignOn) := goodIn_app (goodIn_of _ (by decide +kernel)) ggX7_command_X7_putSignOn
set_option maxRecDepth 20000 in
theorem ggX7_command_X7_isCar : GoodIn wsX7_command wsX7_isCar := goodIn_r _ [67, 68, 7, 8, 5, 9] (by decide +kernel) (by decide +kernel)
set_option maxRecDepth 20000 in
theorem gX7_command_X7_isCar : GoodIn wsX7_command (va_wsS RX7 153 yX7_isCar wsX7_isCar) := goodIn_app (goodIn_of _ (by decide +kernel)) ggX7_command_X7_isCar
set_option maxRecDepth 20000 in
theorem ggX7_command_X7_putButtonOn : GoodIn wsX7_command wsX7_putButtonOn := goodIn_r _ [72, 2, 52, 53, 54, 5, 55, 56, 45, 46, 47, 57, 58, 59, 60, 61, 62, 63, 64, 73, 74, 75, 92, 93, 94, 95, 96, 97, 98, 99, 100, 101, 102] (by decide +kernel) (by decide +kernel)
set_option maxRecDepth 20000 in
theorem gX7_command_X7_putButtonOn : GoodIn wsX7_command (wsV RX7 186 RX7 yX7_putButtonOn wsX7_putButtonOn) := goodIn_app (goodIn_of _ (by decide +kernel)) ggX7_command_X7_putButtonOn
set_option maxRecDepth 20000 in
theorem ggX7_command_X7_putCarOn : GoodIn wsX7_command wsX7_putCarOn := goodIn_r _ [79, 2, 52, 53, 54, 5, 55, 56, 45, 46, 47, 57, 58, 59, 60, 61, 62, 63, 64, 80, 81, 82, 83, 73, 74, 75, 92, 93, 94, 95, 96, 97, 98, 99, 100, 101, 102] (by decide +kernel) (by decide +kernel)
set_option maxRecDepth 20000 in
theorem gX7_command_X7_putCarOn : GoodIn wsX7_command (wsV RX7 189 RX7 yX7_putCarOn wsX7_putCarOn) := goodIn_app (goodIn_of _ (by decide +kernel)) ggX7_command_X7_putCarOn
set_option maxRecDepth 20000 in
theorem ggX7_command_X7_name : GoodIn wsX7_command wsX7_name := goodIn_r _ [55, 56, 2, 45, 46, 5, 47, 57, 58, 59, 60, 61, 62, 63, 64, 92, 93, 94, 95, 96, 97, 98, 99, 100, 101, 102] (by decide +kernel) (by decide +kernel)
set_option maxRecDepth 20000 in
theorem gX7_command_X7_name : GoodIn wsX7_command (wsV RX7 76 RX7 yX7_name wsX7_name) := goodIn_app (goodIn_of _ (by decide +kernel)) ggX7_command_X7_name
set_option maxRecDepth 20000 in
theorem ggX7_command_X7_says : GoodIn wsX7_command wsX7_says := goodIn_r _ [75] (by decide +kernel) (by decide +kernel)
set_option maxRecDepth 20000 in
theorem gX7_command_X7_says : GoodIn wsX7_command (va_wsS RX7 73 yX7_says wsX7_says) := goodIn_app (goodIn_of _ (by decide +kernel)) ggX7_command_X7_says
set_option maxRecDepth 20000 in
theorem ggX7_command_X7_wrong : GoodIn wsX7_command wsX7_wrong := goodIn_r _ [87, 52, 53, 54, 5, 55, 56, 2, 45, 46, 47, 57, 58, 59, 60, 61, 62, 63, 64, 88, 89, 90, 91, 80, 81, 82, 83, 73, 74, 75, 92, 93, 94, 95, 96, 97, 98, 99, 100, 101, 102] (by decide +kernel) (by decide +kernel)
set_option maxRecDepth 20000 in
theorem gX7_command_X7_wrong : GoodIn wsX7_command (wsV RX7 144 RX7 yX7_wrong wsX7_wrong) := goodIn_app (goodIn_of _ (by decide +kernel)) ggX7_command_X7_wrong
theorem dX7_command_0 : decode cX7_command 0 = .ok (.bipush 10, 2) := by decide +kernel
theorem dX7_command_2 : decode cX7_command 2 = .ok (.iload_n 2, 1) := by decide +kernel
theorem dX7_command_3 : decode cX7_command 3 = .ok (.imul, 1) := by decide +kernel
theorem dX7_command_4 : decode cX7_command 4 = .ok (.iload_n 3, 1) := by decide +kernel
theorem dX7_command_5 : decode cX7_command 5 = .ok (.iadd, 1) := by decide +kernel
theorem dX7_command_6 : decode cX7_command 6 = .ok (.istore 5, 2) := by decide +kernel
theorem dX7_command_8 : decode cX7_command 8 = .ok (.bipush 10, 2) := by decide +kernel
theorem dX7_command_10 : decode cX7_command 10 = .ok (.iload_n 3, 1) := by decide +kernel
theorem dX7_command_11 : decode cX7_command 11 = .ok (.imul, 1) := by decide +kernel
theorem dX7_command_12 : decode cX7_command 12 = .ok (.iload 4, 2) := by decide +kernel
theorem dX7_command_14 : decode cX7_command 14 = .ok (.iadd, 1) := by decide +kernel
theorem dX7_command_15 : decode cX7_command 15 = .ok (.istore 6, 2) := by decide +kernel
theorem dX7_command_17 : decode cX7_command 17 = .ok (.iload_n 1, 1) := by decide +kernel
theorem dX7_command_18 : decode cX7_command 18 = .ok (.tableswitch 371 1 9 #[50, 84, 119, 155, 198, 230, 265, 295, 348], 50) := by decide +kernel
theorem dX7_command_68 : decode cX7_command 68 = .ok (.aload_n 0, 1) := by decide +kernel
theorem dX7_command_69 : decode cX7_command 69 = .ok (.getfield 16, 3) := by decide +kernel
theorem dX7_command_72 : decode cX7_command 72 = .ok (.iload 5, 2) := by decide +kernel
theorem dX7_command_74 : decode cX7_command 74 = .ok (.iload 4, 2) := by decide +kernel
theorem dX7_command_76 : decode cX7_command 76 = .ok (.invokestatic 159, 3) := by decide +kernel
theorem dX7_command_79 : decode cX7_command 79 = .ok (.ifCond .ne 21, 3) := by decide +kernel
theorem dX7_command_82 : decode cX7_command 82 = .ok (.aload_n 0, 1) := by decide +kernel
theorem dX7_command_83 : decode cX7_command 83 = .ok (.getfield 16, 3) := by decide +kernel
theorem dX7_command_86 : decode cX7_command 86 = .ok (.iload 5, 2) := by decide +kernel
theorem dX7_command_88 : decode cX7_command 88 = .ok (.iload 4, 2) := by decide +kernel
theorem dX7_command_90 : decode cX7_command 90 = .ok (.invokestatic 39, 3) := by decide +kernel
theorem dX7_command_93 : decode cX7_command 93 = .ok (.ifCond .le 7, 3) := by decide +kernel
theorem dX7_command_96 : decode cX7_command 96 = .ok (.iconst 1, 1) := by decide +kernel
theorem dX7_command_97 : decode cX7_command 97 = .ok (.goto 4, 3) := by decide +kernel
theorem dX7_command_100 : decode cX7_command 100 = .ok (.iconst 0, 1) := by decide +kernel
theorem dX7_command_101 : decode cX7_command 101 = .ok (.ireturn, 1) := by decide +kernel
theorem dX7_command_102 : decode cX7_command 102 = .ok (.iload 4, 2) := by decide +kernel
theorem dX7_command_104 : decode cX7_command 104 = .ok (.ifCond .ne 31, 3) := by decide +kernel
theorem dX7_command_107 : decode cX7_command 107 = .ok (.aload_n 0, 1) := by decide +kernel
theorem dX7_command_108 : decode cX7_command 108 = .ok (.getfield 16, 3) := by decide +kernel
theorem dX7_command_111 : decode cX7_command 111 = .ok (.iload 5, 2) := by decide +kernel
theorem dX7_command_113 : decode cX7_command 113 = .ok (.invokestatic 165, 3) := by decide +kernel
theorem dX7_command_116 : decode cX7_command 116 = .ok (.ifCond .ne 19, 3) := by decide +kernel
theorem dX7_command_119 : decode cX7_command 119 = .ok (.aload_n 0, 1) := by decide +kernel
theorem dX7_command_120 : decode cX7_command 120 = .ok (.getfield 16, 3) := by decide +kernel
theorem dX7_command_123 : decode cX7_command 123 = .ok (.iload 5, 2) := by decide +kernel
theorem dX7_command_125 : decode cX7_command 125 = .ok (.invokestatic 168, 3) := by decide +kernel
theorem dX7_command_128 : decode cX7_command 128 = .ok (.ifCond .le 7, 3) := by decide +kernel
theorem dX7_command_131 : decode cX7_command 131 = .ok (.iconst 1, 1) := by decide +kernel
theorem dX7_command_132 : decode cX7_command 132 = .ok (.goto 4, 3) := by decide +kernel
theorem dX7_command_135 : decode cX7_command 135 = .ok (.iconst 0, 1) := by decide +kernel
theorem dX7_command_136 : decode cX7_command 136 = .ok (.ireturn, 1) := by decide +kernel
theorem dX7_command_137 : decode cX7_command 137 = .ok (.aload_n 0, 1) := by decide +kernel
theorem dX7_command_138 : decode cX7_command 138 = .ok (.getfield 16, 3) := by decide +kernel
theorem dX7_command_141 : decode cX7_command 141 = .ok (.iload 5, 2) := by decide +kernel
theorem dX7_command_143 : decode cX7_command 143 = .ok (.iload 4, 2) := by decide +kernel
theorem dX7_command_145 : decode cX7_command 145 = .ok (.invokestatic 171, 3) := by decide +kernel
theorem dX7_command_148 : decode cX7_command 148 = .ok (.ifCond .ne 23, 3) := by decide +kernel
theorem dX7_command_151 : decode cX7_command 151 = .ok (.aload_n 0, 1) := by decide +kernel
theorem dX7_command_152 : decode cX7_command 152 = .ok (.getfield 16, 3) := by decide +kernel
theorem dX7_command_155 : decode cX7_command 155 = .ok (.iconst 3, 1) := by decide +kernel
theorem dX7_command_156 : decode cX7_command 156 = .ok (.iload 5, 2) := by decide +kernel
theorem dX7_command_158 : decode cX7_command 158 = .ok (.iadd, 1) := by decide +kernel
theorem dX7_command_159 : decode cX7_command 159 = .ok (.iload 4, 2) := by decide +kernel
theorem dX7_command_161 : decode cX7_command 161 = .ok (.invokestatic 174, 3) := by decide +kernel
theorem dX7_command_164 : decode cX7_command 164 = .ok (.ifCond .lt 7, 3) := by decide +kernel
theorem dX7_command_167 : decode cX7_command 167 = .ok (.iconst 1, 1) := by decide +kernel
theorem dX7_command_168 : decode cX7_command 168 = .ok (.goto 4, 3) := by decide +kernel
theorem dX7_command_171 : decode cX7_command 171 = .ok (.iconst 0, 1) := by decide +kernel
theorem dX7_command_172 : decode cX7_command 172 = .ok (.ireturn, 1) := by decide +kernel
theorem dX7_command_173 : decode cX7_command 173 = .ok (.iload 4, 2) := by decide +kernel
theorem dX7_command_175 : decode cX7_command 175 = .ok (.iconst 2, 1) := by decide +kernel
theorem dX7_command_176 : decode cX7_command 176 = .ok (.if_icmp .ge 38, 3) := by decide +kernel
theorem dX7_command_179 : decode cX7_command 179 = .ok (.iload 5, 2) := by decide +kernel
theorem dX7_command_181 : decode cX7_command 181 = .ok (.invokestatic 156, 3) := by decide +kernel
theorem dX7_command_184 : decode cX7_command 184 = .ok (.ifCond .eq 30, 3) := by decide +kernel
theorem dX7_command_187 : decode cX7_command 187 = .ok (.aload_n 0, 1) := by decide +kernel
theorem dX7_command_188 : decode cX7_command 188 = .ok (.getfield 16, 3) := by decide +kernel
theorem dX7_command_191 : decode cX7_command 191 = .ok (.iload 5, 2) := by decide +kernel
theorem dX7_command_193 : decode cX7_command 193 = .ok (.iload 4, 2) := by decide +kernel
theorem dX7_command_195 : decode cX7_command 195 = .ok (.iconst 1, 1) := by decide +kernel
theorem dX7_command_196 : decode cX7_command 196 = .ok (.if_icmp .ne 7, 3) := by decide +kernel
theorem dX7_command_199 : decode cX7_command 199 = .ok (.iconst 1, 1) := by decide +kernel
theorem dX7_command_200 : decode cX7_command 200 = .ok (.goto 4, 3) := by decide +kernel
theorem dX7_command_203 : decode cX7_command 203 = .ok (.iconst 0, 1) := by decide +kernel
theorem dX7_command_204 : decode cX7_command 204 = .ok (.invokestatic 125, 3) := by decide +kernel
theorem dX7_command_207 : decode cX7_command 207 = .ok (.ifCond .lt 7, 3) := by decide +kernel
theorem dX7_command_210 : decode cX7_command 210 = .ok (.iconst 1, 1) := by decide +kernel
theorem dX7_command_211 : decode cX7_command 211 = .ok (.goto 4, 3) := by decide +kernel
theorem dX7_command_214 : decode cX7_command 214 = .ok (.iconst 0, 1) := by decide +kernel
theorem dX7_command_215 : decode cX7_command 215 = .ok (.ireturn, 1) := by decide +kernel
theorem dX7_command_216 : decode cX7_command 216 = .ok (.iload 4, 2) := by decide +kernel
theorem dX7_command_218 : decode cX7_command 218 = .ok (.ifCond .gt 15, 3) := by decide +kernel
theorem dX7_command_221 : decode cX7_command 221 = .ok (.aload_n 0, 1) := by decide +kernel
theorem dX7_command_222 : decode cX7_command 222 = .ok (.getfield 16, 3) := by decide +kernel
theorem dX7_command_225 : decode cX7_command 225 = .ok (.iload 5, 2) := by decide +kernel
theorem dX7_command_227 : decode cX7_command 227 = .ok (.invokestatic 98, 3) := by decide +kernel
theorem dX7_command_230 : decode cX7_command 230 = .ok (.ifCond .ne 5, 3) := by decide +kernel
theorem dX7_command_233 : decode cX7_command 233 = .ok (.iconst 0, 1) := by decide +kernel
theorem dX7_command_234 : decode cX7_command 234 = .ok (.ireturn, 1) := by decide +kernel
theorem dX7_command_235 : decode cX7_command 235 = .ok (.aload_n 0, 1) := by decide +kernel
theorem dX7_command_236 : decode cX7_command 236 = .ok (.aload_n 0, 1) := by decide +kernel
theorem dX7_command_237 : decode cX7_command 237 = .ok (.getfield 16, 3) := by decide +kernel
theorem dX7_command_240 : decode cX7_command 240 = .ok (.iload 5, 2) := by decide +kernel
theorem dX7_command_242 : decode cX7_command 242 = .ok (.invokevirtual 183, 3) := by decide +kernel
theorem dX7_command_245 : decode cX7_command 245 = .ok (.pop, 1) := by decide +kernel
theorem dX7_command_246 : decode cX7_command 246 = .ok (.iconst 1, 1) := by decide +kernel
theorem dX7_command_247 : decode cX7_command 247 = .ok (.ireturn, 1) := by decide +kernel
theorem dX7_command_248 : decode cX7_command 248 = .ok (.iload_n 2, 1) := by decide +kernel
theorem dX7_command_249 : decode cX7_command 249 = .ok (.invokestatic 153, 3) := by decide +kernel
theorem dX7_command_252 : decode cX7_command 252 = .ok (.ifCond .eq 15, 3) := by decide +kernel
theorem dX7_command_255 : decode cX7_command 255 = .ok (.aload_n 0, 1) := by decide +kernel
theorem dX7_command_256 : decode cX7_command 256 = .ok (.getfield 16, 3) := by decide +kernel
theorem dX7_command_259 : decode cX7_command 259 = .ok (.iload 6, 2) := by decide +kernel
theorem dX7_command_261 : decode cX7_command 261 = .ok (.invokestatic 98, 3) := by decide +kernel
theorem dX7_command_264 : decode cX7_command 264 = .ok (.ifCond .ne 5, 3) := by decide +kernel
theorem dX7_command_267 : decode cX7_command 267 = .ok (.iconst 0, 1) := by decide +kernel
theorem dX7_command_268 : decode cX7_command 268 = .ok (.ireturn, 1) := by decide +kernel
theorem dX7_command_269 : decode cX7_command 269 = .ok (.aload_n 0, 1) := by decide +kernel
theorem dX7_command_270 : decode cX7_command 270 = .ok (.aload_n 0, 1) := by decide +kernel
theorem dX7_command_271 : decode cX7_command 271 = .ok (.getfield 16, 3) := by decide +kernel
theorem dX7_command_274 : decode cX7_command 274 = .ok (.iload_n 2, 1) := by decide +kernel
theorem dX7_command_275 : decode cX7_command 275 = .ok (.iload 6, 2) := by decide +kernel
theorem dX7_command_277 : decode cX7_command 277 = .ok (.invokevirtual 186, 3) := by decide +kernel
theorem dX7_command_280 : decode cX7_command 280 = .ok (.pop, 1) := by decide +kernel
theorem dX7_command_281 : decode cX7_command 281 = .ok (.iconst 1, 1) := by decide +kernel
theorem dX7_command_282 : decode cX7_command 282 = .ok (.ireturn, 1) := by decide +kernel
theorem dX7_command_283 : decode cX7_command 283 = .ok (.iload 6, 2) := by decide +kernel
theorem dX7_command_285 : decode cX7_command 285 = .ok (.ifCond .ne 26, 3) := by decide +kernel
theorem dX7_command_288 : decode cX7_command 288 = .ok (.iload_n 2, 1) := by decide +kernel
theorem dX7_command_289 : decode cX7_command 289 = .ok (.invokestatic 153, 3) := by decide +kernel
theorem dX7_command_292 : decode cX7_command 292 = .ok (.ifCond .eq 19, 3) := by decide +kernel
theorem dX7_command_295 : decode cX7_command 295 = .ok (.aload_n 0, 1) := by decide +kernel
theorem dX7_command_296 : decode cX7_command 296 = .ok (.aload_n 0, 1) := by decide +kernel
theorem dX7_command_297 : decode cX7_command 297 = .ok (.getfield 16, 3) := by decide +kernel
theorem dX7_command_300 : decode cX7_command 300 = .ok (.iload_n 2, 1) := by decide +kernel
theorem dX7_command_301 : decode cX7_command 301 = .ok (.invokevirtual 189, 3) := by decide +kernel
theorem dX7_command_304 : decode cX7_command 304 = .ok (.ifCond .lt 7, 3) := by decide +kernel
theorem dX7_command_307 : decode cX7_command 307 = .ok (.iconst 1, 1) := by decide +kernel
theorem dX7_command_308 : decode cX7_command 308 = .ok (.goto 4, 3) := by decide +kernel
theorem dX7_command_311 : decode cX7_command 311 = .ok (.iconst 0, 1) := by decide +kernel
theorem dX7_command_312 : decode cX7_command 312 = .ok (.ireturn, 1) := by decide +kernel
theorem dX7_command_313 : decode cX7_command 313 = .ok (.aload_n 0, 1) := by decide +kernel
theorem dX7_command_314 : decode cX7_command 314 = .ok (.aload_n 0, 1) := by decide +kernel
theorem dX7_command_315 : decode cX7_command 315 = .ok (.getfield 16, 3) := by decide +kernel
theorem dX7_command_318 : decode cX7_command 318 = .ok (.invokevirtual 76, 3) := by decide +kernel
theorem dX7_command_321 : decode cX7_command 321 = .ok (.iload_n 2, 1) := by decide +kernel
theorem dX7_command_322 : decode cX7_command 322 = .ok (.invokestatic 153, 3) := by decide +kernel
theorem dX7_command_325 : decode cX7_command 325 = .ok (.ifCond .eq 39, 3) := by decide +kernel
theorem dX7_command_328 : decode cX7_command 328 = .ok (.aload_n 0, 1) := by decide +kernel
theorem dX7_command_329 : decode cX7_command 329 = .ok (.getfield 16, 3) := by decide +kernel
theorem dX7_command_332 : decode cX7_command 332 = .ok (.iload 6, 2) := by decide +kernel
theorem dX7_command_334 : decode cX7_command 334 = .ok (.invokestatic 98, 3) := by decide +kernel
theorem dX7_command_337 : decode cX7_command 337 = .ok (.ifCond .eq 27, 3) := by decide +kernel
theorem dX7_command_340 : decode cX7_command 340 = .ok (.aload_n 0, 1) := by decide +kernel
theorem dX7_command_341 : decode cX7_command 341 = .ok (.getfield 16, 3) := by decide +kernel
theorem dX7_command_344 : decode cX7_command 344 = .ok (.iload_n 2, 1) := by decide +kernel
theorem dX7_command_345 : decode cX7_command 345 = .ok (.iload 6, 2) := by decide +kernel
theorem dX7_command_347 : decode cX7_command 347 = .ok (.invokestatic 73, 3) := by decide +kernel
theorem dX7_command_350 : decode cX7_command 350 = .ok (.aload_n 0, 1) := by decide +kernel
theorem dX7_command_351 : decode cX7_command 351 = .ok (.getfield 29, 3) := by decide +kernel
theorem dX7_command_354 : decode cX7_command 354 = .ok (.iload 6, 2) := by decide +kernel
theorem dX7_command_356 : decode cX7_command 356 = .ok (.iaload, 1) := by decide +kernel
theorem dX7_command_357 : decode cX7_command 357 = .ok (.if_icmp .ne 7, 3) := by decide +kernel
theorem dX7_command_360 : decode cX7_command 360 = .ok (.iconst 1, 1) := by decide +kernel
theorem dX7_command_361 : decode cX7_command 361 = .ok (.goto 4, 3) := by decide +kernel
theorem dX7_command_364 : decode cX7_command 364 = .ok (.iconst 0, 1) := by decide +kernel
theorem dX7_command_365 : decode cX7_command 365 = .ok (.ireturn, 1) := by decide +kernel
theorem dX7_command_366 : decode cX7_command 366 = .ok (.iload_n 2, 1) := by decide +kernel
theorem dX7_command_367 : decode cX7_command 367 = .ok (.ifCond .ne 20, 3) := by decide +kernel
theorem dX7_command_370 : decode cX7_command 370 = .ok (.aload_n 0, 1) := by decide +kernel
theorem dX7_command_371 : decode cX7_command 371 = .ok (.aload_n 0, 1) := by decide +kernel
theorem dX7_command_372 : decode cX7_command 372 = .ok (.getfield 16, 3) := by decide +kernel
theorem dX7_command_375 : decode cX7_command 375 = .ok (.invokevirtual 144, 3) := by decide +kernel
theorem dX7_command_378 : decode cX7_command 378 = .ok (.iload 6, 2) := by decide +kernel
theorem dX7_command_380 : decode cX7_command 380 = .ok (.if_icmp .gt 7, 3) := by decide +kernel
theorem dX7_command_383 : decode cX7_command 383 = .ok (.iconst 1, 1) := by decide +kernel
theorem dX7_command_384 : decode cX7_command 384 = .ok (.goto 4, 3) := by decide +kernel
theorem dX7_command_387 : decode cX7_command 387 = .ok (.iconst 0, 1) := by decide +kernel
theorem dX7_command_388 : decode cX7_command 388 = .ok (.ireturn, 1) := by decide +kernel
theorem dX7_command_389 : decode cX7_command 389 = .ok (.iconst 0, 1) := by decide +kernel
theorem dX7_command_390 : decode cX7_command 390 = .ok (.ireturn, 1) := by decide +kernel
set_option maxRecDepth 20000 in
theorem ggX7_runScript_X7_in : GoodIn wsX7_runScript wsX7_in := goodIn_r _ [8] (by decide +kernel) (by decide +kernel)
set_option maxRecDepth 20000 in
theorem gX7_runScript_X7_in : GoodIn wsX7_runScript (va_wsS RX7 47 yX7_in wsX7_in) := goodIn_app (goodIn_of _ (by decide +kernel)) ggX7_runScript_X7_in
set_option maxRecDepth 20000 in
theorem ggX7_runScript_X7_refused : GoodIn wsX7_runScript wsX7_refused := goodIn_r _ [12, 13, 106, 107, 108, 109, 110, 111, 112, 113, 114, 115, 116] (by decide +kernel) (by decide +kernel)
set_option maxRecDepth 20000 in
theorem gX7_runScript_X7_refused : GoodIn wsX7_runScript (wsV RX7 106 RX7 yX7_refused wsX7_refused) := goodIn_app (goodIn_of _ (by decide +kernel)) ggX7_runScript_X7_refused
set_option maxRecDepth 20000 in
theorem ggX7_runScript_X7_copyState : GoodIn wsX7_runScript wsX7_copyState := goodIn_r _ [16] (by decide +kernel) (by decide +kernel)
set_option maxRecDepth 20000 in
theorem gX7_runScript_X7_copyState : GoodIn wsX7_runScript (va_wsS RX7 132 yX7_copyState wsX7_copyState) := goodIn_app (goodIn_of _ (by decide +kernel)) ggX7_runScript_X7_copyState
set_option maxRecDepth 20000 in
theorem ggX7_runScript_X7_command : GoodIn wsX7_runScript wsX7_command := goodIn_r _ [20, 4, 21, 22, 23, 7, 24, 5, 6, 8, 25, 26, 27, 2, 28, 29, 30, 31, 32, 33, 34, 35, 36, 37, 38, 39, 40, 41, 42, 43, 44, 45, 46, 47, 48, 49, 50, 51, 52, 53, 54, 55, 56, 57, 58, 59, 60, 61, 62, 63, 64, 65, 66, 67, 68, 69, 70, 71, 72, 73, 74, 75, 76, 77, 78, 79, 80, 81, 82, 83, 84, 85, 86, 87, 88, 89, 90, 91, 92, 93, 94, 95, 96, 97, 98, 99, 100, 101, 102, 103, 104, 105, 106, 107, 108, 109, 110, 111, 112, 113, 114, 115, 116] (by decide +kernel) (by decide +kernel)
set_option maxRecDepth 20000 in
theorem gX7_runScript_X7_command : GoodIn wsX7_runScript (wsV RX7 215 RX7 yX7_command wsX7_command) := goodIn_app (goodIn_of _ (by decide +kernel)) ggX7_runScript_X7_command
theorem dX7_runScript_0 : decode cX7_runScript 0 = .ok (.lconst 1, 1) := by decide +kernel
theorem dX7_runScript_1 : decode cX7_runScript 1 = .ok (.lstore 4, 2) := by decide +kernel
theorem dX7_runScript_3 : decode cX7_runScript 3 = .ok (.iconst 0, 1) := by decide +kernel
theorem dX7_runScript_4 : decode cX7_runScript 4 = .ok (.istore 6, 2) := by decide +kernel
theorem dX7_runScript_6 : decode cX7_runScript 6 = .ok (.iload 6, 2) := by decide +kernel
theorem dX7_runScript_8 : decode cX7_runScript 8 = .ok (.iload_n 1, 1) := by decide +kernel
theorem dX7_runScript_9 : decode cX7_runScript 9 = .ok (.if_icmp .ge 23, 3) := by decide +kernel
theorem dX7_runScript_12 : decode cX7_runScript 12 = .ok (.iload 6, 2) := by decide +kernel
theorem dX7_runScript_14 : decode cX7_runScript 14 = .ok (.iconst 3, 1) := by decide +kernel
theorem dX7_runScript_15 : decode cX7_runScript 15 = .ok (.if_icmp .ge 17, 3) := by decide +kernel
theorem dX7_runScript_18 : decode cX7_runScript 18 = .ok (.lload 4, 2) := by decide +kernel
theorem dX7_runScript_20 : decode cX7_runScript 20 = .ok (.ldc2_w 213, 3) := by decide +kernel
theorem dX7_runScript_23 : decode cX7_runScript 23 = .ok (.lmul, 1) := by decide +kernel
theorem dX7_runScript_24 : decode cX7_runScript 24 = .ok (.lstore 4, 2) := by decide +kernel
theorem dX7_runScript_26 : decode cX7_runScript 26 = .ok (.iinc 6 1, 3) := by decide +kernel
theorem dX7_runScript_29 : decode cX7_runScript 29 = .ok (.goto (-23), 3) := by decide +kernel
theorem dX7_runScript_32 : decode cX7_runScript 32 = .ok (.aload_n 0, 1) := by decide +kernel
theorem dX7_runScript_33 : decode cX7_runScript 33 = .ok (.iload_n 1, 1) := by decide +kernel
theorem dX7_runScript_34 : decode cX7_runScript 34 = .ok (.i2l, 1) := by decide +kernel
theorem dX7_runScript_35 : decode cX7_runScript 35 = .ok (.lconst 1, 1) := by decide +kernel
theorem dX7_runScript_36 : decode cX7_runScript 36 = .ok (.ldc2_w 53, 3) := by decide +kernel
theorem dX7_runScript_39 : decode cX7_runScript 39 = .ok (.invokestatic 47, 3) := by decide +kernel
theorem dX7_runScript_42 : decode cX7_runScript 42 = .ok (.ifCond .eq 19, 3) := by decide +kernel
theorem dX7_runScript_45 : decode cX7_runScript 45 = .ok (.lload_n 2, 1) := by decide +kernel
theorem dX7_runScript_46 : decode cX7_runScript 46 = .ok (.lconst 0, 1) := by decide +kernel
theorem dX7_runScript_47 : decode cX7_runScript 47 = .ok (.lload 4, 2) := by decide +kernel
theorem dX7_runScript_49 : decode cX7_runScript 49 = .ok (.lconst 1, 1) := by decide +kernel
theorem dX7_runScript_50 : decode cX7_runScript 50 = .ok (.lsub, 1) := by decide +kernel
theorem dX7_runScript_51 : decode cX7_runScript 51 = .ok (.invokestatic 47, 3) := by decide +kernel
theorem dX7_runScript_54 : decode cX7_runScript 54 = .ok (.ifCond .eq 7, 3) := by decide +kernel
theorem dX7_runScript_57 : decode cX7_runScript 57 = .ok (.iconst 0, 1) := by decide +kernel
theorem dX7_runScript_58 : decode cX7_runScript 58 = .ok (.goto 4, 3) := by decide +kernel
theorem dX7_runScript_61 : decode cX7_runScript 61 = .ok (.iconst 1, 1) := by decide +kernel
theorem dX7_runScript_62 : decode cX7_runScript 62 = .ok (.invokevirtual 106, 3) := by decide +kernel
theorem dX7_runScript_65 : decode cX7_runScript 65 = .ok (.ifCond .eq 5, 3) := by decide +kernel
theorem dX7_runScript_68 : decode cX7_runScript 68 = .ok (.iconst 0, 1) := by decide +kernel
theorem dX7_runScript_69 : decode cX7_runScript 69 = .ok (.ireturn, 1) := by decide +kernel
theorem dX7_runScript_70 : decode cX7_runScript 70 = .ok (.aload_n 0, 1) := by decide +kernel
theorem dX7_runScript_71 : decode cX7_runScript 71 = .ok (.getfield 13, 3) := by decide +kernel
theorem dX7_runScript_74 : decode cX7_runScript 74 = .ok (.iconst 0, 1) := by decide +kernel
theorem dX7_runScript_75 : decode cX7_runScript 75 = .ok (.aload_n 0, 1) := by decide +kernel
theorem dX7_runScript_76 : decode cX7_runScript 76 = .ok (.getfield 16, 3) := by decide +kernel
theorem dX7_runScript_79 : decode cX7_runScript 79 = .ok (.iconst 0, 1) := by decide +kernel
theorem dX7_runScript_80 : decode cX7_runScript 80 = .ok (.invokestatic 132, 3) := by decide +kernel
theorem dX7_runScript_83 : decode cX7_runScript 83 = .ok (.iconst 0, 1) := by decide +kernel
theorem dX7_runScript_84 : decode cX7_runScript 84 = .ok (.istore 6, 2) := by decide +kernel
theorem dX7_runScript_86 : decode cX7_runScript 86 = .ok (.iload 6, 2) := by decide +kernel
theorem dX7_runScript_88 : decode cX7_runScript 88 = .ok (.iload_n 1, 1) := by decide +kernel
theorem dX7_runScript_89 : decode cX7_runScript 89 = .ok (.if_icmp .ge 65, 3) := by decide +kernel
theorem dX7_runScript_92 : decode cX7_runScript 92 = .ok (.lload 4, 2) := by decide +kernel
theorem dX7_runScript_94 : decode cX7_runScript 94 = .ok (.ldc2_w 213, 3) := by decide +kernel
theorem dX7_runScript_97 : decode cX7_runScript 97 = .ok (.ldiv, 1) := by decide +kernel
theorem dX7_runScript_98 : decode cX7_runScript 98 = .ok (.lstore 4, 2) := by decide +kernel
theorem dX7_runScript_100 : decode cX7_runScript 100 = .ok (.lload_n 2, 1) := by decide +kernel
theorem dX7_runScript_101 : decode cX7_runScript 101 = .ok (.lload 4, 2) := by decide +kernel
theorem dX7_runScript_103 : decode cX7_runScript 103 = .ok (.ldiv, 1) := by decide +kernel
theorem dX7_runScript_104 : decode cX7_runScript 104 = .ok (.ldc2_w 213, 3) := by decide +kernel
theorem dX7_runScript_107 : decode cX7_runScript 107 = .ok (.lrem, 1) := by decide +kernel
theorem dX7_runScript_108 : decode cX7_runScript 108 = .ok (.l2i, 1) := by decide +kernel
theorem dX7_runScript_109 : decode cX7_runScript 109 = .ok (.istore 7, 2) := by decide +kernel
theorem dX7_runScript_111 : decode cX7_runScript 111 = .ok (.aload_n 0, 1) := by decide +kernel
theorem dX7_runScript_112 : decode cX7_runScript 112 = .ok (.iload 7, 2) := by decide +kernel
theorem dX7_runScript_114 : decode cX7_runScript 114 = .ok (.sipush 1000, 3) := by decide +kernel
theorem dX7_runScript_117 : decode cX7_runScript 117 = .ok (.idiv, 1) := by decide +kernel
theorem dX7_runScript_118 : decode cX7_runScript 118 = .ok (.iload 7, 2) := by decide +kernel
theorem dX7_runScript_120 : decode cX7_runScript 120 = .ok (.bipush 100, 2) := by decide +kernel
theorem dX7_runScript_122 : decode cX7_runScript 122 = .ok (.idiv, 1) := by decide +kernel
theorem dX7_runScript_123 : decode cX7_runScript 123 = .ok (.bipush 10, 2) := by decide +kernel
theorem dX7_runScript_125 : decode cX7_runScript 125 = .ok (.irem, 1) := by decide +kernel
theorem dX7_runScript_126 : decode cX7_runScript 126 = .ok (.iload 7, 2) := by decide +kernel
theorem dX7_runScript_128 : decode cX7_runScript 128 = .ok (.bipush 10, 2) := by decide +kernel
theorem dX7_runScript_130 : decode cX7_runScript 130 = .ok (.idiv, 1) := by decide +kernel
theorem dX7_runScript_131 : decode cX7_runScript 131 = .ok (.bipush 10, 2) := by decide +kernel
theorem dX7_runScript_133 : decode cX7_runScript 133 = .ok (.irem, 1) := by decide +kernel
theorem dX7_runScript_134 : decode cX7_runScript 134 = .ok (.iload 7, 2) := by decide +kernel
theorem dX7_runScript_136 : decode cX7_runScript 136 = .ok (.bipush 10, 2) := by decide +kernel
theorem dX7_runScript_138 : decode cX7_runScript 138 = .ok (.irem, 1) := by decide +kernel
theorem dX7_runScript_139 : decode cX7_runScript 139 = .ok (.invokevirtual 215, 3) := by decide +kernel
theorem dX7_runScript_142 : decode cX7_runScript 142 = .ok (.ifCond .ne 6, 3) := by decide +kernel
theorem dX7_runScript_145 : decode cX7_runScript 145 = .ok (.iload 6, 2) := by decide +kernel
theorem dX7_runScript_147 : decode cX7_runScript 147 = .ok (.ireturn, 1) := by decide +kernel
theorem dX7_runScript_148 : decode cX7_runScript 148 = .ok (.iinc 6 1, 3) := by decide +kernel
theorem dX7_runScript_151 : decode cX7_runScript 151 = .ok (.goto (-65), 3) := by decide +kernel
theorem dX7_runScript_154 : decode cX7_runScript 154 = .ok (.iconst (-1), 1) := by decide +kernel
theorem dX7_runScript_155 : decode cX7_runScript 155 = .ok (.ireturn, 1) := by decide +kernel
set_option maxRecDepth 20000 in
theorem ggX7_put_X7_putCarOn : GoodIn wsX7_put wsX7_putCarOn := goodIn_r _ [6, 7, 8, 9, 10, 5, 11, 12, 13, 14, 15, 16, 17, 18, 19, 20, 21, 22, 23, 24, 25, 26, 27, 28, 29, 30, 49, 50, 51, 52, 53, 54, 55, 56, 57, 58, 59] (by decide +kernel) (by decide +kernel)
set_option maxRecDepth 20000 in
theorem gX7_put_X7_putCarOn : GoodIn wsX7_put (wsV RX7 189 RX7 yX7_putCarOn wsX7_putCarOn) := goodIn_app (goodIn_of _ (by decide +kernel)) ggX7_put_X7_putCarOn
set_option maxRecDepth 20000 in
theorem ggX7_put_X7_isLevel : GoodIn wsX7_put wsX7_isLevel := goodIn_r _ [33, 34, 35, 5, 36] (by decide +kernel) (by decide +kernel)
set_option maxRecDepth 20000 in
theorem gX7_put_X7_isLevel : GoodIn wsX7_put (va_wsS RX7 98 yX7_isLevel wsX7_isLevel) := goodIn_app (goodIn_of _ (by decide +kernel)) ggX7_put_X7_isLevel
set_option maxRecDepth 20000 in
theorem ggX7_put_X7_putSignOn : GoodIn wsX7_put wsX7_putSignOn := goodIn_r _ [40, 7, 8, 9, 10, 5, 11, 12, 13, 14, 15, 16, 17, 18, 19, 20, 21, 22, 23, 49, 50, 51, 52, 53, 54, 55, 56, 57, 58, 59] (by decide +kernel) (by decide +kernel)
set_option maxRecDepth 20000 in
theorem gX7_put_X7_putSignOn : GoodIn wsX7_put (wsV RX7 183 RX7 yX7_putSignOn wsX7_putSignOn) := goodIn_app (goodIn_of _ (by decide +kernel)) ggX7_put_X7_putSignOn
set_option maxRecDepth 20000 in
theorem ggX7_put_X7_putButtonOn : GoodIn wsX7_put wsX7_putButtonOn := goodIn_r _ [44, 7, 8, 9, 10, 5, 11, 12, 13, 14, 15, 16, 17, 18, 19, 20, 21, 22, 23, 28, 29, 30, 49, 50, 51, 52, 53, 54, 55, 56, 57, 58, 59] (by decide +kernel) (by decide +kernel)
set_option maxRecDepth 20000 in
theorem gX7_put_X7_putButtonOn : GoodIn wsX7_put (wsV RX7 186 RX7 yX7_putButtonOn wsX7_putButtonOn) := goodIn_app (goodIn_of _ (by decide +kernel)) ggX7_put_X7_putButtonOn
set_option maxRecDepth 20000 in
theorem ggX7_put_X7_exchangeOn : GoodIn wsX7_put wsX7_exchangeOn := goodIn_r _ [48, 7, 28, 29, 5, 30, 8, 9, 10, 11, 12, 13, 14, 15, 16, 17, 18, 19, 20, 21, 22, 23, 49, 50, 51, 52, 53, 54, 55, 56, 57, 58, 59] (by decide +kernel) (by decide +kernel)
set_option maxRecDepth 20000 in
theorem gX7_put_X7_exchangeOn : GoodIn wsX7_put (wsV RX7 192 RX7 yX7_exchangeOn wsX7_exchangeOn) := goodIn_app (goodIn_of _ (by decide +kernel)) ggX7_put_X7_exchangeOn
theorem dX7_put_0 : decode cX7_put 0 = .ok (.iload_n 1, 1) := by decide +kernel
theorem dX7_put_1 : decode cX7_put 1 = .ok (.bipush 16, 2) := by decide +kernel
theorem dX7_put_3 : decode cX7_put 3 = .ok (.irem, 1) := by decide +kernel
theorem dX7_put_4 : decode cX7_put 4 = .ok (.istore_n 3, 1) := by decide +kernel
theorem dX7_put_5 : decode cX7_put 5 = .ok (.iload_n 1, 1) := by decide +kernel
theorem dX7_put_6 : decode cX7_put 6 = .ok (.sipush 256, 3) := by decide +kernel
theorem dX7_put_9 : decode cX7_put 9 = .ok (.idiv, 1) := by decide +kernel
theorem dX7_put_10 : decode cX7_put 10 = .ok (.iconst 3, 1) := by decide +kernel
theorem dX7_put_11 : decode cX7_put 11 = .ok (.irem, 1) := by decide +kernel
theorem dX7_put_12 : decode cX7_put 12 = .ok (.istore 4, 2) := by decide +kernel
theorem dX7_put_14 : decode cX7_put 14 = .ok (.iload_n 3, 1) := by decide +kernel
theorem dX7_put_15 : decode cX7_put 15 = .ok (.bipush 11, 2) := by decide +kernel
theorem dX7_put_17 : decode cX7_put 17 = .ok (.if_icmp .ne 17, 3) := by decide +kernel
theorem dX7_put_20 : decode cX7_put 20 = .ok (.aload_n 0, 1) := by decide +kernel
theorem dX7_put_21 : decode cX7_put 21 = .ok (.aload_n 0, 1) := by decide +kernel
theorem dX7_put_22 : decode cX7_put 22 = .ok (.getfield 16, 3) := by decide +kernel
theorem dX7_put_25 : decode cX7_put 25 = .ok (.iload 4, 2) := by decide +kernel
theorem dX7_put_27 : decode cX7_put 27 = .ok (.invokevirtual 189, 3) := by decide +kernel
theorem dX7_put_30 : decode cX7_put 30 = .ok (.pop, 1) := by decide +kernel
theorem dX7_put_31 : decode cX7_put 31 = .ok (.goto 92, 3) := by decide +kernel
theorem dX7_put_34 : decode cX7_put 34 = .ok (.aload_n 0, 1) := by decide +kernel
theorem dX7_put_35 : decode cX7_put 35 = .ok (.getfield 16, 3) := by decide +kernel
theorem dX7_put_38 : decode cX7_put 38 = .ok (.iload_n 2, 1) := by decide +kernel
theorem dX7_put_39 : decode cX7_put 39 = .ok (.invokestatic 98, 3) := by decide +kernel
theorem dX7_put_42 : decode cX7_put 42 = .ok (.ifCond .eq 81, 3) := by decide +kernel
theorem dX7_put_45 : decode cX7_put 45 = .ok (.iload_n 3, 1) := by decide +kernel
theorem dX7_put_46 : decode cX7_put 46 = .ok (.bipush 11, 2) := by decide +kernel
theorem dX7_put_48 : decode cX7_put 48 = .ok (.if_icmp .ge 16, 3) := by decide +kernel
theorem dX7_put_51 : decode cX7_put 51 = .ok (.aload_n 0, 1) := by decide +kernel
theorem dX7_put_52 : decode cX7_put 52 = .ok (.aload_n 0, 1) := by decide +kernel
theorem dX7_put_53 : decode cX7_put 53 = .ok (.getfield 16, 3) := by decide +kernel
theorem dX7_put_56 : decode cX7_put 56 = .ok (.iload_n 2, 1) := by decide +kernel
theorem dX7_put_57 : decode cX7_put 57 = .ok (.invokevirtual 183, 3) := by decide +kernel
theorem dX7_put_60 : decode cX7_put 60 = .ok (.pop, 1) := by decide +kernel
theorem dX7_put_61 : decode cX7_put 61 = .ok (.goto 62, 3) := by decide +kernel
theorem dX7_put_64 : decode cX7_put 64 = .ok (.iload_n 3, 1) := by decide +kernel
theorem dX7_put_65 : decode cX7_put 65 = .ok (.bipush 12, 2) := by decide +kernel
theorem dX7_put_67 : decode cX7_put 67 = .ok (.if_icmp .le 18, 3) := by decide +kernel
theorem dX7_put_70 : decode cX7_put 70 = .ok (.aload_n 0, 1) := by decide +kernel
theorem dX7_put_71 : decode cX7_put 71 = .ok (.aload_n 0, 1) := by decide +kernel
theorem dX7_put_72 : decode cX7_put 72 = .ok (.getfield 16, 3) := by decide +kernel
theorem dX7_put_75 : decode cX7_put 75 = .ok (.iload 4, 2) := by decide +kernel
theorem dX7_put_77 : decode cX7_put 77 = .ok (.iload_n 2, 1) := by decide +kernel
theorem dX7_put_78 : decode cX7_put 78 = .ok (.invokevirtual 186, 3) := by decide +kernel
theorem dX7_put_81 : decode cX7_put 81 = .ok (.pop, 1) := by decide +kernel
theorem dX7_put_82 : decode cX7_put 82 = .ok (.goto 41, 3) := by decide +kernel
theorem dX7_put_85 : decode cX7_put 85 = .ok (.aload_n 0, 1) := by decide +kernel
theorem dX7_put_86 : decode cX7_put 86 = .ok (.getfield 16, 3) := by decide +kernel
theorem dX7_put_89 : decode cX7_put 89 = .ok (.iload_n 1, 1) := by decide +kernel
theorem dX7_put_90 : decode cX7_put 90 = .ok (.sipush 1024, 3) := by decide +kernel
theorem dX7_put_93 : decode cX7_put 93 = .ok (.idiv, 1) := by decide +kernel
theorem dX7_put_94 : decode cX7_put 94 = .ok (.bipush 16, 2) := by decide +kernel
theorem dX7_put_96 : decode cX7_put 96 = .ok (.irem, 1) := by decide +kernel
theorem dX7_put_97 : decode cX7_put 97 = .ok (.invokestatic 98, 3) := by decide +kernel
theorem dX7_put_100 : decode cX7_put 100 = .ok (.ifCond .eq 23, 3) := by decide +kernel
theorem dX7_put_103 : decode cX7_put 103 = .ok (.aload_n 0, 1) := by decide +kernel
theorem dX7_put_104 : decode cX7_put 104 = .ok (.aload_n 0, 1) := by decide +kernel
theorem dX7_put_105 : decode cX7_put 105 = .ok (.getfield 16, 3) := by decide +kernel
theorem dX7_put_108 : decode cX7_put 108 = .ok (.iload 4, 2) := by decide +kernel
theorem dX7_put_110 : decode cX7_put 110 = .ok (.iload_n 2, 1) := by decide +kernel
theorem dX7_put_111 : decode cX7_put 111 = .ok (.iload_n 1, 1) := by decide +kernel
theorem dX7_put_112 : decode cX7_put 112 = .ok (.sipush 1024, 3) := by decide +kernel
theorem dX7_put_115 : decode cX7_put 115 = .ok (.idiv, 1) := by decide +kernel
theorem dX7_put_116 : decode cX7_put 116 = .ok (.bipush 16, 2) := by decide +kernel
theorem dX7_put_118 : decode cX7_put 118 = .ok (.irem, 1) := by decide +kernel
theorem dX7_put_119 : decode cX7_put 119 = .ok (.invokevirtual 192, 3) := by decide +kernel
theorem dX7_put_122 : decode cX7_put 122 = .ok (.pop, 1) := by decide +kernel
theorem dX7_put_123 : decode cX7_put 123 = .ok (.return_, 1) := by decide +kernel
set_option maxRecDepth 20000 in
theorem ggX7_turn_X7_whyNotAdd : GoodIn wsX7_turn wsX7_whyNotAdd := goodIn_r _ [5, 6, 7, 4, 8, 9, 10, 11, 12] (by decide +kernel) (by decide +kernel)
set_option maxRecDepth 20000 in
theorem gX7_turn_X7_whyNotAdd : GoodIn wsX7_turn (va_wsS RX7 159 yX7_whyNotAdd wsX7_whyNotAdd) := goodIn_app (goodIn_of _ (by decide +kernel)) ggX7_turn_X7_whyNotAdd
set_option maxRecDepth 20000 in
theorem ggX7_turn_X7_insert : GoodIn wsX7_turn wsX7_insert := goodIn_r _ [15, 16, 17, 4, 18] (by decide +kernel) (by decide +kernel)
set_option maxRecDepth 20000 in
theorem gX7_turn_X7_insert : GoodIn wsX7_turn (va_wsS RX7 39 yX7_insert wsX7_insert) := goodIn_app (goodIn_of _ (by decide +kernel)) ggX7_turn_X7_insert
set_option maxRecDepth 20000 in
theorem ggX7_turn_X7_whyNotRemove : GoodIn wsX7_turn wsX7_whyNotRemove := goodIn_r _ [21, 22, 23, 4, 24, 6, 7, 8] (by decide +kernel) (by decide +kernel)
set_option maxRecDepth 20000 in
theorem gX7_turn_X7_whyNotRemove : GoodIn wsX7_turn (va_wsS RX7 165 yX7_whyNotRemove wsX7_whyNotRemove) := goodIn_app (goodIn_of _ (by decide +kernel)) ggX7_turn_X7_whyNotRemove
set_option maxRecDepth 20000 in
theorem ggX7_turn_X7_removeOn : GoodIn wsX7_turn wsX7_removeOn := goodIn_r _ [27, 16, 17, 4, 18] (by decide +kernel) (by decide +kernel)
set_option maxRecDepth 20000 in
theorem gX7_turn_X7_removeOn : GoodIn wsX7_turn (va_wsS RX7 168 yX7_removeOn wsX7_removeOn) := goodIn_app (goodIn_of _ (by decide +kernel)) ggX7_turn_X7_removeOn
set_option maxRecDepth 20000 in
theorem ggX7_turn_X7_whyNotKind : GoodIn wsX7_turn wsX7_whyNotKind := goodIn_r _ [30, 22, 23, 4, 24, 6, 7, 8, 9, 10, 11, 12] (by decide +kernel) (by decide +kernel)
set_option maxRecDepth 20000 in
theorem gX7_turn_X7_whyNotKind : GoodIn wsX7_turn (va_wsS RX7 171 yX7_whyNotKind wsX7_whyNotKind) := goodIn_app (goodIn_of _ (by decide +kernel)) ggX7_turn_X7_whyNotKind
set_option maxRecDepth 20000 in
theorem ggX7_turn_X7_whyNotGround : GoodIn wsX7_turn wsX7_whyNotGround := goodIn_r _ [33, 22, 23, 4, 24, 6, 7, 8] (by decide +kernel) (by decide +kernel)
set_option maxRecDepth 20000 in
theorem gX7_turn_X7_whyNotGround : GoodIn wsX7_turn (va_wsS RX7 177 yX7_whyNotGround wsX7_whyNotGround) := goodIn_app (goodIn_of _ (by decide +kernel)) ggX7_turn_X7_whyNotGround
set_option maxRecDepth 20000 in
theorem ggX7_turn_X7_skipOn : GoodIn wsX7_turn wsX7_skipOn := goodIn_r _ [36, 37, 38, 4, 39, 40, 41, 42] (by decide +kernel) (by decide +kernel)
set_option maxRecDepth 20000 in
theorem gX7_turn_X7_skipOn : GoodIn wsX7_turn (va_wsS RX7 125 yX7_skipOn wsX7_skipOn) := goodIn_app (goodIn_of _ (by decide +kernel)) ggX7_turn_X7_skipOn
set_option maxRecDepth 20000 in
theorem ggX7_turn_X7_isLevel : GoodIn wsX7_turn wsX7_isLevel := goodIn_r _ [24, 6, 7, 4, 8] (by decide +kernel) (by decide +kernel)
set_option maxRecDepth 20000 in
theorem gX7_turn_X7_isLevel : GoodIn wsX7_turn (va_wsS RX7 98 yX7_isLevel wsX7_isLevel) := goodIn_app (goodIn_of _ (by decide +kernel)) ggX7_turn_X7_isLevel
set_option maxRecDepth 20000 in
theorem ggX7_turn_X7_serveOn : GoodIn wsX7_turn wsX7_serveOn := goodIn_r _ [45, 46, 47, 4, 48] (by decide +kernel) (by decide +kernel)
set_option maxRecDepth 20000 in
theorem gX7_turn_X7_serveOn : GoodIn wsX7_turn (va_wsS RX7 180 yX7_serveOn wsX7_serveOn) := goodIn_app (goodIn_of _ (by decide +kernel)) ggX7_turn_X7_serveOn
set_option maxRecDepth 20000 in
theorem ggX7_turn_X7_put : GoodIn wsX7_turn wsX7_put := goodIn_r _ [52, 1, 53, 54, 55, 4, 56, 57, 58, 59, 60, 61, 62, 40, 41, 42, 63, 64, 65, 66, 67, 68, 69, 70, 71, 72, 73, 74, 75, 76, 77, 22, 23, 24, 6, 7, 8, 78, 79, 80, 81, 82, 83, 84, 85, 86, 87, 88, 89, 90, 91, 92, 93, 94, 95, 96, 97, 98, 99, 100] (by decide +kernel) (by decide +kernel)
set_option maxRecDepth 20000 in
theorem gX7_turn_X7_put : GoodIn wsX7_turn (wsV RX7 219 RX7 yX7_put wsX7_put) := goodIn_app (goodIn_of _ (by decide +kernel)) ggX7_turn_X7_put
theorem dX7_turn_0 : decode cX7_turn 0 = .ok (.iload_n 1, 1) := by decide +kernel
theorem dX7_turn_1 : decode cX7_turn 1 = .ok (.bipush 16, 2) := by decide +kernel
theorem dX7_turn_3 : decode cX7_turn 3 = .ok (.idiv, 1) := by decide +kernel
theorem dX7_turn_4 : decode cX7_turn 4 = .ok (.bipush 16, 2) := by decide +kernel
theorem dX7_turn_6 : decode cX7_turn 6 = .ok (.irem, 1) := by decide +kernel
theorem dX7_turn_7 : decode cX7_turn 7 = .ok (.istore_n 2, 1) := by decide +kernel
theorem dX7_turn_8 : decode cX7_turn 8 = .ok (.iload_n 1, 1) := by decide +kernel
theorem dX7_turn_9 : decode cX7_turn 9 = .ok (.bipush 16, 2) := by decide +kernel
theorem dX7_turn_11 : decode cX7_turn 11 = .ok (.irem, 1) := by decide +kernel
theorem dX7_turn_12 : decode cX7_turn 12 = .ok (.istore_n 3, 1) := by decide +kernel
theorem dX7_turn_13 : decode cX7_turn 13 = .ok (.iload_n 1, 1) := by decide +kernel
theorem dX7_turn_14 : decode cX7_turn 14 = .ok (.sipush 256, 3) := by decide +kernel
theorem dX7_turn_17 : decode cX7_turn 17 = .ok (.idiv, 1) := by decide +kernel
theorem dX7_turn_18 : decode cX7_turn 18 = .ok (.iconst 4, 1) := by decide +kernel
theorem dX7_turn_19 : decode cX7_turn 19 = .ok (.irem, 1) := by decide +kernel
theorem dX7_turn_20 : decode cX7_turn 20 = .ok (.istore 4, 2) := by decide +kernel
theorem dX7_turn_22 : decode cX7_turn 22 = .ok (.iload_n 3, 1) := by decide +kernel
theorem dX7_turn_23 : decode cX7_turn 23 = .ok (.iconst 2, 1) := by decide +kernel
theorem dX7_turn_24 : decode cX7_turn 24 = .ok (.if_icmp .ge 30, 3) := by decide +kernel
theorem dX7_turn_27 : decode cX7_turn 27 = .ok (.aload_n 0, 1) := by decide +kernel
theorem dX7_turn_28 : decode cX7_turn 28 = .ok (.getfield 16, 3) := by decide +kernel
theorem dX7_turn_31 : decode cX7_turn 31 = .ok (.iload_n 2, 1) := by decide +kernel
theorem dX7_turn_32 : decode cX7_turn 32 = .ok (.iload 4, 2) := by decide +kernel
theorem dX7_turn_34 : decode cX7_turn 34 = .ok (.invokestatic 159, 3) := by decide +kernel
theorem dX7_turn_37 : decode cX7_turn 37 = .ok (.ifCond .ne 200, 3) := by decide +kernel
theorem dX7_turn_40 : decode cX7_turn 40 = .ok (.aload_n 0, 1) := by decide +kernel
theorem dX7_turn_41 : decode cX7_turn 41 = .ok (.getfield 16, 3) := by decide +kernel
theorem dX7_turn_44 : decode cX7_turn 44 = .ok (.iload_n 2, 1) := by decide +kernel
theorem dX7_turn_45 : decode cX7_turn 45 = .ok (.iload 4, 2) := by decide +kernel
theorem dX7_turn_47 : decode cX7_turn 47 = .ok (.invokestatic 39, 3) := by decide +kernel
theorem dX7_turn_50 : decode cX7_turn 50 = .ok (.pop, 1) := by decide +kernel
theorem dX7_turn_51 : decode cX7_turn 51 = .ok (.goto 186, 3) := by decide +kernel
theorem dX7_turn_54 : decode cX7_turn 54 = .ok (.iload_n 3, 1) := by decide +kernel
theorem dX7_turn_55 : decode cX7_turn 55 = .ok (.iconst 2, 1) := by decide +kernel
theorem dX7_turn_56 : decode cX7_turn 56 = .ok (.if_icmp .ne 26, 3) := by decide +kernel
theorem dX7_turn_59 : decode cX7_turn 59 = .ok (.aload_n 0, 1) := by decide +kernel
theorem dX7_turn_60 : decode cX7_turn 60 = .ok (.getfield 16, 3) := by decide +kernel
theorem dX7_turn_63 : decode cX7_turn 63 = .ok (.iload_n 2, 1) := by decide +kernel
theorem dX7_turn_64 : decode cX7_turn 64 = .ok (.invokestatic 165, 3) := by decide +kernel
theorem dX7_turn_67 : decode cX7_turn 67 = .ok (.ifCond .ne 170, 3) := by decide +kernel
theorem dX7_turn_70 : decode cX7_turn 70 = .ok (.aload_n 0, 1) := by decide +kernel
theorem dX7_turn_71 : decode cX7_turn 71 = .ok (.getfield 16, 3) := by decide +kernel
theorem dX7_turn_74 : decode cX7_turn 74 = .ok (.iload_n 2, 1) := by decide +kernel
theorem dX7_turn_75 : decode cX7_turn 75 = .ok (.invokestatic 168, 3) := by decide +kernel
theorem dX7_turn_78 : decode cX7_turn 78 = .ok (.pop, 1) := by decide +kernel
theorem dX7_turn_79 : decode cX7_turn 79 = .ok (.goto 158, 3) := by decide +kernel
theorem dX7_turn_82 : decode cX7_turn 82 = .ok (.iload_n 3, 1) := by decide +kernel
theorem dX7_turn_83 : decode cX7_turn 83 = .ok (.iconst 3, 1) := by decide +kernel
theorem dX7_turn_84 : decode cX7_turn 84 = .ok (.if_icmp .ne 29, 3) := by decide +kernel
theorem dX7_turn_87 : decode cX7_turn 87 = .ok (.aload_n 0, 1) := by decide +kernel
theorem dX7_turn_88 : decode cX7_turn 88 = .ok (.getfield 16, 3) := by decide +kernel
theorem dX7_turn_91 : decode cX7_turn 91 = .ok (.iload_n 2, 1) := by decide +kernel
theorem dX7_turn_92 : decode cX7_turn 92 = .ok (.iload 4, 2) := by decide +kernel
theorem dX7_turn_94 : decode cX7_turn 94 = .ok (.invokestatic 171, 3) := by decide +kernel
theorem dX7_turn_97 : decode cX7_turn 97 = .ok (.ifCond .ne 140, 3) := by decide +kernel
theorem dX7_turn_100 : decode cX7_turn 100 = .ok (.aload_n 0, 1) := by decide +kernel
theorem dX7_turn_101 : decode cX7_turn 101 = .ok (.getfield 16, 3) := by decide +kernel
theorem dX7_turn_104 : decode cX7_turn 104 = .ok (.iconst 3, 1) := by decide +kernel
theorem dX7_turn_105 : decode cX7_turn 105 = .ok (.iload_n 2, 1) := by decide +kernel
theorem dX7_turn_106 : decode cX7_turn 106 = .ok (.iadd, 1) := by decide +kernel
theorem dX7_turn_107 : decode cX7_turn 107 = .ok (.iload 4, 2) := by decide +kernel
theorem dX7_turn_109 : decode cX7_turn 109 = .ok (.iastore, 1) := by decide +kernel
theorem dX7_turn_110 : decode cX7_turn 110 = .ok (.goto 127, 3) := by decide +kernel
theorem dX7_turn_113 : decode cX7_turn 113 = .ok (.iload_n 3, 1) := by decide +kernel
theorem dX7_turn_114 : decode cX7_turn 114 = .ok (.iconst 4, 1) := by decide +kernel
theorem dX7_turn_115 : decode cX7_turn 115 = .ok (.if_icmp .ne 24, 3) := by decide +kernel
theorem dX7_turn_118 : decode cX7_turn 118 = .ok (.aload_n 0, 1) := by decide +kernel
theorem dX7_turn_119 : decode cX7_turn 119 = .ok (.getfield 16, 3) := by decide +kernel
theorem dX7_turn_122 : decode cX7_turn 122 = .ok (.iload_n 2, 1) := by decide +kernel
theorem dX7_turn_123 : decode cX7_turn 123 = .ok (.invokestatic 177, 3) := by decide +kernel
theorem dX7_turn_126 : decode cX7_turn 126 = .ok (.ifCond .ne 111, 3) := by decide +kernel
theorem dX7_turn_129 : decode cX7_turn 129 = .ok (.aload_n 0, 1) := by decide +kernel
theorem dX7_turn_130 : decode cX7_turn 130 = .ok (.getfield 16, 3) := by decide +kernel
theorem dX7_turn_133 : decode cX7_turn 133 = .ok (.iconst 1, 1) := by decide +kernel
theorem dX7_turn_134 : decode cX7_turn 134 = .ok (.iload_n 2, 1) := by decide +kernel
theorem dX7_turn_135 : decode cX7_turn 135 = .ok (.iastore, 1) := by decide +kernel
theorem dX7_turn_136 : decode cX7_turn 136 = .ok (.goto 101, 3) := by decide +kernel
theorem dX7_turn_139 : decode cX7_turn 139 = .ok (.iload_n 3, 1) := by decide +kernel
theorem dX7_turn_140 : decode cX7_turn 140 = .ok (.bipush 7, 2) := by decide +kernel
theorem dX7_turn_142 : decode cX7_turn 142 = .ok (.if_icmp .ge 38, 3) := by decide +kernel
theorem dX7_turn_145 : decode cX7_turn 145 = .ok (.aload_n 0, 1) := by decide +kernel
theorem dX7_turn_146 : decode cX7_turn 146 = .ok (.getfield 16, 3) := by decide +kernel
theorem dX7_turn_149 : decode cX7_turn 149 = .ok (.iconst 1, 1) := by decide +kernel
theorem dX7_turn_150 : decode cX7_turn 150 = .ok (.iload_n 1, 1) := by decide +kernel
theorem dX7_turn_151 : decode cX7_turn 151 = .ok (.bipush 16, 2) := by decide +kernel
theorem dX7_turn_153 : decode cX7_turn 153 = .ok (.idiv, 1) := by decide +kernel
theorem dX7_turn_154 : decode cX7_turn 154 = .ok (.bipush 30, 2) := by decide +kernel
theorem dX7_turn_156 : decode cX7_turn 156 = .ok (.irem, 1) := by decide +kernel
theorem dX7_turn_157 : decode cX7_turn 157 = .ok (.iadd, 1) := by decide +kernel
theorem dX7_turn_158 : decode cX7_turn 158 = .ok (.iload_n 1, 1) := by decide +kernel
theorem dX7_turn_159 : decode cX7_turn 159 = .ok (.sipush 512, 3) := by decide +kernel
theorem dX7_turn_162 : decode cX7_turn 162 = .ok (.idiv, 1) := by decide +kernel
theorem dX7_turn_163 : decode cX7_turn 163 = .ok (.iconst 2, 1) := by decide +kernel
theorem dX7_turn_164 : decode cX7_turn 164 = .ok (.irem, 1) := by decide +kernel
theorem dX7_turn_165 : decode cX7_turn 165 = .ok (.ifCond .ne 7, 3) := by decide +kernel
theorem dX7_turn_168 : decode cX7_turn 168 = .ok (.iconst 1, 1) := by decide +kernel
theorem dX7_turn_169 : decode cX7_turn 169 = .ok (.goto 4, 3) := by decide +kernel
theorem dX7_turn_172 : decode cX7_turn 172 = .ok (.iconst 0, 1) := by decide +kernel
theorem dX7_turn_173 : decode cX7_turn 173 = .ok (.invokestatic 125, 3) := by decide +kernel
theorem dX7_turn_176 : decode cX7_turn 176 = .ok (.pop, 1) := by decide +kernel
theorem dX7_turn_177 : decode cX7_turn 177 = .ok (.goto 60, 3) := by decide +kernel
theorem dX7_turn_180 : decode cX7_turn 180 = .ok (.iload_n 3, 1) := by decide +kernel
theorem dX7_turn_181 : decode cX7_turn 181 = .ok (.bipush 7, 2) := by decide +kernel
theorem dX7_turn_183 : decode cX7_turn 183 = .ok (.if_icmp .ne 48, 3) := by decide +kernel
theorem dX7_turn_186 : decode cX7_turn 186 = .ok (.aload_n 0, 1) := by decide +kernel
theorem dX7_turn_187 : decode cX7_turn 187 = .ok (.getfield 16, 3) := by decide +kernel
theorem dX7_turn_190 : decode cX7_turn 190 = .ok (.iload_n 2, 1) := by decide +kernel
theorem dX7_turn_191 : decode cX7_turn 191 = .ok (.invokestatic 98, 3) := by decide +kernel
theorem dX7_turn_194 : decode cX7_turn 194 = .ok (.ifCond .eq 43, 3) := by decide +kernel
theorem dX7_turn_197 : decode cX7_turn 197 = .ok (.aload_n 0, 1) := by decide +kernel
theorem dX7_turn_198 : decode cX7_turn 198 = .ok (.getfield 16, 3) := by decide +kernel
theorem dX7_turn_201 : decode cX7_turn 201 = .ok (.iload_n 1, 1) := by decide +kernel
theorem dX7_turn_202 : decode cX7_turn 202 = .ok (.sipush 256, 3) := by decide +kernel
theorem dX7_turn_205 : decode cX7_turn 205 = .ok (.idiv, 1) := by decide +kernel
theorem dX7_turn_206 : decode cX7_turn 206 = .ok (.iconst 3, 1) := by decide +kernel
theorem dX7_turn_207 : decode cX7_turn 207 = .ok (.irem, 1) := by decide +kernel
theorem dX7_turn_208 : decode cX7_turn 208 = .ok (.iload_n 2, 1) := by decide +kernel
theorem dX7_turn_209 : decode cX7_turn 209 = .ok (.iload_n 1, 1) := by decide +kernel
theorem dX7_turn_210 : decode cX7_turn 210 = .ok (.sipush 1024, 3) := by decide +kernel
theorem dX7_turn_213 : decode cX7_turn 213 = .ok (.idiv, 1) := by decide +kernel
theorem dX7_turn_214 : decode cX7_turn 214 = .ok (.iconst 2, 1) := by decide +kernel
theorem dX7_turn_215 : decode cX7_turn 215 = .ok (.irem, 1) := by decide +kernel
theorem dX7_turn_216 : decode cX7_turn 216 = .ok (.ifCond .ne 7, 3) := by decide +kernel
theorem dX7_turn_219 : decode cX7_turn 219 = .ok (.iconst 1, 1) := by decide +kernel
theorem dX7_turn_220 : decode cX7_turn 220 = .ok (.goto 4, 3) := by decide +kernel
theorem dX7_turn_223 : decode cX7_turn 223 = .ok (.iconst 0, 1) := by decide +kernel
theorem dX7_turn_224 : decode cX7_turn 224 = .ok (.invokestatic 180, 3) := by decide +kernel
theorem dX7_turn_227 : decode cX7_turn 227 = .ok (.pop, 1) := by decide +kernel
theorem dX7_turn_228 : decode cX7_turn 228 = .ok (.goto 9, 3) := by decide +kernel
theorem dX7_turn_231 : decode cX7_turn 231 = .ok (.aload_n 0, 1) := by decide +kernel
theorem dX7_turn_232 : decode cX7_turn 232 = .ok (.iload_n 1, 1) := by decide +kernel
theorem dX7_turn_233 : decode cX7_turn 233 = .ok (.iload_n 2, 1) := by decide +kernel
theorem dX7_turn_234 : decode cX7_turn 234 = .ok (.invokevirtual 219, 3) := by decide +kernel
theorem dX7_turn_237 : decode cX7_turn 237 = .ok (.return_, 1) := by decide +kernel
set_option maxRecDepth 20000 in
theorem ggX7_simulate_X7_in : GoodIn wsX7_simulate wsX7_in := goodIn_r _ [9] (by decide +kernel) (by decide +kernel)
set_option maxRecDepth 20000 in
theorem gX7_simulate_X7_in : GoodIn wsX7_simulate (va_wsS RX7 47 yX7_in wsX7_in) := goodIn_app (goodIn_of _ (by decide +kernel)) ggX7_simulate_X7_in
set_option maxRecDepth 20000 in
theorem ggX7_simulate_X7_refused : GoodIn wsX7_simulate wsX7_refused := goodIn_r _ [13, 14, 114, 115, 116, 117, 118, 119, 120, 121, 122, 123, 124] (by decide +kernel) (by decide +kernel)
set_option maxRecDepth 20000 in
theorem gX7_simulate_X7_refused : GoodIn wsX7_simulate (wsV RX7 106 RX7 yX7_refused wsX7_refused) := goodIn_app (goodIn_of _ (by decide +kernel)) ggX7_simulate_X7_refused
set_option maxRecDepth 20000 in
theorem ggX7_simulate_X7_copyState : GoodIn wsX7_simulate wsX7_copyState := goodIn_r _ [17] (by decide +kernel) (by decide +kernel)
set_option maxRecDepth 20000 in
theorem gX7_simulate_X7_copyState : GoodIn wsX7_simulate (va_wsS RX7 132 yX7_copyState wsX7_copyState) := goodIn_app (goodIn_of _ (by decide +kernel)) ggX7_simulate_X7_copyState
set_option maxRecDepth 20000 in
theorem ggX7_simulate_X7_turn : GoodIn wsX7_simulate wsX7_turn := goodIn_r _ [21, 3, 22, 23, 8, 24, 6, 7, 9, 25, 26, 27, 28, 29, 30, 31, 32, 33, 34, 35, 36, 37, 38, 39, 40, 41, 42, 43, 44, 45, 46, 47, 48, 49, 50, 51, 52, 53, 54, 55, 56, 57, 58, 59, 60, 61, 62, 63, 64, 65, 66, 67, 68, 69, 70, 71, 72, 73, 74, 75, 76, 77, 78, 79, 80, 81, 82, 83, 84, 85, 86, 87, 88, 89, 90, 91, 92, 93, 94, 95, 96, 97, 98, 99, 100, 101, 102, 103, 104, 105, 114, 115, 116, 117, 118, 119, 120, 121, 122, 123, 124] (by decide +kernel) (by decide +kernel)
set_option maxRecDepth 20000 in
theorem gX7_simulate_X7_turn : GoodIn wsX7_simulate (wsV RX7 229 RX7 yX7_turn wsX7_turn) := goodIn_app (goodIn_of _ (by decide +kernel)) ggX7_simulate_X7_turn
set_option maxRecDepth 20000 in
theorem ggX7_simulate_X7_wrong : GoodIn wsX7_simulate wsX7_wrong := goodIn_r _ [109, 74, 75, 76, 8, 77, 78, 73, 56, 57, 58, 79, 80, 81, 82, 83, 84, 85, 86, 110, 111, 112, 113, 87, 88, 89, 90, 91, 92, 93, 114, 115, 116, 117, 118, 119, 120, 121, 122, 123, 124] (by decide +kernel) (by decide +kernel)
set_option maxRecDepth 20000 in
theorem gX7_simulate_X7_wrong : GoodIn wsX7_simulate (wsV RX7 144 RX7 yX7_wrong wsX7_wrong) := goodIn_app (goodIn_of _ (by decide +kernel)) ggX7_simulate_X7_wrong
theorem dX7_simulate_0 : decode cX7_simulate 0 = .ok (.aload_n 0, 1) := by decide +kernel
theorem dX7_simulate_1 : decode cX7_simulate 1 = .ok (.iload_n 3, 1) := by decide +kernel
theorem dX7_simulate_2 : decode cX7_simulate 2 = .ok (.i2l, 1) := by decide +kernel
theorem dX7_simulate_3 : decode cX7_simulate 3 = .ok (.lconst 1, 1) := by decide +kernel
theorem dX7_simulate_4 : decode cX7_simulate 4 = .ok (.ldc2_w 223, 3) := by decide +kernel
theorem dX7_simulate_7 : decode cX7_simulate 7 = .ok (.invokestatic 47, 3) := by decide +kernel
theorem dX7_simulate_10 : decode cX7_simulate 10 = .ok (.ifCond .eq 7, 3) := by decide +kernel
theorem dX7_simulate_13 : decode cX7_simulate 13 = .ok (.iconst 0, 1) := by decide +kernel
theorem dX7_simulate_14 : decode cX7_simulate 14 = .ok (.goto 4, 3) := by decide +kernel
theorem dX7_simulate_17 : decode cX7_simulate 17 = .ok (.iconst 1, 1) := by decide +kernel
theorem dX7_simulate_18 : decode cX7_simulate 18 = .ok (.invokevirtual 106, 3) := by decide +kernel
theorem dX7_simulate_21 : decode cX7_simulate 21 = .ok (.ifCond .eq 5, 3) := by decide +kernel
theorem dX7_simulate_24 : decode cX7_simulate 24 = .ok (.iconst 0, 1) := by decide +kernel
theorem dX7_simulate_25 : decode cX7_simulate 25 = .ok (.ireturn, 1) := by decide +kernel
theorem dX7_simulate_26 : decode cX7_simulate 26 = .ok (.aload_n 0, 1) := by decide +kernel
theorem dX7_simulate_27 : decode cX7_simulate 27 = .ok (.getfield 13, 3) := by decide +kernel
theorem dX7_simulate_30 : decode cX7_simulate 30 = .ok (.iconst 0, 1) := by decide +kernel
theorem dX7_simulate_31 : decode cX7_simulate 31 = .ok (.aload_n 0, 1) := by decide +kernel
theorem dX7_simulate_32 : decode cX7_simulate 32 = .ok (.getfield 16, 3) := by decide +kernel
theorem dX7_simulate_35 : decode cX7_simulate 35 = .ok (.iconst 0, 1) := by decide +kernel
theorem dX7_simulate_36 : decode cX7_simulate 36 = .ok (.invokestatic 132, 3) := by decide +kernel
theorem dX7_simulate_39 : decode cX7_simulate 39 = .ok (.lload_n 1, 1) := by decide +kernel
theorem dX7_simulate_40 : decode cX7_simulate 40 = .ok (.lstore 4, 2) := by decide +kernel
theorem dX7_simulate_42 : decode cX7_simulate 42 = .ok (.iconst 0, 1) := by decide +kernel
theorem dX7_simulate_43 : decode cX7_simulate 43 = .ok (.istore 6, 2) := by decide +kernel
theorem dX7_simulate_45 : decode cX7_simulate 45 = .ok (.iload 6, 2) := by decide +kernel
theorem dX7_simulate_47 : decode cX7_simulate 47 = .ok (.iload_n 3, 1) := by decide +kernel
theorem dX7_simulate_48 : decode cX7_simulate 48 = .ok (.if_icmp .ge 31, 3) := by decide +kernel
theorem dX7_simulate_51 : decode cX7_simulate 51 = .ok (.lload 4, 2) := by decide +kernel
theorem dX7_simulate_53 : decode cX7_simulate 53 = .ok (.ldc2_w 225, 3) := by decide +kernel
theorem dX7_simulate_56 : decode cX7_simulate 56 = .ok (.lmul, 1) := by decide +kernel
theorem dX7_simulate_57 : decode cX7_simulate 57 = .ok (.ldc2_w 227, 3) := by decide +kernel
theorem dX7_simulate_60 : decode cX7_simulate 60 = .ok (.ladd, 1) := by decide +kernel
theorem dX7_simulate_61 : decode cX7_simulate 61 = .ok (.lstore 4, 2) := by decide +kernel
theorem dX7_simulate_63 : decode cX7_simulate 63 = .ok (.aload_n 0, 1) := by decide +kernel
theorem dX7_simulate_64 : decode cX7_simulate 64 = .ok (.lload 4, 2) := by decide +kernel
theorem dX7_simulate_66 : decode cX7_simulate 66 = .ok (.bipush 33, 2) := by decide +kernel
theorem dX7_simulate_68 : decode cX7_simulate 68 = .ok (.lushr, 1) := by decide +kernel
theorem dX7_simulate_69 : decode cX7_simulate 69 = .ok (.l2i, 1) := by decide +kernel
theorem dX7_simulate_70 : decode cX7_simulate 70 = .ok (.invokevirtual 229, 3) := by decide +kernel
theorem dX7_simulate_73 : decode cX7_simulate 73 = .ok (.iinc 6 1, 3) := by decide +kernel
theorem dX7_simulate_76 : decode cX7_simulate 76 = .ok (.goto (-31), 3) := by decide +kernel
theorem dX7_simulate_79 : decode cX7_simulate 79 = .ok (.sipush 1000, 3) := by decide +kernel
theorem dX7_simulate_82 : decode cX7_simulate 82 = .ok (.aload_n 0, 1) := by decide +kernel
theorem dX7_simulate_83 : decode cX7_simulate 83 = .ok (.aload_n 0, 1) := by decide +kernel
theorem dX7_simulate_84 : decode cX7_simulate 84 = .ok (.getfield 16, 3) := by decide +kernel
theorem dX7_simulate_87 : decode cX7_simulate 87 = .ok (.invokevirtual 144, 3) := by decide +kernel
theorem dX7_simulate_90 : decode cX7_simulate 90 = .ok (.imul, 1) := by decide +kernel
theorem dX7_simulate_91 : decode cX7_simulate 91 = .ok (.aload_n 0, 1) := by decide +kernel
theorem dX7_simulate_92 : decode cX7_simulate 92 = .ok (.getfield 16, 3) := by decide +kernel
theorem dX7_simulate_95 : decode cX7_simulate 95 = .ok (.iconst 0, 1) := by decide +kernel
theorem dX7_simulate_96 : decode cX7_simulate 96 = .ok (.iaload, 1) := by decide +kernel
theorem dX7_simulate_97 : decode cX7_simulate 97 = .ok (.iadd, 1) := by decide +kernel
theorem dX7_simulate_98 : decode cX7_simulate 98 = .ok (.ireturn, 1) := by decide +kernel
set_option maxRecDepth 20000 in
theorem ggX7_save_X7_in : GoodIn wsX7_save wsX7_in := goodIn_r _ [7] (by decide +kernel) (by decide +kernel)
set_option maxRecDepth 20000 in
theorem gX7_save_X7_in : GoodIn wsX7_save (va_wsS RX7 47 yX7_in wsX7_in) := goodIn_app (goodIn_of _ (by decide +kernel)) ggX7_save_X7_in
set_option maxRecDepth 20000 in
theorem ggX7_save_X7_refused : GoodIn wsX7_save wsX7_refused := goodIn_r _ [11, 12, 16, 17, 18, 19, 20, 21, 22, 23, 24, 25, 26] (by decide +kernel) (by decide +kernel)
set_option maxRecDepth 20000 in
theorem gX7_save_X7_refused : GoodIn wsX7_save (wsV RX7 106 RX7 yX7_refused wsX7_refused) := goodIn_app (goodIn_of _ (by decide +kernel)) ggX7_save_X7_refused
set_option maxRecDepth 20000 in
theorem ggX7_save_X7_copyState : GoodIn wsX7_save wsX7_copyState := goodIn_r _ [15] (by decide +kernel) (by decide +kernel)
set_option maxRecDepth 20000 in
theorem gX7_save_X7_copyState : GoodIn wsX7_save (va_wsS RX7 132 yX7_copyState wsX7_copyState) := goodIn_app (goodIn_of _ (by decide +kernel)) ggX7_save_X7_copyState
theorem dX7_save_0 : decode cX7_save 0 = .ok (.aload_n 0, 1) := by decide +kernel
theorem dX7_save_1 : decode cX7_save 1 = .ok (.iload_n 1, 1) := by decide +kernel
theorem dX7_save_2 : decode cX7_save 2 = .ok (.i2l, 1) := by decide +kernel
theorem dX7_save_3 : decode cX7_save 3 = .ok (.lconst 0, 1) := by decide +kernel
theorem dX7_save_4 : decode cX7_save 4 = .ok (.lconst 1, 1) := by decide +kernel
theorem dX7_save_5 : decode cX7_save 5 = .ok (.invokestatic 47, 3) := by decide +kernel
theorem dX7_save_8 : decode cX7_save 8 = .ok (.ifCond .eq 7, 3) := by decide +kernel
theorem dX7_save_11 : decode cX7_save 11 = .ok (.iconst 0, 1) := by decide +kernel
theorem dX7_save_12 : decode cX7_save 12 = .ok (.goto 4, 3) := by decide +kernel
theorem dX7_save_15 : decode cX7_save 15 = .ok (.iconst 1, 1) := by decide +kernel
theorem dX7_save_16 : decode cX7_save 16 = .ok (.invokevirtual 106, 3) := by decide +kernel
theorem dX7_save_19 : decode cX7_save 19 = .ok (.ifCond .eq 5, 3) := by decide +kernel
theorem dX7_save_22 : decode cX7_save 22 = .ok (.iconst 0, 1) := by decide +kernel
theorem dX7_save_23 : decode cX7_save 23 = .ok (.ireturn, 1) := by decide +kernel
theorem dX7_save_24 : decode cX7_save 24 = .ok (.aload_n 0, 1) := by decide +kernel
theorem dX7_save_25 : decode cX7_save 25 = .ok (.getfield 13, 3) := by decide +kernel
theorem dX7_save_28 : decode cX7_save 28 = .ok (.iconst 0, 1) := by decide +kernel
theorem dX7_save_29 : decode cX7_save 29 = .ok (.aload_n 0, 1) := by decide +kernel
theorem dX7_save_30 : decode cX7_save 30 = .ok (.getfield 22, 3) := by decide +kernel
theorem dX7_save_33 : decode cX7_save 33 = .ok (.sipush 131, 3) := by decide +kernel
theorem dX7_save_36 : decode cX7_save 36 = .ok (.iload_n 1, 1) := by decide +kernel
theorem dX7_save_37 : decode cX7_save 37 = .ok (.imul, 1) := by decide +kernel
theorem dX7_save_38 : decode cX7_save 38 = .ok (.invokestatic 132, 3) := by decide +kernel
theorem dX7_save_41 : decode cX7_save 41 = .ok (.aload_n 0, 1) := by decide +kernel
theorem dX7_save_42 : decode cX7_save 42 = .ok (.getfield 25, 3) := by decide +kernel
theorem dX7_save_45 : decode cX7_save 45 = .ok (.iload_n 1, 1) := by decide +kernel
theorem dX7_save_46 : decode cX7_save 46 = .ok (.iconst 1, 1) := by decide +kernel
theorem dX7_save_47 : decode cX7_save 47 = .ok (.bastore, 1) := by decide +kernel
theorem dX7_save_48 : decode cX7_save 48 = .ok (.aload_n 0, 1) := by decide +kernel
theorem dX7_save_49 : decode cX7_save 49 = .ok (.getfield 13, 3) := by decide +kernel
theorem dX7_save_52 : decode cX7_save 52 = .ok (.iconst 0, 1) := by decide +kernel
theorem dX7_save_53 : decode cX7_save 53 = .ok (.iaload, 1) := by decide +kernel
theorem dX7_save_54 : decode cX7_save 54 = .ok (.ireturn, 1) := by decide +kernel
set_option maxRecDepth 20000 in
theorem ggX7_restore_X7_in : GoodIn wsX7_restore wsX7_in := goodIn_r _ [8] (by decide +kernel) (by decide +kernel)
set_option maxRecDepth 20000 in
theorem gX7_restore_X7_in : GoodIn wsX7_restore (va_wsS RX7 47 yX7_in wsX7_in) := goodIn_app (goodIn_of _ (by decide +kernel)) ggX7_restore_X7_in
set_option maxRecDepth 20000 in
theorem ggX7_restore_X7_refused : GoodIn wsX7_restore wsX7_refused := goodIn_r _ [12, 13, 17, 18, 19, 20, 21, 22, 23, 24, 25, 26, 27] (by decide +kernel) (by decide +kernel)
set_option maxRecDepth 20000 in
theorem gX7_restore_X7_refused : GoodIn wsX7_restore (wsV RX7 106 RX7 yX7_refused wsX7_refused) := goodIn_app (goodIn_of _ (by decide +kernel)) ggX7_restore_X7_refused
set_option maxRecDepth 20000 in
theorem ggX7_restore_X7_copyState : GoodIn wsX7_restore wsX7_copyState := goodIn_r _ [16] (by decide +kernel) (by decide +kernel)
set_option maxRecDepth 20000 in
theorem gX7_restore_X7_copyState : GoodIn wsX7_restore (va_wsS RX7 132 yX7_copyState wsX7_copyState) := goodIn_app (goodIn_of _ (by decide +kernel)) ggX7_restore_X7_copyState
theorem dX7_restore_0 : decode cX7_restore 0 = .ok (.aload_n 0, 1) := by decide +kernel
theorem dX7_restore_1 : decode cX7_restore 1 = .ok (.iload_n 1, 1) := by decide +kernel
theorem dX7_restore_2 : decode cX7_restore 2 = .ok (.i2l, 1) := by decide +kernel
theorem dX7_restore_3 : decode cX7_restore 3 = .ok (.lconst 0, 1) := by decide +kernel
theorem dX7_restore_4 : decode cX7_restore 4 = .ok (.lconst 1, 1) := by decide +kernel
theorem dX7_restore_5 : decode cX7_restore 5 = .ok (.invokestatic 47, 3) := by decide +kernel
theorem dX7_restore_8 : decode cX7_restore 8 = .ok (.ifCond .ne 7, 3) := by decide +kernel
theorem dX7_restore_11 : decode cX7_restore 11 = .ok (.iconst 1, 1) := by decide +kernel
theorem dX7_restore_12 : decode cX7_restore 12 = .ok (.goto 17, 3) := by decide +kernel
theorem dX7_restore_15 : decode cX7_restore 15 = .ok (.aload_n 0, 1) := by decide +kernel
theorem dX7_restore_16 : decode cX7_restore 16 = .ok (.getfield 25, 3) := by decide +kernel
theorem dX7_restore_19 : decode cX7_restore 19 = .ok (.iload_n 1, 1) := by decide +kernel
theorem dX7_restore_20 : decode cX7_restore 20 = .ok (.baload, 1) := by decide +kernel
theorem dX7_restore_21 : decode cX7_restore 21 = .ok (.ifCond .ne 7, 3) := by decide +kernel
theorem dX7_restore_24 : decode cX7_restore 24 = .ok (.iconst 2, 1) := by decide +kernel
theorem dX7_restore_25 : decode cX7_restore 25 = .ok (.goto 4, 3) := by decide +kernel
theorem dX7_restore_28 : decode cX7_restore 28 = .ok (.iconst 0, 1) := by decide +kernel
theorem dX7_restore_29 : decode cX7_restore 29 = .ok (.invokevirtual 106, 3) := by decide +kernel
theorem dX7_restore_32 : decode cX7_restore 32 = .ok (.ifCond .eq 5, 3) := by decide +kernel
theorem dX7_restore_35 : decode cX7_restore 35 = .ok (.iconst 0, 1) := by decide +kernel
theorem dX7_restore_36 : decode cX7_restore 36 = .ok (.ireturn, 1) := by decide +kernel
theorem dX7_restore_37 : decode cX7_restore 37 = .ok (.aload_n 0, 1) := by decide +kernel
theorem dX7_restore_38 : decode cX7_restore 38 = .ok (.getfield 22, 3) := by decide +kernel
theorem dX7_restore_41 : decode cX7_restore 41 = .ok (.sipush 131, 3) := by decide +kernel
theorem dX7_restore_44 : decode cX7_restore 44 = .ok (.iload_n 1, 1) := by decide +kernel
theorem dX7_restore_45 : decode cX7_restore 45 = .ok (.imul, 1) := by decide +kernel
theorem dX7_restore_46 : decode cX7_restore 46 = .ok (.aload_n 0, 1) := by decide +kernel
theorem dX7_restore_47 : decode cX7_restore 47 = .ok (.getfield 13, 3) := by decide +kernel
theorem dX7_restore_50 : decode cX7_restore 50 = .ok (.iconst 0, 1) := by decide +kernel
theorem dX7_restore_51 : decode cX7_restore 51 = .ok (.invokestatic 132, 3) := by decide +kernel
theorem dX7_restore_54 : decode cX7_restore 54 = .ok (.aload_n 0, 1) := by decide +kernel
theorem dX7_restore_55 : decode cX7_restore 55 = .ok (.iconst 0, 1) := by decide +kernel
theorem dX7_restore_56 : decode cX7_restore 56 = .ok (.putfield 136, 3) := by decide +kernel
theorem dX7_restore_59 : decode cX7_restore 59 = .ok (.aload_n 0, 1) := by decide +kernel
theorem dX7_restore_60 : decode cX7_restore 60 = .ok (.getfield 13, 3) := by decide +kernel
theorem dX7_restore_63 : decode cX7_restore 63 = .ok (.iconst 0, 1) := by decide +kernel
theorem dX7_restore_64 : decode cX7_restore 64 = .ok (.iaload, 1) := by decide +kernel
theorem dX7_restore_65 : decode cX7_restore 65 = .ok (.ireturn, 1) := by decide +kernel
theorem dJ6_bitCount_0f7a4_0 : decode cJ6_bitCount_0f7a4 0 = .ok (.iload_n 0, 1) := by decide +kernel
theorem dJ6_bitCount_0f7a4_1 : decode cJ6_bitCount_0f7a4 1 = .ok (.iload_n 0, 1) := by decide +kernel
theorem dJ6_bitCount_0f7a4_2 : decode cJ6_bitCount_0f7a4 2 = .ok (.iconst 1, 1) := by decide +kernel
theorem dJ6_bitCount_0f7a4_3 : decode cJ6_bitCount_0f7a4 3 = .ok (.iushr, 1) := by decide +kernel
theorem dJ6_bitCount_0f7a4_4 : decode cJ6_bitCount_0f7a4 4 = .ok (.ldc_w 265, 3) := by decide +kernel
theorem dJ6_bitCount_0f7a4_7 : decode cJ6_bitCount_0f7a4 7 = .ok (.iand, 1) := by decide +kernel
theorem dJ6_bitCount_0f7a4_8 : decode cJ6_bitCount_0f7a4 8 = .ok (.isub, 1) := by decide +kernel
theorem dJ6_bitCount_0f7a4_9 : decode cJ6_bitCount_0f7a4 9 = .ok (.istore_n 0, 1) := by decide +kernel
theorem dJ6_bitCount_0f7a4_10 : decode cJ6_bitCount_0f7a4 10 = .ok (.iload_n 0, 1) := by decide +kernel
theorem dJ6_bitCount_0f7a4_11 : decode cJ6_bitCount_0f7a4 11 = .ok (.ldc_w 266, 3) := by decide +kernel
theorem dJ6_bitCount_0f7a4_14 : decode cJ6_bitCount_0f7a4 14 = .ok (.iand, 1) := by decide +kernel
theorem dJ6_bitCount_0f7a4_15 : decode cJ6_bitCount_0f7a4 15 = .ok (.iload_n 0, 1) := by decide +kernel
theorem dJ6_bitCount_0f7a4_16 : decode cJ6_bitCount_0f7a4 16 = .ok (.iconst 2, 1) := by decide +kernel
theorem dJ6_bitCount_0f7a4_17 : decode cJ6_bitCount_0f7a4 17 = .ok (.iushr, 1) := by decide +kernel
theorem dJ6_bitCount_0f7a4_18 : decode cJ6_bitCount_0f7a4 18 = .ok (.ldc_w 266, 3) := by decide +kernel
theorem dJ6_bitCount_0f7a4_21 : decode cJ6_bitCount_0f7a4 21 = .ok (.iand, 1) := by decide +kernel
theorem dJ6_bitCount_0f7a4_22 : decode cJ6_bitCount_0f7a4 22 = .ok (.iadd, 1) := by decide +kernel
theorem dJ6_bitCount_0f7a4_23 : decode cJ6_bitCount_0f7a4 23 = .ok (.istore_n 0, 1) := by decide +kernel
theorem dJ6_bitCount_0f7a4_24 : decode cJ6_bitCount_0f7a4 24 = .ok (.iload_n 0, 1) := by decide +kernel
theorem dJ6_bitCount_0f7a4_25 : decode cJ6_bitCount_0f7a4 25 = .ok (.iload_n 0, 1) := by decide +kernel
theorem dJ6_bitCount_0f7a4_26 : decode cJ6_bitCount_0f7a4 26 = .ok (.iconst 4, 1) := by decide +kernel
theorem dJ6_bitCount_0f7a4_27 : decode cJ6_bitCount_0f7a4 27 = .ok (.iushr, 1) := by decide +kernel
theorem dJ6_bitCount_0f7a4_28 : decode cJ6_bitCount_0f7a4 28 = .ok (.iadd, 1) := by decide +kernel
theorem dJ6_bitCount_0f7a4_29 : decode cJ6_bitCount_0f7a4 29 = .ok (.ldc_w 267, 3) := by decide +kernel
theorem dJ6_bitCount_0f7a4_32 : decode cJ6_bitCount_0f7a4 32 = .ok (.iand, 1) := by decide +kernel
theorem dJ6_bitCount_0f7a4_33 : decode cJ6_bitCount_0f7a4 33 = .ok (.istore_n 0, 1) := by decide +kernel
theorem dJ6_bitCount_0f7a4_34 : decode cJ6_bitCount_0f7a4 34 = .ok (.iload_n 0, 1) := by decide +kernel
theorem dJ6_bitCount_0f7a4_35 : decode cJ6_bitCount_0f7a4 35 = .ok (.iload_n 0, 1) := by decide +kernel
theorem dJ6_bitCount_0f7a4_36 : decode cJ6_bitCount_0f7a4 36 = .ok (.bipush 8, 2) := by decide +kernel
theorem dJ6_bitCount_0f7a4_38 : decode cJ6_bitCount_0f7a4 38 = .ok (.iushr, 1) := by decide +kernel
theorem dJ6_bitCount_0f7a4_39 : decode cJ6_bitCount_0f7a4 39 = .ok (.iadd, 1) := by decide +kernel
theorem dJ6_bitCount_0f7a4_40 : decode cJ6_bitCount_0f7a4 40 = .ok (.istore_n 0, 1) := by decide +kernel
theorem dJ6_bitCount_0f7a4_41 : decode cJ6_bitCount_0f7a4 41 = .ok (.iload_n 0, 1) := by decide +kernel
theorem dJ6_bitCount_0f7a4_42 : decode cJ6_bitCount_0f7a4 42 = .ok (.iload_n 0, 1) := by decide +kernel
theorem dJ6_bitCount_0f7a4_43 : decode cJ6_bitCount_0f7a4 43 = .ok (.bipush 16, 2) := by decide +kernel
theorem dJ6_bitCount_0f7a4_45 : decode cJ6_bitCount_0f7a4 45 = .ok (.iushr, 1) := by decide +kernel
theorem dJ6_bitCount_0f7a4_46 : decode cJ6_bitCount_0f7a4 46 = .ok (.iadd, 1) := by decide +kernel
theorem dJ6_bitCount_0f7a4_47 : decode cJ6_bitCount_0f7a4 47 = .ok (.istore_n 0, 1) := by decide +kernel
theorem dJ6_bitCount_0f7a4_48 : decode cJ6_bitCount_0f7a4 48 = .ok (.iload_n 0, 1) := by decide +kernel
theorem dJ6_bitCount_0f7a4_49 : decode cJ6_bitCount_0f7a4 49 = .ok (.bipush 63, 2) := by decide +kernel
theorem dJ6_bitCount_0f7a4_51 : decode cJ6_bitCount_0f7a4 51 = .ok (.iand, 1) := by decide +kernel
theorem dJ6_bitCount_0f7a4_52 : decode cJ6_bitCount_0f7a4 52 = .ok (.ireturn, 1) := by decide +kernel
theorem dJ9_floorDiv_7cf53_0 : decode cJ9_floorDiv_7cf53 0 = .ok (.iload_n 0, 1) := by decide +kernel
theorem dJ9_floorDiv_7cf53_1 : decode cJ9_floorDiv_7cf53 1 = .ok (.iload_n 1, 1) := by decide +kernel
theorem dJ9_floorDiv_7cf53_2 : decode cJ9_floorDiv_7cf53 2 = .ok (.idiv, 1) := by decide +kernel
theorem dJ9_floorDiv_7cf53_3 : decode cJ9_floorDiv_7cf53 3 = .ok (.istore_n 2, 1) := by decide +kernel
theorem dJ9_floorDiv_7cf53_4 : decode cJ9_floorDiv_7cf53 4 = .ok (.iload_n 0, 1) := by decide +kernel
theorem dJ9_floorDiv_7cf53_5 : decode cJ9_floorDiv_7cf53 5 = .ok (.iload_n 1, 1) := by decide +kernel
theorem dJ9_floorDiv_7cf53_6 : decode cJ9_floorDiv_7cf53 6 = .ok (.ixor, 1) := by decide +kernel
theorem dJ9_floorDiv_7cf53_7 : decode cJ9_floorDiv_7cf53 7 = .ok (.ifCond .ge 14, 3) := by decide +kernel
theorem dJ9_floorDiv_7cf53_10 : decode cJ9_floorDiv_7cf53 10 = .ok (.iload_n 2, 1) := by decide +kernel
theorem dJ9_floorDiv_7cf53_11 : decode cJ9_floorDiv_7cf53 11 = .ok (.iload_n 1, 1) := by decide +kernel
theorem dJ9_floorDiv_7cf53_12 : decode cJ9_floorDiv_7cf53 12 = .ok (.imul, 1) := by decide +kernel
theorem dJ9_floorDiv_7cf53_13 : decode cJ9_floorDiv_7cf53 13 = .ok (.iload_n 0, 1) := by decide +kernel
theorem dJ9_floorDiv_7cf53_14 : decode cJ9_floorDiv_7cf53 14 = .ok (.if_icmp .eq 7, 3) := by decide +kernel
theorem dJ9_floorDiv_7cf53_17 : decode cJ9_floorDiv_7cf53 17 = .ok (.iload_n 2, 1) := by decide +kernel
theorem dJ9_floorDiv_7cf53_18 : decode cJ9_floorDiv_7cf53 18 = .ok (.iconst 1, 1) := by decide +kernel
theorem dJ9_floorDiv_7cf53_19 : decode cJ9_floorDiv_7cf53 19 = .ok (.isub, 1) := by decide +kernel
theorem dJ9_floorDiv_7cf53_20 : decode cJ9_floorDiv_7cf53 20 = .ok (.ireturn, 1) := by decide +kernel
theorem dJ9_floorDiv_7cf53_21 : decode cJ9_floorDiv_7cf53 21 = .ok (.iload_n 2, 1) := by decide +kernel
theorem dJ9_floorDiv_7cf53_22 : decode cJ9_floorDiv_7cf53 22 = .ok (.ireturn, 1) := by decide +kernel
theorem dJ9_floorMod_7cf53_0 : decode cJ9_floorMod_7cf53 0 = .ok (.iload_n 0, 1) := by decide +kernel
theorem dJ9_floorMod_7cf53_1 : decode cJ9_floorMod_7cf53 1 = .ok (.iload_n 1, 1) := by decide +kernel
theorem dJ9_floorMod_7cf53_2 : decode cJ9_floorMod_7cf53 2 = .ok (.irem, 1) := by decide +kernel
theorem dJ9_floorMod_7cf53_3 : decode cJ9_floorMod_7cf53 3 = .ok (.istore_n 2, 1) := by decide +kernel
theorem dJ9_floorMod_7cf53_4 : decode cJ9_floorMod_7cf53 4 = .ok (.iload_n 0, 1) := by decide +kernel
theorem dJ9_floorMod_7cf53_5 : decode cJ9_floorMod_7cf53 5 = .ok (.iload_n 1, 1) := by decide +kernel
theorem dJ9_floorMod_7cf53_6 : decode cJ9_floorMod_7cf53 6 = .ok (.ixor, 1) := by decide +kernel
theorem dJ9_floorMod_7cf53_7 : decode cJ9_floorMod_7cf53 7 = .ok (.ifCond .ge 11, 3) := by decide +kernel
theorem dJ9_floorMod_7cf53_10 : decode cJ9_floorMod_7cf53 10 = .ok (.iload_n 2, 1) := by decide +kernel
theorem dJ9_floorMod_7cf53_11 : decode cJ9_floorMod_7cf53 11 = .ok (.ifCond .eq 7, 3) := by decide +kernel
theorem dJ9_floorMod_7cf53_14 : decode cJ9_floorMod_7cf53 14 = .ok (.iload_n 2, 1) := by decide +kernel
theorem dJ9_floorMod_7cf53_15 : decode cJ9_floorMod_7cf53 15 = .ok (.iload_n 1, 1) := by decide +kernel
theorem dJ9_floorMod_7cf53_16 : decode cJ9_floorMod_7cf53 16 = .ok (.iadd, 1) := by decide +kernel
theorem dJ9_floorMod_7cf53_17 : decode cJ9_floorMod_7cf53 17 = .ok (.ireturn, 1) := by decide +kernel
theorem dJ9_floorMod_7cf53_18 : decode cJ9_floorMod_7cf53 18 = .ok (.iload_n 2, 1) := by decide +kernel
theorem dJ9_floorMod_7cf53_19 : decode cJ9_floorMod_7cf53 19 = .ok (.ireturn, 1) := by decide +kernel
theorem dJ9_max_7cf53_0 : decode cJ9_max_7cf53 0 = .ok (.iload_n 0, 1) := by decide +kernel
theorem dJ9_max_7cf53_1 : decode cJ9_max_7cf53 1 = .ok (.iload_n 1, 1) := by decide +kernel
theorem dJ9_max_7cf53_2 : decode cJ9_max_7cf53 2 = .ok (.if_icmp .lt 7, 3) := by decide +kernel
theorem dJ9_max_7cf53_5 : decode cJ9_max_7cf53 5 = .ok (.iload_n 0, 1) := by decide +kernel
theorem dJ9_max_7cf53_6 : decode cJ9_max_7cf53 6 = .ok (.goto 4, 3) := by decide +kernel
theorem dJ9_max_7cf53_9 : decode cJ9_max_7cf53 9 = .ok (.iload_n 1, 1) := by decide +kernel
theorem dJ9_max_7cf53_10 : decode cJ9_max_7cf53 10 = .ok (.ireturn, 1) := by decide +kernel
theorem dJ9_min_7cf53_0 : decode cJ9_min_7cf53 0 = .ok (.iload_n 0, 1) := by decide +kernel
theorem dJ9_min_7cf53_1 : decode cJ9_min_7cf53 1 = .ok (.iload_n 1, 1) := by decide +kernel
theorem dJ9_min_7cf53_2 : decode cJ9_min_7cf53 2 = .ok (.if_icmp .gt 7, 3) := by decide +kernel
theorem dJ9_min_7cf53_5 : decode cJ9_min_7cf53 5 = .ok (.iload_n 0, 1) := by decide +kernel
theorem dJ9_min_7cf53_6 : decode cJ9_min_7cf53 6 = .ok (.goto 4, 3) := by decide +kernel
theorem dJ9_min_7cf53_9 : decode cJ9_min_7cf53 9 = .ok (.iload_n 1, 1) := by decide +kernel
theorem dJ9_min_7cf53_10 : decode cJ9_min_7cf53 10 = .ok (.ireturn, 1) := by decide +kernel
