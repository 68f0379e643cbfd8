set_option maxRecDepth 20000 in
theorem ggX0_init_X1_init : GoodIn wsX0_init wsX1_init := goodIn_r _ [10, 11, 2, 3, 12, 13, 14, 15, 16, 17, 7, 18, 19, 20, 21, 22, 23, 24, 25, 26, 27, 28, 29, 30, 31, 32, 33, 34, 35, 36, 37, 38, 39, 40, 44, 45, 46, 47] (by decide +kernel) (by decide +kernel)
set_option maxRecDepth 20000 in
theorem gX0_init_X1_init : GoodIn wsX0_init (wsX1_init) := ggX0_init_X1_init
theorem dX0_init_0 : decode cX0_init 0 = .ok (.aload_n 0, 1) := by decide +kernel
theorem dX0_init_1 : decode cX0_init 1 = .ok (.invokespecial 1, 3) := by decide +kernel
theorem dX0_init_4 : decode cX0_init 4 = .ok (.aload_n 0, 1) := by decide +kernel
theorem dX0_init_5 : decode cX0_init 5 = .ok (.bipush 14, 2) := by decide +kernel
theorem dX0_init_7 : decode cX0_init 7 = .ok (.anewarray 9, 3) := by decide +kernel
theorem dX0_init_10 : decode cX0_init 10 = .ok (.putfield 11, 3) := by decide +kernel
theorem dX0_init_13 : decode cX0_init 13 = .ok (.iconst 0, 1) := by decide +kernel
theorem dX0_init_14 : decode cX0_init 14 = .ok (.istore_n 1, 1) := by decide +kernel
theorem dX0_init_15 : decode cX0_init 15 = .ok (.iload_n 1, 1) := by decide +kernel
theorem dX0_init_16 : decode cX0_init 16 = .ok (.bipush 14, 2) := by decide +kernel
theorem dX0_init_18 : decode cX0_init 18 = .ok (.if_icmp .ge 22, 3) := by decide +kernel
theorem dX0_init_21 : decode cX0_init 21 = .ok (.aload_n 0, 1) := by decide +kernel
theorem dX0_init_22 : decode cX0_init 22 = .ok (.getfield 11, 3) := by decide +kernel
theorem dX0_init_25 : decode cX0_init 25 = .ok (.iload_n 1, 1) := by decide +kernel
theorem dX0_init_26 : decode cX0_init 26 = .ok (.new 9, 3) := by decide +kernel
theorem dX0_init_29 : decode cX0_init 29 = .ok (.dup, 1) := by decide +kernel
theorem dX0_init_30 : decode cX0_init 30 = .ok (.invokespecial 15, 3) := by decide +kernel
theorem dX0_init_33 : decode cX0_init 33 = .ok (.aastore, 1) := by decide +kernel
theorem dX0_init_34 : decode cX0_init 34 = .ok (.iinc 1 1, 3) := by decide +kernel
theorem dX0_init_37 : decode cX0_init 37 = .ok (.goto (-22), 3) := by decide +kernel
theorem dX0_init_40 : decode cX0_init 40 = .ok (.return_, 1) := by decide +kernel
theorem dX0_isEmpty_0 : decode cX0_isEmpty 0 = .ok (.aload_n 0, 1) := by decide +kernel
theorem dX0_isEmpty_1 : decode cX0_isEmpty 1 = .ok (.getfield 16, 3) := by decide +kernel
theorem dX0_isEmpty_4 : decode cX0_isEmpty 4 = .ok (.ifCond .ne 7, 3) := by decide +kernel
theorem dX0_isEmpty_7 : decode cX0_isEmpty 7 = .ok (.iconst 1, 1) := by decide +kernel
theorem dX0_isEmpty_8 : decode cX0_isEmpty 8 = .ok (.goto 4, 3) := by decide +kernel
theorem dX0_isEmpty_11 : decode cX0_isEmpty 11 = .ok (.iconst 0, 1) := by decide +kernel
theorem dX0_isEmpty_12 : decode cX0_isEmpty 12 = .ok (.ireturn, 1) := by decide +kernel
theorem dX0_count_0 : decode cX0_count 0 = .ok (.aload_n 0, 1) := by decide +kernel
theorem dX0_count_1 : decode cX0_count 1 = .ok (.getfield 16, 3) := by decide +kernel
theorem dX0_count_4 : decode cX0_count 4 = .ok (.ireturn, 1) := by decide +kernel
set_option maxRecDepth 20000 in
theorem ggX0_remember_J9_floorMod_7cf53 : GoodIn wsX0_remember wsJ9_floorMod_7cf53 := goodIn_r _ [11] (by decide +kernel) (by decide +kernel)
set_option maxRecDepth 20000 in
theorem gX0_remember_J9_floorMod_7cf53 : GoodIn wsX0_remember (va_wsS RX0 23 yJ9_floorMod_7cf53 wsJ9_floorMod_7cf53) := goodIn_app (goodIn_of _ (by decide +kernel)) ggX0_remember_J9_floorMod_7cf53
set_option maxRecDepth 20000 in
theorem ggX0_remember_X1_copyFrom : GoodIn wsX0_remember wsX1_copyFrom := goodIn_r _ [16, 17, 18, 19, 20, 21, 22, 23, 24, 28, 29, 30, 31] (by decide +kernel) (by decide +kernel)
set_option maxRecDepth 20000 in
theorem gX0_remember_X1_copyFrom : GoodIn wsX0_remember (wsV RX0 29 RX1 yX1_copyFrom wsX1_copyFrom) := goodIn_app (goodIn_of _ (by decide +kernel)) ggX0_remember_X1_copyFrom
theorem dX0_remember_0 : decode cX0_remember 0 = .ok (.aload_n 0, 1) := by decide +kernel
theorem dX0_remember_1 : decode cX0_remember 1 = .ok (.getfield 11, 3) := by decide +kernel
theorem dX0_remember_4 : decode cX0_remember 4 = .ok (.aload_n 0, 1) := by decide +kernel
theorem dX0_remember_5 : decode cX0_remember 5 = .ok (.getfield 20, 3) := by decide +kernel
theorem dX0_remember_8 : decode cX0_remember 8 = .ok (.bipush 14, 2) := by decide +kernel
theorem dX0_remember_10 : decode cX0_remember 10 = .ok (.invokestatic 23, 3) := by decide +kernel
theorem dX0_remember_13 : decode cX0_remember 13 = .ok (.aaload, 1) := by decide +kernel
theorem dX0_remember_14 : decode cX0_remember 14 = .ok (.aload_n 1, 1) := by decide +kernel
theorem dX0_remember_15 : decode cX0_remember 15 = .ok (.invokevirtual 29, 3) := by decide +kernel
theorem dX0_remember_18 : decode cX0_remember 18 = .ok (.aload_n 0, 1) := by decide +kernel
theorem dX0_remember_19 : decode cX0_remember 19 = .ok (.aload_n 0, 1) := by decide +kernel
theorem dX0_remember_20 : decode cX0_remember 20 = .ok (.getfield 20, 3) := by decide +kernel
theorem dX0_remember_23 : decode cX0_remember 23 = .ok (.iconst 1, 1) := by decide +kernel
theorem dX0_remember_24 : decode cX0_remember 24 = .ok (.iadd, 1) := by decide +kernel
theorem dX0_remember_25 : decode cX0_remember 25 = .ok (.bipush 14, 2) := by decide +kernel
theorem dX0_remember_27 : decode cX0_remember 27 = .ok (.invokestatic 23, 3) := by decide +kernel
theorem dX0_remember_30 : decode cX0_remember 30 = .ok (.putfield 20, 3) := by decide +kernel
theorem dX0_remember_33 : decode cX0_remember 33 = .ok (.aload_n 0, 1) := by decide +kernel
theorem dX0_remember_34 : decode cX0_remember 34 = .ok (.aload_n 0, 1) := by decide +kernel
theorem dX0_remember_35 : decode cX0_remember 35 = .ok (.getfield 16, 3) := by decide +kernel
theorem dX0_remember_38 : decode cX0_remember 38 = .ok (.iconst 1, 1) := by decide +kernel
theorem dX0_remember_39 : decode cX0_remember 39 = .ok (.iadd, 1) := by decide +kernel
theorem dX0_remember_40 : decode cX0_remember 40 = .ok (.bipush 14, 2) := by decide +kernel
theorem dX0_remember_42 : decode cX0_remember 42 = .ok (.invokestatic 33, 3) := by decide +kernel
theorem dX0_remember_45 : decode cX0_remember 45 = .ok (.putfield 16, 3) := by decide +kernel
theorem dX0_remember_48 : decode cX0_remember 48 = .ok (.return_, 1) := by decide +kernel
set_option maxRecDepth 20000 in
theorem ggX0_takeBack_J9_floorMod_7cf53 : GoodIn wsX0_takeBack wsJ9_floorMod_7cf53 := goodIn_r _ [7] (by decide +kernel) (by decide +kernel)
set_option maxRecDepth 20000 in
theorem gX0_takeBack_J9_floorMod_7cf53 : GoodIn wsX0_takeBack (va_wsS RX0 23 yJ9_floorMod_7cf53 wsJ9_floorMod_7cf53) := goodIn_app (goodIn_of _ (by decide +kernel)) ggX0_takeBack_J9_floorMod_7cf53
set_option maxRecDepth 20000 in
theorem ggX0_takeBack_X1_copyFrom : GoodIn wsX0_takeBack wsX1_copyFrom := goodIn_r _ [12, 13, 14, 15, 16, 17, 18, 19, 20, 24, 25, 26, 27] (by decide +kernel) (by decide +kernel)
set_option maxRecDepth 20000 in
theorem gX0_takeBack_X1_copyFrom : GoodIn wsX0_takeBack (wsV RX0 29 RX1 yX1_copyFrom wsX1_copyFrom) := goodIn_app (goodIn_of _ (by decide +kernel)) ggX0_takeBack_X1_copyFrom
theorem dX0_takeBack_0 : decode cX0_takeBack 0 = .ok (.aload_n 0, 1) := by decide +kernel
theorem dX0_takeBack_1 : decode cX0_takeBack 1 = .ok (.aload_n 0, 1) := by decide +kernel
theorem dX0_takeBack_2 : decode cX0_takeBack 2 = .ok (.getfield 20, 3) := by decide +kernel
theorem dX0_takeBack_5 : decode cX0_takeBack 5 = .ok (.iconst 1, 1) := by decide +kernel
theorem dX0_takeBack_6 : decode cX0_takeBack 6 = .ok (.isub, 1) := by decide +kernel
theorem dX0_takeBack_7 : decode cX0_takeBack 7 = .ok (.bipush 14, 2) := by decide +kernel
theorem dX0_takeBack_9 : decode cX0_takeBack 9 = .ok (.invokestatic 23, 3) := by decide +kernel
theorem dX0_takeBack_12 : decode cX0_takeBack 12 = .ok (.putfield 20, 3) := by decide +kernel
theorem dX0_takeBack_15 : decode cX0_takeBack 15 = .ok (.aload_n 1, 1) := by decide +kernel
theorem dX0_takeBack_16 : decode cX0_takeBack 16 = .ok (.aload_n 0, 1) := by decide +kernel
theorem dX0_takeBack_17 : decode cX0_takeBack 17 = .ok (.getfield 11, 3) := by decide +kernel
theorem dX0_takeBack_20 : decode cX0_takeBack 20 = .ok (.aload_n 0, 1) := by decide +kernel
theorem dX0_takeBack_21 : decode cX0_takeBack 21 = .ok (.getfield 20, 3) := by decide +kernel
theorem dX0_takeBack_24 : decode cX0_takeBack 24 = .ok (.aaload, 1) := by decide +kernel
theorem dX0_takeBack_25 : decode cX0_takeBack 25 = .ok (.invokevirtual 29, 3) := by decide +kernel
theorem dX0_takeBack_28 : decode cX0_takeBack 28 = .ok (.aload_n 0, 1) := by decide +kernel
theorem dX0_takeBack_29 : decode cX0_takeBack 29 = .ok (.dup, 1) := by decide +kernel
theorem dX0_takeBack_30 : decode cX0_takeBack 30 = .ok (.getfield 16, 3) := by decide +kernel
theorem dX0_takeBack_33 : decode cX0_takeBack 33 = .ok (.iconst 1, 1) := by decide +kernel
theorem dX0_takeBack_34 : decode cX0_takeBack 34 = .ok (.isub, 1) := by decide +kernel
theorem dX0_takeBack_35 : decode cX0_takeBack 35 = .ok (.putfield 16, 3) := by decide +kernel
theorem dX0_takeBack_38 : decode cX0_takeBack 38 = .ok (.return_, 1) := by decide +kernel
theorem dX0_forget_0 : decode cX0_forget 0 = .ok (.aload_n 0, 1) := by decide +kernel
theorem dX0_forget_1 : decode cX0_forget 1 = .ok (.iconst 0, 1) := by decide +kernel
theorem dX0_forget_2 : decode cX0_forget 2 = .ok (.putfield 16, 3) := by decide +kernel
theorem dX0_forget_5 : decode cX0_forget 5 = .ok (.return_, 1) := by decide +kernel
set_option maxRecDepth 20000 in
theorem ggX1_init_X1_furnish : GoodIn wsX1_init wsX1_furnish := goodIn_r _ [11, 12, 13, 14, 10, 15, 5, 34, 35, 36, 37] (by decide +kernel) (by decide +kernel)
set_option maxRecDepth 20000 in
theorem gX1_init_X1_furnish : GoodIn wsX1_init (wsV RX1 19 RX1 yX1_furnish wsX1_furnish) := goodIn_app (goodIn_of _ (by decide +kernel)) ggX1_init_X1_furnish
set_option maxRecDepth 20000 in
theorem ggX1_init_X1_renumber : GoodIn wsX1_init wsX1_renumber := goodIn_r _ [19, 20, 6, 12, 13, 14, 10, 15, 5, 21, 22, 23, 24, 25, 26, 27, 28, 29, 30, 31, 32, 33, 34, 35, 36, 37] (by decide +kernel) (by decide +kernel)
set_option maxRecDepth 20000 in
theorem gX1_init_X1_renumber : GoodIn wsX1_init (wsV RX1 23 RX1 yX1_renumber wsX1_renumber) := goodIn_app (goodIn_of _ (by decide +kernel)) ggX1_init_X1_renumber
theorem dX1_init_0 : decode cX1_init 0 = .ok (.aload_n 0, 1) := by decide +kernel
theorem dX1_init_1 : decode cX1_init 1 = .ok (.invokespecial 5, 3) := by decide +kernel
theorem dX1_init_4 : decode cX1_init 4 = .ok (.aload_n 0, 1) := by decide +kernel
theorem dX1_init_5 : decode cX1_init 5 = .ok (.sipush 144, 3) := by decide +kernel
theorem dX1_init_8 : decode cX1_init 8 = .ok (.newarray .int, 2) := by decide +kernel
theorem dX1_init_10 : decode cX1_init 10 = .ok (.putfield 11, 3) := by decide +kernel
theorem dX1_init_13 : decode cX1_init 13 = .ok (.aload_n 0, 1) := by decide +kernel
theorem dX1_init_14 : decode cX1_init 14 = .ok (.iconst 1, 1) := by decide +kernel
theorem dX1_init_15 : decode cX1_init 15 = .ok (.putfield 15, 3) := by decide +kernel
theorem dX1_init_18 : decode cX1_init 18 = .ok (.aload_n 0, 1) := by decide +kernel
theorem dX1_init_19 : decode cX1_init 19 = .ok (.iconst 0, 1) := by decide +kernel
theorem dX1_init_20 : decode cX1_init 20 = .ok (.iconst 0, 1) := by decide +kernel
theorem dX1_init_21 : decode cX1_init 21 = .ok (.invokevirtual 19, 3) := by decide +kernel
theorem dX1_init_24 : decode cX1_init 24 = .ok (.aload_n 0, 1) := by decide +kernel
theorem dX1_init_25 : decode cX1_init 25 = .ok (.invokevirtual 23, 3) := by decide +kernel
theorem dX1_init_28 : decode cX1_init 28 = .ok (.return_, 1) := by decide +kernel
theorem dX1_copyFrom_0 : decode cX1_copyFrom 0 = .ok (.aload_n 1, 1) := by decide +kernel
theorem dX1_copyFrom_1 : decode cX1_copyFrom 1 = .ok (.getfield 11, 3) := by decide +kernel
theorem dX1_copyFrom_4 : decode cX1_copyFrom 4 = .ok (.iconst 0, 1) := by decide +kernel
theorem dX1_copyFrom_5 : decode cX1_copyFrom 5 = .ok (.aload_n 0, 1) := by decide +kernel
theorem dX1_copyFrom_6 : decode cX1_copyFrom 6 = .ok (.getfield 11, 3) := by decide +kernel
theorem dX1_copyFrom_9 : decode cX1_copyFrom 9 = .ok (.iconst 0, 1) := by decide +kernel
theorem dX1_copyFrom_10 : decode cX1_copyFrom 10 = .ok (.sipush 144, 3) := by decide +kernel
theorem dX1_copyFrom_13 : decode cX1_copyFrom 13 = .ok (.invokestatic 26, 3) := by decide +kernel
theorem dX1_copyFrom_16 : decode cX1_copyFrom 16 = .ok (.aload_n 0, 1) := by decide +kernel
theorem dX1_copyFrom_17 : decode cX1_copyFrom 17 = .ok (.aload_n 1, 1) := by decide +kernel
theorem dX1_copyFrom_18 : decode cX1_copyFrom 18 = .ok (.getfield 15, 3) := by decide +kernel
theorem dX1_copyFrom_21 : decode cX1_copyFrom 21 = .ok (.putfield 15, 3) := by decide +kernel
theorem dX1_copyFrom_24 : decode cX1_copyFrom 24 = .ok (.aload_n 0, 1) := by decide +kernel
theorem dX1_copyFrom_25 : decode cX1_copyFrom 25 = .ok (.aload_n 1, 1) := by decide +kernel
theorem dX1_copyFrom_26 : decode cX1_copyFrom 26 = .ok (.getfield 32, 3) := by decide +kernel
theorem dX1_copyFrom_29 : decode cX1_copyFrom 29 = .ok (.putfield 32, 3) := by decide +kernel
theorem dX1_copyFrom_32 : decode cX1_copyFrom 32 = .ok (.aload_n 0, 1) := by decide +kernel
theorem dX1_copyFrom_33 : decode cX1_copyFrom 33 = .ok (.aload_n 1, 1) := by decide +kernel
theorem dX1_copyFrom_34 : decode cX1_copyFrom 34 = .ok (.getfield 35, 3) := by decide +kernel
theorem dX1_copyFrom_37 : decode cX1_copyFrom 37 = .ok (.putfield 35, 3) := by decide +kernel
theorem dX1_copyFrom_40 : decode cX1_copyFrom 40 = .ok (.return_, 1) := by decide +kernel
set_option maxRecDepth 20000 in
theorem ggX1_rebuild_X2_letters : GoodIn wsX1_rebuild wsX2_letters := goodIn_r _ [8, 9, 10, 11, 12, 7, 13, 14, 15, 16, 17, 18, 62, 63] (by decide +kernel) (by decide +kernel)
set_option maxRecDepth 20000 in
theorem gX1_rebuild_X2_letters : GoodIn wsX1_rebuild (wsV RX1 38 RX2 yX2_letters wsX2_letters) := goodIn_app (goodIn_of _ (by decide +kernel)) ggX1_rebuild_X2_letters
set_option maxRecDepth 20000 in
theorem ggX1_rebuild_X2_groundLetter : GoodIn wsX1_rebuild wsX2_groundLetter := goodIn_r _ [22, 23, 5, 6, 7, 8, 9, 10, 11, 12, 13, 14, 15, 16, 17, 18, 62, 63] (by decide +kernel) (by decide +kernel)
set_option maxRecDepth 20000 in
theorem gX1_rebuild_X2_groundLetter : GoodIn wsX1_rebuild (wsV RX1 44 RX2 yX2_groundLetter wsX2_groundLetter) := goodIn_app (goodIn_of _ (by decide +kernel)) ggX1_rebuild_X2_groundLetter
set_option maxRecDepth 20000 in
theorem ggX1_rebuild_X2_storeys : GoodIn wsX1_rebuild wsX2_storeys := goodIn_r _ [27, 9, 23, 5, 6, 7, 8, 10, 11, 12, 13, 14, 15, 16, 17, 18, 62, 63] (by decide +kernel) (by decide +kernel)
set_option maxRecDepth 20000 in
theorem gX1_rebuild_X2_storeys : GoodIn wsX1_rebuild (wsV RX1 47 RX2 yX2_storeys wsX2_storeys) := goodIn_app (goodIn_of _ (by decide +kernel)) ggX1_rebuild_X2_storeys
set_option maxRecDepth 20000 in
theorem ggX1_rebuild_X2_kindTold : GoodIn wsX1_rebuild wsX2_kindTold := goodIn_r _ [31, 14, 15, 16, 7, 17, 9, 18, 62, 63] (by decide +kernel) (by decide +kernel)
set_option maxRecDepth 20000 in
theorem gX1_rebuild_X2_kindTold : GoodIn wsX1_rebuild (wsV RX1 50 RX2 yX2_kindTold wsX2_kindTold) := goodIn_app (goodIn_of _ (by decide +kernel)) ggX1_rebuild_X2_kindTold
set_option maxRecDepth 20000 in
theorem ggX1_rebuild_X1_furnish : GoodIn wsX1_rebuild wsX1_furnish := goodIn_r _ [36, 37, 38, 39, 35, 40, 41, 58, 59, 60, 61] (by decide +kernel) (by decide +kernel)
set_option maxRecDepth 20000 in
theorem gX1_rebuild_X1_furnish : GoodIn wsX1_rebuild (wsV RX1 19 RX1 yX1_furnish wsX1_furnish) := goodIn_app (goodIn_of _ (by decide +kernel)) ggX1_rebuild_X1_furnish
set_option maxRecDepth 20000 in
theorem ggX1_rebuild_X1_renumber : GoodIn wsX1_rebuild wsX1_renumber := goodIn_r _ [45, 2, 1, 37, 38, 39, 35, 40, 41, 46, 47, 48, 49, 50, 51, 52, 53, 3, 54, 55, 56, 57, 58, 59, 60, 61] (by decide +kernel) (by decide +kernel)
set_option maxRecDepth 20000 in
theorem gX1_rebuild_X1_renumber : GoodIn wsX1_rebuild (wsV RX1 23 RX1 yX1_renumber wsX1_renumber) := goodIn_app (goodIn_of _ (by decide +kernel)) ggX1_rebuild_X1_renumber
theorem dX1_rebuild_0 : decode cX1_rebuild 0 = .ok (.aload_n 0, 1) := by decide +kernel
theorem dX1_rebuild_1 : decode cX1_rebuild 1 = .ok (.aload_n 1, 1) := by decide +kernel
theorem dX1_rebuild_2 : decode cX1_rebuild 2 = .ok (.invokevirtual 38, 3) := by decide +kernel
theorem dX1_rebuild_5 : decode cX1_rebuild 5 = .ok (.putfield 15, 3) := by decide +kernel
theorem dX1_rebuild_8 : decode cX1_rebuild 8 = .ok (.aload_n 0, 1) := by decide +kernel
theorem dX1_rebuild_9 : decode cX1_rebuild 9 = .ok (.aload_n 1, 1) := by decide +kernel
theorem dX1_rebuild_10 : decode cX1_rebuild 10 = .ok (.invokevirtual 44, 3) := by decide +kernel
theorem dX1_rebuild_13 : decode cX1_rebuild 13 = .ok (.putfield 32, 3) := by decide +kernel
theorem dX1_rebuild_16 : decode cX1_rebuild 16 = .ok (.aload_n 0, 1) := by decide +kernel
theorem dX1_rebuild_17 : decode cX1_rebuild 17 = .ok (.aload_n 1, 1) := by decide +kernel
theorem dX1_rebuild_18 : decode cX1_rebuild 18 = .ok (.invokevirtual 47, 3) := by decide +kernel
theorem dX1_rebuild_21 : decode cX1_rebuild 21 = .ok (.putfield 35, 3) := by decide +kernel
theorem dX1_rebuild_24 : decode cX1_rebuild 24 = .ok (.iconst 0, 1) := by decide +kernel
theorem dX1_rebuild_25 : decode cX1_rebuild 25 = .ok (.istore_n 2, 1) := by decide +kernel
theorem dX1_rebuild_26 : decode cX1_rebuild 26 = .ok (.iload_n 2, 1) := by decide +kernel
theorem dX1_rebuild_27 : decode cX1_rebuild 27 = .ok (.aload_n 0, 1) := by decide +kernel
theorem dX1_rebuild_28 : decode cX1_rebuild 28 = .ok (.getfield 15, 3) := by decide +kernel
theorem dX1_rebuild_31 : decode cX1_rebuild 31 = .ok (.if_icmp .ge 19, 3) := by decide +kernel
theorem dX1_rebuild_34 : decode cX1_rebuild 34 = .ok (.aload_n 0, 1) := by decide +kernel
theorem dX1_rebuild_35 : decode cX1_rebuild 35 = .ok (.iload_n 2, 1) := by decide +kernel
theorem dX1_rebuild_36 : decode cX1_rebuild 36 = .ok (.aload_n 1, 1) := by decide +kernel
theorem dX1_rebuild_37 : decode cX1_rebuild 37 = .ok (.iload_n 2, 1) := by decide +kernel
theorem dX1_rebuild_38 : decode cX1_rebuild 38 = .ok (.invokevirtual 50, 3) := by decide +kernel
theorem dX1_rebuild_41 : decode cX1_rebuild 41 = .ok (.invokevirtual 19, 3) := by decide +kernel
theorem dX1_rebuild_44 : decode cX1_rebuild 44 = .ok (.iinc 2 1, 3) := by decide +kernel
theorem dX1_rebuild_47 : decode cX1_rebuild 47 = .ok (.goto (-21), 3) := by decide +kernel
theorem dX1_rebuild_50 : decode cX1_rebuild 50 = .ok (.aload_n 0, 1) := by decide +kernel
theorem dX1_rebuild_51 : decode cX1_rebuild 51 = .ok (.invokevirtual 23, 3) := by decide +kernel
theorem dX1_rebuild_54 : decode cX1_rebuild 54 = .ok (.return_, 1) := by decide +kernel
theorem dX1_levels_0 : decode cX1_levels 0 = .ok (.aload_n 0, 1) := by decide +kernel
theorem dX1_levels_1 : decode cX1_levels 1 = .ok (.getfield 15, 3) := by decide +kernel
theorem dX1_levels_4 : decode cX1_levels 4 = .ok (.ireturn, 1) := by decide +kernel
theorem dX1_groundLevel_0 : decode cX1_groundLevel 0 = .ok (.aload_n 0, 1) := by decide +kernel
theorem dX1_groundLevel_1 : decode cX1_groundLevel 1 = .ok (.getfield 32, 3) := by decide +kernel
theorem dX1_groundLevel_4 : decode cX1_groundLevel 4 = .ok (.ireturn, 1) := by decide +kernel
theorem dX1_isFull_0 : decode cX1_isFull 0 = .ok (.aload_n 0, 1) := by decide +kernel
theorem dX1_isFull_1 : decode cX1_isFull 1 = .ok (.getfield 15, 3) := by decide +kernel
theorem dX1_isFull_4 : decode cX1_isFull 4 = .ok (.bipush 16, 2) := by decide +kernel
theorem dX1_isFull_6 : decode cX1_isFull 6 = .ok (.if_icmp .lt 7, 3) := by decide +kernel
theorem dX1_isFull_9 : decode cX1_isFull 9 = .ok (.iconst 1, 1) := by decide +kernel
theorem dX1_isFull_10 : decode cX1_isFull 10 = .ok (.goto 4, 3) := by decide +kernel
theorem dX1_isFull_13 : decode cX1_isFull 13 = .ok (.iconst 0, 1) := by decide +kernel
theorem dX1_isFull_14 : decode cX1_isFull 14 = .ok (.ireturn, 1) := by decide +kernel
theorem dX1_hasLevel_0 : decode cX1_hasLevel 0 = .ok (.iload_n 1, 1) := by decide +kernel
theorem dX1_hasLevel_1 : decode cX1_hasLevel 1 = .ok (.ifCond .lt 15, 3) := by decide +kernel
theorem dX1_hasLevel_4 : decode cX1_hasLevel 4 = .ok (.iload_n 1, 1) := by decide +kernel
theorem dX1_hasLevel_5 : decode cX1_hasLevel 5 = .ok (.aload_n 0, 1) := by decide +kernel
theorem dX1_hasLevel_6 : decode cX1_hasLevel 6 = .ok (.getfield 15, 3) := by decide +kernel
theorem dX1_hasLevel_9 : decode cX1_hasLevel 9 = .ok (.if_icmp .ge 7, 3) := by decide +kernel
theorem dX1_hasLevel_12 : decode cX1_hasLevel 12 = .ok (.iconst 1, 1) := by decide +kernel
theorem dX1_hasLevel_13 : decode cX1_hasLevel 13 = .ok (.goto 4, 3) := by decide +kernel
theorem dX1_hasLevel_16 : decode cX1_hasLevel 16 = .ok (.iconst 0, 1) := by decide +kernel
theorem dX1_hasLevel_17 : decode cX1_hasLevel 17 = .ok (.ireturn, 1) := by decide +kernel
set_option maxRecDepth 20000 in
theorem ggX1_kindOf_X1_cell : GoodIn wsX1_kindOf wsX1_cell := goodIn_r _ [5, 6, 7, 8, 9, 10] (by decide +kernel) (by decide +kernel)
set_option maxRecDepth 20000 in
theorem gX1_kindOf_X1_cell : GoodIn wsX1_kindOf (wsV RX1 54 RX1 yX1_cell wsX1_cell) := goodIn_app (goodIn_of _ (by decide +kernel)) ggX1_kindOf_X1_cell
theorem dX1_kindOf_0 : decode cX1_kindOf 0 = .ok (.aload_n 0, 1) := by decide +kernel
theorem dX1_kindOf_1 : decode cX1_kindOf 1 = .ok (.iconst 0, 1) := by decide +kernel
theorem dX1_kindOf_2 : decode cX1_kindOf 2 = .ok (.iload_n 1, 1) := by decide +kernel
theorem dX1_kindOf_3 : decode cX1_kindOf 3 = .ok (.invokevirtual 54, 3) := by decide +kernel
theorem dX1_kindOf_6 : decode cX1_kindOf 6 = .ok (.ireturn, 1) := by decide +kernel
set_option maxRecDepth 20000 in
theorem ggX1_nameOf_X1_cell : GoodIn wsX1_nameOf wsX1_cell := goodIn_r _ [5, 6, 7, 8, 9, 10] (by decide +kernel) (by decide +kernel)
set_option maxRecDepth 20000 in
theorem gX1_nameOf_X1_cell : GoodIn wsX1_nameOf (wsV RX1 54 RX1 yX1_cell wsX1_cell) := goodIn_app (goodIn_of _ (by decide +kernel)) ggX1_nameOf_X1_cell
theorem dX1_nameOf_0 : decode cX1_nameOf 0 = .ok (.aload_n 0, 1) := by decide +kernel
theorem dX1_nameOf_1 : decode cX1_nameOf 1 = .ok (.iconst 1, 1) := by decide +kernel
theorem dX1_nameOf_2 : decode cX1_nameOf 2 = .ok (.iload_n 1, 1) := by decide +kernel
theorem dX1_nameOf_3 : decode cX1_nameOf 3 = .ok (.invokevirtual 54, 3) := by decide +kernel
theorem dX1_nameOf_6 : decode cX1_nameOf 6 = .ok (.ireturn, 1) := by decide +kernel
set_option maxRecDepth 20000 in
theorem ggX1_hasName_X1_cell : GoodIn wsX1_hasName wsX1_cell := goodIn_r _ [5, 6, 7, 8, 9, 10] (by decide +kernel) (by decide +kernel)
set_option maxRecDepth 20000 in
theorem gX1_hasName_X1_cell : GoodIn wsX1_hasName (wsV RX1 54 RX1 yX1_cell wsX1_cell) := goodIn_app (goodIn_of _ (by decide +kernel)) ggX1_hasName_X1_cell
theorem dX1_hasName_0 : decode cX1_hasName 0 = .ok (.aload_n 0, 1) := by decide +kernel
theorem dX1_hasName_1 : decode cX1_hasName 1 = .ok (.iconst 1, 1) := by decide +kernel
theorem dX1_hasName_2 : decode cX1_hasName 2 = .ok (.iload_n 1, 1) := by decide +kernel
theorem dX1_hasName_3 : decode cX1_hasName 3 = .ok (.invokevirtual 54, 3) := by decide +kernel
theorem dX1_hasName_6 : decode cX1_hasName 6 = .ok (.iconst (-1), 1) := by decide +kernel
theorem dX1_hasName_7 : decode cX1_hasName 7 = .ok (.if_icmp .eq 7, 3) := by decide +kernel
theorem dX1_hasName_10 : decode cX1_hasName 10 = .ok (.iconst 1, 1) := by decide +kernel
theorem dX1_hasName_11 : decode cX1_hasName 11 = .ok (.goto 4, 3) := by decide +kernel
theorem dX1_hasName_14 : decode cX1_hasName 14 = .ok (.iconst 0, 1) := by decide +kernel
theorem dX1_hasName_15 : decode cX1_hasName 15 = .ok (.ireturn, 1) := by decide +kernel
set_option maxRecDepth 20000 in
theorem ggX1_signAt_X1_cell : GoodIn wsX1_signAt wsX1_cell := goodIn_r _ [5, 6, 7, 8, 9, 10] (by decide +kernel) (by decide +kernel)
set_option maxRecDepth 20000 in
theorem gX1_signAt_X1_cell : GoodIn wsX1_signAt (wsV RX1 54 RX1 yX1_cell wsX1_cell) := goodIn_app (goodIn_of _ (by decide +kernel)) ggX1_signAt_X1_cell
theorem dX1_signAt_0 : decode cX1_signAt 0 = .ok (.aload_n 0, 1) := by decide +kernel
theorem dX1_signAt_1 : decode cX1_signAt 1 = .ok (.iconst 2, 1) := by decide +kernel
theorem dX1_signAt_2 : decode cX1_signAt 2 = .ok (.iload_n 1, 1) := by decide +kernel
theorem dX1_signAt_3 : decode cX1_signAt 3 = .ok (.invokevirtual 54, 3) := by decide +kernel
theorem dX1_signAt_6 : decode cX1_signAt 6 = .ok (.ireturn, 1) := by decide +kernel
set_option maxRecDepth 20000 in
theorem ggX1_buttonAt_X1_cell : GoodIn wsX1_buttonAt wsX1_cell := goodIn_r _ [5, 6, 7, 8, 9, 10] (by decide +kernel) (by decide +kernel)
set_option maxRecDepth 20000 in
theorem gX1_buttonAt_X1_cell : GoodIn wsX1_buttonAt (wsV RX1 54 RX1 yX1_cell wsX1_cell) := goodIn_app (goodIn_of _ (by decide +kernel)) ggX1_buttonAt_X1_cell
theorem dX1_buttonAt_0 : decode cX1_buttonAt 0 = .ok (.aload_n 0, 1) := by decide +kernel
theorem dX1_buttonAt_1 : decode cX1_buttonAt 1 = .ok (.iconst 3, 1) := by decide +kernel
theorem dX1_buttonAt_2 : decode cX1_buttonAt 2 = .ok (.iload_n 1, 1) := by decide +kernel
theorem dX1_buttonAt_3 : decode cX1_buttonAt 3 = .ok (.iadd, 1) := by decide +kernel
theorem dX1_buttonAt_4 : decode cX1_buttonAt 4 = .ok (.iload_n 2, 1) := by decide +kernel
theorem dX1_buttonAt_5 : decode cX1_buttonAt 5 = .ok (.invokevirtual 54, 3) := by decide +kernel
theorem dX1_buttonAt_8 : decode cX1_buttonAt 8 = .ok (.ireturn, 1) := by decide +kernel
set_option maxRecDepth 20000 in
theorem ggX1_isServed_X1_cell : GoodIn wsX1_isServed wsX1_cell := goodIn_r _ [5, 6, 7, 8, 9, 10] (by decide +kernel) (by decide +kernel)
set_option maxRecDepth 20000 in
theorem gX1_isServed_X1_cell : GoodIn wsX1_isServed (wsV RX1 54 RX1 yX1_cell wsX1_cell) := goodIn_app (goodIn_of _ (by decide +kernel)) ggX1_isServed_X1_cell
theorem dX1_isServed_0 : decode cX1_isServed 0 = .ok (.aload_n 0, 1) := by decide +kernel
theorem dX1_isServed_1 : decode cX1_isServed 1 = .ok (.bipush 6, 2) := by decide +kernel
theorem dX1_isServed_3 : decode cX1_isServed 3 = .ok (.iload_n 1, 1) := by decide +kernel
theorem dX1_isServed_4 : decode cX1_isServed 4 = .ok (.iadd, 1) := by decide +kernel
theorem dX1_isServed_5 : decode cX1_isServed 5 = .ok (.iload_n 2, 1) := by decide +kernel
theorem dX1_isServed_6 : decode cX1_isServed 6 = .ok (.invokevirtual 54, 3) := by decide +kernel
theorem dX1_isServed_9 : decode cX1_isServed 9 = .ok (.iconst 1, 1) := by decide +kernel
theorem dX1_isServed_10 : decode cX1_isServed 10 = .ok (.if_icmp .ne 7, 3) := by decide +kernel
theorem dX1_isServed_13 : decode cX1_isServed 13 = .ok (.iconst 1, 1) := by decide +kernel
theorem dX1_isServed_14 : decode cX1_isServed 14 = .ok (.goto 4, 3) := by decide +kernel
theorem dX1_isServed_17 : decode cX1_isServed 17 = .ok (.iconst 0, 1) := by decide +kernel
theorem dX1_isServed_18 : decode cX1_isServed 18 = .ok (.ireturn, 1) := by decide +kernel
set_option maxRecDepth 20000 in
theorem ggX1_isStopOf_X1_cell : GoodIn wsX1_isStopOf wsX1_cell := goodIn_r _ [5, 6, 7, 8, 9, 10] (by decide +kernel) (by decide +kernel)
set_option maxRecDepth 20000 in
theorem gX1_isStopOf_X1_cell : GoodIn wsX1_isStopOf (wsV RX1 54 RX1 yX1_cell wsX1_cell) := goodIn_app (goodIn_of _ (by decide +kernel)) ggX1_isStopOf_X1_cell
theorem dX1_isStopOf_0 : decode cX1_isStopOf 0 = .ok (.aload_n 0, 1) := by decide +kernel
theorem dX1_isStopOf_1 : decode cX1_isStopOf 1 = .ok (.iconst 1, 1) := by decide +kernel
theorem dX1_isStopOf_2 : decode cX1_isStopOf 2 = .ok (.iload_n 2, 1) := by decide +kernel
theorem dX1_isStopOf_3 : decode cX1_isStopOf 3 = .ok (.invokevirtual 54, 3) := by decide +kernel
theorem dX1_isStopOf_6 : decode cX1_isStopOf 6 = .ok (.iconst (-1), 1) := by decide +kernel
theorem dX1_isStopOf_7 : decode cX1_isStopOf 7 = .ok (.if_icmp .eq 20, 3) := by decide +kernel
theorem dX1_isStopOf_10 : decode cX1_isStopOf 10 = .ok (.aload_n 0, 1) := by decide +kernel
theorem dX1_isStopOf_11 : decode cX1_isStopOf 11 = .ok (.bipush 6, 2) := by decide +kernel
theorem dX1_isStopOf_13 : decode cX1_isStopOf 13 = .ok (.iload_n 1, 1) := by decide +kernel
theorem dX1_isStopOf_14 : decode cX1_isStopOf 14 = .ok (.iadd, 1) := by decide +kernel
theorem dX1_isStopOf_15 : decode cX1_isStopOf 15 = .ok (.iload_n 2, 1) := by decide +kernel
theorem dX1_isStopOf_16 : decode cX1_isStopOf 16 = .ok (.invokevirtual 54, 3) := by decide +kernel
theorem dX1_isStopOf_19 : decode cX1_isStopOf 19 = .ok (.iconst 1, 1) := by decide +kernel
theorem dX1_isStopOf_20 : decode cX1_isStopOf 20 = .ok (.if_icmp .ne 7, 3) := by decide +kernel
theorem dX1_isStopOf_23 : decode cX1_isStopOf 23 = .ok (.iconst 1, 1) := by decide +kernel
theorem dX1_isStopOf_24 : decode cX1_isStopOf 24 = .ok (.goto 4, 3) := by decide +kernel
theorem dX1_isStopOf_27 : decode cX1_isStopOf 27 = .ok (.iconst 0, 1) := by decide +kernel
theorem dX1_isStopOf_28 : decode cX1_isStopOf 28 = .ok (.ireturn, 1) := by decide +kernel
set_option maxRecDepth 20000 in
theorem ggX1_isSignRight_X1_isRight : GoodIn wsX1_isSignRight wsX1_isRight := goodIn_r _ [5, 6, 7, 8, 4, 9, 10, 11, 12, 13, 14] (by decide +kernel) (by decide +kernel)
set_option maxRecDepth 20000 in
theorem gX1_isSignRight_X1_isRight : GoodIn wsX1_isSignRight (wsV RX1 58 RX1 yX1_isRight wsX1_isRight) := goodIn_app (goodIn_of _ (by decide +kernel)) ggX1_isSignRight_X1_isRight
theorem dX1_isSignRight_0 : decode cX1_isSignRight 0 = .ok (.aload_n 0, 1) := by decide +kernel
theorem dX1_isSignRight_1 : decode cX1_isSignRight 1 = .ok (.iconst 2, 1) := by decide +kernel
theorem dX1_isSignRight_2 : decode cX1_isSignRight 2 = .ok (.iload_n 1, 1) := by decide +kernel
theorem dX1_isSignRight_3 : decode cX1_isSignRight 3 = .ok (.invokevirtual 58, 3) := by decide +kernel
theorem dX1_isSignRight_6 : decode cX1_isSignRight 6 = .ok (.ireturn, 1) := by decide +kernel
set_option maxRecDepth 20000 in
theorem ggX1_isButtonRight_X1_isRight : GoodIn wsX1_isButtonRight wsX1_isRight := goodIn_r _ [5, 6, 7, 8, 4, 9, 10, 11, 12, 13, 14] (by decide +kernel) (by decide +kernel)
set_option maxRecDepth 20000 in
theorem gX1_isButtonRight_X1_isRight : GoodIn wsX1_isButtonRight (wsV RX1 58 RX1 yX1_isRight wsX1_isRight) := goodIn_app (goodIn_of _ (by decide +kernel)) ggX1_isButtonRight_X1_isRight
theorem dX1_isButtonRight_0 : decode cX1_isButtonRight 0 = .ok (.aload_n 0, 1) := by decide +kernel
theorem dX1_isButtonRight_1 : decode cX1_isButtonRight 1 = .ok (.iconst 3, 1) := by decide +kernel
theorem dX1_isButtonRight_2 : decode cX1_isButtonRight 2 = .ok (.iload_n 1, 1) := by decide +kernel
theorem dX1_isButtonRight_3 : decode cX1_isButtonRight 3 = .ok (.iadd, 1) := by decide +kernel
theorem dX1_isButtonRight_4 : decode cX1_isButtonRight 4 = .ok (.iload_n 2, 1) := by decide +kernel
theorem dX1_isButtonRight_5 : decode cX1_isButtonRight 5 = .ok (.invokevirtual 58, 3) := by decide +kernel
theorem dX1_isButtonRight_8 : decode cX1_isButtonRight 8 = .ok (.ireturn, 1) := by decide +kernel
set_option maxRecDepth 20000 in
theorem ggX1_skips_X6_canBeSkipped : GoodIn wsX1_skips wsX6_canBeSkipped := goodIn_r _ [4] (by decide +kernel) (by decide +kernel)
set_option maxRecDepth 20000 in
theorem gX1_skips_X6_canBeSkipped_n62 : GoodIn wsX1_skips (wsX6_canBeSkipped) := ggX1_skips_X6_canBeSkipped
theorem dX1_skips_0 : decode cX1_skips 0 = .ok (.iload_n 1, 1) := by decide +kernel
theorem dX1_skips_1 : decode cX1_skips 1 = .ok (.invokestatic 62, 3) := by decide +kernel
theorem dX1_skips_4 : decode cX1_skips 4 = .ok (.ifCond .eq 19, 3) := by decide +kernel
theorem dX1_skips_7 : decode cX1_skips 7 = .ok (.aload_n 0, 1) := by decide +kernel
theorem dX1_skips_8 : decode cX1_skips 8 = .ok (.getfield 35, 3) := by decide +kernel
theorem dX1_skips_11 : decode cX1_skips 11 = .ok (.iload_n 1, 1) := by decide +kernel
theorem dX1_skips_12 : decode cX1_skips 12 = .ok (.iushr, 1) := by decide +kernel
theorem dX1_skips_13 : decode cX1_skips 13 = .ok (.iconst 1, 1) := by decide +kernel
theorem dX1_skips_14 : decode cX1_skips 14 = .ok (.iand, 1) := by decide +kernel
theorem dX1_skips_15 : decode cX1_skips 15 = .ok (.iconst 1, 1) := by decide +kernel
theorem dX1_skips_16 : decode cX1_skips 16 = .ok (.if_icmp .ne 7, 3) := by decide +kernel
theorem dX1_skips_19 : decode cX1_skips 19 = .ok (.iconst 1, 1) := by decide +kernel
theorem dX1_skips_20 : decode cX1_skips 20 = .ok (.goto 4, 3) := by decide +kernel
theorem dX1_skips_23 : decode cX1_skips 23 = .ok (.iconst 0, 1) := by decide +kernel
theorem dX1_skips_24 : decode cX1_skips 24 = .ok (.ireturn, 1) := by decide +kernel
set_option maxRecDepth 20000 in
theorem ggX1_skippedStoreys_J6_bitCount_0f7a4 : GoodIn wsX1_skippedStoreys wsJ6_bitCount_0f7a4 := goodIn_r _ [5, 6, 7, 8] (by decide +kernel) (by decide +kernel)
set_option maxRecDepth 20000 in
theorem gX1_skippedStoreys_J6_bitCount_0f7a4 : GoodIn wsX1_skippedStoreys (va_wsS RX1 66 yJ6_bitCount_0f7a4 wsJ6_bitCount_0f7a4) := goodIn_app (goodIn_of _ (by decide +kernel)) ggX1_skippedStoreys_J6_bitCount_0f7a4
theorem dX1_skippedStoreys_0 : decode cX1_skippedStoreys 0 = .ok (.aload_n 0, 1) := by decide +kernel
theorem dX1_skippedStoreys_1 : decode cX1_skippedStoreys 1 = .ok (.getfield 35, 3) := by decide +kernel
theorem dX1_skippedStoreys_4 : decode cX1_skippedStoreys 4 = .ok (.invokestatic 66, 3) := by decide +kernel
theorem dX1_skippedStoreys_7 : decode cX1_skippedStoreys 7 = .ok (.ireturn, 1) := by decide +kernel
set_option maxRecDepth 20000 in
theorem ggX1_levelNamed_X1_hasName : GoodIn wsX1_levelNamed wsX1_hasName := goodIn_r _ [6, 7, 8, 9, 5, 10, 11, 16, 17, 18, 19] (by decide +kernel) (by decide +kernel)
set_option maxRecDepth 20000 in
theorem gX1_levelNamed_X1_hasName : GoodIn wsX1_levelNamed (wsV RX1 71 RX1 yX1_hasName wsX1_hasName) := goodIn_app (goodIn_of _ (by decide +kernel)) ggX1_levelNamed_X1_hasName
set_option maxRecDepth 20000 in
theorem ggX1_levelNamed_X1_nameOf : GoodIn wsX1_levelNamed wsX1_nameOf := goodIn_r _ [15, 7, 8, 9, 5, 10, 11, 16, 17, 18, 19] (by decide +kernel) (by decide +kernel)
set_option maxRecDepth 20000 in
theorem gX1_levelNamed_X1_nameOf : GoodIn wsX1_levelNamed (wsV RX1 74 RX1 yX1_nameOf wsX1_nameOf) := goodIn_app (goodIn_of _ (by decide +kernel)) ggX1_levelNamed_X1_nameOf
theorem dX1_levelNamed_0 : decode cX1_levelNamed 0 = .ok (.iconst 0, 1) := by decide +kernel
theorem dX1_levelNamed_1 : decode cX1_levelNamed 1 = .ok (.istore_n 3, 1) := by decide +kernel
theorem dX1_levelNamed_2 : decode cX1_levelNamed 2 = .ok (.iconst 0, 1) := by decide +kernel
theorem dX1_levelNamed_3 : decode cX1_levelNamed 3 = .ok (.istore 4, 2) := by decide +kernel
theorem dX1_levelNamed_5 : decode cX1_levelNamed 5 = .ok (.iload 4, 2) := by decide +kernel
theorem dX1_levelNamed_7 : decode cX1_levelNamed 7 = .ok (.aload_n 0, 1) := by decide +kernel
theorem dX1_levelNamed_8 : decode cX1_levelNamed 8 = .ok (.getfield 15, 3) := by decide +kernel
theorem dX1_levelNamed_11 : decode cX1_levelNamed 11 = .ok (.if_icmp .ge 39, 3) := by decide +kernel
theorem dX1_levelNamed_14 : decode cX1_levelNamed 14 = .ok (.aload_n 0, 1) := by decide +kernel
theorem dX1_levelNamed_15 : decode cX1_levelNamed 15 = .ok (.iload 4, 2) := by decide +kernel
theorem dX1_levelNamed_17 : decode cX1_levelNamed 17 = .ok (.invokevirtual 71, 3) := by decide +kernel
theorem dX1_levelNamed_20 : decode cX1_levelNamed 20 = .ok (.ifCond .eq 24, 3) := by decide +kernel
theorem dX1_levelNamed_23 : decode cX1_levelNamed 23 = .ok (.aload_n 0, 1) := by decide +kernel
theorem dX1_levelNamed_24 : decode cX1_levelNamed 24 = .ok (.iload 4, 2) := by decide +kernel
theorem dX1_levelNamed_26 : decode cX1_levelNamed 26 = .ok (.invokevirtual 74, 3) := by decide +kernel
theorem dX1_levelNamed_29 : decode cX1_levelNamed 29 = .ok (.iload_n 1, 1) := by decide +kernel
theorem dX1_levelNamed_30 : decode cX1_levelNamed 30 = .ok (.if_icmp .ne 14, 3) := by decide +kernel
theorem dX1_levelNamed_33 : decode cX1_levelNamed 33 = .ok (.iload_n 3, 1) := by decide +kernel
theorem dX1_levelNamed_34 : decode cX1_levelNamed 34 = .ok (.iload_n 2, 1) := by decide +kernel
theorem dX1_levelNamed_35 : decode cX1_levelNamed 35 = .ok (.if_icmp .ne 6, 3) := by decide +kernel
theorem dX1_levelNamed_38 : decode cX1_levelNamed 38 = .ok (.iload 4, 2) := by decide +kernel
theorem dX1_levelNamed_40 : decode cX1_levelNamed 40 = .ok (.ireturn, 1) := by decide +kernel
theorem dX1_levelNamed_41 : decode cX1_levelNamed 41 = .ok (.iinc 3 1, 3) := by decide +kernel
theorem dX1_levelNamed_44 : decode cX1_levelNamed 44 = .ok (.iinc 4 1, 3) := by decide +kernel
theorem dX1_levelNamed_47 : decode cX1_levelNamed 47 = .ok (.goto (-42), 3) := by decide +kernel
theorem dX1_levelNamed_50 : decode cX1_levelNamed 50 = .ok (.iconst (-1), 1) := by decide +kernel
theorem dX1_levelNamed_51 : decode cX1_levelNamed 51 = .ok (.ireturn, 1) := by decide +kernel
set_option maxRecDepth 20000 in
theorem ggX1_levelsNamedLike_X1_hasName : GoodIn wsX1_levelsNamedLike wsX1_hasName := goodIn_r _ [6, 7, 8, 9, 5, 10, 11, 16, 17, 18, 19] (by decide +kernel) (by decide +kernel)
set_option maxRecDepth 20000 in
theorem gX1_levelsNamedLike_X1_hasName : GoodIn wsX1_levelsNamedLike (wsV RX1 71 RX1 yX1_hasName wsX1_hasName) := goodIn_app (goodIn_of _ (by decide +kernel)) ggX1_levelsNamedLike_X1_hasName
set_option maxRecDepth 20000 in
theorem ggX1_levelsNamedLike_X1_nameOf : GoodIn wsX1_levelsNamedLike wsX1_nameOf := goodIn_r _ [15, 7, 8, 9, 5, 10, 11, 16, 17, 18, 19] (by decide +kernel) (by decide +kernel)
set_option maxRecDepth 20000 in
theorem gX1_levelsNamedLike_X1_nameOf : GoodIn wsX1_levelsNamedLike (wsV RX1 74 RX1 yX1_nameOf wsX1_nameOf) := goodIn_app (goodIn_of _ (by decide +kernel)) ggX1_levelsNamedLike_X1_nameOf
theorem dX1_levelsNamedLike_0 : decode cX1_levelsNamedLike 0 = .ok (.iconst 0, 1) := by decide +kernel
theorem dX1_levelsNamedLike_1 : decode cX1_levelsNamedLike 1 = .ok (.istore_n 2, 1) := by decide +kernel
theorem dX1_levelsNamedLike_2 : decode cX1_levelsNamedLike 2 = .ok (.aload_n 0, 1) := by decide +kernel
theorem dX1_levelsNamedLike_3 : decode cX1_levelsNamedLike 3 = .ok (.iload_n 1, 1) := by decide +kernel
theorem dX1_levelsNamedLike_4 : decode cX1_levelsNamedLike 4 = .ok (.invokevirtual 71, 3) := by decide +kernel
theorem dX1_levelsNamedLike_7 : decode cX1_levelsNamedLike 7 = .ok (.ifCond .eq 35, 3) := by decide +kernel
theorem dX1_levelsNamedLike_10 : decode cX1_levelsNamedLike 10 = .ok (.iconst 0, 1) := by decide +kernel
theorem dX1_levelsNamedLike_11 : decode cX1_levelsNamedLike 11 = .ok (.istore_n 3, 1) := by decide +kernel
theorem dX1_levelsNamedLike_12 : decode cX1_levelsNamedLike 12 = .ok (.iload_n 3, 1) := by decide +kernel
theorem dX1_levelsNamedLike_13 : decode cX1_levelsNamedLike 13 = .ok (.aload_n 0, 1) := by decide +kernel
theorem dX1_levelsNamedLike_14 : decode cX1_levelsNamedLike 14 = .ok (.getfield 15, 3) := by decide +kernel
theorem dX1_levelsNamedLike_17 : decode cX1_levelsNamedLike 17 = .ok (.if_icmp .ge 25, 3) := by decide +kernel
theorem dX1_levelsNamedLike_20 : decode cX1_levelsNamedLike 20 = .ok (.aload_n 0, 1) := by decide +kernel
theorem dX1_levelsNamedLike_21 : decode cX1_levelsNamedLike 21 = .ok (.iload_n 3, 1) := by decide +kernel
theorem dX1_levelsNamedLike_22 : decode cX1_levelsNamedLike 22 = .ok (.invokevirtual 74, 3) := by decide +kernel
theorem dX1_levelsNamedLike_25 : decode cX1_levelsNamedLike 25 = .ok (.aload_n 0, 1) := by decide +kernel
theorem dX1_levelsNamedLike_26 : decode cX1_levelsNamedLike 26 = .ok (.iload_n 1, 1) := by decide +kernel
theorem dX1_levelsNamedLike_27 : decode cX1_levelsNamedLike 27 = .ok (.invokevirtual 74, 3) := by decide +kernel
theorem dX1_levelsNamedLike_30 : decode cX1_levelsNamedLike 30 = .ok (.if_icmp .ne 6, 3) := by decide +kernel
theorem dX1_levelsNamedLike_33 : decode cX1_levelsNamedLike 33 = .ok (.iinc 2 1, 3) := by decide +kernel
theorem dX1_levelsNamedLike_36 : decode cX1_levelsNamedLike 36 = .ok (.iinc 3 1, 3) := by decide +kernel
theorem dX1_levelsNamedLike_39 : decode cX1_levelsNamedLike 39 = .ok (.goto (-27), 3) := by decide +kernel
theorem dX1_levelsNamedLike_42 : decode cX1_levelsNamedLike 42 = .ok (.iload_n 2, 1) := by decide +kernel
theorem dX1_levelsNamedLike_43 : decode cX1_levelsNamedLike 43 = .ok (.ireturn, 1) := by decide +kernel
set_option maxRecDepth 20000 in
theorem ggX1_levelsWithSharedNames_X1_levelsNamedLike : GoodIn wsX1_levelsWithSharedNames wsX1_levelsNamedLike := goodIn_r _ [6, 1, 7, 8, 9, 5, 10, 11, 12, 13, 14, 15, 16, 17, 18, 19, 20, 21, 22, 23] (by decide +kernel) (by decide +kernel)
set_option maxRecDepth 20000 in
theorem gX1_levelsWithSharedNames_X1_levelsNamedLike : GoodIn wsX1_levelsWithSharedNames (wsV RX1 77 RX1 yX1_levelsNamedLike wsX1_levelsNamedLike) := goodIn_app (goodIn_of _ (by decide +kernel)) ggX1_levelsWithSharedNames_X1_levelsNamedLike
theorem dX1_levelsWithSharedNames_0 : decode cX1_levelsWithSharedNames 0 = .ok (.iconst 0, 1) := by decide +kernel
theorem dX1_levelsWithSharedNames_1 : decode cX1_levelsWithSharedNames 1 = .ok (.istore_n 1, 1) := by decide +kernel
theorem dX1_levelsWithSharedNames_2 : decode cX1_levelsWithSharedNames 2 = .ok (.iconst 0, 1) := by decide +kernel
theorem dX1_levelsWithSharedNames_3 : decode cX1_levelsWithSharedNames 3 = .ok (.istore_n 2, 1) := by decide +kernel
theorem dX1_levelsWithSharedNames_4 : decode cX1_levelsWithSharedNames 4 = .ok (.iload_n 2, 1) := by decide +kernel
theorem dX1_levelsWithSharedNames_5 : decode cX1_levelsWithSharedNames 5 = .ok (.aload_n 0, 1) := by decide +kernel
theorem dX1_levelsWithSharedNames_6 : decode cX1_levelsWithSharedNames 6 = .ok (.getfield 15, 3) := by decide +kernel
theorem dX1_levelsWithSharedNames_9 : decode cX1_levelsWithSharedNames 9 = .ok (.if_icmp .ge 21, 3) := by decide +kernel
theorem dX1_levelsWithSharedNames_12 : decode cX1_levelsWithSharedNames 12 = .ok (.aload_n 0, 1) := by decide +kernel
theorem dX1_levelsWithSharedNames_13 : decode cX1_levelsWithSharedNames 13 = .ok (.iload_n 2, 1) := by decide +kernel
theorem dX1_levelsWithSharedNames_14 : decode cX1_levelsWithSharedNames 14 = .ok (.invokevirtual 77, 3) := by decide +kernel
theorem dX1_levelsWithSharedNames_17 : decode cX1_levelsWithSharedNames 17 = .ok (.iconst 1, 1) := by decide +kernel
theorem dX1_levelsWithSharedNames_18 : decode cX1_levelsWithSharedNames 18 = .ok (.if_icmp .le 6, 3) := by decide +kernel
theorem dX1_levelsWithSharedNames_21 : decode cX1_levelsWithSharedNames 21 = .ok (.iinc 1 1, 3) := by decide +kernel
theorem dX1_levelsWithSharedNames_24 : decode cX1_levelsWithSharedNames 24 = .ok (.iinc 2 1, 3) := by decide +kernel
theorem dX1_levelsWithSharedNames_27 : decode cX1_levelsWithSharedNames 27 = .ok (.goto (-23), 3) := by decide +kernel
theorem dX1_levelsWithSharedNames_30 : decode cX1_levelsWithSharedNames 30 = .ok (.iload_n 1, 1) := by decide +kernel
theorem dX1_levelsWithSharedNames_31 : decode cX1_levelsWithSharedNames 31 = .ok (.ireturn, 1) := by decide +kernel
set_option maxRecDepth 20000 in
theorem ggX1_namelessLevels_X1_hasName : GoodIn wsX1_namelessLevels wsX1_hasName := goodIn_r _ [6, 7, 8, 9, 5, 10, 11, 12, 13, 14, 15] (by decide +kernel) (by decide +kernel)
set_option maxRecDepth 20000 in
theorem gX1_namelessLevels_X1_hasName : GoodIn wsX1_namelessLevels (wsV RX1 71 RX1 yX1_hasName wsX1_hasName) := goodIn_app (goodIn_of _ (by decide +kernel)) ggX1_namelessLevels_X1_hasName
theorem dX1_namelessLevels_0 : decode cX1_namelessLevels 0 = .ok (.iconst 0, 1) := by decide +kernel
theorem dX1_namelessLevels_1 : decode cX1_namelessLevels 1 = .ok (.istore_n 1, 1) := by decide +kernel
theorem dX1_namelessLevels_2 : decode cX1_namelessLevels 2 = .ok (.iconst 0, 1) := by decide +kernel
theorem dX1_namelessLevels_3 : decode cX1_namelessLevels 3 = .ok (.istore_n 2, 1) := by decide +kernel
theorem dX1_namelessLevels_4 : decode cX1_namelessLevels 4 = .ok (.iload_n 2, 1) := by decide +kernel
theorem dX1_namelessLevels_5 : decode cX1_namelessLevels 5 = .ok (.aload_n 0, 1) := by decide +kernel
theorem dX1_namelessLevels_6 : decode cX1_namelessLevels 6 = .ok (.getfield 15, 3) := by decide +kernel
theorem dX1_namelessLevels_9 : decode cX1_namelessLevels 9 = .ok (.if_icmp .ge 20, 3) := by decide +kernel
theorem dX1_namelessLevels_12 : decode cX1_namelessLevels 12 = .ok (.aload_n 0, 1) := by decide +kernel
theorem dX1_namelessLevels_13 : decode cX1_namelessLevels 13 = .ok (.iload_n 2, 1) := by decide +kernel
theorem dX1_namelessLevels_14 : decode cX1_namelessLevels 14 = .ok (.invokevirtual 71, 3) := by decide +kernel
theorem dX1_namelessLevels_17 : decode cX1_namelessLevels 17 = .ok (.ifCond .ne 6, 3) := by decide +kernel
theorem dX1_namelessLevels_20 : decode cX1_namelessLevels 20 = .ok (.iinc 1 1, 3) := by decide +kernel
theorem dX1_namelessLevels_23 : decode cX1_namelessLevels 23 = .ok (.iinc 2 1, 3) := by decide +kernel
theorem dX1_namelessLevels_26 : decode cX1_namelessLevels 26 = .ok (.goto (-22), 3) := by decide +kernel
theorem dX1_namelessLevels_29 : decode cX1_namelessLevels 29 = .ok (.iload_n 1, 1) := by decide +kernel
theorem dX1_namelessLevels_30 : decode cX1_namelessLevels 30 = .ok (.ireturn, 1) := by decide +kernel
set_option maxRecDepth 20000 in
theorem ggX1_greatestStorey_X1_hasName : GoodIn wsX1_greatestStorey wsX1_hasName := goodIn_r _ [10, 11, 12, 13, 9, 14, 15, 24, 25, 26, 27] (by decide +kernel) (by decide +kernel)
set_option maxRecDepth 20000 in
theorem gX1_greatestStorey_X1_hasName : GoodIn wsX1_greatestStorey (wsV RX1 71 RX1 yX1_hasName wsX1_hasName) := goodIn_app (goodIn_of _ (by decide +kernel)) ggX1_greatestStorey_X1_hasName
set_option maxRecDepth 20000 in
theorem ggX1_greatestStorey_X1_nameOf : GoodIn wsX1_greatestStorey wsX1_nameOf := goodIn_r _ [19, 11, 12, 13, 9, 14, 15, 24, 25, 26, 27] (by decide +kernel) (by decide +kernel)
set_option maxRecDepth 20000 in
theorem gX1_greatestStorey_X1_nameOf : GoodIn wsX1_greatestStorey (wsV RX1 74 RX1 yX1_nameOf wsX1_nameOf) := goodIn_app (goodIn_of _ (by decide +kernel)) ggX1_greatestStorey_X1_nameOf
set_option maxRecDepth 20000 in
theorem ggX1_greatestStorey_J9_floorDiv_7cf53 : GoodIn wsX1_greatestStorey wsJ9_floorDiv_7cf53 := goodIn_r _ [23] (by decide +kernel) (by decide +kernel)
set_option maxRecDepth 20000 in
theorem gX1_greatestStorey_J9_floorDiv_7cf53 : GoodIn wsX1_greatestStorey (va_wsS RX1 80 yJ9_floorDiv_7cf53 wsJ9_floorDiv_7cf53) := goodIn_app (goodIn_of _ (by decide +kernel)) ggX1_greatestStorey_J9_floorDiv_7cf53
theorem dX1_greatestStorey_0 : decode cX1_greatestStorey 0 = .ok (.iconst 0, 1) := by decide +kernel
theorem dX1_greatestStorey_1 : decode cX1_greatestStorey 1 = .ok (.istore_n 1, 1) := by decide +kernel
theorem dX1_greatestStorey_2 : decode cX1_greatestStorey 2 = .ok (.iconst 0, 1) := by decide +kernel
theorem dX1_greatestStorey_3 : decode cX1_greatestStorey 3 = .ok (.istore_n 2, 1) := by decide +kernel
theorem dX1_greatestStorey_4 : decode cX1_greatestStorey 4 = .ok (.iload_n 2, 1) := by decide +kernel
theorem dX1_greatestStorey_5 : decode cX1_greatestStorey 5 = .ok (.aload_n 0, 1) := by decide +kernel
theorem dX1_greatestStorey_6 : decode cX1_greatestStorey 6 = .ok (.getfield 15, 3) := by decide +kernel
theorem dX1_greatestStorey_9 : decode cX1_greatestStorey 9 = .ok (.if_icmp .ge 31, 3) := by decide +kernel
theorem dX1_greatestStorey_12 : decode cX1_greatestStorey 12 = .ok (.aload_n 0, 1) := by decide +kernel
theorem dX1_greatestStorey_13 : decode cX1_greatestStorey 13 = .ok (.iload_n 2, 1) := by decide +kernel
theorem dX1_greatestStorey_14 : decode cX1_greatestStorey 14 = .ok (.invokevirtual 71, 3) := by decide +kernel
theorem dX1_greatestStorey_17 : decode cX1_greatestStorey 17 = .ok (.ifCond .eq 17, 3) := by decide +kernel
theorem dX1_greatestStorey_20 : decode cX1_greatestStorey 20 = .ok (.iload_n 1, 1) := by decide +kernel
theorem dX1_greatestStorey_21 : decode cX1_greatestStorey 21 = .ok (.aload_n 0, 1) := by decide +kernel
theorem dX1_greatestStorey_22 : decode cX1_greatestStorey 22 = .ok (.iload_n 2, 1) := by decide +kernel
theorem dX1_greatestStorey_23 : decode cX1_greatestStorey 23 = .ok (.invokevirtual 74, 3) := by decide +kernel
theorem dX1_greatestStorey_26 : decode cX1_greatestStorey 26 = .ok (.iconst 4, 1) := by decide +kernel
theorem dX1_greatestStorey_27 : decode cX1_greatestStorey 27 = .ok (.invokestatic 80, 3) := by decide +kernel
theorem dX1_greatestStorey_30 : decode cX1_greatestStorey 30 = .ok (.invokestatic 85, 3) := by decide +kernel
theorem dX1_greatestStorey_33 : decode cX1_greatestStorey 33 = .ok (.istore_n 1, 1) := by decide +kernel
theorem dX1_greatestStorey_34 : decode cX1_greatestStorey 34 = .ok (.iinc 2 1, 3) := by decide +kernel
theorem dX1_greatestStorey_37 : decode cX1_greatestStorey 37 = .ok (.goto (-33), 3) := by decide +kernel
theorem dX1_greatestStorey_40 : decode cX1_greatestStorey 40 = .ok (.iload_n 1, 1) := by decide +kernel
theorem dX1_greatestStorey_41 : decode cX1_greatestStorey 41 = .ok (.ireturn, 1) := by decide +kernel
set_option maxRecDepth 20000 in
theorem ggX1_leastStorey_X1_hasName : GoodIn wsX1_leastStorey wsX1_hasName := goodIn_r _ [10, 11, 12, 13, 9, 14, 15, 24, 25, 26, 27] (by decide +kernel) (by decide +kernel)
set_option maxRecDepth 20000 in
theorem gX1_leastStorey_X1_hasName : GoodIn wsX1_leastStorey (wsV RX1 71 RX1 yX1_hasName wsX1_hasName) := goodIn_app (goodIn_of _ (by decide +kernel)) ggX1_leastStorey_X1_hasName
set_option maxRecDepth 20000 in
theorem ggX1_leastStorey_X1_nameOf : GoodIn wsX1_leastStorey wsX1_nameOf := goodIn_r _ [19, 11, 12, 13, 9, 14, 15, 24, 25, 26, 27] (by decide +kernel) (by decide +kernel)
set_option maxRecDepth 20000 in
theorem gX1_leastStorey_X1_nameOf : GoodIn wsX1_leastStorey (wsV RX1 74 RX1 yX1_nameOf wsX1_nameOf) := goodIn_app (goodIn_of _ (by decide +kernel)) ggX1_leastStorey_X1_nameOf
set_option maxRecDepth 20000 in
theorem ggX1_leastStorey_J9_floorDiv_7cf53 : GoodIn wsX1_leastStorey wsJ9_floorDiv_7cf53 := goodIn_r _ [23] (by decide +kernel) (by decide +kernel)
set_option maxRecDepth 20000 in
theorem gX1_leastStorey_J9_floorDiv_7cf53 : GoodIn wsX1_leastStorey (va_wsS RX1 80 yJ9_floorDiv_7cf53 wsJ9_floorDiv_7cf53) := goodIn_app (goodIn_of _ (by decide +kernel)) ggX1_leastStorey_J9_floorDiv_7cf53
theorem dX1_leastStorey_0 : decode cX1_leastStorey 0 = .ok (.iconst 0, 1) := by decide +kernel
theorem dX1_leastStorey_1 : decode cX1_leastStorey 1 = .ok (.istore_n 1, 1) := by decide +kernel
theorem dX1_leastStorey_2 : decode cX1_leastStorey 2 = .ok (.iconst 0, 1) := by decide +kernel
theorem dX1_leastStorey_3 : decode cX1_leastStorey 3 = .ok (.istore_n 2, 1) := by decide +kernel
theorem dX1_leastStorey_4 : decode cX1_leastStorey 4 = .ok (.iload_n 2, 1) := by decide +kernel
theorem dX1_leastStorey_5 : decode cX1_leastStorey 5 = .ok (.aload_n 0, 1) := by decide +kernel
theorem dX1_leastStorey_6 : decode cX1_leastStorey 6 = .ok (.getfield 15, 3) := by decide +kernel
theorem dX1_leastStorey_9 : decode cX1_leastStorey 9 = .ok (.if_icmp .ge 31, 3) := by decide +kernel
theorem dX1_leastStorey_12 : decode cX1_leastStorey 12 = .ok (.aload_n 0, 1) := by decide +kernel
theorem dX1_leastStorey_13 : decode cX1_leastStorey 13 = .ok (.iload_n 2, 1) := by decide +kernel
theorem dX1_leastStorey_14 : decode cX1_leastStorey 14 = .ok (.invokevirtual 71, 3) := by decide +kernel
theorem dX1_leastStorey_17 : decode cX1_leastStorey 17 = .ok (.ifCond .eq 17, 3) := by decide +kernel
theorem dX1_leastStorey_20 : decode cX1_leastStorey 20 = .ok (.iload_n 1, 1) := by decide +kernel
theorem dX1_leastStorey_21 : decode cX1_leastStorey 21 = .ok (.aload_n 0, 1) := by decide +kernel
theorem dX1_leastStorey_22 : decode cX1_leastStorey 22 = .ok (.iload_n 2, 1) := by decide +kernel
theorem dX1_leastStorey_23 : decode cX1_leastStorey 23 = .ok (.invokevirtual 74, 3) := by decide +kernel
theorem dX1_leastStorey_26 : decode cX1_leastStorey 26 = .ok (.iconst 4, 1) := by decide +kernel
theorem dX1_leastStorey_27 : decode cX1_leastStorey 27 = .ok (.invokestatic 80, 3) := by decide +kernel
theorem dX1_leastStorey_30 : decode cX1_leastStorey 30 = .ok (.invokestatic 88, 3) := by decide +kernel
theorem dX1_leastStorey_33 : decode cX1_leastStorey 33 = .ok (.istore_n 1, 1) := by decide +kernel
theorem dX1_leastStorey_34 : decode cX1_leastStorey 34 = .ok (.iinc 2 1, 3) := by decide +kernel
theorem dX1_leastStorey_37 : decode cX1_leastStorey 37 = .ok (.goto (-33), 3) := by decide +kernel
theorem dX1_leastStorey_40 : decode cX1_leastStorey 40 = .ok (.iload_n 1, 1) := by decide +kernel
theorem dX1_leastStorey_41 : decode cX1_leastStorey 41 = .ok (.ireturn, 1) := by decide +kernel
set_option maxRecDepth 20000 in
theorem ggX1_servedLevels_X1_isServed : GoodIn wsX1_servedLevels wsX1_isServed := goodIn_r _ [6, 7, 8, 9, 5, 10, 11, 12, 13, 14, 15] (by decide +kernel) (by decide +kernel)
set_option maxRecDepth 20000 in
theorem gX1_servedLevels_X1_isServed : GoodIn wsX1_servedLevels (wsV RX1 91 RX1 yX1_isServed wsX1_isServed) := goodIn_app (goodIn_of _ (by decide +kernel)) ggX1_servedLevels_X1_isServed
theorem dX1_servedLevels_0 : decode cX1_servedLevels 0 = .ok (.iconst 0, 1) := by decide +kernel
theorem dX1_servedLevels_1 : decode cX1_servedLevels 1 = .ok (.istore_n 2, 1) := by decide +kernel
theorem dX1_servedLevels_2 : decode cX1_servedLevels 2 = .ok (.iconst 0, 1) := by decide +kernel
theorem dX1_servedLevels_3 : decode cX1_servedLevels 3 = .ok (.istore_n 3, 1) := by decide +kernel
theorem dX1_servedLevels_4 : decode cX1_servedLevels 4 = .ok (.iload_n 3, 1) := by decide +kernel
theorem dX1_servedLevels_5 : decode cX1_servedLevels 5 = .ok (.aload_n 0, 1) := by decide +kernel
theorem dX1_servedLevels_6 : decode cX1_servedLevels 6 = .ok (.getfield 15, 3) := by decide +kernel
theorem dX1_servedLevels_9 : decode cX1_servedLevels 9 = .ok (.if_icmp .ge 21, 3) := by decide +kernel
theorem dX1_servedLevels_12 : decode cX1_servedLevels 12 = .ok (.aload_n 0, 1) := by decide +kernel
theorem dX1_servedLevels_13 : decode cX1_servedLevels 13 = .ok (.iload_n 1, 1) := by decide +kernel
theorem dX1_servedLevels_14 : decode cX1_servedLevels 14 = .ok (.iload_n 3, 1) := by decide +kernel
theorem dX1_servedLevels_15 : decode cX1_servedLevels 15 = .ok (.invokevirtual 91, 3) := by decide +kernel
theorem dX1_servedLevels_18 : decode cX1_servedLevels 18 = .ok (.ifCond .eq 6, 3) := by decide +kernel
theorem dX1_servedLevels_21 : decode cX1_servedLevels 21 = .ok (.iinc 2 1, 3) := by decide +kernel
theorem dX1_servedLevels_24 : decode cX1_servedLevels 24 = .ok (.iinc 3 1, 3) := by decide +kernel
theorem dX1_servedLevels_27 : decode cX1_servedLevels 27 = .ok (.goto (-23), 3) := by decide +kernel
theorem dX1_servedLevels_30 : decode cX1_servedLevels 30 = .ok (.iload_n 2, 1) := by decide +kernel
theorem dX1_servedLevels_31 : decode cX1_servedLevels 31 = .ok (.ireturn, 1) := by decide +kernel
set_option maxRecDepth 20000 in
theorem ggX1_wrongSigns_X1_wrongInRow : GoodIn wsX1_wrongSigns wsX1_wrongInRow := goodIn_r _ [5, 6, 7, 8, 9, 4, 10, 11, 12, 13, 14, 15, 16, 17, 18, 19] (by decide +kernel) (by decide +kernel)
set_option maxRecDepth 20000 in
theorem gX1_wrongSigns_X1_wrongInRow : GoodIn wsX1_wrongSigns (wsV RX1 94 RX1 yX1_wrongInRow wsX1_wrongInRow) := goodIn_app (goodIn_of _ (by decide +kernel)) ggX1_wrongSigns_X1_wrongInRow
theorem dX1_wrongSigns_0 : decode cX1_wrongSigns 0 = .ok (.aload_n 0, 1) := by decide +kernel
theorem dX1_wrongSigns_1 : decode cX1_wrongSigns 1 = .ok (.iconst 2, 1) := by decide +kernel
theorem dX1_wrongSigns_2 : decode cX1_wrongSigns 2 = .ok (.invokevirtual 94, 3) := by decide +kernel
theorem dX1_wrongSigns_5 : decode cX1_wrongSigns 5 = .ok (.ireturn, 1) := by decide +kernel
set_option maxRecDepth 20000 in
theorem ggX1_wrongButtonsOf_X1_wrongInRow : GoodIn wsX1_wrongButtonsOf wsX1_wrongInRow := goodIn_r _ [5, 6, 7, 8, 9, 4, 10, 11, 12, 13, 14, 15, 16, 17, 18, 19] (by decide +kernel) (by decide +kernel)
set_option maxRecDepth 20000 in
theorem gX1_wrongButtonsOf_X1_wrongInRow : GoodIn wsX1_wrongButtonsOf (wsV RX1 94 RX1 yX1_wrongInRow wsX1_wrongInRow) := goodIn_app (goodIn_of _ (by decide +kernel)) ggX1_wrongButtonsOf_X1_wrongInRow
theorem dX1_wrongButtonsOf_0 : decode cX1_wrongButtonsOf 0 = .ok (.aload_n 0, 1) := by decide +kernel
theorem dX1_wrongButtonsOf_1 : decode cX1_wrongButtonsOf 1 = .ok (.iconst 3, 1) := by decide +kernel
theorem dX1_wrongButtonsOf_2 : decode cX1_wrongButtonsOf 2 = .ok (.iload_n 1, 1) := by decide +kernel
theorem dX1_wrongButtonsOf_3 : decode cX1_wrongButtonsOf 3 = .ok (.iadd, 1) := by decide +kernel
theorem dX1_wrongButtonsOf_4 : decode cX1_wrongButtonsOf 4 = .ok (.invokevirtual 94, 3) := by decide +kernel
theorem dX1_wrongButtonsOf_7 : decode cX1_wrongButtonsOf 7 = .ok (.ireturn, 1) := by decide +kernel
set_option maxRecDepth 20000 in
theorem ggX1_wrongButtons_X1_wrongInRow : GoodIn wsX1_wrongButtons wsX1_wrongInRow := goodIn_r _ [5, 6, 7, 8, 9, 4, 10, 11, 12, 13, 14, 15, 16, 17, 18, 19] (by decide +kernel) (by decide +kernel)
set_option maxRecDepth 20000 in
theorem gX1_wrongButtons_X1_wrongInRow : GoodIn wsX1_wrongButtons (wsV RX1 94 RX1 yX1_wrongInRow wsX1_wrongInRow) := goodIn_app (goodIn_of _ (by decide +kernel)) ggX1_wrongButtons_X1_wrongInRow
theorem dX1_wrongButtons_0 : decode cX1_wrongButtons 0 = .ok (.iconst 0, 1) := by decide +kernel
theorem dX1_wrongButtons_1 : decode cX1_wrongButtons 1 = .ok (.istore_n 1, 1) := by decide +kernel
theorem dX1_wrongButtons_2 : decode cX1_wrongButtons 2 = .ok (.iconst 0, 1) := by decide +kernel
theorem dX1_wrongButtons_3 : decode cX1_wrongButtons 3 = .ok (.istore_n 2, 1) := by decide +kernel
theorem dX1_wrongButtons_4 : decode cX1_wrongButtons 4 = .ok (.iload_n 2, 1) := by decide +kernel
theorem dX1_wrongButtons_5 : decode cX1_wrongButtons 5 = .ok (.iconst 3, 1) := by decide +kernel
theorem dX1_wrongButtons_6 : decode cX1_wrongButtons 6 = .ok (.if_icmp .ge 19, 3) := by decide +kernel
theorem dX1_wrongButtons_9 : decode cX1_wrongButtons 9 = .ok (.iload_n 1, 1) := by decide +kernel
theorem dX1_wrongButtons_10 : decode cX1_wrongButtons 10 = .ok (.aload_n 0, 1) := by decide +kernel
theorem dX1_wrongButtons_11 : decode cX1_wrongButtons 11 = .ok (.iconst 3, 1) := by decide +kernel
theorem dX1_wrongButtons_12 : decode cX1_wrongButtons 12 = .ok (.iload_n 2, 1) := by decide +kernel
theorem dX1_wrongButtons_13 : decode cX1_wrongButtons 13 = .ok (.iadd, 1) := by decide +kernel
theorem dX1_wrongButtons_14 : decode cX1_wrongButtons 14 = .ok (.invokevirtual 94, 3) := by decide +kernel
theorem dX1_wrongButtons_17 : decode cX1_wrongButtons 17 = .ok (.iadd, 1) := by decide +kernel
theorem dX1_wrongButtons_18 : decode cX1_wrongButtons 18 = .ok (.istore_n 1, 1) := by decide +kernel
theorem dX1_wrongButtons_19 : decode cX1_wrongButtons 19 = .ok (.iinc 2 1, 3) := by decide +kernel
theorem dX1_wrongButtons_22 : decode cX1_wrongButtons 22 = .ok (.goto (-18), 3) := by decide +kernel
theorem dX1_wrongButtons_25 : decode cX1_wrongButtons 25 = .ok (.iload_n 1, 1) := by decide +kernel
theorem dX1_wrongButtons_26 : decode cX1_wrongButtons 26 = .ok (.ireturn, 1) := by decide +kernel
set_option maxRecDepth 20000 in
theorem ggX1_wrongInAll_X1_wrongInRow : GoodIn wsX1_wrongInAll wsX1_wrongInRow := goodIn_r _ [5, 6, 7, 8, 9, 4, 10, 11, 12, 13, 14, 15, 16, 17, 18, 19] (by decide +kernel) (by decide +kernel)
set_option maxRecDepth 20000 in
theorem gX1_wrongInAll_X1_wrongInRow : GoodIn wsX1_wrongInAll (wsV RX1 94 RX1 yX1_wrongInRow wsX1_wrongInRow) := goodIn_app (goodIn_of _ (by decide +kernel)) ggX1_wrongInAll_X1_wrongInRow
theorem dX1_wrongInAll_0 : decode cX1_wrongInAll 0 = .ok (.iconst 0, 1) := by decide +kernel
theorem dX1_wrongInAll_1 : decode cX1_wrongInAll 1 = .ok (.istore_n 1, 1) := by decide +kernel
theorem dX1_wrongInAll_2 : decode cX1_wrongInAll 2 = .ok (.iconst 2, 1) := by decide +kernel
theorem dX1_wrongInAll_3 : decode cX1_wrongInAll 3 = .ok (.istore_n 2, 1) := by decide +kernel
theorem dX1_wrongInAll_4 : decode cX1_wrongInAll 4 = .ok (.iload_n 2, 1) := by decide +kernel
theorem dX1_wrongInAll_5 : decode cX1_wrongInAll 5 = .ok (.bipush 6, 2) := by decide +kernel
theorem dX1_wrongInAll_7 : decode cX1_wrongInAll 7 = .ok (.if_icmp .ge 17, 3) := by decide +kernel
theorem dX1_wrongInAll_10 : decode cX1_wrongInAll 10 = .ok (.iload_n 1, 1) := by decide +kernel
theorem dX1_wrongInAll_11 : decode cX1_wrongInAll 11 = .ok (.aload_n 0, 1) := by decide +kernel
theorem dX1_wrongInAll_12 : decode cX1_wrongInAll 12 = .ok (.iload_n 2, 1) := by decide +kernel
theorem dX1_wrongInAll_13 : decode cX1_wrongInAll 13 = .ok (.invokevirtual 94, 3) := by decide +kernel
theorem dX1_wrongInAll_16 : decode cX1_wrongInAll 16 = .ok (.iadd, 1) := by decide +kernel
theorem dX1_wrongInAll_17 : decode cX1_wrongInAll 17 = .ok (.istore_n 1, 1) := by decide +kernel
theorem dX1_wrongInAll_18 : decode cX1_wrongInAll 18 = .ok (.iinc 2 1, 3) := by decide +kernel
theorem dX1_wrongInAll_21 : decode cX1_wrongInAll 21 = .ok (.goto (-17), 3) := by decide +kernel
theorem dX1_wrongInAll_24 : decode cX1_wrongInAll 24 = .ok (.iload_n 1, 1) := by decide +kernel
theorem dX1_wrongInAll_25 : decode cX1_wrongInAll 25 = .ok (.ireturn, 1) := by decide +kernel
set_option maxRecDepth 20000 in
theorem ggX1_wrongOf_X1_isRight : GoodIn wsX1_wrongOf wsX1_isRight := goodIn_r _ [5, 6, 7, 8, 4, 9, 10, 11, 12, 13, 14] (by decide +kernel) (by decide +kernel)
set_option maxRecDepth 20000 in
theorem gX1_wrongOf_X1_isRight : GoodIn wsX1_wrongOf (wsV RX1 58 RX1 yX1_isRight wsX1_isRight) := goodIn_app (goodIn_of _ (by decide +kernel)) ggX1_wrongOf_X1_isRight
theorem dX1_wrongOf_0 : decode cX1_wrongOf 0 = .ok (.aload_n 0, 1) := by decide +kernel
theorem dX1_wrongOf_1 : decode cX1_wrongOf 1 = .ok (.iconst 2, 1) := by decide +kernel
theorem dX1_wrongOf_2 : decode cX1_wrongOf 2 = .ok (.iload_n 1, 1) := by decide +kernel
theorem dX1_wrongOf_3 : decode cX1_wrongOf 3 = .ok (.invokevirtual 58, 3) := by decide +kernel
theorem dX1_wrongOf_6 : decode cX1_wrongOf 6 = .ok (.ifCond .eq 7, 3) := by decide +kernel
theorem dX1_wrongOf_9 : decode cX1_wrongOf 9 = .ok (.iconst 0, 1) := by decide +kernel
theorem dX1_wrongOf_10 : decode cX1_wrongOf 10 = .ok (.goto 4, 3) := by decide +kernel
theorem dX1_wrongOf_13 : decode cX1_wrongOf 13 = .ok (.iconst 1, 1) := by decide +kernel
theorem dX1_wrongOf_14 : decode cX1_wrongOf 14 = .ok (.istore_n 2, 1) := by decide +kernel
theorem dX1_wrongOf_15 : decode cX1_wrongOf 15 = .ok (.iconst 0, 1) := by decide +kernel
theorem dX1_wrongOf_16 : decode cX1_wrongOf 16 = .ok (.istore_n 3, 1) := by decide +kernel
theorem dX1_wrongOf_17 : decode cX1_wrongOf 17 = .ok (.iload_n 3, 1) := by decide +kernel
theorem dX1_wrongOf_18 : decode cX1_wrongOf 18 = .ok (.iconst 3, 1) := by decide +kernel
theorem dX1_wrongOf_19 : decode cX1_wrongOf 19 = .ok (.if_icmp .ge 23, 3) := by decide +kernel
theorem dX1_wrongOf_22 : decode cX1_wrongOf 22 = .ok (.aload_n 0, 1) := by decide +kernel
theorem dX1_wrongOf_23 : decode cX1_wrongOf 23 = .ok (.iconst 3, 1) := by decide +kernel
theorem dX1_wrongOf_24 : decode cX1_wrongOf 24 = .ok (.iload_n 3, 1) := by decide +kernel
theorem dX1_wrongOf_25 : decode cX1_wrongOf 25 = .ok (.iadd, 1) := by decide +kernel
theorem dX1_wrongOf_26 : decode cX1_wrongOf 26 = .ok (.iload_n 1, 1) := by decide +kernel
theorem dX1_wrongOf_27 : decode cX1_wrongOf 27 = .ok (.invokevirtual 58, 3) := by decide +kernel
theorem dX1_wrongOf_30 : decode cX1_wrongOf 30 = .ok (.ifCond .ne 6, 3) := by decide +kernel
theorem dX1_wrongOf_33 : decode cX1_wrongOf 33 = .ok (.iinc 2 1, 3) := by decide +kernel
theorem dX1_wrongOf_36 : decode cX1_wrongOf 36 = .ok (.iinc 3 1, 3) := by decide +kernel
theorem dX1_wrongOf_39 : decode cX1_wrongOf 39 = .ok (.goto (-22), 3) := by decide +kernel
theorem dX1_wrongOf_42 : decode cX1_wrongOf 42 = .ok (.iload_n 2, 1) := by decide +kernel
theorem dX1_wrongOf_43 : decode cX1_wrongOf 43 = .ok (.ireturn, 1) := by decide +kernel
set_option maxRecDepth 20000 in
theorem ggX1_insertLevel_X6_isKind : GoodIn wsX1_insertLevel wsX6_isKind := goodIn_r _ [5] (by decide +kernel) (by decide +kernel)
set_option maxRecDepth 20000 in
theorem gX1_insertLevel_X6_isKind_n97 : GoodIn wsX1_insertLevel (wsX6_isKind) := ggX1_insertLevel_X6_isKind
set_option maxRecDepth 20000 in
theorem ggX1_insertLevel_X1_isFull : GoodIn wsX1_insertLevel wsX1_isFull := goodIn_r _ [10, 1, 37, 38, 39, 40] (by decide +kernel) (by decide +kernel)
set_option maxRecDepth 20000 in
theorem gX1_insertLevel_X1_isFull : GoodIn wsX1_insertLevel (wsV RX1 100 RX1 yX1_isFull wsX1_isFull) := goodIn_app (goodIn_of _ (by decide +kernel)) ggX1_insertLevel_X1_isFull
set_option maxRecDepth 20000 in
theorem ggX1_insertLevel_X1_cell : GoodIn wsX1_insertLevel wsX1_cell := goodIn_r _ [14, 15, 37, 38, 39, 40] (by decide +kernel) (by decide +kernel)
set_option maxRecDepth 20000 in
theorem gX1_insertLevel_X1_cell : GoodIn wsX1_insertLevel (wsV RX1 54 RX1 yX1_cell wsX1_cell) := goodIn_app (goodIn_of _ (by decide +kernel)) ggX1_insertLevel_X1_cell
set_option maxRecDepth 20000 in
theorem ggX1_insertLevel_X1_put : GoodIn wsX1_insertLevel wsX1_put := goodIn_r _ [19, 15, 37, 38, 39, 40] (by decide +kernel) (by decide +kernel)
set_option maxRecDepth 20000 in
theorem gX1_insertLevel_X1_put : GoodIn wsX1_insertLevel (wsV RX1 104 RX1 yX1_put wsX1_put) := goodIn_app (goodIn_of _ (by decide +kernel)) ggX1_insertLevel_X1_put
set_option maxRecDepth 20000 in
theorem ggX1_insertLevel_X1_furnish : GoodIn wsX1_insertLevel wsX1_furnish := goodIn_r _ [23, 16, 17, 18, 9, 19, 15, 37, 38, 39, 40] (by decide +kernel) (by decide +kernel)
set_option maxRecDepth 20000 in
theorem gX1_insertLevel_X1_furnish : GoodIn wsX1_insertLevel (wsV RX1 19 RX1 yX1_furnish wsX1_furnish) := goodIn_app (goodIn_of _ (by decide +kernel)) ggX1_insertLevel_X1_furnish
set_option maxRecDepth 20000 in
theorem ggX1_insertLevel_X1_renumber : GoodIn wsX1_insertLevel wsX1_renumber := goodIn_r _ [27, 2, 1, 16, 17, 18, 9, 19, 15, 11, 12, 13, 14, 28, 29, 30, 31, 32, 33, 34, 35, 36, 37, 38, 39, 40] (by decide +kernel) (by decide +kernel)
set_option maxRecDepth 20000 in
theorem gX1_insertLevel_X1_renumber : GoodIn wsX1_insertLevel (wsV RX1 23 RX1 yX1_renumber wsX1_renumber) := goodIn_app (goodIn_of _ (by decide +kernel)) ggX1_insertLevel_X1_renumber
theorem dX1_insertLevel_0 : decode cX1_insertLevel 0 = .ok (.iload_n 1, 1) := by decide +kernel
theorem dX1_insertLevel_1 : decode cX1_insertLevel 1 = .ok (.ifCond .lt 25, 3) := by decide +kernel
theorem dX1_insertLevel_4 : decode cX1_insertLevel 4 = .ok (.iload_n 1, 1) := by decide +kernel
theorem dX1_insertLevel_5 : decode cX1_insertLevel 5 = .ok (.aload_n 0, 1) := by decide +kernel
theorem dX1_insertLevel_6 : decode cX1_insertLevel 6 = .ok (.getfield 15, 3) := by decide +kernel
theorem dX1_insertLevel_9 : decode cX1_insertLevel 9 = .ok (.if_icmp .gt 17, 3) := by decide +kernel
theorem dX1_insertLevel_12 : decode cX1_insertLevel 12 = .ok (.iload_n 2, 1) := by decide +kernel
theorem dX1_insertLevel_13 : decode cX1_insertLevel 13 = .ok (.invokestatic 97, 3) := by decide +kernel
theorem dX1_insertLevel_16 : decode cX1_insertLevel 16 = .ok (.ifCond .eq 10, 3) := by decide +kernel
theorem dX1_insertLevel_19 : decode cX1_insertLevel 19 = .ok (.aload_n 0, 1) := by decide +kernel
theorem dX1_insertLevel_20 : decode cX1_insertLevel 20 = .ok (.invokevirtual 100, 3) := by decide +kernel
theorem dX1_insertLevel_23 : decode cX1_insertLevel 23 = .ok (.ifCond .eq 5, 3) := by decide +kernel
theorem dX1_insertLevel_26 : decode cX1_insertLevel 26 = .ok (.iconst 0, 1) := by decide +kernel
theorem dX1_insertLevel_27 : decode cX1_insertLevel 27 = .ok (.ireturn, 1) := by decide +kernel
theorem dX1_insertLevel_28 : decode cX1_insertLevel 28 = .ok (.aload_n 0, 1) := by decide +kernel
theorem dX1_insertLevel_29 : decode cX1_insertLevel 29 = .ok (.dup, 1) := by decide +kernel
theorem dX1_insertLevel_30 : decode cX1_insertLevel 30 = .ok (.getfield 15, 3) := by decide +kernel
theorem dX1_insertLevel_33 : decode cX1_insertLevel 33 = .ok (.iconst 1, 1) := by decide +kernel
theorem dX1_insertLevel_34 : decode cX1_insertLevel 34 = .ok (.iadd, 1) := by decide +kernel
theorem dX1_insertLevel_35 : decode cX1_insertLevel 35 = .ok (.putfield 15, 3) := by decide +kernel
theorem dX1_insertLevel_38 : decode cX1_insertLevel 38 = .ok (.iconst 0, 1) := by decide +kernel
theorem dX1_insertLevel_39 : decode cX1_insertLevel 39 = .ok (.istore_n 3, 1) := by decide +kernel
theorem dX1_insertLevel_40 : decode cX1_insertLevel 40 = .ok (.iload_n 3, 1) := by decide +kernel
theorem dX1_insertLevel_41 : decode cX1_insertLevel 41 = .ok (.bipush 9, 2) := by decide +kernel
theorem dX1_insertLevel_43 : decode cX1_insertLevel 43 = .ok (.if_icmp .ge 45, 3) := by decide +kernel
theorem dX1_insertLevel_46 : decode cX1_insertLevel 46 = .ok (.aload_n 0, 1) := by decide +kernel
theorem dX1_insertLevel_47 : decode cX1_insertLevel 47 = .ok (.getfield 15, 3) := by decide +kernel
theorem dX1_insertLevel_50 : decode cX1_insertLevel 50 = .ok (.iconst 1, 1) := by decide +kernel
theorem dX1_insertLevel_51 : decode cX1_insertLevel 51 = .ok (.isub, 1) := by decide +kernel
theorem dX1_insertLevel_52 : decode cX1_insertLevel 52 = .ok (.istore 4, 2) := by decide +kernel
theorem dX1_insertLevel_54 : decode cX1_insertLevel 54 = .ok (.iload 4, 2) := by decide +kernel
theorem dX1_insertLevel_56 : decode cX1_insertLevel 56 = .ok (.iload_n 1, 1) := by decide +kernel
theorem dX1_insertLevel_57 : decode cX1_insertLevel 57 = .ok (.if_icmp .le 25, 3) := by decide +kernel
theorem dX1_insertLevel_60 : decode cX1_insertLevel 60 = .ok (.aload_n 0, 1) := by decide +kernel
theorem dX1_insertLevel_61 : decode cX1_insertLevel 61 = .ok (.iload_n 3, 1) := by decide +kernel
theorem dX1_insertLevel_62 : decode cX1_insertLevel 62 = .ok (.iload 4, 2) := by decide +kernel
theorem dX1_insertLevel_64 : decode cX1_insertLevel 64 = .ok (.aload_n 0, 1) := by decide +kernel
theorem dX1_insertLevel_65 : decode cX1_insertLevel 65 = .ok (.iload_n 3, 1) := by decide +kernel
theorem dX1_insertLevel_66 : decode cX1_insertLevel 66 = .ok (.iload 4, 2) := by decide +kernel
theorem dX1_insertLevel_68 : decode cX1_insertLevel 68 = .ok (.iconst 1, 1) := by decide +kernel
theorem dX1_insertLevel_69 : decode cX1_insertLevel 69 = .ok (.isub, 1) := by decide +kernel
theorem dX1_insertLevel_70 : decode cX1_insertLevel 70 = .ok (.invokevirtual 54, 3) := by decide +kernel
theorem dX1_insertLevel_73 : decode cX1_insertLevel 73 = .ok (.invokevirtual 104, 3) := by decide +kernel
theorem dX1_insertLevel_76 : decode cX1_insertLevel 76 = .ok (.iinc 4 (-1), 3) := by decide +kernel
theorem dX1_insertLevel_79 : decode cX1_insertLevel 79 = .ok (.goto (-25), 3) := by decide +kernel
theorem dX1_insertLevel_82 : decode cX1_insertLevel 82 = .ok (.iinc 3 1, 3) := by decide +kernel
theorem dX1_insertLevel_85 : decode cX1_insertLevel 85 = .ok (.goto (-45), 3) := by decide +kernel
theorem dX1_insertLevel_88 : decode cX1_insertLevel 88 = .ok (.aload_n 0, 1) := by decide +kernel
theorem dX1_insertLevel_89 : decode cX1_insertLevel 89 = .ok (.iload_n 1, 1) := by decide +kernel
theorem dX1_insertLevel_90 : decode cX1_insertLevel 90 = .ok (.iload_n 2, 1) := by decide +kernel
theorem dX1_insertLevel_91 : decode cX1_insertLevel 91 = .ok (.invokevirtual 19, 3) := by decide +kernel
theorem dX1_insertLevel_94 : decode cX1_insertLevel 94 = .ok (.iload_n 1, 1) := by decide +kernel
theorem dX1_insertLevel_95 : decode cX1_insertLevel 95 = .ok (.aload_n 0, 1) := by decide +kernel
theorem dX1_insertLevel_96 : decode cX1_insertLevel 96 = .ok (.getfield 32, 3) := by decide +kernel
theorem dX1_insertLevel_99 : decode cX1_insertLevel 99 = .ok (.if_icmp .gt 13, 3) := by decide +kernel
theorem dX1_insertLevel_102 : decode cX1_insertLevel 102 = .ok (.aload_n 0, 1) := by decide +kernel
theorem dX1_insertLevel_103 : decode cX1_insertLevel 103 = .ok (.dup, 1) := by decide +kernel
theorem dX1_insertLevel_104 : decode cX1_insertLevel 104 = .ok (.getfield 32, 3) := by decide +kernel
theorem dX1_insertLevel_107 : decode cX1_insertLevel 107 = .ok (.iconst 1, 1) := by decide +kernel
theorem dX1_insertLevel_108 : decode cX1_insertLevel 108 = .ok (.iadd, 1) := by decide +kernel
theorem dX1_insertLevel_109 : decode cX1_insertLevel 109 = .ok (.putfield 32, 3) := by decide +kernel
theorem dX1_insertLevel_112 : decode cX1_insertLevel 112 = .ok (.aload_n 0, 1) := by decide +kernel
theorem dX1_insertLevel_113 : decode cX1_insertLevel 113 = .ok (.invokevirtual 23, 3) := by decide +kernel
theorem dX1_insertLevel_116 : decode cX1_insertLevel 116 = .ok (.iconst 1, 1) := by decide +kernel
theorem dX1_insertLevel_117 : decode cX1_insertLevel 117 = .ok (.ireturn, 1) := by decide +kernel
set_option maxRecDepth 20000 in
theorem ggX1_deleteLevel_X1_hasLevel : GoodIn wsX1_deleteLevel wsX1_hasLevel := goodIn_r _ [7, 2, 30, 31, 32, 33] (by decide +kernel) (by decide +kernel)
set_option maxRecDepth 20000 in
theorem gX1_deleteLevel_X1_hasLevel : GoodIn wsX1_deleteLevel (wsV RX1 108 RX1 yX1_hasLevel wsX1_hasLevel) := goodIn_app (goodIn_of _ (by decide +kernel)) ggX1_deleteLevel_X1_hasLevel
set_option maxRecDepth 20000 in
theorem ggX1_deleteLevel_X1_cell : GoodIn wsX1_deleteLevel wsX1_cell := goodIn_r _ [11, 12, 30, 31, 32, 33] (by decide +kernel) (by decide +kernel)
set_option maxRecDepth 20000 in
theorem gX1_deleteLevel_X1_cell : GoodIn wsX1_deleteLevel (wsV RX1 54 RX1 yX1_cell wsX1_cell) := goodIn_app (goodIn_of _ (by decide +kernel)) ggX1_deleteLevel_X1_cell
set_option maxRecDepth 20000 in
theorem ggX1_deleteLevel_X1_put : GoodIn wsX1_deleteLevel wsX1_put := goodIn_r _ [16, 12, 30, 31, 32, 33] (by decide +kernel) (by decide +kernel)
set_option maxRecDepth 20000 in
theorem gX1_deleteLevel_X1_put : GoodIn wsX1_deleteLevel (wsV RX1 104 RX1 yX1_put wsX1_put) := goodIn_app (goodIn_of _ (by decide +kernel)) ggX1_deleteLevel_X1_put
set_option maxRecDepth 20000 in
theorem ggX1_deleteLevel_X1_renumber : GoodIn wsX1_deleteLevel wsX1_renumber := goodIn_r _ [20, 1, 2, 13, 14, 15, 6, 16, 12, 8, 9, 10, 11, 21, 22, 23, 24, 25, 26, 27, 28, 29, 30, 31, 32, 33] (by decide +kernel) (by decide +kernel)
set_option maxRecDepth 20000 in
theorem gX1_deleteLevel_X1_renumber : GoodIn wsX1_deleteLevel (wsV RX1 23 RX1 yX1_renumber wsX1_renumber) := goodIn_app (goodIn_of _ (by decide +kernel)) ggX1_deleteLevel_X1_renumber
theorem dX1_deleteLevel_0 : decode cX1_deleteLevel 0 = .ok (.aload_n 0, 1) := by decide +kernel
theorem dX1_deleteLevel_1 : decode cX1_deleteLevel 1 = .ok (.iload_n 1, 1) := by decide +kernel
theorem dX1_deleteLevel_2 : decode cX1_deleteLevel 2 = .ok (.invokevirtual 108, 3) := by decide +kernel
theorem dX1_deleteLevel_5 : decode cX1_deleteLevel 5 = .ok (.ifCond .eq 11, 3) := by decide +kernel
theorem dX1_deleteLevel_8 : decode cX1_deleteLevel 8 = .ok (.iload_n 1, 1) := by decide +kernel
theorem dX1_deleteLevel_9 : decode cX1_deleteLevel 9 = .ok (.aload_n 0, 1) := by decide +kernel
theorem dX1_deleteLevel_10 : decode cX1_deleteLevel 10 = .ok (.getfield 32, 3) := by decide +kernel
theorem dX1_deleteLevel_13 : decode cX1_deleteLevel 13 = .ok (.if_icmp .ne 5, 3) := by decide +kernel
theorem dX1_deleteLevel_16 : decode cX1_deleteLevel 16 = .ok (.iconst 0, 1) := by decide +kernel
theorem dX1_deleteLevel_17 : decode cX1_deleteLevel 17 = .ok (.ireturn, 1) := by decide +kernel
theorem dX1_deleteLevel_18 : decode cX1_deleteLevel 18 = .ok (.aload_n 0, 1) := by decide +kernel
theorem dX1_deleteLevel_19 : decode cX1_deleteLevel 19 = .ok (.dup, 1) := by decide +kernel
theorem dX1_deleteLevel_20 : decode cX1_deleteLevel 20 = .ok (.getfield 15, 3) := by decide +kernel
theorem dX1_deleteLevel_23 : decode cX1_deleteLevel 23 = .ok (.iconst 1, 1) := by decide +kernel
theorem dX1_deleteLevel_24 : decode cX1_deleteLevel 24 = .ok (.isub, 1) := by decide +kernel
theorem dX1_deleteLevel_25 : decode cX1_deleteLevel 25 = .ok (.putfield 15, 3) := by decide +kernel
theorem dX1_deleteLevel_28 : decode cX1_deleteLevel 28 = .ok (.iconst 0, 1) := by decide +kernel
theorem dX1_deleteLevel_29 : decode cX1_deleteLevel 29 = .ok (.istore_n 2, 1) := by decide +kernel
theorem dX1_deleteLevel_30 : decode cX1_deleteLevel 30 = .ok (.iload_n 2, 1) := by decide +kernel
theorem dX1_deleteLevel_31 : decode cX1_deleteLevel 31 = .ok (.bipush 9, 2) := by decide +kernel
theorem dX1_deleteLevel_33 : decode cX1_deleteLevel 33 = .ok (.if_icmp .ge 39, 3) := by decide +kernel
theorem dX1_deleteLevel_36 : decode cX1_deleteLevel 36 = .ok (.iload_n 1, 1) := by decide +kernel
theorem dX1_deleteLevel_37 : decode cX1_deleteLevel 37 = .ok (.istore_n 3, 1) := by decide +kernel
theorem dX1_deleteLevel_38 : decode cX1_deleteLevel 38 = .ok (.iload_n 3, 1) := by decide +kernel
theorem dX1_deleteLevel_39 : decode cX1_deleteLevel 39 = .ok (.aload_n 0, 1) := by decide +kernel
theorem dX1_deleteLevel_40 : decode cX1_deleteLevel 40 = .ok (.getfield 15, 3) := by decide +kernel
theorem dX1_deleteLevel_43 : decode cX1_deleteLevel 43 = .ok (.if_icmp .ge 23, 3) := by decide +kernel
theorem dX1_deleteLevel_46 : decode cX1_deleteLevel 46 = .ok (.aload_n 0, 1) := by decide +kernel
theorem dX1_deleteLevel_47 : decode cX1_deleteLevel 47 = .ok (.iload_n 2, 1) := by decide +kernel
theorem dX1_deleteLevel_48 : decode cX1_deleteLevel 48 = .ok (.iload_n 3, 1) := by decide +kernel
theorem dX1_deleteLevel_49 : decode cX1_deleteLevel 49 = .ok (.aload_n 0, 1) := by decide +kernel
theorem dX1_deleteLevel_50 : decode cX1_deleteLevel 50 = .ok (.iload_n 2, 1) := by decide +kernel
theorem dX1_deleteLevel_51 : decode cX1_deleteLevel 51 = .ok (.iload_n 3, 1) := by decide +kernel
theorem dX1_deleteLevel_52 : decode cX1_deleteLevel 52 = .ok (.iconst 1, 1) := by decide +kernel
theorem dX1_deleteLevel_53 : decode cX1_deleteLevel 53 = .ok (.iadd, 1) := by decide +kernel
theorem dX1_deleteLevel_54 : decode cX1_deleteLevel 54 = .ok (.invokevirtual 54, 3) := by decide +kernel
theorem dX1_deleteLevel_57 : decode cX1_deleteLevel 57 = .ok (.invokevirtual 104, 3) := by decide +kernel
theorem dX1_deleteLevel_60 : decode cX1_deleteLevel 60 = .ok (.iinc 3 1, 3) := by decide +kernel
theorem dX1_deleteLevel_63 : decode cX1_deleteLevel 63 = .ok (.goto (-25), 3) := by decide +kernel
theorem dX1_deleteLevel_66 : decode cX1_deleteLevel 66 = .ok (.iinc 2 1, 3) := by decide +kernel
theorem dX1_deleteLevel_69 : decode cX1_deleteLevel 69 = .ok (.goto (-39), 3) := by decide +kernel
theorem dX1_deleteLevel_72 : decode cX1_deleteLevel 72 = .ok (.iload_n 1, 1) := by decide +kernel
theorem dX1_deleteLevel_73 : decode cX1_deleteLevel 73 = .ok (.aload_n 0, 1) := by decide +kernel
theorem dX1_deleteLevel_74 : decode cX1_deleteLevel 74 = .ok (.getfield 32, 3) := by decide +kernel
theorem dX1_deleteLevel_77 : decode cX1_deleteLevel 77 = .ok (.if_icmp .ge 13, 3) := by decide +kernel
theorem dX1_deleteLevel_80 : decode cX1_deleteLevel 80 = .ok (.aload_n 0, 1) := by decide +kernel
theorem dX1_deleteLevel_81 : decode cX1_deleteLevel 81 = .ok (.dup, 1) := by decide +kernel
theorem dX1_deleteLevel_82 : decode cX1_deleteLevel 82 = .ok (.getfield 32, 3) := by decide +kernel
theorem dX1_deleteLevel_85 : decode cX1_deleteLevel 85 = .ok (.iconst 1, 1) := by decide +kernel
theorem dX1_deleteLevel_86 : decode cX1_deleteLevel 86 = .ok (.isub, 1) := by decide +kernel
theorem dX1_deleteLevel_87 : decode cX1_deleteLevel 87 = .ok (.putfield 32, 3) := by decide +kernel
theorem dX1_deleteLevel_90 : decode cX1_deleteLevel 90 = .ok (.aload_n 0, 1) := by decide +kernel
theorem dX1_deleteLevel_91 : decode cX1_deleteLevel 91 = .ok (.invokevirtual 23, 3) := by decide +kernel
theorem dX1_deleteLevel_94 : decode cX1_deleteLevel 94 = .ok (.iconst 1, 1) := by decide +kernel
theorem dX1_deleteLevel_95 : decode cX1_deleteLevel 95 = .ok (.ireturn, 1) := by decide +kernel
set_option maxRecDepth 20000 in
theorem ggX1_changeKind_X1_hasLevel : GoodIn wsX1_changeKind wsX1_hasLevel := goodIn_r _ [6, 7, 33, 34, 35, 36] (by decide +kernel) (by decide +kernel)
set_option maxRecDepth 20000 in
theorem gX1_changeKind_X1_hasLevel : GoodIn wsX1_changeKind (wsV RX1 108 RX1 yX1_hasLevel wsX1_hasLevel) := goodIn_app (goodIn_of _ (by decide +kernel)) ggX1_changeKind_X1_hasLevel
set_option maxRecDepth 20000 in
theorem ggX1_changeKind_X6_isKind : GoodIn wsX1_changeKind wsX6_isKind := goodIn_r _ [10] (by decide +kernel) (by decide +kernel)
set_option maxRecDepth 20000 in
theorem gX1_changeKind_X6_isKind_n97 : GoodIn wsX1_changeKind (wsX6_isKind) := ggX1_changeKind_X6_isKind
set_option maxRecDepth 20000 in
theorem ggX1_changeKind_X1_put : GoodIn wsX1_changeKind wsX1_put := goodIn_r _ [14, 15, 33, 34, 35, 36] (by decide +kernel) (by decide +kernel)
set_option maxRecDepth 20000 in
theorem gX1_changeKind_X1_put : GoodIn wsX1_changeKind (wsV RX1 104 RX1 yX1_put wsX1_put) := goodIn_app (goodIn_of _ (by decide +kernel)) ggX1_changeKind_X1_put
set_option maxRecDepth 20000 in
theorem ggX1_changeKind_X1_renumber : GoodIn wsX1_changeKind wsX1_renumber := goodIn_r _ [19, 1, 7, 11, 12, 13, 5, 14, 15, 20, 21, 22, 23, 24, 25, 26, 27, 28, 29, 30, 31, 32, 33, 34, 35, 36] (by decide +kernel) (by decide +kernel)
set_option maxRecDepth 20000 in
theorem gX1_changeKind_X1_renumber : GoodIn wsX1_changeKind (wsV RX1 23 RX1 yX1_renumber wsX1_renumber) := goodIn_app (goodIn_of _ (by decide +kernel)) ggX1_changeKind_X1_renumber
theorem dX1_changeKind_0 : decode cX1_changeKind 0 = .ok (.aload_n 0, 1) := by decide +kernel
theorem dX1_changeKind_1 : decode cX1_changeKind 1 = .ok (.iload_n 1, 1) := by decide +kernel
theorem dX1_changeKind_2 : decode cX1_changeKind 2 = .ok (.invokevirtual 108, 3) := by decide +kernel
theorem dX1_changeKind_5 : decode cX1_changeKind 5 = .ok (.ifCond .eq 22, 3) := by decide +kernel
theorem dX1_changeKind_8 : decode cX1_changeKind 8 = .ok (.iload_n 2, 1) := by decide +kernel
theorem dX1_changeKind_9 : decode cX1_changeKind 9 = .ok (.invokestatic 97, 3) := by decide +kernel
theorem dX1_changeKind_12 : decode cX1_changeKind 12 = .ok (.ifCond .eq 15, 3) := by decide +kernel
theorem dX1_changeKind_15 : decode cX1_changeKind 15 = .ok (.iload_n 1, 1) := by decide +kernel
theorem dX1_changeKind_16 : decode cX1_changeKind 16 = .ok (.aload_n 0, 1) := by decide +kernel
theorem dX1_changeKind_17 : decode cX1_changeKind 17 = .ok (.getfield 32, 3) := by decide +kernel
theorem dX1_changeKind_20 : decode cX1_changeKind 20 = .ok (.if_icmp .ne 9, 3) := by decide +kernel
theorem dX1_changeKind_23 : decode cX1_changeKind 23 = .ok (.iload_n 2, 1) := by decide +kernel
theorem dX1_changeKind_24 : decode cX1_changeKind 24 = .ok (.ifCond .eq 5, 3) := by decide +kernel
theorem dX1_changeKind_27 : decode cX1_changeKind 27 = .ok (.iconst 0, 1) := by decide +kernel
theorem dX1_changeKind_28 : decode cX1_changeKind 28 = .ok (.ireturn, 1) := by decide +kernel
theorem dX1_changeKind_29 : decode cX1_changeKind 29 = .ok (.aload_n 0, 1) := by decide +kernel
theorem dX1_changeKind_30 : decode cX1_changeKind 30 = .ok (.iconst 0, 1) := by decide +kernel
theorem dX1_changeKind_31 : decode cX1_changeKind 31 = .ok (.iload_n 1, 1) := by decide +kernel
theorem dX1_changeKind_32 : decode cX1_changeKind 32 = .ok (.iload_n 2, 1) := by decide +kernel
theorem dX1_changeKind_33 : decode cX1_changeKind 33 = .ok (.invokevirtual 104, 3) := by decide +kernel
theorem dX1_changeKind_36 : decode cX1_changeKind 36 = .ok (.aload_n 0, 1) := by decide +kernel
theorem dX1_changeKind_37 : decode cX1_changeKind 37 = .ok (.invokevirtual 23, 3) := by decide +kernel
theorem dX1_changeKind_40 : decode cX1_changeKind 40 = .ok (.iconst 1, 1) := by decide +kernel
theorem dX1_changeKind_41 : decode cX1_changeKind 41 = .ok (.ireturn, 1) := by decide +kernel
set_option maxRecDepth 20000 in
theorem ggX1_moveGround_X1_hasLevel : GoodIn wsX1_moveGround wsX1_hasLevel := goodIn_r _ [6, 7, 34, 35, 36, 37] (by decide +kernel) (by decide +kernel)
set_option maxRecDepth 20000 in
theorem gX1_moveGround_X1_hasLevel : GoodIn wsX1_moveGround (wsV RX1 108 RX1 yX1_hasLevel wsX1_hasLevel) := goodIn_app (goodIn_of _ (by decide +kernel)) ggX1_moveGround_X1_hasLevel
set_option maxRecDepth 20000 in
theorem ggX1_moveGround_X1_kindOf : GoodIn wsX1_moveGround wsX1_kindOf := goodIn_r _ [11, 12, 13, 14, 5, 15, 16, 34, 35, 36, 37] (by decide +kernel) (by decide +kernel)
set_option maxRecDepth 20000 in
theorem gX1_moveGround_X1_kindOf : GoodIn wsX1_moveGround (wsV RX1 111 RX1 yX1_kindOf wsX1_kindOf) := goodIn_app (goodIn_of _ (by decide +kernel)) ggX1_moveGround_X1_kindOf
set_option maxRecDepth 20000 in
theorem ggX1_moveGround_X1_renumber : GoodIn wsX1_moveGround wsX1_renumber := goodIn_r _ [20, 1, 7, 21, 22, 23, 5, 24, 16, 12, 13, 14, 15, 25, 26, 27, 28, 29, 30, 31, 32, 33, 34, 35, 36, 37] (by decide +kernel) (by decide +kernel)
set_option maxRecDepth 20000 in
theorem gX1_moveGround_X1_renumber : GoodIn wsX1_moveGround (wsV RX1 23 RX1 yX1_renumber wsX1_renumber) := goodIn_app (goodIn_of _ (by decide +kernel)) ggX1_moveGround_X1_renumber
theorem dX1_moveGround_0 : decode cX1_moveGround 0 = .ok (.aload_n 0, 1) := by decide +kernel
theorem dX1_moveGround_1 : decode cX1_moveGround 1 = .ok (.iload_n 1, 1) := by decide +kernel
theorem dX1_moveGround_2 : decode cX1_moveGround 2 = .ok (.invokevirtual 108, 3) := by decide +kernel
theorem dX1_moveGround_5 : decode cX1_moveGround 5 = .ok (.ifCond .eq 20, 3) := by decide +kernel
theorem dX1_moveGround_8 : decode cX1_moveGround 8 = .ok (.aload_n 0, 1) := by decide +kernel
theorem dX1_moveGround_9 : decode cX1_moveGround 9 = .ok (.iload_n 1, 1) := by decide +kernel
theorem dX1_moveGround_10 : decode cX1_moveGround 10 = .ok (.invokevirtual 111, 3) := by decide +kernel
theorem dX1_moveGround_13 : decode cX1_moveGround 13 = .ok (.ifCond .ne 12, 3) := by decide +kernel
theorem dX1_moveGround_16 : decode cX1_moveGround 16 = .ok (.aload_n 0, 1) := by decide +kernel
theorem dX1_moveGround_17 : decode cX1_moveGround 17 = .ok (.iload_n 1, 1) := by decide +kernel
theorem dX1_moveGround_18 : decode cX1_moveGround 18 = .ok (.putfield 32, 3) := by decide +kernel
theorem dX1_moveGround_21 : decode cX1_moveGround 21 = .ok (.aload_n 0, 1) := by decide +kernel
theorem dX1_moveGround_22 : decode cX1_moveGround 22 = .ok (.invokevirtual 23, 3) := by decide +kernel
theorem dX1_moveGround_25 : decode cX1_moveGround 25 = .ok (.return_, 1) := by decide +kernel
set_option maxRecDepth 20000 in
theorem ggX1_changeSkip_X6_canBeSkipped : GoodIn wsX1_changeSkip wsX6_canBeSkipped := goodIn_r _ [4] (by decide +kernel) (by decide +kernel)
set_option maxRecDepth 20000 in
theorem gX1_changeSkip_X6_canBeSkipped_n62 : GoodIn wsX1_changeSkip (wsX6_canBeSkipped) := ggX1_changeSkip_X6_canBeSkipped
set_option maxRecDepth 20000 in
theorem ggX1_changeSkip_X1_renumber : GoodIn wsX1_changeSkip wsX1_renumber := goodIn_r _ [9, 10, 11, 12, 13, 14, 8, 15, 16, 17, 18, 19, 20, 21, 22, 23, 24, 1, 25, 26, 27, 28, 29, 30, 31, 32] (by decide +kernel) (by decide +kernel)
set_option maxRecDepth 20000 in
theorem gX1_changeSkip_X1_renumber : GoodIn wsX1_changeSkip (wsV RX1 23 RX1 yX1_renumber wsX1_renumber) := goodIn_app (goodIn_of _ (by decide +kernel)) ggX1_changeSkip_X1_renumber
theorem dX1_changeSkip_0 : decode cX1_changeSkip 0 = .ok (.iload_n 1, 1) := by decide +kernel
theorem dX1_changeSkip_1 : decode cX1_changeSkip 1 = .ok (.invokestatic 62, 3) := by decide +kernel
theorem dX1_changeSkip_4 : decode cX1_changeSkip 4 = .ok (.ifCond .ne 5, 3) := by decide +kernel
theorem dX1_changeSkip_7 : decode cX1_changeSkip 7 = .ok (.iconst 0, 1) := by decide +kernel
theorem dX1_changeSkip_8 : decode cX1_changeSkip 8 = .ok (.ireturn, 1) := by decide +kernel
theorem dX1_changeSkip_9 : decode cX1_changeSkip 9 = .ok (.iconst 1, 1) := by decide +kernel
theorem dX1_changeSkip_10 : decode cX1_changeSkip 10 = .ok (.iload_n 1, 1) := by decide +kernel
theorem dX1_changeSkip_11 : decode cX1_changeSkip 11 = .ok (.ishl, 1) := by decide +kernel
theorem dX1_changeSkip_12 : decode cX1_changeSkip 12 = .ok (.istore_n 3, 1) := by decide +kernel
theorem dX1_changeSkip_13 : decode cX1_changeSkip 13 = .ok (.aload_n 0, 1) := by decide +kernel
theorem dX1_changeSkip_14 : decode cX1_changeSkip 14 = .ok (.iload_n 2, 1) := by decide +kernel
theorem dX1_changeSkip_15 : decode cX1_changeSkip 15 = .ok (.ifCond .eq 12, 3) := by decide +kernel
theorem dX1_changeSkip_18 : decode cX1_changeSkip 18 = .ok (.aload_n 0, 1) := by decide +kernel
theorem dX1_changeSkip_19 : decode cX1_changeSkip 19 = .ok (.getfield 35, 3) := by decide +kernel
theorem dX1_changeSkip_22 : decode cX1_changeSkip 22 = .ok (.iload_n 3, 1) := by decide +kernel
theorem dX1_changeSkip_23 : decode cX1_changeSkip 23 = .ok (.ior, 1) := by decide +kernel
theorem dX1_changeSkip_24 : decode cX1_changeSkip 24 = .ok (.goto 11, 3) := by decide +kernel
theorem dX1_changeSkip_27 : decode cX1_changeSkip 27 = .ok (.aload_n 0, 1) := by decide +kernel
theorem dX1_changeSkip_28 : decode cX1_changeSkip 28 = .ok (.getfield 35, 3) := by decide +kernel
theorem dX1_changeSkip_31 : decode cX1_changeSkip 31 = .ok (.iload_n 3, 1) := by decide +kernel
theorem dX1_changeSkip_32 : decode cX1_changeSkip 32 = .ok (.iconst (-1), 1) := by decide +kernel
theorem dX1_changeSkip_33 : decode cX1_changeSkip 33 = .ok (.ixor, 1) := by decide +kernel
theorem dX1_changeSkip_34 : decode cX1_changeSkip 34 = .ok (.iand, 1) := by decide +kernel
theorem dX1_changeSkip_35 : decode cX1_changeSkip 35 = .ok (.putfield 35, 3) := by decide +kernel
theorem dX1_changeSkip_38 : decode cX1_changeSkip 38 = .ok (.aload_n 0, 1) := by decide +kernel
theorem dX1_changeSkip_39 : decode cX1_changeSkip 39 = .ok (.invokevirtual 23, 3) := by decide +kernel
theorem dX1_changeSkip_42 : decode cX1_changeSkip 42 = .ok (.iconst 1, 1) := by decide +kernel
theorem dX1_changeSkip_43 : decode cX1_changeSkip 43 = .ok (.ireturn, 1) := by decide +kernel
set_option maxRecDepth 20000 in
theorem ggX1_changeService_X6_isCar : GoodIn wsX1_changeService wsX6_isCar := goodIn_r _ [3] (by decide +kernel) (by decide +kernel)
set_option maxRecDepth 20000 in
theorem gX1_changeService_X6_isCar_n114 : GoodIn wsX1_changeService (wsX6_isCar) := ggX1_changeService_X6_isCar
set_option maxRecDepth 20000 in
theorem ggX1_changeService_X1_hasLevel : GoodIn wsX1_changeService wsX1_hasLevel := goodIn_r _ [8, 9, 15, 16, 17, 18] (by decide +kernel) (by decide +kernel)
set_option maxRecDepth 20000 in
theorem gX1_changeService_X1_hasLevel : GoodIn wsX1_changeService (wsV RX1 108 RX1 yX1_hasLevel wsX1_hasLevel) := goodIn_app (goodIn_of _ (by decide +kernel)) ggX1_changeService_X1_hasLevel
set_option maxRecDepth 20000 in
theorem ggX1_changeService_X1_put : GoodIn wsX1_changeService wsX1_put := goodIn_r _ [13, 14, 15, 16, 17, 18] (by decide +kernel) (by decide +kernel)
set_option maxRecDepth 20000 in
theorem gX1_changeService_X1_put : GoodIn wsX1_changeService (wsV RX1 104 RX1 yX1_put wsX1_put) := goodIn_app (goodIn_of _ (by decide +kernel)) ggX1_changeService_X1_put
theorem dX1_changeService_0 : decode cX1_changeService 0 = .ok (.iload_n 1, 1) := by decide +kernel
theorem dX1_changeService_1 : decode cX1_changeService 1 = .ok (.invokestatic 114, 3) := by decide +kernel
theorem dX1_changeService_4 : decode cX1_changeService 4 = .ok (.ifCond .eq 29, 3) := by decide +kernel
theorem dX1_changeService_7 : decode cX1_changeService 7 = .ok (.aload_n 0, 1) := by decide +kernel
theorem dX1_changeService_8 : decode cX1_changeService 8 = .ok (.iload_n 2, 1) := by decide +kernel
theorem dX1_changeService_9 : decode cX1_changeService 9 = .ok (.invokevirtual 108, 3) := by decide +kernel
theorem dX1_changeService_12 : decode cX1_changeService 12 = .ok (.ifCond .eq 21, 3) := by decide +kernel
theorem dX1_changeService_15 : decode cX1_changeService 15 = .ok (.aload_n 0, 1) := by decide +kernel
theorem dX1_changeService_16 : decode cX1_changeService 16 = .ok (.bipush 6, 2) := by decide +kernel
theorem dX1_changeService_18 : decode cX1_changeService 18 = .ok (.iload_n 1, 1) := by decide +kernel
theorem dX1_changeService_19 : decode cX1_changeService 19 = .ok (.iadd, 1) := by decide +kernel
theorem dX1_changeService_20 : decode cX1_changeService 20 = .ok (.iload_n 2, 1) := by decide +kernel
theorem dX1_changeService_21 : decode cX1_changeService 21 = .ok (.iload_n 3, 1) := by decide +kernel
theorem dX1_changeService_22 : decode cX1_changeService 22 = .ok (.ifCond .eq 7, 3) := by decide +kernel
theorem dX1_changeService_25 : decode cX1_changeService 25 = .ok (.iconst 1, 1) := by decide +kernel
theorem dX1_changeService_26 : decode cX1_changeService 26 = .ok (.goto 4, 3) := by decide +kernel
theorem dX1_changeService_29 : decode cX1_changeService 29 = .ok (.iconst 0, 1) := by decide +kernel
theorem dX1_changeService_30 : decode cX1_changeService 30 = .ok (.invokevirtual 104, 3) := by decide +kernel
theorem dX1_changeService_33 : decode cX1_changeService 33 = .ok (.return_, 1) := by decide +kernel
set_option maxRecDepth 20000 in
theorem ggX1_correctSign_X1_hasLevel : GoodIn wsX1_correctSign wsX1_hasLevel := goodIn_r _ [5, 6, 16, 17, 18, 19] (by decide +kernel) (by decide +kernel)
set_option maxRecDepth 20000 in
theorem gX1_correctSign_X1_hasLevel : GoodIn wsX1_correctSign (wsV RX1 108 RX1 yX1_hasLevel wsX1_hasLevel) := goodIn_app (goodIn_of _ (by decide +kernel)) ggX1_correctSign_X1_hasLevel
set_option maxRecDepth 20000 in
theorem ggX1_correctSign_X1_cell : GoodIn wsX1_correctSign wsX1_cell := goodIn_r _ [10, 11, 16, 17, 18, 19] (by decide +kernel) (by decide +kernel)
set_option maxRecDepth 20000 in
theorem gX1_correctSign_X1_cell : GoodIn wsX1_correctSign (wsV RX1 54 RX1 yX1_cell wsX1_cell) := goodIn_app (goodIn_of _ (by decide +kernel)) ggX1_correctSign_X1_cell
set_option maxRecDepth 20000 in
theorem ggX1_correctSign_X1_put : GoodIn wsX1_correctSign wsX1_put := goodIn_r _ [15, 11, 16, 17, 18, 19] (by decide +kernel) (by decide +kernel)
set_option maxRecDepth 20000 in
theorem gX1_correctSign_X1_put : GoodIn wsX1_correctSign (wsV RX1 104 RX1 yX1_put wsX1_put) := goodIn_app (goodIn_of _ (by decide +kernel)) ggX1_correctSign_X1_put
theorem dX1_correctSign_0 : decode cX1_correctSign 0 = .ok (.aload_n 0, 1) := by decide +kernel
theorem dX1_correctSign_1 : decode cX1_correctSign 1 = .ok (.iload_n 1, 1) := by decide +kernel
theorem dX1_correctSign_2 : decode cX1_correctSign 2 = .ok (.invokevirtual 108, 3) := by decide +kernel
theorem dX1_correctSign_5 : decode cX1_correctSign 5 = .ok (.ifCond .ne 5, 3) := by decide +kernel
theorem dX1_correctSign_8 : decode cX1_correctSign 8 = .ok (.iconst 0, 1) := by decide +kernel
theorem dX1_correctSign_9 : decode cX1_correctSign 9 = .ok (.ireturn, 1) := by decide +kernel
theorem dX1_correctSign_10 : decode cX1_correctSign 10 = .ok (.aload_n 0, 1) := by decide +kernel
theorem dX1_correctSign_11 : decode cX1_correctSign 11 = .ok (.iconst 2, 1) := by decide +kernel
theorem dX1_correctSign_12 : decode cX1_correctSign 12 = .ok (.iload_n 1, 1) := by decide +kernel
theorem dX1_correctSign_13 : decode cX1_correctSign 13 = .ok (.aload_n 0, 1) := by decide +kernel
theorem dX1_correctSign_14 : decode cX1_correctSign 14 = .ok (.iconst 1, 1) := by decide +kernel
theorem dX1_correctSign_15 : decode cX1_correctSign 15 = .ok (.iload_n 1, 1) := by decide +kernel
theorem dX1_correctSign_16 : decode cX1_correctSign 16 = .ok (.invokevirtual 54, 3) := by decide +kernel
theorem dX1_correctSign_19 : decode cX1_correctSign 19 = .ok (.invokevirtual 104, 3) := by decide +kernel
theorem dX1_correctSign_22 : decode cX1_correctSign 22 = .ok (.iconst 1, 1) := by decide +kernel
theorem dX1_correctSign_23 : decode cX1_correctSign 23 = .ok (.ireturn, 1) := by decide +kernel
set_option maxRecDepth 20000 in
theorem ggX1_correctButton_X6_isCar : GoodIn wsX1_correctButton wsX6_isCar := goodIn_r _ [3] (by decide +kernel) (by decide +kernel)
set_option maxRecDepth 20000 in
theorem gX1_correctButton_X6_isCar_n114 : GoodIn wsX1_correctButton (wsX6_isCar) := ggX1_correctButton_X6_isCar
set_option maxRecDepth 20000 in
theorem ggX1_correctButton_X1_hasLevel : GoodIn wsX1_correctButton wsX1_hasLevel := goodIn_r _ [8, 9, 19, 20, 21, 22] (by decide +kernel) (by decide +kernel)
set_option maxRecDepth 20000 in
theorem gX1_correctButton_X1_hasLevel : GoodIn wsX1_correctButton (wsV RX1 108 RX1 yX1_hasLevel wsX1_hasLevel) := goodIn_app (goodIn_of _ (by decide +kernel)) ggX1_correctButton_X1_hasLevel
set_option maxRecDepth 20000 in
theorem ggX1_correctButton_X1_cell : GoodIn wsX1_correctButton wsX1_cell := goodIn_r _ [13, 14, 19, 20, 21, 22] (by decide +kernel) (by decide +kernel)
set_option maxRecDepth 20000 in
theorem gX1_correctButton_X1_cell : GoodIn wsX1_correctButton (wsV RX1 54 RX1 yX1_cell wsX1_cell) := goodIn_app (goodIn_of _ (by decide +kernel)) ggX1_correctButton_X1_cell
set_option maxRecDepth 20000 in
theorem ggX1_correctButton_X1_put : GoodIn wsX1_correctButton wsX1_put := goodIn_r _ [18, 14, 19, 20, 21, 22] (by decide +kernel) (by decide +kernel)
set_option maxRecDepth 20000 in
theorem gX1_correctButton_X1_put : GoodIn wsX1_correctButton (wsV RX1 104 RX1 yX1_put wsX1_put) := goodIn_app (goodIn_of _ (by decide +kernel)) ggX1_correctButton_X1_put
theorem dX1_correctButton_0 : decode cX1_correctButton 0 = .ok (.iload_n 1, 1) := by decide +kernel
theorem dX1_correctButton_1 : decode cX1_correctButton 1 = .ok (.invokestatic 114, 3) := by decide +kernel
theorem dX1_correctButton_4 : decode cX1_correctButton 4 = .ok (.ifCond .eq 11, 3) := by decide +kernel
theorem dX1_correctButton_7 : decode cX1_correctButton 7 = .ok (.aload_n 0, 1) := by decide +kernel
theorem dX1_correctButton_8 : decode cX1_correctButton 8 = .ok (.iload_n 2, 1) := by decide +kernel
theorem dX1_correctButton_9 : decode cX1_correctButton 9 = .ok (.invokevirtual 108, 3) := by decide +kernel
theorem dX1_correctButton_12 : decode cX1_correctButton 12 = .ok (.ifCond .ne 5, 3) := by decide +kernel
theorem dX1_correctButton_15 : decode cX1_correctButton 15 = .ok (.iconst 0, 1) := by decide +kernel
theorem dX1_correctButton_16 : decode cX1_correctButton 16 = .ok (.ireturn, 1) := by decide +kernel
theorem dX1_correctButton_17 : decode cX1_correctButton 17 = .ok (.aload_n 0, 1) := by decide +kernel
theorem dX1_correctButton_18 : decode cX1_correctButton 18 = .ok (.iconst 3, 1) := by decide +kernel
theorem dX1_correctButton_19 : decode cX1_correctButton 19 = .ok (.iload_n 1, 1) := by decide +kernel
theorem dX1_correctButton_20 : decode cX1_correctButton 20 = .ok (.iadd, 1) := by decide +kernel
theorem dX1_correctButton_21 : decode cX1_correctButton 21 = .ok (.iload_n 2, 1) := by decide +kernel
theorem dX1_correctButton_22 : decode cX1_correctButton 22 = .ok (.aload_n 0, 1) := by decide +kernel
theorem dX1_correctButton_23 : decode cX1_correctButton 23 = .ok (.iconst 1, 1) := by decide +kernel
theorem dX1_correctButton_24 : decode cX1_correctButton 24 = .ok (.iload_n 2, 1) := by decide +kernel
theorem dX1_correctButton_25 : decode cX1_correctButton 25 = .ok (.invokevirtual 54, 3) := by decide +kernel
theorem dX1_correctButton_28 : decode cX1_correctButton 28 = .ok (.invokevirtual 104, 3) := by decide +kernel
theorem dX1_correctButton_31 : decode cX1_correctButton 31 = .ok (.iconst 1, 1) := by decide +kernel
theorem dX1_correctButton_32 : decode cX1_correctButton 32 = .ok (.ireturn, 1) := by decide +kernel
set_option maxRecDepth 20000 in
theorem ggX1_correctCar_X6_isCar : GoodIn wsX1_correctCar wsX6_isCar := goodIn_r _ [4] (by decide +kernel) (by decide +kernel)
set_option maxRecDepth 20000 in
theorem gX1_correctCar_X6_isCar_n114 : GoodIn wsX1_correctCar (wsX6_isCar) := ggX1_correctCar_X6_isCar
set_option maxRecDepth 20000 in
theorem ggX1_correctCar_X1_cell : GoodIn wsX1_correctCar wsX1_cell := goodIn_r _ [9, 10, 15, 16, 17, 18] (by decide +kernel) (by decide +kernel)
set_option maxRecDepth 20000 in
theorem gX1_correctCar_X1_cell : GoodIn wsX1_correctCar (wsV RX1 54 RX1 yX1_cell wsX1_cell) := goodIn_app (goodIn_of _ (by decide +kernel)) ggX1_correctCar_X1_cell
set_option maxRecDepth 20000 in
theorem ggX1_correctCar_X1_put : GoodIn wsX1_correctCar wsX1_put := goodIn_r _ [14, 10, 15, 16, 17, 18] (by decide +kernel) (by decide +kernel)
set_option maxRecDepth 20000 in
theorem gX1_correctCar_X1_put : GoodIn wsX1_correctCar (wsV RX1 104 RX1 yX1_put wsX1_put) := goodIn_app (goodIn_of _ (by decide +kernel)) ggX1_correctCar_X1_put
theorem dX1_correctCar_0 : decode cX1_correctCar 0 = .ok (.iload_n 1, 1) := by decide +kernel
theorem dX1_correctCar_1 : decode cX1_correctCar 1 = .ok (.invokestatic 114, 3) := by decide +kernel
theorem dX1_correctCar_4 : decode cX1_correctCar 4 = .ok (.ifCond .ne 5, 3) := by decide +kernel
theorem dX1_correctCar_7 : decode cX1_correctCar 7 = .ok (.iconst 0, 1) := by decide +kernel
theorem dX1_correctCar_8 : decode cX1_correctCar 8 = .ok (.ireturn, 1) := by decide +kernel
theorem dX1_correctCar_9 : decode cX1_correctCar 9 = .ok (.iconst 0, 1) := by decide +kernel
theorem dX1_correctCar_10 : decode cX1_correctCar 10 = .ok (.istore_n 2, 1) := by decide +kernel
theorem dX1_correctCar_11 : decode cX1_correctCar 11 = .ok (.iload_n 2, 1) := by decide +kernel
theorem dX1_correctCar_12 : decode cX1_correctCar 12 = .ok (.aload_n 0, 1) := by decide +kernel
theorem dX1_correctCar_13 : decode cX1_correctCar 13 = .ok (.getfield 15, 3) := by decide +kernel
theorem dX1_correctCar_16 : decode cX1_correctCar 16 = .ok (.if_icmp .ge 23, 3) := by decide +kernel
theorem dX1_correctCar_19 : decode cX1_correctCar 19 = .ok (.aload_n 0, 1) := by decide +kernel
theorem dX1_correctCar_20 : decode cX1_correctCar 20 = .ok (.iconst 3, 1) := by decide +kernel
theorem dX1_correctCar_21 : decode cX1_correctCar 21 = .ok (.iload_n 1, 1) := by decide +kernel
theorem dX1_correctCar_22 : decode cX1_correctCar 22 = .ok (.iadd, 1) := by decide +kernel
theorem dX1_correctCar_23 : decode cX1_correctCar 23 = .ok (.iload_n 2, 1) := by decide +kernel
theorem dX1_correctCar_24 : decode cX1_correctCar 24 = .ok (.aload_n 0, 1) := by decide +kernel
theorem dX1_correctCar_25 : decode cX1_correctCar 25 = .ok (.iconst 1, 1) := by decide +kernel
theorem dX1_correctCar_26 : decode cX1_correctCar 26 = .ok (.iload_n 2, 1) := by decide +kernel
theorem dX1_correctCar_27 : decode cX1_correctCar 27 = .ok (.invokevirtual 54, 3) := by decide +kernel
theorem dX1_correctCar_30 : decode cX1_correctCar 30 = .ok (.invokevirtual 104, 3) := by decide +kernel
theorem dX1_correctCar_33 : decode cX1_correctCar 33 = .ok (.iinc 2 1, 3) := by decide +kernel
theorem dX1_correctCar_36 : decode cX1_correctCar 36 = .ok (.goto (-25), 3) := by decide +kernel
theorem dX1_correctCar_39 : decode cX1_correctCar 39 = .ok (.iconst 1, 1) := by decide +kernel
theorem dX1_correctCar_40 : decode cX1_correctCar 40 = .ok (.ireturn, 1) := by decide +kernel
set_option maxRecDepth 20000 in
theorem ggX1_swapButtons_X6_isCar : GoodIn wsX1_swapButtons wsX6_isCar := goodIn_r _ [3] (by decide +kernel) (by decide +kernel)
set_option maxRecDepth 20000 in
theorem gX1_swapButtons_X6_isCar_n114 : GoodIn wsX1_swapButtons (wsX6_isCar) := ggX1_swapButtons_X6_isCar
set_option maxRecDepth 20000 in
theorem ggX1_swapButtons_X1_hasLevel : GoodIn wsX1_swapButtons wsX1_hasLevel := goodIn_r _ [8, 9, 23, 24, 25, 26] (by decide +kernel) (by decide +kernel)
set_option maxRecDepth 20000 in
theorem gX1_swapButtons_X1_hasLevel : GoodIn wsX1_swapButtons (wsV RX1 108 RX1 yX1_hasLevel wsX1_hasLevel) := goodIn_app (goodIn_of _ (by decide +kernel)) ggX1_swapButtons_X1_hasLevel
set_option maxRecDepth 20000 in
theorem ggX1_swapButtons_X1_buttonAt : GoodIn wsX1_swapButtons wsX1_buttonAt := goodIn_r _ [13, 14, 15, 16, 7, 17, 18, 23, 24, 25, 26] (by decide +kernel) (by decide +kernel)
set_option maxRecDepth 20000 in
theorem gX1_swapButtons_X1_buttonAt : GoodIn wsX1_swapButtons (wsV RX1 117 RX1 yX1_buttonAt wsX1_buttonAt) := goodIn_app (goodIn_of _ (by decide +kernel)) ggX1_swapButtons_X1_buttonAt
set_option maxRecDepth 20000 in
theorem ggX1_swapButtons_X1_put : GoodIn wsX1_swapButtons wsX1_put := goodIn_r _ [22, 18, 23, 24, 25, 26] (by decide +kernel) (by decide +kernel)
set_option maxRecDepth 20000 in
theorem gX1_swapButtons_X1_put : GoodIn wsX1_swapButtons (wsV RX1 104 RX1 yX1_put wsX1_put) := goodIn_app (goodIn_of _ (by decide +kernel)) ggX1_swapButtons_X1_put
theorem dX1_swapButtons_0 : decode cX1_swapButtons 0 = .ok (.iload_n 1, 1) := by decide +kernel
theorem dX1_swapButtons_1 : decode cX1_swapButtons 1 = .ok (.invokestatic 114, 3) := by decide +kernel
theorem dX1_swapButtons_4 : decode cX1_swapButtons 4 = .ok (.ifCond .eq 51, 3) := by decide +kernel
theorem dX1_swapButtons_7 : decode cX1_swapButtons 7 = .ok (.aload_n 0, 1) := by decide +kernel
theorem dX1_swapButtons_8 : decode cX1_swapButtons 8 = .ok (.iload_n 2, 1) := by decide +kernel
theorem dX1_swapButtons_9 : decode cX1_swapButtons 9 = .ok (.invokevirtual 108, 3) := by decide +kernel
theorem dX1_swapButtons_12 : decode cX1_swapButtons 12 = .ok (.ifCond .eq 43, 3) := by decide +kernel
theorem dX1_swapButtons_15 : decode cX1_swapButtons 15 = .ok (.aload_n 0, 1) := by decide +kernel
theorem dX1_swapButtons_16 : decode cX1_swapButtons 16 = .ok (.iload_n 3, 1) := by decide +kernel
theorem dX1_swapButtons_17 : decode cX1_swapButtons 17 = .ok (.invokevirtual 108, 3) := by decide +kernel
theorem dX1_swapButtons_20 : decode cX1_swapButtons 20 = .ok (.ifCond .eq 35, 3) := by decide +kernel
theorem dX1_swapButtons_23 : decode cX1_swapButtons 23 = .ok (.aload_n 0, 1) := by decide +kernel
theorem dX1_swapButtons_24 : decode cX1_swapButtons 24 = .ok (.iload_n 1, 1) := by decide +kernel
theorem dX1_swapButtons_25 : decode cX1_swapButtons 25 = .ok (.iload_n 2, 1) := by decide +kernel
theorem dX1_swapButtons_26 : decode cX1_swapButtons 26 = .ok (.invokevirtual 117, 3) := by decide +kernel
theorem dX1_swapButtons_29 : decode cX1_swapButtons 29 = .ok (.istore 4, 2) := by decide +kernel
theorem dX1_swapButtons_31 : decode cX1_swapButtons 31 = .ok (.aload_n 0, 1) := by decide +kernel
theorem dX1_swapButtons_32 : decode cX1_swapButtons 32 = .ok (.iconst 3, 1) := by decide +kernel
theorem dX1_swapButtons_33 : decode cX1_swapButtons 33 = .ok (.iload_n 1, 1) := by decide +kernel
theorem dX1_swapButtons_34 : decode cX1_swapButtons 34 = .ok (.iadd, 1) := by decide +kernel
theorem dX1_swapButtons_35 : decode cX1_swapButtons 35 = .ok (.iload_n 2, 1) := by decide +kernel
theorem dX1_swapButtons_36 : decode cX1_swapButtons 36 = .ok (.aload_n 0, 1) := by decide +kernel
theorem dX1_swapButtons_37 : decode cX1_swapButtons 37 = .ok (.iload_n 1, 1) := by decide +kernel
theorem dX1_swapButtons_38 : decode cX1_swapButtons 38 = .ok (.iload_n 3, 1) := by decide +kernel
theorem dX1_swapButtons_39 : decode cX1_swapButtons 39 = .ok (.invokevirtual 117, 3) := by decide +kernel
theorem dX1_swapButtons_42 : decode cX1_swapButtons 42 = .ok (.invokevirtual 104, 3) := by decide +kernel
theorem dX1_swapButtons_45 : decode cX1_swapButtons 45 = .ok (.aload_n 0, 1) := by decide +kernel
theorem dX1_swapButtons_46 : decode cX1_swapButtons 46 = .ok (.iconst 3, 1) := by decide +kernel
theorem dX1_swapButtons_47 : decode cX1_swapButtons 47 = .ok (.iload_n 1, 1) := by decide +kernel
theorem dX1_swapButtons_48 : decode cX1_swapButtons 48 = .ok (.iadd, 1) := by decide +kernel
theorem dX1_swapButtons_49 : decode cX1_swapButtons 49 = .ok (.iload_n 3, 1) := by decide +kernel
theorem dX1_swapButtons_50 : decode cX1_swapButtons 50 = .ok (.iload 4, 2) := by decide +kernel
theorem dX1_swapButtons_52 : decode cX1_swapButtons 52 = .ok (.invokevirtual 104, 3) := by decide +kernel
theorem dX1_swapButtons_55 : decode cX1_swapButtons 55 = .ok (.return_, 1) := by decide +kernel
theorem dX1_cell_0 : decode cX1_cell 0 = .ok (.iload_n 1, 1) := by decide +kernel
theorem dX1_cell_1 : decode cX1_cell 1 = .ok (.ifCond .lt 19, 3) := by decide +kernel
theorem dX1_cell_4 : decode cX1_cell 4 = .ok (.iload_n 1, 1) := by decide +kernel
theorem dX1_cell_5 : decode cX1_cell 5 = .ok (.bipush 9, 2) := by decide +kernel
theorem dX1_cell_7 : decode cX1_cell 7 = .ok (.if_icmp .ge 13, 3) := by decide +kernel
theorem dX1_cell_10 : decode cX1_cell 10 = .ok (.iload_n 2, 1) := by decide +kernel
theorem dX1_cell_11 : decode cX1_cell 11 = .ok (.ifCond .lt 9, 3) := by decide +kernel
theorem dX1_cell_14 : decode cX1_cell 14 = .ok (.iload_n 2, 1) := by decide +kernel
theorem dX1_cell_15 : decode cX1_cell 15 = .ok (.bipush 16, 2) := by decide +kernel
theorem dX1_cell_17 : decode cX1_cell 17 = .ok (.if_icmp .lt 5, 3) := by decide +kernel
theorem dX1_cell_20 : decode cX1_cell 20 = .ok (.iconst (-1), 1) := by decide +kernel
theorem dX1_cell_21 : decode cX1_cell 21 = .ok (.ireturn, 1) := by decide +kernel
theorem dX1_cell_22 : decode cX1_cell 22 = .ok (.aload_n 0, 1) := by decide +kernel
theorem dX1_cell_23 : decode cX1_cell 23 = .ok (.getfield 11, 3) := by decide +kernel
theorem dX1_cell_26 : decode cX1_cell 26 = .ok (.iload_n 1, 1) := by decide +kernel
theorem dX1_cell_27 : decode cX1_cell 27 = .ok (.bipush 16, 2) := by decide +kernel
theorem dX1_cell_29 : decode cX1_cell 29 = .ok (.imul, 1) := by decide +kernel
theorem dX1_cell_30 : decode cX1_cell 30 = .ok (.iload_n 2, 1) := by decide +kernel
theorem dX1_cell_31 : decode cX1_cell 31 = .ok (.iadd, 1) := by decide +kernel
theorem dX1_cell_32 : decode cX1_cell 32 = .ok (.iaload, 1) := by decide +kernel
theorem dX1_cell_33 : decode cX1_cell 33 = .ok (.ireturn, 1) := by decide +kernel
theorem dX1_put_0 : decode cX1_put 0 = .ok (.iload_n 1, 1) := by decide +kernel
theorem dX1_put_1 : decode cX1_put 1 = .ok (.ifCond .lt 31, 3) := by decide +kernel
theorem dX1_put_4 : decode cX1_put 4 = .ok (.iload_n 1, 1) := by decide +kernel
theorem dX1_put_5 : decode cX1_put 5 = .ok (.bipush 9, 2) := by decide +kernel
theorem dX1_put_7 : decode cX1_put 7 = .ok (.if_icmp .ge 25, 3) := by decide +kernel
theorem dX1_put_10 : decode cX1_put 10 = .ok (.iload_n 2, 1) := by decide +kernel
theorem dX1_put_11 : decode cX1_put 11 = .ok (.ifCond .lt 21, 3) := by decide +kernel
theorem dX1_put_14 : decode cX1_put 14 = .ok (.iload_n 2, 1) := by decide +kernel
theorem dX1_put_15 : decode cX1_put 15 = .ok (.bipush 16, 2) := by decide +kernel
theorem dX1_put_17 : decode cX1_put 17 = .ok (.if_icmp .ge 15, 3) := by decide +kernel
theorem dX1_put_20 : decode cX1_put 20 = .ok (.aload_n 0, 1) := by decide +kernel
theorem dX1_put_21 : decode cX1_put 21 = .ok (.getfield 11, 3) := by decide +kernel
theorem dX1_put_24 : decode cX1_put 24 = .ok (.iload_n 1, 1) := by decide +kernel
theorem dX1_put_25 : decode cX1_put 25 = .ok (.bipush 16, 2) := by decide +kernel
theorem dX1_put_27 : decode cX1_put 27 = .ok (.imul, 1) := by decide +kernel
theorem dX1_put_28 : decode cX1_put 28 = .ok (.iload_n 2, 1) := by decide +kernel
theorem dX1_put_29 : decode cX1_put 29 = .ok (.iadd, 1) := by decide +kernel
theorem dX1_put_30 : decode cX1_put 30 = .ok (.iload_n 3, 1) := by decide +kernel
theorem dX1_put_31 : decode cX1_put 31 = .ok (.iastore, 1) := by decide +kernel
theorem dX1_put_32 : decode cX1_put 32 = .ok (.return_, 1) := by decide +kernel
set_option maxRecDepth 20000 in
theorem ggX1_isRight_X1_cell : GoodIn wsX1_isRight wsX1_cell := goodIn_r _ [5, 6, 7, 8, 9, 10] (by decide +kernel) (by decide +kernel)
set_option maxRecDepth 20000 in
theorem gX1_isRight_X1_cell : GoodIn wsX1_isRight (wsV RX1 54 RX1 yX1_cell wsX1_cell) := goodIn_app (goodIn_of _ (by decide +kernel)) ggX1_isRight_X1_cell
theorem dX1_isRight_0 : decode cX1_isRight 0 = .ok (.aload_n 0, 1) := by decide +kernel
theorem dX1_isRight_1 : decode cX1_isRight 1 = .ok (.iload_n 1, 1) := by decide +kernel
theorem dX1_isRight_2 : decode cX1_isRight 2 = .ok (.iload_n 2, 1) := by decide +kernel
theorem dX1_isRight_3 : decode cX1_isRight 3 = .ok (.invokevirtual 54, 3) := by decide +kernel
theorem dX1_isRight_6 : decode cX1_isRight 6 = .ok (.aload_n 0, 1) := by decide +kernel
theorem dX1_isRight_7 : decode cX1_isRight 7 = .ok (.iconst 1, 1) := by decide +kernel
theorem dX1_isRight_8 : decode cX1_isRight 8 = .ok (.iload_n 2, 1) := by decide +kernel
theorem dX1_isRight_9 : decode cX1_isRight 9 = .ok (.invokevirtual 54, 3) := by decide +kernel
theorem dX1_isRight_12 : decode cX1_isRight 12 = .ok (.if_icmp .ne 7, 3) := by decide +kernel
theorem dX1_isRight_15 : decode cX1_isRight 15 = .ok (.iconst 1, 1) := by decide +kernel
theorem dX1_isRight_16 : decode cX1_isRight 16 = .ok (.goto 4, 3) := by decide +kernel
theorem dX1_isRight_19 : decode cX1_isRight 19 = .ok (.iconst 0, 1) := by decide +kernel
theorem dX1_isRight_20 : decode cX1_isRight 20 = .ok (.ireturn, 1) := by decide +kernel
set_option maxRecDepth 20000 in
theorem ggX1_wrongInRow_X1_isRight : GoodIn wsX1_wrongInRow wsX1_isRight := goodIn_r _ [6, 7, 8, 9, 5, 10, 11, 12, 13, 14, 15] (by decide +kernel) (by decide +kernel)
set_option maxRecDepth 20000 in
theorem gX1_wrongInRow_X1_isRight : GoodIn wsX1_wrongInRow (wsV RX1 58 RX1 yX1_isRight wsX1_isRight) := goodIn_app (goodIn_of _ (by decide +kernel)) ggX1_wrongInRow_X1_isRight
theorem dX1_wrongInRow_0 : decode cX1_wrongInRow 0 = .ok (.iconst 0, 1) := by decide +kernel
theorem dX1_wrongInRow_1 : decode cX1_wrongInRow 1 = .ok (.istore_n 2, 1) := by decide +kernel
theorem dX1_wrongInRow_2 : decode cX1_wrongInRow 2 = .ok (.iconst 0, 1) := by decide +kernel
theorem dX1_wrongInRow_3 : decode cX1_wrongInRow 3 = .ok (.istore_n 3, 1) := by decide +kernel
theorem dX1_wrongInRow_4 : decode cX1_wrongInRow 4 = .ok (.iload_n 3, 1) := by decide +kernel
theorem dX1_wrongInRow_5 : decode cX1_wrongInRow 5 = .ok (.aload_n 0, 1) := by decide +kernel
theorem dX1_wrongInRow_6 : decode cX1_wrongInRow 6 = .ok (.getfield 15, 3) := by decide +kernel
theorem dX1_wrongInRow_9 : decode cX1_wrongInRow 9 = .ok (.if_icmp .ge 21, 3) := by decide +kernel
theorem dX1_wrongInRow_12 : decode cX1_wrongInRow 12 = .ok (.aload_n 0, 1) := by decide +kernel
theorem dX1_wrongInRow_13 : decode cX1_wrongInRow 13 = .ok (.iload_n 1, 1) := by decide +kernel
theorem dX1_wrongInRow_14 : decode cX1_wrongInRow 14 = .ok (.iload_n 3, 1) := by decide +kernel
theorem dX1_wrongInRow_15 : decode cX1_wrongInRow 15 = .ok (.invokevirtual 58, 3) := by decide +kernel
theorem dX1_wrongInRow_18 : decode cX1_wrongInRow 18 = .ok (.ifCond .ne 6, 3) := by decide +kernel
theorem dX1_wrongInRow_21 : decode cX1_wrongInRow 21 = .ok (.iinc 2 1, 3) := by decide +kernel
theorem dX1_wrongInRow_24 : decode cX1_wrongInRow 24 = .ok (.iinc 3 1, 3) := by decide +kernel
theorem dX1_wrongInRow_27 : decode cX1_wrongInRow 27 = .ok (.goto (-23), 3) := by decide +kernel
theorem dX1_wrongInRow_30 : decode cX1_wrongInRow 30 = .ok (.iload_n 2, 1) := by decide +kernel
theorem dX1_wrongInRow_31 : decode cX1_wrongInRow 31 = .ok (.ireturn, 1) := by decide +kernel
set_option maxRecDepth 20000 in
theorem ggX1_furnish_X1_put : GoodIn wsX1_furnish wsX1_put := goodIn_r _ [5, 6, 7, 8, 9, 10] (by decide +kernel) (by decide +kernel)
set_option maxRecDepth 20000 in
theorem gX1_furnish_X1_put : GoodIn wsX1_furnish (wsV RX1 104 RX1 yX1_put wsX1_put) := goodIn_app (goodIn_of _ (by decide +kernel)) ggX1_furnish_X1_put
theorem dX1_furnish_0 : decode cX1_furnish 0 = .ok (.aload_n 0, 1) := by decide +kernel
theorem dX1_furnish_1 : decode cX1_furnish 1 = .ok (.iconst 0, 1) := by decide +kernel
theorem dX1_furnish_2 : decode cX1_furnish 2 = .ok (.iload_n 1, 1) := by decide +kernel
theorem dX1_furnish_3 : decode cX1_furnish 3 = .ok (.iload_n 2, 1) := by decide +kernel
theorem dX1_furnish_4 : decode cX1_furnish 4 = .ok (.invokevirtual 104, 3) := by decide +kernel
theorem dX1_furnish_7 : decode cX1_furnish 7 = .ok (.aload_n 0, 1) := by decide +kernel
theorem dX1_furnish_8 : decode cX1_furnish 8 = .ok (.iconst 2, 1) := by decide +kernel
theorem dX1_furnish_9 : decode cX1_furnish 9 = .ok (.iload_n 1, 1) := by decide +kernel
theorem dX1_furnish_10 : decode cX1_furnish 10 = .ok (.iconst (-1), 1) := by decide +kernel
theorem dX1_furnish_11 : decode cX1_furnish 11 = .ok (.invokevirtual 104, 3) := by decide +kernel
theorem dX1_furnish_14 : decode cX1_furnish 14 = .ok (.iconst 0, 1) := by decide +kernel
theorem dX1_furnish_15 : decode cX1_furnish 15 = .ok (.istore_n 3, 1) := by decide +kernel
theorem dX1_furnish_16 : decode cX1_furnish 16 = .ok (.iload_n 3, 1) := by decide +kernel
theorem dX1_furnish_17 : decode cX1_furnish 17 = .ok (.iconst 3, 1) := by decide +kernel
theorem dX1_furnish_18 : decode cX1_furnish 18 = .ok (.if_icmp .ge 28, 3) := by decide +kernel
theorem dX1_furnish_21 : decode cX1_furnish 21 = .ok (.aload_n 0, 1) := by decide +kernel
theorem dX1_furnish_22 : decode cX1_furnish 22 = .ok (.iconst 3, 1) := by decide +kernel
theorem dX1_furnish_23 : decode cX1_furnish 23 = .ok (.iload_n 3, 1) := by decide +kernel
theorem dX1_furnish_24 : decode cX1_furnish 24 = .ok (.iadd, 1) := by decide +kernel
theorem dX1_furnish_25 : decode cX1_furnish 25 = .ok (.iload_n 1, 1) := by decide +kernel
theorem dX1_furnish_26 : decode cX1_furnish 26 = .ok (.iconst (-1), 1) := by decide +kernel
theorem dX1_furnish_27 : decode cX1_furnish 27 = .ok (.invokevirtual 104, 3) := by decide +kernel
theorem dX1_furnish_30 : decode cX1_furnish 30 = .ok (.aload_n 0, 1) := by decide +kernel
theorem dX1_furnish_31 : decode cX1_furnish 31 = .ok (.bipush 6, 2) := by decide +kernel
theorem dX1_furnish_33 : decode cX1_furnish 33 = .ok (.iload_n 3, 1) := by decide +kernel
theorem dX1_furnish_34 : decode cX1_furnish 34 = .ok (.iadd, 1) := by decide +kernel
theorem dX1_furnish_35 : decode cX1_furnish 35 = .ok (.iload_n 1, 1) := by decide +kernel
theorem dX1_furnish_36 : decode cX1_furnish 36 = .ok (.iconst 1, 1) := by decide +kernel
theorem dX1_furnish_37 : decode cX1_furnish 37 = .ok (.invokevirtual 104, 3) := by decide +kernel
theorem dX1_furnish_40 : decode cX1_furnish 40 = .ok (.iinc 3 1, 3) := by decide +kernel
theorem dX1_furnish_43 : decode cX1_furnish 43 = .ok (.goto (-27), 3) := by decide +kernel
theorem dX1_furnish_46 : decode cX1_furnish 46 = .ok (.return_, 1) := by decide +kernel
set_option maxRecDepth 20000 in
theorem ggX1_renumber_X1_put : GoodIn wsX1_renumber wsX1_put := goodIn_r _ [7, 8, 22, 23, 24, 25] (by decide +kernel) (by decide +kernel)
set_option maxRecDepth 20000 in
theorem gX1_renumber_X1_put : GoodIn wsX1_renumber (wsV RX1 104 RX1 yX1_put wsX1_put) := goodIn_app (goodIn_of _ (by decide +kernel)) ggX1_renumber_X1_put
set_option maxRecDepth 20000 in
theorem ggX1_renumber_X1_cell : GoodIn wsX1_renumber wsX1_cell := goodIn_r _ [12, 8, 22, 23, 24, 25] (by decide +kernel) (by decide +kernel)
set_option maxRecDepth 20000 in
theorem gX1_renumber_X1_cell : GoodIn wsX1_renumber (wsV RX1 54 RX1 yX1_cell wsX1_cell) := goodIn_app (goodIn_of _ (by decide +kernel)) ggX1_renumber_X1_cell
set_option maxRecDepth 20000 in
theorem ggX1_renumber_X1_storeyAbove : GoodIn wsX1_renumber wsX1_storeyAbove := goodIn_r _ [16, 17, 22, 23, 24, 25] (by decide +kernel) (by decide +kernel)
set_option maxRecDepth 20000 in
theorem gX1_renumber_X1_storeyAbove : GoodIn wsX1_renumber (wsV RX1 120 RX1 yX1_storeyAbove wsX1_storeyAbove) := goodIn_app (goodIn_of _ (by decide +kernel)) ggX1_renumber_X1_storeyAbove
set_option maxRecDepth 20000 in
theorem ggX1_renumber_X1_nameBy : GoodIn wsX1_renumber wsX1_nameBy := goodIn_r _ [21, 9, 10, 11, 6, 12, 8, 3, 4, 5, 7, 22, 23, 24, 25] (by decide +kernel) (by decide +kernel)
set_option maxRecDepth 20000 in
theorem gX1_renumber_X1_nameBy : GoodIn wsX1_renumber (wsV RX1 123 RX1 yX1_nameBy wsX1_nameBy) := goodIn_app (goodIn_of _ (by decide +kernel)) ggX1_renumber_X1_nameBy
theorem dX1_renumber_0 : decode cX1_renumber 0 = .ok (.iconst 0, 1) := by decide +kernel
theorem dX1_renumber_1 : decode cX1_renumber 1 = .ok (.istore_n 1, 1) := by decide +kernel
theorem dX1_renumber_2 : decode cX1_renumber 2 = .ok (.aload_n 0, 1) := by decide +kernel
theorem dX1_renumber_3 : decode cX1_renumber 3 = .ok (.iconst 1, 1) := by decide +kernel
theorem dX1_renumber_4 : decode cX1_renumber 4 = .ok (.aload_n 0, 1) := by decide +kernel
theorem dX1_renumber_5 : decode cX1_renumber 5 = .ok (.getfield 32, 3) := by decide +kernel
theorem dX1_renumber_8 : decode cX1_renumber 8 = .ok (.iconst 0, 1) := by decide +kernel
theorem dX1_renumber_9 : decode cX1_renumber 9 = .ok (.invokevirtual 104, 3) := by decide +kernel
theorem dX1_renumber_12 : decode cX1_renumber 12 = .ok (.aload_n 0, 1) := by decide +kernel
theorem dX1_renumber_13 : decode cX1_renumber 13 = .ok (.getfield 32, 3) := by decide +kernel
theorem dX1_renumber_16 : decode cX1_renumber 16 = .ok (.iconst 1, 1) := by decide +kernel
theorem dX1_renumber_17 : decode cX1_renumber 17 = .ok (.iadd, 1) := by decide +kernel
theorem dX1_renumber_18 : decode cX1_renumber 18 = .ok (.istore_n 2, 1) := by decide +kernel
theorem dX1_renumber_19 : decode cX1_renumber 19 = .ok (.iload_n 2, 1) := by decide +kernel
theorem dX1_renumber_20 : decode cX1_renumber 20 = .ok (.aload_n 0, 1) := by decide +kernel
theorem dX1_renumber_21 : decode cX1_renumber 21 = .ok (.getfield 15, 3) := by decide +kernel
theorem dX1_renumber_24 : decode cX1_renumber 24 = .ok (.if_icmp .ge 30, 3) := by decide +kernel
theorem dX1_renumber_27 : decode cX1_renumber 27 = .ok (.aload_n 0, 1) := by decide +kernel
theorem dX1_renumber_28 : decode cX1_renumber 28 = .ok (.iconst 0, 1) := by decide +kernel
theorem dX1_renumber_29 : decode cX1_renumber 29 = .ok (.iload_n 2, 1) := by decide +kernel
theorem dX1_renumber_30 : decode cX1_renumber 30 = .ok (.invokevirtual 54, 3) := by decide +kernel
theorem dX1_renumber_33 : decode cX1_renumber 33 = .ok (.ifCond .ne 9, 3) := by decide +kernel
theorem dX1_renumber_36 : decode cX1_renumber 36 = .ok (.aload_n 0, 1) := by decide +kernel
theorem dX1_renumber_37 : decode cX1_renumber 37 = .ok (.iload_n 1, 1) := by decide +kernel
theorem dX1_renumber_38 : decode cX1_renumber 38 = .ok (.invokevirtual 120, 3) := by decide +kernel
theorem dX1_renumber_41 : decode cX1_renumber 41 = .ok (.istore_n 1, 1) := by decide +kernel
theorem dX1_renumber_42 : decode cX1_renumber 42 = .ok (.aload_n 0, 1) := by decide +kernel
theorem dX1_renumber_43 : decode cX1_renumber 43 = .ok (.iload_n 2, 1) := by decide +kernel
theorem dX1_renumber_44 : decode cX1_renumber 44 = .ok (.iload_n 1, 1) := by decide +kernel
theorem dX1_renumber_45 : decode cX1_renumber 45 = .ok (.invokevirtual 123, 3) := by decide +kernel
theorem dX1_renumber_48 : decode cX1_renumber 48 = .ok (.iinc 2 1, 3) := by decide +kernel
theorem dX1_renumber_51 : decode cX1_renumber 51 = .ok (.goto (-32), 3) := by decide +kernel
theorem dX1_renumber_54 : decode cX1_renumber 54 = .ok (.iconst 0, 1) := by decide +kernel
theorem dX1_renumber_55 : decode cX1_renumber 55 = .ok (.istore_n 1, 1) := by decide +kernel
theorem dX1_renumber_56 : decode cX1_renumber 56 = .ok (.aload_n 0, 1) := by decide +kernel
theorem dX1_renumber_57 : decode cX1_renumber 57 = .ok (.getfield 32, 3) := by decide +kernel
theorem dX1_renumber_60 : decode cX1_renumber 60 = .ok (.iconst 1, 1) := by decide +kernel
theorem dX1_renumber_61 : decode cX1_renumber 61 = .ok (.isub, 1) := by decide +kernel
theorem dX1_renumber_62 : decode cX1_renumber 62 = .ok (.istore_n 2, 1) := by decide +kernel
theorem dX1_renumber_63 : decode cX1_renumber 63 = .ok (.iload_n 2, 1) := by decide +kernel
theorem dX1_renumber_64 : decode cX1_renumber 64 = .ok (.ifCond .lt 27, 3) := by decide +kernel
theorem dX1_renumber_67 : decode cX1_renumber 67 = .ok (.aload_n 0, 1) := by decide +kernel
theorem dX1_renumber_68 : decode cX1_renumber 68 = .ok (.iconst 0, 1) := by decide +kernel
theorem dX1_renumber_69 : decode cX1_renumber 69 = .ok (.iload_n 2, 1) := by decide +kernel
theorem dX1_renumber_70 : decode cX1_renumber 70 = .ok (.invokevirtual 54, 3) := by decide +kernel
theorem dX1_renumber_73 : decode cX1_renumber 73 = .ok (.ifCond .ne 6, 3) := by decide +kernel
theorem dX1_renumber_76 : decode cX1_renumber 76 = .ok (.iinc 1 (-1), 3) := by decide +kernel
theorem dX1_renumber_79 : decode cX1_renumber 79 = .ok (.aload_n 0, 1) := by decide +kernel
theorem dX1_renumber_80 : decode cX1_renumber 80 = .ok (.iload_n 2, 1) := by decide +kernel
theorem dX1_renumber_81 : decode cX1_renumber 81 = .ok (.iload_n 1, 1) := by decide +kernel
theorem dX1_renumber_82 : decode cX1_renumber 82 = .ok (.invokevirtual 123, 3) := by decide +kernel
theorem dX1_renumber_85 : decode cX1_renumber 85 = .ok (.iinc 2 (-1), 3) := by decide +kernel
theorem dX1_renumber_88 : decode cX1_renumber 88 = .ok (.goto (-25), 3) := by decide +kernel
theorem dX1_renumber_91 : decode cX1_renumber 91 = .ok (.return_, 1) := by decide +kernel
theorem dX1_storeyAbove_0 : decode cX1_storeyAbove 0 = .ok (.iload_n 1, 1) := by decide +kernel
theorem dX1_storeyAbove_1 : decode cX1_storeyAbove 1 = .ok (.iconst 1, 1) := by decide +kernel
theorem dX1_storeyAbove_2 : decode cX1_storeyAbove 2 = .ok (.iadd, 1) := by decide +kernel
theorem dX1_storeyAbove_3 : decode cX1_storeyAbove 3 = .ok (.istore_n 2, 1) := by decide +kernel
theorem dX1_storeyAbove_4 : decode cX1_storeyAbove 4 = .ok (.iload_n 2, 1) := by decide +kernel
theorem dX1_storeyAbove_5 : decode cX1_storeyAbove 5 = .ok (.bipush 30, 2) := by decide +kernel
theorem dX1_storeyAbove_7 : decode cX1_storeyAbove 7 = .ok (.if_icmp .gt 21, 3) := by decide +kernel
theorem dX1_storeyAbove_10 : decode cX1_storeyAbove 10 = .ok (.aload_n 0, 1) := by decide +kernel
theorem dX1_storeyAbove_11 : decode cX1_storeyAbove 11 = .ok (.getfield 35, 3) := by decide +kernel
theorem dX1_storeyAbove_14 : decode cX1_storeyAbove 14 = .ok (.iload_n 2, 1) := by decide +kernel
theorem dX1_storeyAbove_15 : decode cX1_storeyAbove 15 = .ok (.iushr, 1) := by decide +kernel
theorem dX1_storeyAbove_16 : decode cX1_storeyAbove 16 = .ok (.iconst 1, 1) := by decide +kernel
theorem dX1_storeyAbove_17 : decode cX1_storeyAbove 17 = .ok (.iand, 1) := by decide +kernel
theorem dX1_storeyAbove_18 : decode cX1_storeyAbove 18 = .ok (.iconst 1, 1) := by decide +kernel
theorem dX1_storeyAbove_19 : decode cX1_storeyAbove 19 = .ok (.if_icmp .ne 9, 3) := by decide +kernel
theorem dX1_storeyAbove_22 : decode cX1_storeyAbove 22 = .ok (.iinc 2 1, 3) := by decide +kernel
theorem dX1_storeyAbove_25 : decode cX1_storeyAbove 25 = .ok (.goto (-21), 3) := by decide +kernel
theorem dX1_storeyAbove_28 : decode cX1_storeyAbove 28 = .ok (.iload_n 2, 1) := by decide +kernel
theorem dX1_storeyAbove_29 : decode cX1_storeyAbove 29 = .ok (.ireturn, 1) := by decide +kernel
set_option maxRecDepth 20000 in
theorem ggX1_nameBy_X1_cell : GoodIn wsX1_nameBy wsX1_cell := goodIn_r _ [5, 6, 11, 12, 13, 14] (by decide +kernel) (by decide +kernel)
set_option maxRecDepth 20000 in
theorem gX1_nameBy_X1_cell : GoodIn wsX1_nameBy (wsV RX1 54 RX1 yX1_cell wsX1_cell) := goodIn_app (goodIn_of _ (by decide +kernel)) ggX1_nameBy_X1_cell
set_option maxRecDepth 20000 in
theorem ggX1_nameBy_X1_put : GoodIn wsX1_nameBy wsX1_put := goodIn_r _ [10, 6, 11, 12, 13, 14] (by decide +kernel) (by decide +kernel)
set_option maxRecDepth 20000 in
theorem gX1_nameBy_X1_put : GoodIn wsX1_nameBy (wsV RX1 104 RX1 yX1_put wsX1_put) := goodIn_app (goodIn_of _ (by decide +kernel)) ggX1_nameBy_X1_put
theorem dX1_nameBy_0 : decode cX1_nameBy 0 = .ok (.aload_n 0, 1) := by decide +kernel
theorem dX1_nameBy_1 : decode cX1_nameBy 1 = .ok (.iconst 0, 1) := by decide +kernel
theorem dX1_nameBy_2 : decode cX1_nameBy 2 = .ok (.iload_n 1, 1) := by decide +kernel
theorem dX1_nameBy_3 : decode cX1_nameBy 3 = .ok (.invokevirtual 54, 3) := by decide +kernel
theorem dX1_nameBy_6 : decode cX1_nameBy 6 = .ok (.istore_n 3, 1) := by decide +kernel
theorem dX1_nameBy_7 : decode cX1_nameBy 7 = .ok (.aload_n 0, 1) := by decide +kernel
theorem dX1_nameBy_8 : decode cX1_nameBy 8 = .ok (.iconst 1, 1) := by decide +kernel
theorem dX1_nameBy_9 : decode cX1_nameBy 9 = .ok (.iload_n 1, 1) := by decide +kernel
theorem dX1_nameBy_10 : decode cX1_nameBy 10 = .ok (.iload_n 3, 1) := by decide +kernel
theorem dX1_nameBy_11 : decode cX1_nameBy 11 = .ok (.iconst 3, 1) := by decide +kernel
theorem dX1_nameBy_12 : decode cX1_nameBy 12 = .ok (.if_icmp .ne 7, 3) := by decide +kernel
theorem dX1_nameBy_15 : decode cX1_nameBy 15 = .ok (.iconst (-1), 1) := by decide +kernel
theorem dX1_nameBy_16 : decode cX1_nameBy 16 = .ok (.goto 8, 3) := by decide +kernel
theorem dX1_nameBy_19 : decode cX1_nameBy 19 = .ok (.iconst 4, 1) := by decide +kernel
theorem dX1_nameBy_20 : decode cX1_nameBy 20 = .ok (.iload_n 2, 1) := by decide +kernel
theorem dX1_nameBy_21 : decode cX1_nameBy 21 = .ok (.imul, 1) := by decide +kernel
theorem dX1_nameBy_22 : decode cX1_nameBy 22 = .ok (.iload_n 3, 1) := by decide +kernel
theorem dX1_nameBy_23 : decode cX1_nameBy 23 = .ok (.iadd, 1) := by decide +kernel
theorem dX1_nameBy_24 : decode cX1_nameBy 24 = .ok (.invokevirtual 104, 3) := by decide +kernel
theorem dX1_nameBy_27 : decode cX1_nameBy 27 = .ok (.return_, 1) := by decide +kernel
theorem dX2_init_0 : decode cX2_init 0 = .ok (.aload_n 0, 1) := by decide +kernel
theorem dX2_init_1 : decode cX2_init 1 = .ok (.invokespecial 3, 3) := by decide +kernel
theorem dX2_init_4 : decode cX2_init 4 = .ok (.aload_n 0, 1) := by decide +kernel
theorem dX2_init_5 : decode cX2_init 5 = .ok (.bipush 60, 2) := by decide +kernel
theorem dX2_init_7 : decode cX2_init 7 = .ok (.newarray .char, 2) := by decide +kernel
theorem dX2_init_9 : decode cX2_init 9 = .ok (.putfield 11, 3) := by decide +kernel
theorem dX2_init_12 : decode cX2_init 12 = .ok (.return_, 1) := by decide +kernel
theorem dX2_length_0 : decode cX2_length 0 = .ok (.aload_n 0, 1) := by decide +kernel
theorem dX2_length_1 : decode cX2_length 1 = .ok (.getfield 15, 3) := by decide +kernel
theorem dX2_length_4 : decode cX2_length 4 = .ok (.ireturn, 1) := by decide +kernel
theorem dX2_isFull_0 : decode cX2_isFull 0 = .ok (.aload_n 0, 1) := by decide +kernel
theorem dX2_isFull_1 : decode cX2_isFull 1 = .ok (.getfield 15, 3) := by decide +kernel
theorem dX2_isFull_4 : decode cX2_isFull 4 = .ok (.bipush 60, 2) := by decide +kernel
theorem dX2_isFull_6 : decode cX2_isFull 6 = .ok (.if_icmp .lt 7, 3) := by decide +kernel
theorem dX2_isFull_9 : decode cX2_isFull 9 = .ok (.iconst 1, 1) := by decide +kernel
theorem dX2_isFull_10 : decode cX2_isFull 10 = .ok (.goto 4, 3) := by decide +kernel
theorem dX2_isFull_13 : decode cX2_isFull 13 = .ok (.iconst 0, 1) := by decide +kernel
theorem dX2_isFull_14 : decode cX2_isFull 14 = .ok (.ireturn, 1) := by decide +kernel
set_option maxRecDepth 20000 in
theorem ggX2_write_X2_isFull : GoodIn wsX2_write wsX2_isFull := goodIn_r _ [7, 2, 8, 9] (by decide +kernel) (by decide +kernel)
set_option maxRecDepth 20000 in
theorem gX2_write_X2_isFull : GoodIn wsX2_write (wsV RX2 19 RX2 yX2_isFull wsX2_isFull) := goodIn_app (goodIn_of _ (by decide +kernel)) ggX2_write_X2_isFull
theorem dX2_write_0 : decode cX2_write 0 = .ok (.aload_n 0, 1) := by decide +kernel
theorem dX2_write_1 : decode cX2_write 1 = .ok (.invokevirtual 19, 3) := by decide +kernel
theorem dX2_write_4 : decode cX2_write 4 = .ok (.ifCond .ne 23, 3) := by decide +kernel
theorem dX2_write_7 : decode cX2_write 7 = .ok (.aload_n 0, 1) := by decide +kernel
theorem dX2_write_8 : decode cX2_write 8 = .ok (.getfield 11, 3) := by decide +kernel
theorem dX2_write_11 : decode cX2_write 11 = .ok (.aload_n 0, 1) := by decide +kernel
theorem dX2_write_12 : decode cX2_write 12 = .ok (.getfield 15, 3) := by decide +kernel
theorem dX2_write_15 : decode cX2_write 15 = .ok (.iload_n 1, 1) := by decide +kernel
theorem dX2_write_16 : decode cX2_write 16 = .ok (.castore, 1) := by decide +kernel
theorem dX2_write_17 : decode cX2_write 17 = .ok (.aload_n 0, 1) := by decide +kernel
theorem dX2_write_18 : decode cX2_write 18 = .ok (.dup, 1) := by decide +kernel
theorem dX2_write_19 : decode cX2_write 19 = .ok (.getfield 15, 3) := by decide +kernel
theorem dX2_write_22 : decode cX2_write 22 = .ok (.iconst 1, 1) := by decide +kernel
theorem dX2_write_23 : decode cX2_write 23 = .ok (.iadd, 1) := by decide +kernel
theorem dX2_write_24 : decode cX2_write 24 = .ok (.putfield 15, 3) := by decide +kernel
theorem dX2_write_27 : decode cX2_write 27 = .ok (.return_, 1) := by decide +kernel
theorem dX2_wipe_0 : decode cX2_wipe 0 = .ok (.aload_n 0, 1) := by decide +kernel
theorem dX2_wipe_1 : decode cX2_wipe 1 = .ok (.iconst 0, 1) := by decide +kernel
theorem dX2_wipe_2 : decode cX2_wipe 2 = .ok (.putfield 15, 3) := by decide +kernel
theorem dX2_wipe_5 : decode cX2_wipe 5 = .ok (.return_, 1) := by decide +kernel
set_option maxRecDepth 20000 in
theorem ggX2_firstError_X2_letters : GoodIn wsX2_firstError wsX2_letters := goodIn_r _ [6, 1, 7, 8, 9, 5, 10, 11, 12, 13, 14, 15, 27, 28] (by decide +kernel) (by decide +kernel)
set_option maxRecDepth 20000 in
theorem gX2_firstError_X2_letters : GoodIn wsX2_firstError (wsV RX2 23 RX2 yX2_letters wsX2_letters) := goodIn_app (goodIn_of _ (by decide +kernel)) ggX2_firstError_X2_letters
set_option maxRecDepth 20000 in
theorem ggX2_firstError_X2_groundLetter : GoodIn wsX2_firstError wsX2_groundLetter := goodIn_r _ [19, 2, 3, 4, 5, 6, 1, 7, 8, 9, 10, 11, 12, 13, 14, 15, 27, 28] (by decide +kernel) (by decide +kernel)
set_option maxRecDepth 20000 in
theorem gX2_firstError_X2_groundLetter : GoodIn wsX2_firstError (wsV RX2 27 RX2 yX2_groundLetter wsX2_groundLetter) := goodIn_app (goodIn_of _ (by decide +kernel)) ggX2_firstError_X2_groundLetter
set_option maxRecDepth 20000 in
theorem ggX2_firstError_X2_character : GoodIn wsX2_firstError wsX2_character := goodIn_r _ [14, 1, 15, 27, 28] (by decide +kernel) (by decide +kernel)
set_option maxRecDepth 20000 in
theorem gX2_firstError_X2_character : GoodIn wsX2_firstError (wsV RX2 30 RX2 yX2_character wsX2_character) := goodIn_app (goodIn_of _ (by decide +kernel)) ggX2_firstError_X2_character
set_option maxRecDepth 20000 in
theorem ggX2_firstError_X2_firstErrorInStoreys : GoodIn wsX2_firstError wsX2_firstErrorInStoreys := goodIn_r _ [23, 1, 11, 12, 13, 5, 14, 15, 24, 25, 26, 27, 28] (by decide +kernel) (by decide +kernel)
set_option maxRecDepth 20000 in
theorem gX2_firstError_X2_firstErrorInStoreys : GoodIn wsX2_firstError (wsV RX2 34 RX2 yX2_firstErrorInStoreys wsX2_firstErrorInStoreys) := goodIn_app (goodIn_of _ (by decide +kernel)) ggX2_firstError_X2_firstErrorInStoreys
theorem dX2_firstError_0 : decode cX2_firstError 0 = .ok (.aload_n 0, 1) := by decide +kernel
theorem dX2_firstError_1 : decode cX2_firstError 1 = .ok (.invokevirtual 23, 3) := by decide +kernel
theorem dX2_firstError_4 : decode cX2_firstError 4 = .ok (.istore_n 1, 1) := by decide +kernel
theorem dX2_firstError_5 : decode cX2_firstError 5 = .ok (.aload_n 0, 1) := by decide +kernel
theorem dX2_firstError_6 : decode cX2_firstError 6 = .ok (.invokevirtual 27, 3) := by decide +kernel
theorem dX2_firstError_9 : decode cX2_firstError 9 = .ok (.iconst (-1), 1) := by decide +kernel
theorem dX2_firstError_10 : decode cX2_firstError 10 = .ok (.if_icmp .eq 7, 3) := by decide +kernel
theorem dX2_firstError_13 : decode cX2_firstError 13 = .ok (.iconst 1, 1) := by decide +kernel
theorem dX2_firstError_14 : decode cX2_firstError 14 = .ok (.goto 4, 3) := by decide +kernel
theorem dX2_firstError_17 : decode cX2_firstError 17 = .ok (.iconst 0, 1) := by decide +kernel
theorem dX2_firstError_18 : decode cX2_firstError 18 = .ok (.istore_n 2, 1) := by decide +kernel
theorem dX2_firstError_19 : decode cX2_firstError 19 = .ok (.iload_n 1, 1) := by decide +kernel
theorem dX2_firstError_20 : decode cX2_firstError 20 = .ok (.aload_n 0, 1) := by decide +kernel
theorem dX2_firstError_21 : decode cX2_firstError 21 = .ok (.getfield 15, 3) := by decide +kernel
theorem dX2_firstError_24 : decode cX2_firstError 24 = .ok (.if_icmp .ne 16, 3) := by decide +kernel
theorem dX2_firstError_27 : decode cX2_firstError 27 = .ok (.iload_n 2, 1) := by decide +kernel
theorem dX2_firstError_28 : decode cX2_firstError 28 = .ok (.ifCond .eq 7, 3) := by decide +kernel
theorem dX2_firstError_31 : decode cX2_firstError 31 = .ok (.iconst (-1), 1) := by decide +kernel
theorem dX2_firstError_32 : decode cX2_firstError 32 = .ok (.goto 7, 3) := by decide +kernel
theorem dX2_firstError_35 : decode cX2_firstError 35 = .ok (.aload_n 0, 1) := by decide +kernel
theorem dX2_firstError_36 : decode cX2_firstError 36 = .ok (.getfield 15, 3) := by decide +kernel
theorem dX2_firstError_39 : decode cX2_firstError 39 = .ok (.ireturn, 1) := by decide +kernel
theorem dX2_firstError_40 : decode cX2_firstError 40 = .ok (.iload_n 2, 1) := by decide +kernel
theorem dX2_firstError_41 : decode cX2_firstError 41 = .ok (.ifCond .eq 13, 3) := by decide +kernel
theorem dX2_firstError_44 : decode cX2_firstError 44 = .ok (.aload_n 0, 1) := by decide +kernel
theorem dX2_firstError_45 : decode cX2_firstError 45 = .ok (.iload_n 1, 1) := by decide +kernel
theorem dX2_firstError_46 : decode cX2_firstError 46 = .ok (.invokevirtual 30, 3) := by decide +kernel
theorem dX2_firstError_49 : decode cX2_firstError 49 = .ok (.bipush 47, 2) := by decide +kernel
theorem dX2_firstError_51 : decode cX2_firstError 51 = .ok (.if_icmp .eq 5, 3) := by decide +kernel
theorem dX2_firstError_54 : decode cX2_firstError 54 = .ok (.iload_n 1, 1) := by decide +kernel
theorem dX2_firstError_55 : decode cX2_firstError 55 = .ok (.ireturn, 1) := by decide +kernel
theorem dX2_firstError_56 : decode cX2_firstError 56 = .ok (.aload_n 0, 1) := by decide +kernel
theorem dX2_firstError_57 : decode cX2_firstError 57 = .ok (.iload_n 1, 1) := by decide +kernel
theorem dX2_firstError_58 : decode cX2_firstError 58 = .ok (.iconst 1, 1) := by decide +kernel
theorem dX2_firstError_59 : decode cX2_firstError 59 = .ok (.iadd, 1) := by decide +kernel
theorem dX2_firstError_60 : decode cX2_firstError 60 = .ok (.invokevirtual 34, 3) := by decide +kernel
theorem dX2_firstError_63 : decode cX2_firstError 63 = .ok (.ireturn, 1) := by decide +kernel
set_option maxRecDepth 20000 in
theorem ggX2_letters_X2_isLetterAllowed : GoodIn wsX2_letters wsX2_isLetterAllowed := goodIn_r _ [6, 7, 8, 9, 5, 10, 1, 11, 12, 13] (by decide +kernel) (by decide +kernel)
set_option maxRecDepth 20000 in
theorem gX2_letters_X2_isLetterAllowed : GoodIn wsX2_letters (wsV RX2 38 RX2 yX2_isLetterAllowed wsX2_isLetterAllowed) := goodIn_app (goodIn_of _ (by decide +kernel)) ggX2_letters_X2_isLetterAllowed
set_option maxRecDepth 20000 in
theorem ggX2_letters_X2_character : GoodIn wsX2_letters wsX2_character := goodIn_r _ [10, 1, 11, 12, 13] (by decide +kernel) (by decide +kernel)
set_option maxRecDepth 20000 in
theorem gX2_letters_X2_character : GoodIn wsX2_letters (wsV RX2 30 RX2 yX2_character wsX2_character) := goodIn_app (goodIn_of _ (by decide +kernel)) ggX2_letters_X2_character
theorem dX2_letters_0 : decode cX2_letters 0 = .ok (.iconst 0, 1) := by decide +kernel
theorem dX2_letters_1 : decode cX2_letters 1 = .ok (.istore_n 1, 1) := by decide +kernel
theorem dX2_letters_2 : decode cX2_letters 2 = .ok (.iconst 0, 1) := by decide +kernel
theorem dX2_letters_3 : decode cX2_letters 3 = .ok (.istore_n 2, 1) := by decide +kernel
theorem dX2_letters_4 : decode cX2_letters 4 = .ok (.iload_n 2, 1) := by decide +kernel
theorem dX2_letters_5 : decode cX2_letters 5 = .ok (.aload_n 0, 1) := by decide +kernel
theorem dX2_letters_6 : decode cX2_letters 6 = .ok (.getfield 15, 3) := by decide +kernel
theorem dX2_letters_9 : decode cX2_letters 9 = .ok (.if_icmp .ge 30, 3) := by decide +kernel
theorem dX2_letters_12 : decode cX2_letters 12 = .ok (.aload_n 0, 1) := by decide +kernel
theorem dX2_letters_13 : decode cX2_letters 13 = .ok (.iload_n 2, 1) := by decide +kernel
theorem dX2_letters_14 : decode cX2_letters 14 = .ok (.iload_n 1, 1) := by decide +kernel
theorem dX2_letters_15 : decode cX2_letters 15 = .ok (.invokevirtual 38, 3) := by decide +kernel
theorem dX2_letters_18 : decode cX2_letters 18 = .ok (.ifCond .eq 21, 3) := by decide +kernel
theorem dX2_letters_21 : decode cX2_letters 21 = .ok (.aload_n 0, 1) := by decide +kernel
theorem dX2_letters_22 : decode cX2_letters 22 = .ok (.iload_n 2, 1) := by decide +kernel
theorem dX2_letters_23 : decode cX2_letters 23 = .ok (.invokevirtual 30, 3) := by decide +kernel
theorem dX2_letters_26 : decode cX2_letters 26 = .ok (.bipush 71, 2) := by decide +kernel
theorem dX2_letters_28 : decode cX2_letters 28 = .ok (.if_icmp .ne 5, 3) := by decide +kernel
theorem dX2_letters_31 : decode cX2_letters 31 = .ok (.iconst 1, 1) := by decide +kernel
theorem dX2_letters_32 : decode cX2_letters 32 = .ok (.istore_n 1, 1) := by decide +kernel
theorem dX2_letters_33 : decode cX2_letters 33 = .ok (.iinc 2 1, 3) := by decide +kernel
theorem dX2_letters_36 : decode cX2_letters 36 = .ok (.goto (-32), 3) := by decide +kernel
theorem dX2_letters_39 : decode cX2_letters 39 = .ok (.iload_n 2, 1) := by decide +kernel
theorem dX2_letters_40 : decode cX2_letters 40 = .ok (.ireturn, 1) := by decide +kernel
set_option maxRecDepth 20000 in
theorem ggX2_groundLetter_X2_letters : GoodIn wsX2_groundLetter wsX2_letters := goodIn_r _ [5, 6, 7, 8, 9, 4, 10, 11, 12, 13, 14, 15, 16, 17] (by decide +kernel) (by decide +kernel)
set_option maxRecDepth 20000 in
theorem gX2_groundLetter_X2_letters : GoodIn wsX2_groundLetter (wsV RX2 23 RX2 yX2_letters wsX2_letters) := goodIn_app (goodIn_of _ (by decide +kernel)) ggX2_groundLetter_X2_letters
set_option maxRecDepth 20000 in
theorem ggX2_groundLetter_X2_character : GoodIn wsX2_groundLetter wsX2_character := goodIn_r _ [14, 6, 15, 16, 17] (by decide +kernel) (by decide +kernel)
set_option maxRecDepth 20000 in
theorem gX2_groundLetter_X2_character : GoodIn wsX2_groundLetter (wsV RX2 30 RX2 yX2_character wsX2_character) := goodIn_app (goodIn_of _ (by decide +kernel)) ggX2_groundLetter_X2_character
theorem dX2_groundLetter_0 : decode cX2_groundLetter 0 = .ok (.aload_n 0, 1) := by decide +kernel
theorem dX2_groundLetter_1 : decode cX2_groundLetter 1 = .ok (.invokevirtual 23, 3) := by decide +kernel
theorem dX2_groundLetter_4 : decode cX2_groundLetter 4 = .ok (.istore_n 1, 1) := by decide +kernel
theorem dX2_groundLetter_5 : decode cX2_groundLetter 5 = .ok (.iconst 0, 1) := by decide +kernel
theorem dX2_groundLetter_6 : decode cX2_groundLetter 6 = .ok (.istore_n 2, 1) := by decide +kernel
theorem dX2_groundLetter_7 : decode cX2_groundLetter 7 = .ok (.iload_n 2, 1) := by decide +kernel
theorem dX2_groundLetter_8 : decode cX2_groundLetter 8 = .ok (.iload_n 1, 1) := by decide +kernel
theorem dX2_groundLetter_9 : decode cX2_groundLetter 9 = .ok (.if_icmp .ge 21, 3) := by decide +kernel
theorem dX2_groundLetter_12 : decode cX2_groundLetter 12 = .ok (.aload_n 0, 1) := by decide +kernel
theorem dX2_groundLetter_13 : decode cX2_groundLetter 13 = .ok (.iload_n 2, 1) := by decide +kernel
theorem dX2_groundLetter_14 : decode cX2_groundLetter 14 = .ok (.invokevirtual 30, 3) := by decide +kernel
theorem dX2_groundLetter_17 : decode cX2_groundLetter 17 = .ok (.bipush 71, 2) := by decide +kernel
theorem dX2_groundLetter_19 : decode cX2_groundLetter 19 = .ok (.if_icmp .ne 5, 3) := by decide +kernel
theorem dX2_groundLetter_22 : decode cX2_groundLetter 22 = .ok (.iload_n 2, 1) := by decide +kernel
theorem dX2_groundLetter_23 : decode cX2_groundLetter 23 = .ok (.ireturn, 1) := by decide +kernel
theorem dX2_groundLetter_24 : decode cX2_groundLetter 24 = .ok (.iinc 2 1, 3) := by decide +kernel
theorem dX2_groundLetter_27 : decode cX2_groundLetter 27 = .ok (.goto (-20), 3) := by decide +kernel
theorem dX2_groundLetter_30 : decode cX2_groundLetter 30 = .ok (.iconst (-1), 1) := by decide +kernel
theorem dX2_groundLetter_31 : decode cX2_groundLetter 31 = .ok (.ireturn, 1) := by decide +kernel
set_option maxRecDepth 20000 in
theorem ggX2_kindTold_X2_character : GoodIn wsX2_kindTold wsX2_character := goodIn_r _ [5, 6, 7, 8, 9] (by decide +kernel) (by decide +kernel)
set_option maxRecDepth 20000 in
theorem gX2_kindTold_X2_character : GoodIn wsX2_kindTold (wsV RX2 30 RX2 yX2_character wsX2_character) := goodIn_app (goodIn_of _ (by decide +kernel)) ggX2_kindTold_X2_character
theorem dX2_kindTold_0 : decode cX2_kindTold 0 = .ok (.aload_n 0, 1) := by decide +kernel
theorem dX2_kindTold_1 : decode cX2_kindTold 1 = .ok (.iload_n 1, 1) := by decide +kernel
theorem dX2_kindTold_2 : decode cX2_kindTold 2 = .ok (.invokevirtual 30, 3) := by decide +kernel
theorem dX2_kindTold_5 : decode cX2_kindTold 5 = .ok (.lookupswitch 41 #[(104, 35), (106, 37), (120, 39)], 35) := by decide +kernel
theorem dX2_kindTold_40 : decode cX2_kindTold 40 = .ok (.iconst 1, 1) := by decide +kernel
theorem dX2_kindTold_41 : decode cX2_kindTold 41 = .ok (.ireturn, 1) := by decide +kernel
theorem dX2_kindTold_42 : decode cX2_kindTold 42 = .ok (.iconst 2, 1) := by decide +kernel
theorem dX2_kindTold_43 : decode cX2_kindTold 43 = .ok (.ireturn, 1) := by decide +kernel
theorem dX2_kindTold_44 : decode cX2_kindTold 44 = .ok (.iconst 3, 1) := by decide +kernel
theorem dX2_kindTold_45 : decode cX2_kindTold 45 = .ok (.ireturn, 1) := by decide +kernel
theorem dX2_kindTold_46 : decode cX2_kindTold 46 = .ok (.iconst 0, 1) := by decide +kernel
theorem dX2_kindTold_47 : decode cX2_kindTold 47 = .ok (.ireturn, 1) := by decide +kernel
set_option maxRecDepth 20000 in
theorem ggX2_storeys_X2_letters : GoodIn wsX2_storeys wsX2_letters := goodIn_r _ [6, 1, 7, 8, 9, 5, 10, 11, 12, 13, 14, 15, 16, 17] (by decide +kernel) (by decide +kernel)
set_option maxRecDepth 20000 in
theorem gX2_storeys_X2_letters : GoodIn wsX2_storeys (wsV RX2 23 RX2 yX2_letters wsX2_letters) := goodIn_app (goodIn_of _ (by decide +kernel)) ggX2_storeys_X2_letters
set_option maxRecDepth 20000 in
theorem ggX2_storeys_X2_character : GoodIn wsX2_storeys wsX2_character := goodIn_r _ [14, 1, 15, 16, 17] (by decide +kernel) (by decide +kernel)
set_option maxRecDepth 20000 in
theorem gX2_storeys_X2_character : GoodIn wsX2_storeys (wsV RX2 30 RX2 yX2_character wsX2_character) := goodIn_app (goodIn_of _ (by decide +kernel)) ggX2_storeys_X2_character
theorem dX2_storeys_0 : decode cX2_storeys 0 = .ok (.iconst 0, 1) := by decide +kernel
theorem dX2_storeys_1 : decode cX2_storeys 1 = .ok (.istore_n 1, 1) := by decide +kernel
theorem dX2_storeys_2 : decode cX2_storeys 2 = .ok (.iconst 0, 1) := by decide +kernel
theorem dX2_storeys_3 : decode cX2_storeys 3 = .ok (.istore_n 2, 1) := by decide +kernel
theorem dX2_storeys_4 : decode cX2_storeys 4 = .ok (.aload_n 0, 1) := by decide +kernel
theorem dX2_storeys_5 : decode cX2_storeys 5 = .ok (.invokevirtual 23, 3) := by decide +kernel
theorem dX2_storeys_8 : decode cX2_storeys 8 = .ok (.iconst 1, 1) := by decide +kernel
theorem dX2_storeys_9 : decode cX2_storeys 9 = .ok (.iadd, 1) := by decide +kernel
theorem dX2_storeys_10 : decode cX2_storeys 10 = .ok (.istore_n 3, 1) := by decide +kernel
theorem dX2_storeys_11 : decode cX2_storeys 11 = .ok (.iload_n 3, 1) := by decide +kernel
theorem dX2_storeys_12 : decode cX2_storeys 12 = .ok (.aload_n 0, 1) := by decide +kernel
theorem dX2_storeys_13 : decode cX2_storeys 13 = .ok (.getfield 15, 3) := by decide +kernel
theorem dX2_storeys_16 : decode cX2_storeys 16 = .ok (.if_icmp .ge 44, 3) := by decide +kernel
theorem dX2_storeys_19 : decode cX2_storeys 19 = .ok (.aload_n 0, 1) := by decide +kernel
theorem dX2_storeys_20 : decode cX2_storeys 20 = .ok (.iload_n 3, 1) := by decide +kernel
theorem dX2_storeys_21 : decode cX2_storeys 21 = .ok (.invokevirtual 30, 3) := by decide +kernel
theorem dX2_storeys_24 : decode cX2_storeys 24 = .ok (.bipush 44, 2) := by decide +kernel
theorem dX2_storeys_26 : decode cX2_storeys 26 = .ok (.if_icmp .ne 14, 3) := by decide +kernel
theorem dX2_storeys_29 : decode cX2_storeys 29 = .ok (.iload_n 1, 1) := by decide +kernel
theorem dX2_storeys_30 : decode cX2_storeys 30 = .ok (.iconst 1, 1) := by decide +kernel
theorem dX2_storeys_31 : decode cX2_storeys 31 = .ok (.iload_n 2, 1) := by decide +kernel
theorem dX2_storeys_32 : decode cX2_storeys 32 = .ok (.ishl, 1) := by decide +kernel
theorem dX2_storeys_33 : decode cX2_storeys 33 = .ok (.ior, 1) := by decide +kernel
theorem dX2_storeys_34 : decode cX2_storeys 34 = .ok (.istore_n 1, 1) := by decide +kernel
theorem dX2_storeys_35 : decode cX2_storeys 35 = .ok (.iconst 0, 1) := by decide +kernel
theorem dX2_storeys_36 : decode cX2_storeys 36 = .ok (.istore_n 2, 1) := by decide +kernel
theorem dX2_storeys_37 : decode cX2_storeys 37 = .ok (.goto 17, 3) := by decide +kernel
theorem dX2_storeys_40 : decode cX2_storeys 40 = .ok (.bipush 10, 2) := by decide +kernel
theorem dX2_storeys_42 : decode cX2_storeys 42 = .ok (.iload_n 2, 1) := by decide +kernel
theorem dX2_storeys_43 : decode cX2_storeys 43 = .ok (.imul, 1) := by decide +kernel
theorem dX2_storeys_44 : decode cX2_storeys 44 = .ok (.aload_n 0, 1) := by decide +kernel
theorem dX2_storeys_45 : decode cX2_storeys 45 = .ok (.iload_n 3, 1) := by decide +kernel
theorem dX2_storeys_46 : decode cX2_storeys 46 = .ok (.invokevirtual 30, 3) := by decide +kernel
theorem dX2_storeys_49 : decode cX2_storeys 49 = .ok (.iadd, 1) := by decide +kernel
theorem dX2_storeys_50 : decode cX2_storeys 50 = .ok (.bipush 48, 2) := by decide +kernel
theorem dX2_storeys_52 : decode cX2_storeys 52 = .ok (.isub, 1) := by decide +kernel
theorem dX2_storeys_53 : decode cX2_storeys 53 = .ok (.istore_n 2, 1) := by decide +kernel
theorem dX2_storeys_54 : decode cX2_storeys 54 = .ok (.iinc 3 1, 3) := by decide +kernel
theorem dX2_storeys_57 : decode cX2_storeys 57 = .ok (.goto (-46), 3) := by decide +kernel
theorem dX2_storeys_60 : decode cX2_storeys 60 = .ok (.iload_n 2, 1) := by decide +kernel
theorem dX2_storeys_61 : decode cX2_storeys 61 = .ok (.ifCond .ne 7, 3) := by decide +kernel
theorem dX2_storeys_64 : decode cX2_storeys 64 = .ok (.iload_n 1, 1) := by decide +kernel
theorem dX2_storeys_65 : decode cX2_storeys 65 = .ok (.goto 8, 3) := by decide +kernel
theorem dX2_storeys_68 : decode cX2_storeys 68 = .ok (.iload_n 1, 1) := by decide +kernel
theorem dX2_storeys_69 : decode cX2_storeys 69 = .ok (.iconst 1, 1) := by decide +kernel
theorem dX2_storeys_70 : decode cX2_storeys 70 = .ok (.iload_n 2, 1) := by decide +kernel
theorem dX2_storeys_71 : decode cX2_storeys 71 = .ok (.ishl, 1) := by decide +kernel
theorem dX2_storeys_72 : decode cX2_storeys 72 = .ok (.ior, 1) := by decide +kernel
theorem dX2_storeys_73 : decode cX2_storeys 73 = .ok (.ireturn, 1) := by decide +kernel
theorem dX2_character_0 : decode cX2_character 0 = .ok (.iload_n 1, 1) := by decide +kernel
theorem dX2_character_1 : decode cX2_character 1 = .ok (.ifCond .lt 26, 3) := by decide +kernel
theorem dX2_character_4 : decode cX2_character 4 = .ok (.iload_n 1, 1) := by decide +kernel
theorem dX2_character_5 : decode cX2_character 5 = .ok (.aload_n 0, 1) := by decide +kernel
theorem dX2_character_6 : decode cX2_character 6 = .ok (.getfield 15, 3) := by decide +kernel
theorem dX2_character_9 : decode cX2_character 9 = .ok (.if_icmp .ge 18, 3) := by decide +kernel
theorem dX2_character_12 : decode cX2_character 12 = .ok (.iload_n 1, 1) := by decide +kernel
theorem dX2_character_13 : decode cX2_character 13 = .ok (.bipush 60, 2) := by decide +kernel
theorem dX2_character_15 : decode cX2_character 15 = .ok (.if_icmp .ge 12, 3) := by decide +kernel
theorem dX2_character_18 : decode cX2_character 18 = .ok (.aload_n 0, 1) := by decide +kernel
theorem dX2_character_19 : decode cX2_character 19 = .ok (.getfield 11, 3) := by decide +kernel
theorem dX2_character_22 : decode cX2_character 22 = .ok (.iload_n 1, 1) := by decide +kernel
theorem dX2_character_23 : decode cX2_character 23 = .ok (.caload, 1) := by decide +kernel
theorem dX2_character_24 : decode cX2_character 24 = .ok (.goto 4, 3) := by decide +kernel
theorem dX2_character_27 : decode cX2_character 27 = .ok (.iconst 0, 1) := by decide +kernel
theorem dX2_character_28 : decode cX2_character 28 = .ok (.ireturn, 1) := by decide +kernel
set_option maxRecDepth 20000 in
theorem ggX2_isLetterAllowed_X2_character : GoodIn wsX2_isLetterAllowed wsX2_character := goodIn_r _ [5, 6, 7, 8, 9] (by decide +kernel) (by decide +kernel)
set_option maxRecDepth 20000 in
theorem gX2_isLetterAllowed_X2_character : GoodIn wsX2_isLetterAllowed (wsV RX2 30 RX2 yX2_character wsX2_character) := goodIn_app (goodIn_of _ (by decide +kernel)) ggX2_isLetterAllowed_X2_character
theorem dX2_isLetterAllowed_0 : decode cX2_isLetterAllowed 0 = .ok (.iload_n 1, 1) := by decide +kernel
theorem dX2_isLetterAllowed_1 : decode cX2_isLetterAllowed 1 = .ok (.bipush 16, 2) := by decide +kernel
theorem dX2_isLetterAllowed_3 : decode cX2_isLetterAllowed 3 = .ok (.if_icmp .lt 5, 3) := by decide +kernel
theorem dX2_isLetterAllowed_6 : decode cX2_isLetterAllowed 6 = .ok (.iconst 0, 1) := by decide +kernel
theorem dX2_isLetterAllowed_7 : decode cX2_isLetterAllowed 7 = .ok (.ireturn, 1) := by decide +kernel
theorem dX2_isLetterAllowed_8 : decode cX2_isLetterAllowed 8 = .ok (.aload_n 0, 1) := by decide +kernel
theorem dX2_isLetterAllowed_9 : decode cX2_isLetterAllowed 9 = .ok (.iload_n 1, 1) := by decide +kernel
theorem dX2_isLetterAllowed_10 : decode cX2_isLetterAllowed 10 = .ok (.invokevirtual 30, 3) := by decide +kernel
theorem dX2_isLetterAllowed_13 : decode cX2_isLetterAllowed 13 = .ok (.lookupswitch 77 #[(71, 51), (104, 61), (106, 61), (119, 61), (120, 61)], 51) := by decide +kernel
theorem dX2_isLetterAllowed_64 : decode cX2_isLetterAllowed 64 = .ok (.iload_n 2, 1) := by decide +kernel
theorem dX2_isLetterAllowed_65 : decode cX2_isLetterAllowed 65 = .ok (.ifCond .ne 7, 3) := by decide +kernel
theorem dX2_isLetterAllowed_68 : decode cX2_isLetterAllowed 68 = .ok (.iconst 1, 1) := by decide +kernel
theorem dX2_isLetterAllowed_69 : decode cX2_isLetterAllowed 69 = .ok (.goto 4, 3) := by decide +kernel
theorem dX2_isLetterAllowed_72 : decode cX2_isLetterAllowed 72 = .ok (.iconst 0, 1) := by decide +kernel
theorem dX2_isLetterAllowed_73 : decode cX2_isLetterAllowed 73 = .ok (.ireturn, 1) := by decide +kernel
theorem dX2_isLetterAllowed_74 : decode cX2_isLetterAllowed 74 = .ok (.iload_n 2, 1) := by decide +kernel
theorem dX2_isLetterAllowed_75 : decode cX2_isLetterAllowed 75 = .ok (.ifCond .ne 9, 3) := by decide +kernel
theorem dX2_isLetterAllowed_78 : decode cX2_isLetterAllowed 78 = .ok (.iload_n 1, 1) := by decide +kernel
theorem dX2_isLetterAllowed_79 : decode cX2_isLetterAllowed 79 = .ok (.bipush 15, 2) := by decide +kernel
theorem dX2_isLetterAllowed_81 : decode cX2_isLetterAllowed 81 = .ok (.if_icmp .ge 7, 3) := by decide +kernel
theorem dX2_isLetterAllowed_84 : decode cX2_isLetterAllowed 84 = .ok (.iconst 1, 1) := by decide +kernel
theorem dX2_isLetterAllowed_85 : decode cX2_isLetterAllowed 85 = .ok (.goto 4, 3) := by decide +kernel
theorem dX2_isLetterAllowed_88 : decode cX2_isLetterAllowed 88 = .ok (.iconst 0, 1) := by decide +kernel
theorem dX2_isLetterAllowed_89 : decode cX2_isLetterAllowed 89 = .ok (.ireturn, 1) := by decide +kernel
theorem dX2_isLetterAllowed_90 : decode cX2_isLetterAllowed 90 = .ok (.iconst 0, 1) := by decide +kernel
theorem dX2_isLetterAllowed_91 : decode cX2_isLetterAllowed 91 = .ok (.ireturn, 1) := by decide +kernel
set_option maxRecDepth 20000 in
theorem ggX2_firstErrorInStoreys_X2_character : GoodIn wsX2_firstErrorInStoreys wsX2_character := goodIn_r _ [6, 1, 7, 11, 12] (by decide +kernel) (by decide +kernel)
set_option maxRecDepth 20000 in
theorem gX2_firstErrorInStoreys_X2_character : GoodIn wsX2_firstErrorInStoreys (wsV RX2 30 RX2 yX2_character wsX2_character) := goodIn_app (goodIn_of _ (by decide +kernel)) ggX2_firstErrorInStoreys_X2_character
set_option maxRecDepth 20000 in
theorem ggX2_firstErrorInStoreys_X6_canBeSkipped : GoodIn wsX2_firstErrorInStoreys wsX6_canBeSkipped := goodIn_r _ [10] (by decide +kernel) (by decide +kernel)
set_option maxRecDepth 20000 in
theorem gX2_firstErrorInStoreys_X6_canBeSkipped_n42 : GoodIn wsX2_firstErrorInStoreys (wsX6_canBeSkipped) := ggX2_firstErrorInStoreys_X6_canBeSkipped
theorem dX2_firstErrorInStoreys_0 : decode cX2_firstErrorInStoreys 0 = .ok (.iconst 0, 1) := by decide +kernel
theorem dX2_firstErrorInStoreys_1 : decode cX2_firstErrorInStoreys 1 = .ok (.istore_n 2, 1) := by decide +kernel
theorem dX2_firstErrorInStoreys_2 : decode cX2_firstErrorInStoreys 2 = .ok (.iconst 0, 1) := by decide +kernel
theorem dX2_firstErrorInStoreys_3 : decode cX2_firstErrorInStoreys 3 = .ok (.istore_n 3, 1) := by decide +kernel
theorem dX2_firstErrorInStoreys_4 : decode cX2_firstErrorInStoreys 4 = .ok (.iload_n 1, 1) := by decide +kernel
theorem dX2_firstErrorInStoreys_5 : decode cX2_firstErrorInStoreys 5 = .ok (.istore 4, 2) := by decide +kernel
theorem dX2_firstErrorInStoreys_7 : decode cX2_firstErrorInStoreys 7 = .ok (.iload 4, 2) := by decide +kernel
theorem dX2_firstErrorInStoreys_9 : decode cX2_firstErrorInStoreys 9 = .ok (.aload_n 0, 1) := by decide +kernel
theorem dX2_firstErrorInStoreys_10 : decode cX2_firstErrorInStoreys 10 = .ok (.getfield 15, 3) := by decide +kernel
theorem dX2_firstErrorInStoreys_13 : decode cX2_firstErrorInStoreys 13 = .ok (.if_icmp .ge 86, 3) := by decide +kernel
theorem dX2_firstErrorInStoreys_16 : decode cX2_firstErrorInStoreys 16 = .ok (.aload_n 0, 1) := by decide +kernel
theorem dX2_firstErrorInStoreys_17 : decode cX2_firstErrorInStoreys 17 = .ok (.iload 4, 2) := by decide +kernel
theorem dX2_firstErrorInStoreys_19 : decode cX2_firstErrorInStoreys 19 = .ok (.invokevirtual 30, 3) := by decide +kernel
theorem dX2_firstErrorInStoreys_22 : decode cX2_firstErrorInStoreys 22 = .ok (.istore 5, 2) := by decide +kernel
theorem dX2_firstErrorInStoreys_24 : decode cX2_firstErrorInStoreys 24 = .ok (.iload 5, 2) := by decide +kernel
theorem dX2_firstErrorInStoreys_26 : decode cX2_firstErrorInStoreys 26 = .ok (.bipush 44, 2) := by decide +kernel
theorem dX2_firstErrorInStoreys_28 : decode cX2_firstErrorInStoreys 28 = .ok (.if_icmp .ne 18, 3) := by decide +kernel
theorem dX2_firstErrorInStoreys_31 : decode cX2_firstErrorInStoreys 31 = .ok (.iload_n 3, 1) := by decide +kernel
theorem dX2_firstErrorInStoreys_32 : decode cX2_firstErrorInStoreys 32 = .ok (.iload_n 2, 1) := by decide +kernel
theorem dX2_firstErrorInStoreys_33 : decode cX2_firstErrorInStoreys 33 = .ok (.if_icmp .gt 6, 3) := by decide +kernel
theorem dX2_firstErrorInStoreys_36 : decode cX2_firstErrorInStoreys 36 = .ok (.iload 4, 2) := by decide +kernel
theorem dX2_firstErrorInStoreys_38 : decode cX2_firstErrorInStoreys 38 = .ok (.ireturn, 1) := by decide +kernel
theorem dX2_firstErrorInStoreys_39 : decode cX2_firstErrorInStoreys 39 = .ok (.iload_n 3, 1) := by decide +kernel
theorem dX2_firstErrorInStoreys_40 : decode cX2_firstErrorInStoreys 40 = .ok (.istore_n 2, 1) := by decide +kernel
theorem dX2_firstErrorInStoreys_41 : decode cX2_firstErrorInStoreys 41 = .ok (.iconst 0, 1) := by decide +kernel
theorem dX2_firstErrorInStoreys_42 : decode cX2_firstErrorInStoreys 42 = .ok (.istore_n 3, 1) := by decide +kernel
theorem dX2_firstErrorInStoreys_43 : decode cX2_firstErrorInStoreys 43 = .ok (.goto 50, 3) := by decide +kernel
theorem dX2_firstErrorInStoreys_46 : decode cX2_firstErrorInStoreys 46 = .ok (.iload 5, 2) := by decide +kernel
theorem dX2_firstErrorInStoreys_48 : decode cX2_firstErrorInStoreys 48 = .ok (.bipush 48, 2) := by decide +kernel
theorem dX2_firstErrorInStoreys_50 : decode cX2_firstErrorInStoreys 50 = .ok (.if_icmp .lt 40, 3) := by decide +kernel
theorem dX2_firstErrorInStoreys_53 : decode cX2_firstErrorInStoreys 53 = .ok (.iload 5, 2) := by decide +kernel
theorem dX2_firstErrorInStoreys_55 : decode cX2_firstErrorInStoreys 55 = .ok (.bipush 57, 2) := by decide +kernel
theorem dX2_firstErrorInStoreys_57 : decode cX2_firstErrorInStoreys 57 = .ok (.if_icmp .gt 33, 3) := by decide +kernel
theorem dX2_firstErrorInStoreys_60 : decode cX2_firstErrorInStoreys 60 = .ok (.bipush 10, 2) := by decide +kernel
theorem dX2_firstErrorInStoreys_62 : decode cX2_firstErrorInStoreys 62 = .ok (.iload_n 3, 1) := by decide +kernel
theorem dX2_firstErrorInStoreys_63 : decode cX2_firstErrorInStoreys 63 = .ok (.imul, 1) := by decide +kernel
theorem dX2_firstErrorInStoreys_64 : decode cX2_firstErrorInStoreys 64 = .ok (.iload 5, 2) := by decide +kernel
theorem dX2_firstErrorInStoreys_66 : decode cX2_firstErrorInStoreys 66 = .ok (.iadd, 1) := by decide +kernel
theorem dX2_firstErrorInStoreys_67 : decode cX2_firstErrorInStoreys 67 = .ok (.bipush 48, 2) := by decide +kernel
theorem dX2_firstErrorInStoreys_69 : decode cX2_firstErrorInStoreys 69 = .ok (.isub, 1) := by decide +kernel
theorem dX2_firstErrorInStoreys_70 : decode cX2_firstErrorInStoreys 70 = .ok (.invokestatic 42, 3) := by decide +kernel
theorem dX2_firstErrorInStoreys_73 : decode cX2_firstErrorInStoreys 73 = .ok (.ifCond .eq 17, 3) := by decide +kernel
theorem dX2_firstErrorInStoreys_76 : decode cX2_firstErrorInStoreys 76 = .ok (.bipush 10, 2) := by decide +kernel
theorem dX2_firstErrorInStoreys_78 : decode cX2_firstErrorInStoreys 78 = .ok (.iload_n 3, 1) := by decide +kernel
theorem dX2_firstErrorInStoreys_79 : decode cX2_firstErrorInStoreys 79 = .ok (.imul, 1) := by decide +kernel
theorem dX2_firstErrorInStoreys_80 : decode cX2_firstErrorInStoreys 80 = .ok (.iload 5, 2) := by decide +kernel
theorem dX2_firstErrorInStoreys_82 : decode cX2_firstErrorInStoreys 82 = .ok (.iadd, 1) := by decide +kernel
theorem dX2_firstErrorInStoreys_83 : decode cX2_firstErrorInStoreys 83 = .ok (.bipush 48, 2) := by decide +kernel
theorem dX2_firstErrorInStoreys_85 : decode cX2_firstErrorInStoreys 85 = .ok (.isub, 1) := by decide +kernel
theorem dX2_firstErrorInStoreys_86 : decode cX2_firstErrorInStoreys 86 = .ok (.istore_n 3, 1) := by decide +kernel
theorem dX2_firstErrorInStoreys_87 : decode cX2_firstErrorInStoreys 87 = .ok (.goto 6, 3) := by decide +kernel
theorem dX2_firstErrorInStoreys_90 : decode cX2_firstErrorInStoreys 90 = .ok (.iload 4, 2) := by decide +kernel
theorem dX2_firstErrorInStoreys_92 : decode cX2_firstErrorInStoreys 92 = .ok (.ireturn, 1) := by decide +kernel
theorem dX2_firstErrorInStoreys_93 : decode cX2_firstErrorInStoreys 93 = .ok (.iinc 4 1, 3) := by decide +kernel
theorem dX2_firstErrorInStoreys_96 : decode cX2_firstErrorInStoreys 96 = .ok (.goto (-89), 3) := by decide +kernel
theorem dX2_firstErrorInStoreys_99 : decode cX2_firstErrorInStoreys 99 = .ok (.iload_n 3, 1) := by decide +kernel
theorem dX2_firstErrorInStoreys_100 : decode cX2_firstErrorInStoreys 100 = .ok (.iload_n 2, 1) := by decide +kernel
theorem dX2_firstErrorInStoreys_101 : decode cX2_firstErrorInStoreys 101 = .ok (.if_icmp .le 7, 3) := by decide +kernel
theorem dX2_firstErrorInStoreys_104 : decode cX2_firstErrorInStoreys 104 = .ok (.iconst (-1), 1) := by decide +kernel
theorem dX2_firstErrorInStoreys_105 : decode cX2_firstErrorInStoreys 105 = .ok (.goto 7, 3) := by decide +kernel
theorem dX2_firstErrorInStoreys_108 : decode cX2_firstErrorInStoreys 108 = .ok (.aload_n 0, 1) := by decide +kernel
theorem dX2_firstErrorInStoreys_109 : decode cX2_firstErrorInStoreys 109 = .ok (.getfield 15, 3) := by decide +kernel
theorem dX2_firstErrorInStoreys_112 : decode cX2_firstErrorInStoreys 112 = .ok (.ireturn, 1) := by decide +kernel
set_option maxRecDepth 20000 in
theorem ggX3_destination_X1_isStopOf : GoodIn wsX3_destination wsX1_isStopOf := goodIn_r _ [5, 6, 7, 8, 4, 9, 10, 20, 21, 22, 23] (by decide +kernel) (by decide +kernel)
set_option maxRecDepth 20000 in
theorem gX3_destination_X1_isStopOf : GoodIn wsX3_destination (wsV RX3 9 RX1 yX1_isStopOf wsX1_isStopOf) := goodIn_app (goodIn_of _ (by decide +kernel)) ggX3_destination_X1_isStopOf
set_option maxRecDepth 20000 in
theorem ggX3_destination_X1_levels : GoodIn wsX3_destination wsX1_levels := goodIn_r _ [14, 15, 20, 21, 22, 23] (by decide +kernel) (by decide +kernel)
set_option maxRecDepth 20000 in
theorem gX3_destination_X1_levels : GoodIn wsX3_destination (wsV RX3 15 RX1 yX1_levels wsX1_levels) := goodIn_app (goodIn_of _ (by decide +kernel)) ggX3_destination_X1_levels
set_option maxRecDepth 20000 in
theorem ggX3_destination_X1_buttonAt : GoodIn wsX3_destination wsX1_buttonAt := goodIn_r _ [19, 6, 7, 8, 4, 9, 10, 20, 21, 22, 23] (by decide +kernel) (by decide +kernel)
set_option maxRecDepth 20000 in
theorem gX3_destination_X1_buttonAt : GoodIn wsX3_destination (wsV RX3 19 RX1 yX1_buttonAt wsX1_buttonAt) := goodIn_app (goodIn_of _ (by decide +kernel)) ggX3_destination_X1_buttonAt
theorem dX3_destination_0 : decode cX3_destination 0 = .ok (.iload_n 3, 1) := by decide +kernel
theorem dX3_destination_1 : decode cX3_destination 1 = .ok (.iconst (-1), 1) := by decide +kernel
theorem dX3_destination_2 : decode cX3_destination 2 = .ok (.if_icmp .eq 12, 3) := by decide +kernel
theorem dX3_destination_5 : decode cX3_destination 5 = .ok (.aload_n 0, 1) := by decide +kernel
theorem dX3_destination_6 : decode cX3_destination 6 = .ok (.iload_n 1, 1) := by decide +kernel
theorem dX3_destination_7 : decode cX3_destination 7 = .ok (.iload_n 2, 1) := by decide +kernel
theorem dX3_destination_8 : decode cX3_destination 8 = .ok (.invokevirtual 9, 3) := by decide +kernel
theorem dX3_destination_11 : decode cX3_destination 11 = .ok (.ifCond .ne 5, 3) := by decide +kernel
theorem dX3_destination_14 : decode cX3_destination 14 = .ok (.iconst (-1), 1) := by decide +kernel
theorem dX3_destination_15 : decode cX3_destination 15 = .ok (.ireturn, 1) := by decide +kernel
theorem dX3_destination_16 : decode cX3_destination 16 = .ok (.iconst 0, 1) := by decide +kernel
theorem dX3_destination_17 : decode cX3_destination 17 = .ok (.istore 4, 2) := by decide +kernel
theorem dX3_destination_19 : decode cX3_destination 19 = .ok (.iload 4, 2) := by decide +kernel
theorem dX3_destination_21 : decode cX3_destination 21 = .ok (.aload_n 0, 1) := by decide +kernel
theorem dX3_destination_22 : decode cX3_destination 22 = .ok (.invokevirtual 15, 3) := by decide +kernel
theorem dX3_destination_25 : decode cX3_destination 25 = .ok (.if_icmp .ge 39, 3) := by decide +kernel
theorem dX3_destination_28 : decode cX3_destination 28 = .ok (.iload 4, 2) := by decide +kernel
theorem dX3_destination_30 : decode cX3_destination 30 = .ok (.iload_n 2, 1) := by decide +kernel
theorem dX3_destination_31 : decode cX3_destination 31 = .ok (.if_icmp .eq 27, 3) := by decide +kernel
theorem dX3_destination_34 : decode cX3_destination 34 = .ok (.aload_n 0, 1) := by decide +kernel
theorem dX3_destination_35 : decode cX3_destination 35 = .ok (.iload_n 1, 1) := by decide +kernel
theorem dX3_destination_36 : decode cX3_destination 36 = .ok (.iload 4, 2) := by decide +kernel
theorem dX3_destination_38 : decode cX3_destination 38 = .ok (.invokevirtual 9, 3) := by decide +kernel
theorem dX3_destination_41 : decode cX3_destination 41 = .ok (.ifCond .eq 17, 3) := by decide +kernel
theorem dX3_destination_44 : decode cX3_destination 44 = .ok (.aload_n 0, 1) := by decide +kernel
theorem dX3_destination_45 : decode cX3_destination 45 = .ok (.iload_n 1, 1) := by decide +kernel
theorem dX3_destination_46 : decode cX3_destination 46 = .ok (.iload 4, 2) := by decide +kernel
theorem dX3_destination_48 : decode cX3_destination 48 = .ok (.invokevirtual 19, 3) := by decide +kernel
theorem dX3_destination_51 : decode cX3_destination 51 = .ok (.iload_n 3, 1) := by decide +kernel
theorem dX3_destination_52 : decode cX3_destination 52 = .ok (.if_icmp .ne 6, 3) := by decide +kernel
theorem dX3_destination_55 : decode cX3_destination 55 = .ok (.iload 4, 2) := by decide +kernel
theorem dX3_destination_57 : decode cX3_destination 57 = .ok (.ireturn, 1) := by decide +kernel
theorem dX3_destination_58 : decode cX3_destination 58 = .ok (.iinc 4 1, 3) := by decide +kernel
theorem dX3_destination_61 : decode cX3_destination 61 = .ok (.goto (-42), 3) := by decide +kernel
theorem dX3_destination_64 : decode cX3_destination 64 = .ok (.iconst (-1), 1) := by decide +kernel
theorem dX3_destination_65 : decode cX3_destination 65 = .ok (.ireturn, 1) := by decide +kernel
set_option maxRecDepth 20000 in
theorem ggX3_leadingAstray_X1_levels : GoodIn wsX3_leadingAstray wsX1_levels := goodIn_r _ [5, 6, 24, 25, 26, 27] (by decide +kernel) (by decide +kernel)
set_option maxRecDepth 20000 in
theorem gX3_leadingAstray_X1_levels : GoodIn wsX3_leadingAstray (wsV RX3 15 RX1 yX1_levels wsX1_levels) := goodIn_app (goodIn_of _ (by decide +kernel)) ggX3_leadingAstray_X1_levels
set_option maxRecDepth 20000 in
theorem ggX3_leadingAstray_X1_isStopOf : GoodIn wsX3_leadingAstray wsX1_isStopOf := goodIn_r _ [10, 11, 12, 13, 4, 14, 15, 24, 25, 26, 27] (by decide +kernel) (by decide +kernel)
set_option maxRecDepth 20000 in
theorem gX3_leadingAstray_X1_isStopOf : GoodIn wsX3_leadingAstray (wsV RX3 9 RX1 yX1_isStopOf wsX1_isStopOf) := goodIn_app (goodIn_of _ (by decide +kernel)) ggX3_leadingAstray_X1_isStopOf
set_option maxRecDepth 20000 in
theorem ggX3_leadingAstray_X1_buttonAt : GoodIn wsX3_leadingAstray wsX1_buttonAt := goodIn_r _ [19, 11, 12, 13, 4, 14, 15, 24, 25, 26, 27] (by decide +kernel) (by decide +kernel)
set_option maxRecDepth 20000 in
theorem gX3_leadingAstray_X1_buttonAt : GoodIn wsX3_leadingAstray (wsV RX3 19 RX1 yX1_buttonAt wsX1_buttonAt) := goodIn_app (goodIn_of _ (by decide +kernel)) ggX3_leadingAstray_X1_buttonAt
set_option maxRecDepth 20000 in
theorem ggX3_leadingAstray_X3_destination : GoodIn wsX3_leadingAstray wsX3_destination := goodIn_r _ [23, 7, 8, 9, 4, 10, 11, 12, 13, 14, 15, 1, 2, 3, 5, 6, 16, 17, 18, 19, 24, 25, 26, 27] (by decide +kernel) (by decide +kernel)
set_option maxRecDepth 20000 in
theorem gX3_leadingAstray_X3_destination : GoodIn wsX3_leadingAstray (va_wsS RX3 23 yX3_destination wsX3_destination) := goodIn_app (goodIn_of _ (by decide +kernel)) ggX3_leadingAstray_X3_destination
theorem dX3_leadingAstray_0 : decode cX3_leadingAstray 0 = .ok (.iconst 0, 1) := by decide +kernel
theorem dX3_leadingAstray_1 : decode cX3_leadingAstray 1 = .ok (.istore_n 2, 1) := by decide +kernel
theorem dX3_leadingAstray_2 : decode cX3_leadingAstray 2 = .ok (.iconst 0, 1) := by decide +kernel
theorem dX3_leadingAstray_3 : decode cX3_leadingAstray 3 = .ok (.istore_n 3, 1) := by decide +kernel
theorem dX3_leadingAstray_4 : decode cX3_leadingAstray 4 = .ok (.iload_n 3, 1) := by decide +kernel
theorem dX3_leadingAstray_5 : decode cX3_leadingAstray 5 = .ok (.aload_n 0, 1) := by decide +kernel
theorem dX3_leadingAstray_6 : decode cX3_leadingAstray 6 = .ok (.invokevirtual 15, 3) := by decide +kernel
theorem dX3_leadingAstray_9 : decode cX3_leadingAstray 9 = .ok (.if_icmp .ge 73, 3) := by decide +kernel
theorem dX3_leadingAstray_12 : decode cX3_leadingAstray 12 = .ok (.iconst 0, 1) := by decide +kernel
theorem dX3_leadingAstray_13 : decode cX3_leadingAstray 13 = .ok (.istore 4, 2) := by decide +kernel
theorem dX3_leadingAstray_15 : decode cX3_leadingAstray 15 = .ok (.iload 4, 2) := by decide +kernel
theorem dX3_leadingAstray_17 : decode cX3_leadingAstray 17 = .ok (.aload_n 0, 1) := by decide +kernel
theorem dX3_leadingAstray_18 : decode cX3_leadingAstray 18 = .ok (.invokevirtual 15, 3) := by decide +kernel
theorem dX3_leadingAstray_21 : decode cX3_leadingAstray 21 = .ok (.if_icmp .ge 55, 3) := by decide +kernel
theorem dX3_leadingAstray_24 : decode cX3_leadingAstray 24 = .ok (.iload_n 3, 1) := by decide +kernel
theorem dX3_leadingAstray_25 : decode cX3_leadingAstray 25 = .ok (.iload 4, 2) := by decide +kernel
theorem dX3_leadingAstray_27 : decode cX3_leadingAstray 27 = .ok (.if_icmp .eq 43, 3) := by decide +kernel
theorem dX3_leadingAstray_30 : decode cX3_leadingAstray 30 = .ok (.aload_n 0, 1) := by decide +kernel
theorem dX3_leadingAstray_31 : decode cX3_leadingAstray 31 = .ok (.iload_n 1, 1) := by decide +kernel
theorem dX3_leadingAstray_32 : decode cX3_leadingAstray 32 = .ok (.iload_n 3, 1) := by decide +kernel
theorem dX3_leadingAstray_33 : decode cX3_leadingAstray 33 = .ok (.invokevirtual 9, 3) := by decide +kernel
theorem dX3_leadingAstray_36 : decode cX3_leadingAstray 36 = .ok (.ifCond .eq 34, 3) := by decide +kernel
theorem dX3_leadingAstray_39 : decode cX3_leadingAstray 39 = .ok (.aload_n 0, 1) := by decide +kernel
theorem dX3_leadingAstray_40 : decode cX3_leadingAstray 40 = .ok (.iload_n 1, 1) := by decide +kernel
theorem dX3_leadingAstray_41 : decode cX3_leadingAstray 41 = .ok (.iload 4, 2) := by decide +kernel
theorem dX3_leadingAstray_43 : decode cX3_leadingAstray 43 = .ok (.invokevirtual 9, 3) := by decide +kernel
theorem dX3_leadingAstray_46 : decode cX3_leadingAstray 46 = .ok (.ifCond .eq 24, 3) := by decide +kernel
theorem dX3_leadingAstray_49 : decode cX3_leadingAstray 49 = .ok (.aload_n 0, 1) := by decide +kernel
theorem dX3_leadingAstray_50 : decode cX3_leadingAstray 50 = .ok (.iload_n 1, 1) := by decide +kernel
theorem dX3_leadingAstray_51 : decode cX3_leadingAstray 51 = .ok (.iload_n 3, 1) := by decide +kernel
theorem dX3_leadingAstray_52 : decode cX3_leadingAstray 52 = .ok (.aload_n 0, 1) := by decide +kernel
theorem dX3_leadingAstray_53 : decode cX3_leadingAstray 53 = .ok (.iload_n 1, 1) := by decide +kernel
theorem dX3_leadingAstray_54 : decode cX3_leadingAstray 54 = .ok (.iload 4, 2) := by decide +kernel
theorem dX3_leadingAstray_56 : decode cX3_leadingAstray 56 = .ok (.invokevirtual 19, 3) := by decide +kernel
theorem dX3_leadingAstray_59 : decode cX3_leadingAstray 59 = .ok (.invokestatic 23, 3) := by decide +kernel
theorem dX3_leadingAstray_62 : decode cX3_leadingAstray 62 = .ok (.iload 4, 2) := by decide +kernel
theorem dX3_leadingAstray_64 : decode cX3_leadingAstray 64 = .ok (.if_icmp .eq 6, 3) := by decide +kernel
theorem dX3_leadingAstray_67 : decode cX3_leadingAstray 67 = .ok (.iinc 2 1, 3) := by decide +kernel
theorem dX3_leadingAstray_70 : decode cX3_leadingAstray 70 = .ok (.iinc 4 1, 3) := by decide +kernel
theorem dX3_leadingAstray_73 : decode cX3_leadingAstray 73 = .ok (.goto (-58), 3) := by decide +kernel
theorem dX3_leadingAstray_76 : decode cX3_leadingAstray 76 = .ok (.iinc 3 1, 3) := by decide +kernel
theorem dX3_leadingAstray_79 : decode cX3_leadingAstray 79 = .ok (.goto (-75), 3) := by decide +kernel
theorem dX3_leadingAstray_82 : decode cX3_leadingAstray 82 = .ok (.iload_n 2, 1) := by decide +kernel
theorem dX3_leadingAstray_83 : decode cX3_leadingAstray 83 = .ok (.ireturn, 1) := by decide +kernel
set_option maxRecDepth 20000 in
theorem ggX3_fewest_X3_oneRideFurther : GoodIn wsX3_fewest wsX3_oneRideFurther := goodIn_r _ [4, 5, 6, 7, 8, 9, 10, 11, 12, 3, 13, 14, 15, 16, 17, 18, 19, 20, 21, 22, 23, 24, 25, 26, 27, 28, 29, 30, 31, 32, 33] (by decide +kernel) (by decide +kernel)
set_option maxRecDepth 20000 in
theorem gX3_fewest_X3_oneRideFurther : GoodIn wsX3_fewest (va_wsS RX3 29 yX3_oneRideFurther wsX3_oneRideFurther) := goodIn_app (goodIn_of _ (by decide +kernel)) ggX3_fewest_X3_oneRideFurther
theorem dX3_fewest_0 : decode cX3_fewest 0 = .ok (.iconst 1, 1) := by decide +kernel
theorem dX3_fewest_1 : decode cX3_fewest 1 = .ok (.iload_n 1, 1) := by decide +kernel
theorem dX3_fewest_2 : decode cX3_fewest 2 = .ok (.ishl, 1) := by decide +kernel
theorem dX3_fewest_3 : decode cX3_fewest 3 = .ok (.istore_n 3, 1) := by decide +kernel
theorem dX3_fewest_4 : decode cX3_fewest 4 = .ok (.iconst 0, 1) := by decide +kernel
theorem dX3_fewest_5 : decode cX3_fewest 5 = .ok (.istore 4, 2) := by decide +kernel
theorem dX3_fewest_7 : decode cX3_fewest 7 = .ok (.iload 4, 2) := by decide +kernel
theorem dX3_fewest_9 : decode cX3_fewest 9 = .ok (.bipush 16, 2) := by decide +kernel
theorem dX3_fewest_11 : decode cX3_fewest 11 = .ok (.if_icmp .ge 41, 3) := by decide +kernel
theorem dX3_fewest_14 : decode cX3_fewest 14 = .ok (.iload_n 3, 1) := by decide +kernel
theorem dX3_fewest_15 : decode cX3_fewest 15 = .ok (.iload_n 2, 1) := by decide +kernel
theorem dX3_fewest_16 : decode cX3_fewest 16 = .ok (.iushr, 1) := by decide +kernel
theorem dX3_fewest_17 : decode cX3_fewest 17 = .ok (.iconst 1, 1) := by decide +kernel
theorem dX3_fewest_18 : decode cX3_fewest 18 = .ok (.iand, 1) := by decide +kernel
theorem dX3_fewest_19 : decode cX3_fewest 19 = .ok (.iconst 1, 1) := by decide +kernel
theorem dX3_fewest_20 : decode cX3_fewest 20 = .ok (.if_icmp .ne 6, 3) := by decide +kernel
theorem dX3_fewest_23 : decode cX3_fewest 23 = .ok (.iload 4, 2) := by decide +kernel
theorem dX3_fewest_25 : decode cX3_fewest 25 = .ok (.ireturn, 1) := by decide +kernel
theorem dX3_fewest_26 : decode cX3_fewest 26 = .ok (.iload_n 3, 1) := by decide +kernel
theorem dX3_fewest_27 : decode cX3_fewest 27 = .ok (.istore 5, 2) := by decide +kernel
theorem dX3_fewest_29 : decode cX3_fewest 29 = .ok (.iload_n 3, 1) := by decide +kernel
theorem dX3_fewest_30 : decode cX3_fewest 30 = .ok (.aload_n 0, 1) := by decide +kernel
theorem dX3_fewest_31 : decode cX3_fewest 31 = .ok (.iload 5, 2) := by decide +kernel
theorem dX3_fewest_33 : decode cX3_fewest 33 = .ok (.invokestatic 29, 3) := by decide +kernel
theorem dX3_fewest_36 : decode cX3_fewest 36 = .ok (.ior, 1) := by decide +kernel
theorem dX3_fewest_37 : decode cX3_fewest 37 = .ok (.istore_n 3, 1) := by decide +kernel
theorem dX3_fewest_38 : decode cX3_fewest 38 = .ok (.iload_n 3, 1) := by decide +kernel
theorem dX3_fewest_39 : decode cX3_fewest 39 = .ok (.iload 5, 2) := by decide +kernel
theorem dX3_fewest_41 : decode cX3_fewest 41 = .ok (.if_icmp .ne 5, 3) := by decide +kernel
theorem dX3_fewest_44 : decode cX3_fewest 44 = .ok (.iconst (-1), 1) := by decide +kernel
theorem dX3_fewest_45 : decode cX3_fewest 45 = .ok (.ireturn, 1) := by decide +kernel
theorem dX3_fewest_46 : decode cX3_fewest 46 = .ok (.iinc 4 1, 3) := by decide +kernel
theorem dX3_fewest_49 : decode cX3_fewest 49 = .ok (.goto (-42), 3) := by decide +kernel
theorem dX3_fewest_52 : decode cX3_fewest 52 = .ok (.iconst (-1), 1) := by decide +kernel
theorem dX3_fewest_53 : decode cX3_fewest 53 = .ok (.ireturn, 1) := by decide +kernel
set_option maxRecDepth 20000 in
theorem ggX3_oneRideFurther_X1_levels : GoodIn wsX3_oneRideFurther wsX1_levels := goodIn_r _ [5, 6, 27, 28, 29, 30] (by decide +kernel) (by decide +kernel)
set_option maxRecDepth 20000 in
theorem gX3_oneRideFurther_X1_levels : GoodIn wsX3_oneRideFurther (wsV RX3 15 RX1 yX1_levels wsX1_levels) := goodIn_app (goodIn_of _ (by decide +kernel)) ggX3_oneRideFurther_X1_levels
set_option maxRecDepth 20000 in
theorem ggX3_oneRideFurther_X3_anyCarLeads : GoodIn wsX3_oneRideFurther wsX3_anyCarLeads := goodIn_r _ [10, 11, 12, 13, 4, 14, 15, 16, 17, 18, 19, 20, 21, 9, 22, 23, 24, 25, 26, 1, 2, 3, 5, 6, 27, 28, 29, 30] (by decide +kernel) (by decide +kernel)
set_option maxRecDepth 20000 in
theorem gX3_oneRideFurther_X3_anyCarLeads : GoodIn wsX3_oneRideFurther (va_wsS RX3 33 yX3_anyCarLeads wsX3_anyCarLeads) := goodIn_app (goodIn_of _ (by decide +kernel)) ggX3_oneRideFurther_X3_anyCarLeads
theorem dX3_oneRideFurther_0 : decode cX3_oneRideFurther 0 = .ok (.iconst 0, 1) := by decide +kernel
theorem dX3_oneRideFurther_1 : decode cX3_oneRideFurther 1 = .ok (.istore_n 2, 1) := by decide +kernel
theorem dX3_oneRideFurther_2 : decode cX3_oneRideFurther 2 = .ok (.iconst 0, 1) := by decide +kernel
theorem dX3_oneRideFurther_3 : decode cX3_oneRideFurther 3 = .ok (.istore_n 3, 1) := by decide +kernel
theorem dX3_oneRideFurther_4 : decode cX3_oneRideFurther 4 = .ok (.iload_n 3, 1) := by decide +kernel
theorem dX3_oneRideFurther_5 : decode cX3_oneRideFurther 5 = .ok (.aload_n 0, 1) := by decide +kernel
theorem dX3_oneRideFurther_6 : decode cX3_oneRideFurther 6 = .ok (.invokevirtual 15, 3) := by decide +kernel
theorem dX3_oneRideFurther_9 : decode cX3_oneRideFurther 9 = .ok (.if_icmp .ge 62, 3) := by decide +kernel
theorem dX3_oneRideFurther_12 : decode cX3_oneRideFurther 12 = .ok (.iconst 0, 1) := by decide +kernel
theorem dX3_oneRideFurther_13 : decode cX3_oneRideFurther 13 = .ok (.istore 4, 2) := by decide +kernel
theorem dX3_oneRideFurther_15 : decode cX3_oneRideFurther 15 = .ok (.iload 4, 2) := by decide +kernel
theorem dX3_oneRideFurther_17 : decode cX3_oneRideFurther 17 = .ok (.aload_n 0, 1) := by decide +kernel
theorem dX3_oneRideFurther_18 : decode cX3_oneRideFurther 18 = .ok (.invokevirtual 15, 3) := by decide +kernel
theorem dX3_oneRideFurther_21 : decode cX3_oneRideFurther 21 = .ok (.if_icmp .ge 44, 3) := by decide +kernel
theorem dX3_oneRideFurther_24 : decode cX3_oneRideFurther 24 = .ok (.iload_n 1, 1) := by decide +kernel
theorem dX3_oneRideFurther_25 : decode cX3_oneRideFurther 25 = .ok (.iload_n 3, 1) := by decide +kernel
theorem dX3_oneRideFurther_26 : decode cX3_oneRideFurther 26 = .ok (.iushr, 1) := by decide +kernel
theorem dX3_oneRideFurther_27 : decode cX3_oneRideFurther 27 = .ok (.iconst 1, 1) := by decide +kernel
theorem dX3_oneRideFurther_28 : decode cX3_oneRideFurther 28 = .ok (.iand, 1) := by decide +kernel
theorem dX3_oneRideFurther_29 : decode cX3_oneRideFurther 29 = .ok (.iconst 1, 1) := by decide +kernel
theorem dX3_oneRideFurther_30 : decode cX3_oneRideFurther 30 = .ok (.if_icmp .ne 29, 3) := by decide +kernel
theorem dX3_oneRideFurther_33 : decode cX3_oneRideFurther 33 = .ok (.iload_n 1, 1) := by decide +kernel
theorem dX3_oneRideFurther_34 : decode cX3_oneRideFurther 34 = .ok (.iload 4, 2) := by decide +kernel
theorem dX3_oneRideFurther_36 : decode cX3_oneRideFurther 36 = .ok (.iushr, 1) := by decide +kernel
theorem dX3_oneRideFurther_37 : decode cX3_oneRideFurther 37 = .ok (.iconst 1, 1) := by decide +kernel
theorem dX3_oneRideFurther_38 : decode cX3_oneRideFurther 38 = .ok (.iand, 1) := by decide +kernel
theorem dX3_oneRideFurther_39 : decode cX3_oneRideFurther 39 = .ok (.ifCond .ne 20, 3) := by decide +kernel
theorem dX3_oneRideFurther_42 : decode cX3_oneRideFurther 42 = .ok (.aload_n 0, 1) := by decide +kernel
theorem dX3_oneRideFurther_43 : decode cX3_oneRideFurther 43 = .ok (.iload_n 3, 1) := by decide +kernel
theorem dX3_oneRideFurther_44 : decode cX3_oneRideFurther 44 = .ok (.iload 4, 2) := by decide +kernel
theorem dX3_oneRideFurther_46 : decode cX3_oneRideFurther 46 = .ok (.invokestatic 33, 3) := by decide +kernel
theorem dX3_oneRideFurther_49 : decode cX3_oneRideFurther 49 = .ok (.ifCond .eq 10, 3) := by decide +kernel
theorem dX3_oneRideFurther_52 : decode cX3_oneRideFurther 52 = .ok (.iload_n 2, 1) := by decide +kernel
theorem dX3_oneRideFurther_53 : decode cX3_oneRideFurther 53 = .ok (.iconst 1, 1) := by decide +kernel
theorem dX3_oneRideFurther_54 : decode cX3_oneRideFurther 54 = .ok (.iload 4, 2) := by decide +kernel
theorem dX3_oneRideFurther_56 : decode cX3_oneRideFurther 56 = .ok (.ishl, 1) := by decide +kernel
theorem dX3_oneRideFurther_57 : decode cX3_oneRideFurther 57 = .ok (.ior, 1) := by decide +kernel
theorem dX3_oneRideFurther_58 : decode cX3_oneRideFurther 58 = .ok (.istore_n 2, 1) := by decide +kernel
theorem dX3_oneRideFurther_59 : decode cX3_oneRideFurther 59 = .ok (.iinc 4 1, 3) := by decide +kernel
theorem dX3_oneRideFurther_62 : decode cX3_oneRideFurther 62 = .ok (.goto (-47), 3) := by decide +kernel
theorem dX3_oneRideFurther_65 : decode cX3_oneRideFurther 65 = .ok (.iinc 3 1, 3) := by decide +kernel
theorem dX3_oneRideFurther_68 : decode cX3_oneRideFurther 68 = .ok (.goto (-64), 3) := by decide +kernel
theorem dX3_oneRideFurther_71 : decode cX3_oneRideFurther 71 = .ok (.iload_n 2, 1) := by decide +kernel
theorem dX3_oneRideFurther_72 : decode cX3_oneRideFurther 72 = .ok (.ireturn, 1) := by decide +kernel
set_option maxRecDepth 20000 in
theorem ggX3_anyCarLeads_X1_buttonAt : GoodIn wsX3_anyCarLeads wsX1_buttonAt := goodIn_r _ [5, 6, 7, 8, 4, 9, 10, 24, 25, 26, 27] (by decide +kernel) (by decide +kernel)
set_option maxRecDepth 20000 in
theorem gX3_anyCarLeads_X1_buttonAt : GoodIn wsX3_anyCarLeads (wsV RX3 19 RX1 yX1_buttonAt wsX1_buttonAt) := goodIn_app (goodIn_of _ (by decide +kernel)) ggX3_anyCarLeads_X1_buttonAt
set_option maxRecDepth 20000 in
theorem ggX3_anyCarLeads_X3_destination : GoodIn wsX3_anyCarLeads wsX3_destination := goodIn_r _ [14, 15, 16, 17, 4, 18, 6, 7, 8, 9, 10, 19, 20, 21, 22, 23, 1, 2, 3, 5, 24, 25, 26, 27] (by decide +kernel) (by decide +kernel)
set_option maxRecDepth 20000 in
theorem gX3_anyCarLeads_X3_destination : GoodIn wsX3_anyCarLeads (va_wsS RX3 23 yX3_destination wsX3_destination) := goodIn_app (goodIn_of _ (by decide +kernel)) ggX3_anyCarLeads_X3_destination
theorem dX3_anyCarLeads_0 : decode cX3_anyCarLeads 0 = .ok (.iconst 0, 1) := by decide +kernel
theorem dX3_anyCarLeads_1 : decode cX3_anyCarLeads 1 = .ok (.istore_n 3, 1) := by decide +kernel
theorem dX3_anyCarLeads_2 : decode cX3_anyCarLeads 2 = .ok (.iload_n 3, 1) := by decide +kernel
theorem dX3_anyCarLeads_3 : decode cX3_anyCarLeads 3 = .ok (.iconst 3, 1) := by decide +kernel
theorem dX3_anyCarLeads_4 : decode cX3_anyCarLeads 4 = .ok (.if_icmp .ge 27, 3) := by decide +kernel
theorem dX3_anyCarLeads_7 : decode cX3_anyCarLeads 7 = .ok (.aload_n 0, 1) := by decide +kernel
theorem dX3_anyCarLeads_8 : decode cX3_anyCarLeads 8 = .ok (.iload_n 3, 1) := by decide +kernel
theorem dX3_anyCarLeads_9 : decode cX3_anyCarLeads 9 = .ok (.iload_n 1, 1) := by decide +kernel
theorem dX3_anyCarLeads_10 : decode cX3_anyCarLeads 10 = .ok (.aload_n 0, 1) := by decide +kernel
theorem dX3_anyCarLeads_11 : decode cX3_anyCarLeads 11 = .ok (.iload_n 3, 1) := by decide +kernel
theorem dX3_anyCarLeads_12 : decode cX3_anyCarLeads 12 = .ok (.iload_n 2, 1) := by decide +kernel
theorem dX3_anyCarLeads_13 : decode cX3_anyCarLeads 13 = .ok (.invokevirtual 19, 3) := by decide +kernel
theorem dX3_anyCarLeads_16 : decode cX3_anyCarLeads 16 = .ok (.invokestatic 23, 3) := by decide +kernel
theorem dX3_anyCarLeads_19 : decode cX3_anyCarLeads 19 = .ok (.iload_n 2, 1) := by decide +kernel
theorem dX3_anyCarLeads_20 : decode cX3_anyCarLeads 20 = .ok (.if_icmp .ne 5, 3) := by decide +kernel
theorem dX3_anyCarLeads_23 : decode cX3_anyCarLeads 23 = .ok (.iconst 1, 1) := by decide +kernel
theorem dX3_anyCarLeads_24 : decode cX3_anyCarLeads 24 = .ok (.ireturn, 1) := by decide +kernel
theorem dX3_anyCarLeads_25 : decode cX3_anyCarLeads 25 = .ok (.iinc 3 1, 3) := by decide +kernel
theorem dX3_anyCarLeads_28 : decode cX3_anyCarLeads 28 = .ok (.goto (-26), 3) := by decide +kernel
theorem dX3_anyCarLeads_31 : decode cX3_anyCarLeads 31 = .ok (.iconst 0, 1) := by decide +kernel
theorem dX3_anyCarLeads_32 : decode cX3_anyCarLeads 32 = .ok (.ireturn, 1) := by decide +kernel
theorem dX4_above_0 : decode cX4_above 0 = .ok (.lconst 1, 1) := by decide +kernel
theorem dX4_above_1 : decode cX4_above 1 = .ok (.lstore_n 1, 1) := by decide +kernel
theorem dX4_above_2 : decode cX4_above 2 = .ok (.iconst 0, 1) := by decide +kernel
theorem dX4_above_3 : decode cX4_above 3 = .ok (.istore_n 3, 1) := by decide +kernel
theorem dX4_above_4 : decode cX4_above 4 = .ok (.iload_n 3, 1) := by decide +kernel
theorem dX4_above_5 : decode cX4_above 5 = .ok (.iload_n 0, 1) := by decide +kernel
theorem dX4_above_6 : decode cX4_above 6 = .ok (.if_icmp .ge 20, 3) := by decide +kernel
theorem dX4_above_9 : decode cX4_above 9 = .ok (.iload_n 3, 1) := by decide +kernel
theorem dX4_above_10 : decode cX4_above 10 = .ok (.iconst 3, 1) := by decide +kernel
theorem dX4_above_11 : decode cX4_above 11 = .ok (.if_icmp .ge 15, 3) := by decide +kernel
theorem dX4_above_14 : decode cX4_above 14 = .ok (.lload_n 1, 1) := by decide +kernel
theorem dX4_above_15 : decode cX4_above 15 = .ok (.ldc2_w 11, 3) := by decide +kernel
theorem dX4_above_18 : decode cX4_above 18 = .ok (.lmul, 1) := by decide +kernel
theorem dX4_above_19 : decode cX4_above 19 = .ok (.lstore_n 1, 1) := by decide +kernel
theorem dX4_above_20 : decode cX4_above 20 = .ok (.iinc 3 1, 3) := by decide +kernel
theorem dX4_above_23 : decode cX4_above 23 = .ok (.goto (-19), 3) := by decide +kernel
theorem dX4_above_26 : decode cX4_above 26 = .ok (.lload_n 1, 1) := by decide +kernel
theorem dX4_above_27 : decode cX4_above 27 = .ok (.lreturn, 1) := by decide +kernel
set_option maxRecDepth 20000 in
theorem ggX4_firstFailure_X4_command : GoodIn wsX4_firstFailure wsX4_command := goodIn_r _ [4, 5] (by decide +kernel) (by decide +kernel)
set_option maxRecDepth 20000 in
theorem gX4_firstFailure_X4_command : GoodIn wsX4_firstFailure (va_wsS RX4 13 yX4_command wsX4_command) := goodIn_app (goodIn_of _ (by decide +kernel)) ggX4_firstFailure_X4_command
set_option maxRecDepth 20000 in
theorem ggX4_firstFailure_X4_succeeds : GoodIn wsX4_firstFailure wsX4_succeeds := goodIn_r _ [8, 9, 10, 11, 12, 13, 14, 15, 16, 17, 18, 19, 20, 21, 22, 23, 24, 25, 26, 27, 28, 29, 30, 31, 32, 33, 34, 35, 36, 37, 38, 39, 40, 41, 42, 43, 44, 45, 46, 47, 48, 49, 50, 51, 52, 53, 54, 55, 56, 57, 58, 59, 60, 61, 62, 63, 64, 65, 66, 67, 68, 69, 70, 71, 72, 73, 74, 75, 76, 77, 78, 79, 80, 81, 82, 83, 84, 85, 86, 87, 88, 89, 90, 91, 92, 93, 94, 95, 96, 97, 98, 99, 100, 101] (by decide +kernel) (by decide +kernel)
set_option maxRecDepth 20000 in
theorem gX4_firstFailure_X4_succeeds : GoodIn wsX4_firstFailure (va_wsS RX4 17 yX4_succeeds wsX4_succeeds) := goodIn_app (goodIn_of _ (by decide +kernel)) ggX4_firstFailure_X4_succeeds
theorem dX4_firstFailure_0 : decode cX4_firstFailure 0 = .ok (.iconst 0, 1) := by decide +kernel
theorem dX4_firstFailure_1 : decode cX4_firstFailure 1 = .ok (.istore 4, 2) := by decide +kernel
theorem dX4_firstFailure_3 : decode cX4_firstFailure 3 = .ok (.iload 4, 2) := by decide +kernel
theorem dX4_firstFailure_5 : decode cX4_firstFailure 5 = .ok (.iload_n 1, 1) := by decide +kernel
theorem dX4_firstFailure_6 : decode cX4_firstFailure 6 = .ok (.if_icmp .ge 29, 3) := by decide +kernel
theorem dX4_firstFailure_9 : decode cX4_firstFailure 9 = .ok (.aload_n 0, 1) := by decide +kernel
theorem dX4_firstFailure_10 : decode cX4_firstFailure 10 = .ok (.lload_n 2, 1) := by decide +kernel
theorem dX4_firstFailure_11 : decode cX4_firstFailure 11 = .ok (.iload_n 1, 1) := by decide +kernel
theorem dX4_firstFailure_12 : decode cX4_firstFailure 12 = .ok (.iconst 1, 1) := by decide +kernel
theorem dX4_firstFailure_13 : decode cX4_firstFailure 13 = .ok (.isub, 1) := by decide +kernel
theorem dX4_firstFailure_14 : decode cX4_firstFailure 14 = .ok (.iload 4, 2) := by decide +kernel
theorem dX4_firstFailure_16 : decode cX4_firstFailure 16 = .ok (.isub, 1) := by decide +kernel
theorem dX4_firstFailure_17 : decode cX4_firstFailure 17 = .ok (.invokestatic 13, 3) := by decide +kernel
theorem dX4_firstFailure_20 : decode cX4_firstFailure 20 = .ok (.invokestatic 17, 3) := by decide +kernel
theorem dX4_firstFailure_23 : decode cX4_firstFailure 23 = .ok (.ifCond .ne 6, 3) := by decide +kernel
theorem dX4_firstFailure_26 : decode cX4_firstFailure 26 = .ok (.iload 4, 2) := by decide +kernel
theorem dX4_firstFailure_28 : decode cX4_firstFailure 28 = .ok (.ireturn, 1) := by decide +kernel
theorem dX4_firstFailure_29 : decode cX4_firstFailure 29 = .ok (.iinc 4 1, 3) := by decide +kernel
theorem dX4_firstFailure_32 : decode cX4_firstFailure 32 = .ok (.goto (-29), 3) := by decide +kernel
theorem dX4_firstFailure_35 : decode cX4_firstFailure 35 = .ok (.iconst (-1), 1) := by decide +kernel
theorem dX4_firstFailure_36 : decode cX4_firstFailure 36 = .ok (.ireturn, 1) := by decide +kernel
theorem dX4_command_0 : decode cX4_command 0 = .ok (.lload_n 0, 1) := by decide +kernel
theorem dX4_command_1 : decode cX4_command 1 = .ok (.lstore_n 3, 1) := by decide +kernel
theorem dX4_command_2 : decode cX4_command 2 = .ok (.iconst 0, 1) := by decide +kernel
theorem dX4_command_3 : decode cX4_command 3 = .ok (.istore 5, 2) := by decide +kernel
theorem dX4_command_5 : decode cX4_command 5 = .ok (.iload 5, 2) := by decide +kernel
theorem dX4_command_7 : decode cX4_command 7 = .ok (.iload_n 2, 1) := by decide +kernel
theorem dX4_command_8 : decode cX4_command 8 = .ok (.if_icmp .ge 15, 3) := by decide +kernel
theorem dX4_command_11 : decode cX4_command 11 = .ok (.lload_n 3, 1) := by decide +kernel
theorem dX4_command_12 : decode cX4_command 12 = .ok (.ldc2_w 11, 3) := by decide +kernel
theorem dX4_command_15 : decode cX4_command 15 = .ok (.ldiv, 1) := by decide +kernel
theorem dX4_command_16 : decode cX4_command 16 = .ok (.lstore_n 3, 1) := by decide +kernel
theorem dX4_command_17 : decode cX4_command 17 = .ok (.iinc 5 1, 3) := by decide +kernel
theorem dX4_command_20 : decode cX4_command 20 = .ok (.goto (-15), 3) := by decide +kernel
theorem dX4_command_23 : decode cX4_command 23 = .ok (.lload_n 3, 1) := by decide +kernel
theorem dX4_command_24 : decode cX4_command 24 = .ok (.ldc2_w 11, 3) := by decide +kernel
theorem dX4_command_27 : decode cX4_command 27 = .ok (.lrem, 1) := by decide +kernel
theorem dX4_command_28 : decode cX4_command 28 = .ok (.l2i, 1) := by decide +kernel
theorem dX4_command_29 : decode cX4_command 29 = .ok (.ireturn, 1) := by decide +kernel
set_option maxRecDepth 20000 in
theorem ggX4_succeeds_X1_insertLevel : GoodIn wsX4_succeeds wsX1_insertLevel := goodIn_r _ [5, 6, 7, 8, 9, 10, 11, 12, 13, 4, 14, 15, 16, 17, 18, 19, 20, 21, 22, 23, 24, 25, 26, 27, 28, 29, 30, 31, 32, 33, 34, 35, 36, 37, 38, 39, 40, 90, 91, 92, 93] (by decide +kernel) (by decide +kernel)
set_option maxRecDepth 20000 in
theorem gX4_succeeds_X1_insertLevel : GoodIn wsX4_succeeds (wsV RX4 21 RX1 yX1_insertLevel wsX1_insertLevel) := goodIn_app (goodIn_of _ (by decide +kernel)) ggX4_succeeds_X1_insertLevel
set_option maxRecDepth 20000 in
theorem ggX4_succeeds_X1_deleteLevel : GoodIn wsX4_succeeds wsX1_deleteLevel := goodIn_r _ [44, 7, 6, 45, 46, 47, 4, 48, 15, 16, 17, 18, 19, 20, 21, 22, 23, 28, 29, 30, 31, 32, 33, 34, 35, 36, 37, 38, 39, 40, 90, 91, 92, 93] (by decide +kernel) (by decide +kernel)
set_option maxRecDepth 20000 in
theorem gX4_succeeds_X1_deleteLevel : GoodIn wsX4_succeeds (wsV RX4 27 RX1 yX1_deleteLevel wsX1_deleteLevel) := goodIn_app (goodIn_of _ (by decide +kernel)) ggX4_succeeds_X1_deleteLevel
set_option maxRecDepth 20000 in
theorem ggX4_succeeds_X1_changeKind : GoodIn wsX4_succeeds wsX1_changeKind := goodIn_r _ [52, 7, 45, 46, 47, 4, 48, 6, 8, 9, 10, 20, 21, 22, 23, 19, 28, 29, 30, 31, 15, 16, 17, 18, 32, 33, 34, 35, 36, 37, 38, 39, 40, 90, 91, 92, 93] (by decide +kernel) (by decide +kernel)
set_option maxRecDepth 20000 in
theorem gX4_succeeds_X1_changeKind : GoodIn wsX4_succeeds (wsV RX4 31 RX1 yX1_changeKind wsX1_changeKind) := goodIn_app (goodIn_of _ (by decide +kernel)) ggX4_succeeds_X1_changeKind
set_option maxRecDepth 20000 in
theorem ggX4_succeeds_X1_changeSkip : GoodIn wsX4_succeeds wsX1_changeSkip := goodIn_r _ [56, 36, 57, 9, 58, 28, 29, 30, 4, 31, 7, 6, 20, 21, 22, 23, 19, 15, 16, 17, 18, 32, 33, 34, 35, 37, 38, 39, 40, 90, 91, 92, 93] (by decide +kernel) (by decide +kernel)
set_option maxRecDepth 20000 in
theorem gX4_succeeds_X1_changeSkip : GoodIn wsX4_succeeds (wsV RX4 34 RX1 yX1_changeSkip wsX1_changeSkip) := goodIn_app (goodIn_of _ (by decide +kernel)) ggX4_succeeds_X1_changeSkip
set_option maxRecDepth 20000 in
theorem ggX4_succeeds_X1_correctSign : GoodIn wsX4_succeeds wsX1_correctSign := goodIn_r _ [62, 45, 46, 47, 4, 48, 6, 15, 16, 17, 18, 19, 20, 21, 22, 23, 90, 91, 92, 93] (by decide +kernel) (by decide +kernel)
set_option maxRecDepth 20000 in
theorem gX4_succeeds_X1_correctSign : GoodIn wsX4_succeeds (wsV RX4 38 RX1 yX1_correctSign wsX1_correctSign) := goodIn_app (goodIn_of _ (by decide +kernel)) ggX4_succeeds_X1_correctSign
set_option maxRecDepth 20000 in
theorem ggX4_succeeds_X1_correctButton : GoodIn wsX4_succeeds wsX1_correctButton := goodIn_r _ [66, 67, 9, 68, 45, 46, 47, 4, 48, 6, 15, 16, 17, 18, 19, 20, 21, 22, 23, 90, 91, 92, 93] (by decide +kernel) (by decide +kernel)
set_option maxRecDepth 20000 in
theorem gX4_succeeds_X1_correctButton : GoodIn wsX4_succeeds (wsV RX4 41 RX1 yX1_correctButton wsX1_correctButton) := goodIn_app (goodIn_of _ (by decide +kernel)) ggX4_succeeds_X1_correctButton
set_option maxRecDepth 20000 in
theorem ggX4_succeeds_X1_correctCar : GoodIn wsX4_succeeds wsX1_correctCar := goodIn_r _ [72, 6, 67, 9, 68, 15, 16, 17, 4, 18, 19, 20, 21, 22, 23, 90, 91, 92, 93] (by decide +kernel) (by decide +kernel)
set_option maxRecDepth 20000 in
theorem gX4_succeeds_X1_correctCar : GoodIn wsX4_succeeds (wsV RX4 44 RX1 yX1_correctCar wsX1_correctCar) := goodIn_app (goodIn_of _ (by decide +kernel)) ggX4_succeeds_X1_correctCar
set_option maxRecDepth 20000 in
theorem ggX4_succeeds_X6_isCar : GoodIn wsX4_succeeds wsX6_isCar := goodIn_r _ [68] (by decide +kernel) (by decide +kernel)
set_option maxRecDepth 20000 in
theorem gX4_succeeds_X6_isCar_n47 : GoodIn wsX4_succeeds (wsX6_isCar) := ggX4_succeeds_X6_isCar
set_option maxRecDepth 20000 in
theorem ggX4_succeeds_X1_hasLevel : GoodIn wsX4_succeeds wsX1_hasLevel := goodIn_r _ [48, 6, 90, 91, 92, 93] (by decide +kernel) (by decide +kernel)
set_option maxRecDepth 20000 in
theorem gX4_succeeds_X1_hasLevel : GoodIn wsX4_succeeds (wsV RX4 50 RX1 yX1_hasLevel wsX1_hasLevel) := goodIn_app (goodIn_of _ (by decide +kernel)) ggX4_succeeds_X1_hasLevel
set_option maxRecDepth 20000 in
theorem ggX4_succeeds_X1_isButtonRight : GoodIn wsX4_succeeds wsX1_isButtonRight := goodIn_r _ [77, 78, 79, 80, 4, 81, 15, 16, 17, 18, 19, 90, 91, 92, 93] (by decide +kernel) (by decide +kernel)
set_option maxRecDepth 20000 in
theorem gX4_succeeds_X1_isButtonRight : GoodIn wsX4_succeeds (wsV RX4 53 RX1 yX1_isButtonRight wsX1_isButtonRight) := goodIn_app (goodIn_of _ (by decide +kernel)) ggX4_succeeds_X1_isButtonRight
set_option maxRecDepth 20000 in
theorem ggX4_succeeds_X1_wrongInAll : GoodIn wsX4_succeeds wsX1_wrongInAll := goodIn_r _ [85, 86, 87, 88, 4, 89, 6, 78, 79, 80, 81, 15, 16, 17, 18, 19, 90, 91, 92, 93] (by decide +kernel) (by decide +kernel)
set_option maxRecDepth 20000 in
theorem gX4_succeeds_X1_wrongInAll : GoodIn wsX4_succeeds (wsV RX4 56 RX1 yX1_wrongInAll wsX1_wrongInAll) := goodIn_app (goodIn_of _ (by decide +kernel)) ggX4_succeeds_X1_wrongInAll
theorem dX4_succeeds_0 : decode cX4_succeeds 0 = .ok (.iload_n 1, 1) := by decide +kernel
theorem dX4_succeeds_1 : decode cX4_succeeds 1 = .ok (.bipush 100, 2) := by decide +kernel
theorem dX4_succeeds_3 : decode cX4_succeeds 3 = .ok (.idiv, 1) := by decide +kernel
theorem dX4_succeeds_4 : decode cX4_succeeds 4 = .ok (.bipush 10, 2) := by decide +kernel
theorem dX4_succeeds_6 : decode cX4_succeeds 6 = .ok (.irem, 1) := by decide +kernel
theorem dX4_succeeds_7 : decode cX4_succeeds 7 = .ok (.istore_n 2, 1) := by decide +kernel
theorem dX4_succeeds_8 : decode cX4_succeeds 8 = .ok (.iload_n 1, 1) := by decide +kernel
theorem dX4_succeeds_9 : decode cX4_succeeds 9 = .ok (.bipush 10, 2) := by decide +kernel
theorem dX4_succeeds_11 : decode cX4_succeeds 11 = .ok (.idiv, 1) := by decide +kernel
theorem dX4_succeeds_12 : decode cX4_succeeds 12 = .ok (.bipush 100, 2) := by decide +kernel
theorem dX4_succeeds_14 : decode cX4_succeeds 14 = .ok (.irem, 1) := by decide +kernel
theorem dX4_succeeds_15 : decode cX4_succeeds 15 = .ok (.istore_n 3, 1) := by decide +kernel
theorem dX4_succeeds_16 : decode cX4_succeeds 16 = .ok (.iload_n 1, 1) := by decide +kernel
theorem dX4_succeeds_17 : decode cX4_succeeds 17 = .ok (.bipush 10, 2) := by decide +kernel
theorem dX4_succeeds_19 : decode cX4_succeeds 19 = .ok (.irem, 1) := by decide +kernel
theorem dX4_succeeds_20 : decode cX4_succeeds 20 = .ok (.istore 4, 2) := by decide +kernel
theorem dX4_succeeds_22 : decode cX4_succeeds 22 = .ok (.iload_n 1, 1) := by decide +kernel
theorem dX4_succeeds_23 : decode cX4_succeeds 23 = .ok (.bipush 100, 2) := by decide +kernel
theorem dX4_succeeds_25 : decode cX4_succeeds 25 = .ok (.irem, 1) := by decide +kernel
theorem dX4_succeeds_26 : decode cX4_succeeds 26 = .ok (.istore 5, 2) := by decide +kernel
theorem dX4_succeeds_28 : decode cX4_succeeds 28 = .ok (.iload_n 1, 1) := by decide +kernel
theorem dX4_succeeds_29 : decode cX4_succeeds 29 = .ok (.sipush 1000, 3) := by decide +kernel
theorem dX4_succeeds_32 : decode cX4_succeeds 32 = .ok (.idiv, 1) := by decide +kernel
theorem dX4_succeeds_33 : decode cX4_succeeds 33 = .ok (.tableswitch 214 1 9 #[51, 59, 78, 86, 117, 136, 144, 163, 195], 51) := by decide +kernel
theorem dX4_succeeds_84 : decode cX4_succeeds 84 = .ok (.aload_n 0, 1) := by decide +kernel
theorem dX4_succeeds_85 : decode cX4_succeeds 85 = .ok (.iload_n 3, 1) := by decide +kernel
theorem dX4_succeeds_86 : decode cX4_succeeds 86 = .ok (.iload 4, 2) := by decide +kernel
theorem dX4_succeeds_88 : decode cX4_succeeds 88 = .ok (.invokevirtual 21, 3) := by decide +kernel
theorem dX4_succeeds_91 : decode cX4_succeeds 91 = .ok (.ireturn, 1) := by decide +kernel
theorem dX4_succeeds_92 : decode cX4_succeeds 92 = .ok (.iload 4, 2) := by decide +kernel
theorem dX4_succeeds_94 : decode cX4_succeeds 94 = .ok (.ifCond .ne 15, 3) := by decide +kernel
theorem dX4_succeeds_97 : decode cX4_succeeds 97 = .ok (.aload_n 0, 1) := by decide +kernel
theorem dX4_succeeds_98 : decode cX4_succeeds 98 = .ok (.iload_n 3, 1) := by decide +kernel
theorem dX4_succeeds_99 : decode cX4_succeeds 99 = .ok (.invokevirtual 27, 3) := by decide +kernel
theorem dX4_succeeds_102 : decode cX4_succeeds 102 = .ok (.ifCond .eq 7, 3) := by decide +kernel
theorem dX4_succeeds_105 : decode cX4_succeeds 105 = .ok (.iconst 1, 1) := by decide +kernel
theorem dX4_succeeds_106 : decode cX4_succeeds 106 = .ok (.goto 4, 3) := by decide +kernel
theorem dX4_succeeds_109 : decode cX4_succeeds 109 = .ok (.iconst 0, 1) := by decide +kernel
theorem dX4_succeeds_110 : decode cX4_succeeds 110 = .ok (.ireturn, 1) := by decide +kernel
theorem dX4_succeeds_111 : decode cX4_succeeds 111 = .ok (.aload_n 0, 1) := by decide +kernel
theorem dX4_succeeds_112 : decode cX4_succeeds 112 = .ok (.iload_n 3, 1) := by decide +kernel
theorem dX4_succeeds_113 : decode cX4_succeeds 113 = .ok (.iload 4, 2) := by decide +kernel
theorem dX4_succeeds_115 : decode cX4_succeeds 115 = .ok (.invokevirtual 31, 3) := by decide +kernel
theorem dX4_succeeds_118 : decode cX4_succeeds 118 = .ok (.ireturn, 1) := by decide +kernel
theorem dX4_succeeds_119 : decode cX4_succeeds 119 = .ok (.iload 4, 2) := by decide +kernel
theorem dX4_succeeds_121 : decode cX4_succeeds 121 = .ok (.iconst 1, 1) := by decide +kernel
theorem dX4_succeeds_122 : decode cX4_succeeds 122 = .ok (.if_icmp .gt 26, 3) := by decide +kernel
theorem dX4_succeeds_125 : decode cX4_succeeds 125 = .ok (.aload_n 0, 1) := by decide +kernel
theorem dX4_succeeds_126 : decode cX4_succeeds 126 = .ok (.iload_n 3, 1) := by decide +kernel
theorem dX4_succeeds_127 : decode cX4_succeeds 127 = .ok (.iload 4, 2) := by decide +kernel
theorem dX4_succeeds_129 : decode cX4_succeeds 129 = .ok (.iconst 1, 1) := by decide +kernel
theorem dX4_succeeds_130 : decode cX4_succeeds 130 = .ok (.if_icmp .ne 7, 3) := by decide +kernel
theorem dX4_succeeds_133 : decode cX4_succeeds 133 = .ok (.iconst 1, 1) := by decide +kernel
theorem dX4_succeeds_134 : decode cX4_succeeds 134 = .ok (.goto 4, 3) := by decide +kernel
theorem dX4_succeeds_137 : decode cX4_succeeds 137 = .ok (.iconst 0, 1) := by decide +kernel
theorem dX4_succeeds_138 : decode cX4_succeeds 138 = .ok (.invokevirtual 34, 3) := by decide +kernel
theorem dX4_succeeds_141 : decode cX4_succeeds 141 = .ok (.ifCond .eq 7, 3) := by decide +kernel
theorem dX4_succeeds_144 : decode cX4_succeeds 144 = .ok (.iconst 1, 1) := by decide +kernel
theorem dX4_succeeds_145 : decode cX4_succeeds 145 = .ok (.goto 4, 3) := by decide +kernel
theorem dX4_succeeds_148 : decode cX4_succeeds 148 = .ok (.iconst 0, 1) := by decide +kernel
theorem dX4_succeeds_149 : decode cX4_succeeds 149 = .ok (.ireturn, 1) := by decide +kernel
theorem dX4_succeeds_150 : decode cX4_succeeds 150 = .ok (.iload 4, 2) := by decide +kernel
theorem dX4_succeeds_152 : decode cX4_succeeds 152 = .ok (.ifCond .ne 15, 3) := by decide +kernel
theorem dX4_succeeds_155 : decode cX4_succeeds 155 = .ok (.aload_n 0, 1) := by decide +kernel
theorem dX4_succeeds_156 : decode cX4_succeeds 156 = .ok (.iload_n 3, 1) := by decide +kernel
theorem dX4_succeeds_157 : decode cX4_succeeds 157 = .ok (.invokevirtual 38, 3) := by decide +kernel
theorem dX4_succeeds_160 : decode cX4_succeeds 160 = .ok (.ifCond .eq 7, 3) := by decide +kernel
theorem dX4_succeeds_163 : decode cX4_succeeds 163 = .ok (.iconst 1, 1) := by decide +kernel
theorem dX4_succeeds_164 : decode cX4_succeeds 164 = .ok (.goto 4, 3) := by decide +kernel
theorem dX4_succeeds_167 : decode cX4_succeeds 167 = .ok (.iconst 0, 1) := by decide +kernel
theorem dX4_succeeds_168 : decode cX4_succeeds 168 = .ok (.ireturn, 1) := by decide +kernel
theorem dX4_succeeds_169 : decode cX4_succeeds 169 = .ok (.aload_n 0, 1) := by decide +kernel
theorem dX4_succeeds_170 : decode cX4_succeeds 170 = .ok (.iload_n 2, 1) := by decide +kernel
theorem dX4_succeeds_171 : decode cX4_succeeds 171 = .ok (.iload 5, 2) := by decide +kernel
theorem dX4_succeeds_173 : decode cX4_succeeds 173 = .ok (.invokevirtual 41, 3) := by decide +kernel
theorem dX4_succeeds_176 : decode cX4_succeeds 176 = .ok (.ireturn, 1) := by decide +kernel
theorem dX4_succeeds_177 : decode cX4_succeeds 177 = .ok (.iload 5, 2) := by decide +kernel
theorem dX4_succeeds_179 : decode cX4_succeeds 179 = .ok (.ifCond .ne 15, 3) := by decide +kernel
theorem dX4_succeeds_182 : decode cX4_succeeds 182 = .ok (.aload_n 0, 1) := by decide +kernel
theorem dX4_succeeds_183 : decode cX4_succeeds 183 = .ok (.iload_n 2, 1) := by decide +kernel
theorem dX4_succeeds_184 : decode cX4_succeeds 184 = .ok (.invokevirtual 44, 3) := by decide +kernel
theorem dX4_succeeds_187 : decode cX4_succeeds 187 = .ok (.ifCond .eq 7, 3) := by decide +kernel
theorem dX4_succeeds_190 : decode cX4_succeeds 190 = .ok (.iconst 1, 1) := by decide +kernel
theorem dX4_succeeds_191 : decode cX4_succeeds 191 = .ok (.goto 4, 3) := by decide +kernel
theorem dX4_succeeds_194 : decode cX4_succeeds 194 = .ok (.iconst 0, 1) := by decide +kernel
theorem dX4_succeeds_195 : decode cX4_succeeds 195 = .ok (.ireturn, 1) := by decide +kernel
theorem dX4_succeeds_196 : decode cX4_succeeds 196 = .ok (.iload_n 2, 1) := by decide +kernel
theorem dX4_succeeds_197 : decode cX4_succeeds 197 = .ok (.invokestatic 47, 3) := by decide +kernel
theorem dX4_succeeds_200 : decode cX4_succeeds 200 = .ok (.ifCond .eq 26, 3) := by decide +kernel
theorem dX4_succeeds_203 : decode cX4_succeeds 203 = .ok (.aload_n 0, 1) := by decide +kernel
theorem dX4_succeeds_204 : decode cX4_succeeds 204 = .ok (.iload 5, 2) := by decide +kernel
theorem dX4_succeeds_206 : decode cX4_succeeds 206 = .ok (.invokevirtual 50, 3) := by decide +kernel
theorem dX4_succeeds_209 : decode cX4_succeeds 209 = .ok (.ifCond .eq 17, 3) := by decide +kernel
theorem dX4_succeeds_212 : decode cX4_succeeds 212 = .ok (.aload_n 0, 1) := by decide +kernel
theorem dX4_succeeds_213 : decode cX4_succeeds 213 = .ok (.iload_n 2, 1) := by decide +kernel
theorem dX4_succeeds_214 : decode cX4_succeeds 214 = .ok (.iload 5, 2) := by decide +kernel
theorem dX4_succeeds_216 : decode cX4_succeeds 216 = .ok (.invokevirtual 53, 3) := by decide +kernel
theorem dX4_succeeds_219 : decode cX4_succeeds 219 = .ok (.ifCond .eq 7, 3) := by decide +kernel
theorem dX4_succeeds_222 : decode cX4_succeeds 222 = .ok (.iconst 1, 1) := by decide +kernel
theorem dX4_succeeds_223 : decode cX4_succeeds 223 = .ok (.goto 4, 3) := by decide +kernel
theorem dX4_succeeds_226 : decode cX4_succeeds 226 = .ok (.iconst 0, 1) := by decide +kernel
theorem dX4_succeeds_227 : decode cX4_succeeds 227 = .ok (.ireturn, 1) := by decide +kernel
theorem dX4_succeeds_228 : decode cX4_succeeds 228 = .ok (.iload_n 2, 1) := by decide +kernel
theorem dX4_succeeds_229 : decode cX4_succeeds 229 = .ok (.ifCond .ne 16, 3) := by decide +kernel
theorem dX4_succeeds_232 : decode cX4_succeeds 232 = .ok (.aload_n 0, 1) := by decide +kernel
theorem dX4_succeeds_233 : decode cX4_succeeds 233 = .ok (.invokevirtual 56, 3) := by decide +kernel
theorem dX4_succeeds_236 : decode cX4_succeeds 236 = .ok (.iload 5, 2) := by decide +kernel
theorem dX4_succeeds_238 : decode cX4_succeeds 238 = .ok (.if_icmp .gt 7, 3) := by decide +kernel
theorem dX4_succeeds_241 : decode cX4_succeeds 241 = .ok (.iconst 1, 1) := by decide +kernel
theorem dX4_succeeds_242 : decode cX4_succeeds 242 = .ok (.goto 4, 3) := by decide +kernel
theorem dX4_succeeds_245 : decode cX4_succeeds 245 = .ok (.iconst 0, 1) := by decide +kernel
theorem dX4_succeeds_246 : decode cX4_succeeds 246 = .ok (.ireturn, 1) := by decide +kernel
theorem dX4_succeeds_247 : decode cX4_succeeds 247 = .ok (.iconst 0, 1) := by decide +kernel
theorem dX4_succeeds_248 : decode cX4_succeeds 248 = .ok (.ireturn, 1) := by decide +kernel
set_option maxRecDepth 20000 in
theorem ggX5_run_X5_turn : GoodIn wsX5_run wsX5_turn := goodIn_r _ [6, 7, 8, 9, 10, 11, 12, 13, 14, 15, 16, 17, 18, 19, 20, 21, 22, 23, 24, 25, 26, 27, 28, 29, 30, 31, 32, 33, 34, 35, 36, 37, 38, 39, 40, 41, 42, 43, 44, 45, 46, 47, 48, 49, 50, 51, 52, 53, 54, 55, 56, 57, 58, 59, 60, 61, 62, 63, 64, 65, 66, 67, 68, 69, 70, 71, 72, 73, 74, 75, 76, 77, 78, 79, 80, 81, 82, 83, 84, 85, 86, 87, 88, 89, 90, 91, 92, 93, 94, 95, 96, 97, 98, 99, 100, 101, 102] (by decide +kernel) (by decide +kernel)
set_option maxRecDepth 20000 in
theorem gX5_run_X5_turn : GoodIn wsX5_run (va_wsS RX5 11 yX5_turn wsX5_turn) := goodIn_app (goodIn_of _ (by decide +kernel)) ggX5_run_X5_turn
theorem dX5_run_0 : decode cX5_run 0 = .ok (.lload_n 1, 1) := by decide +kernel
theorem dX5_run_1 : decode cX5_run 1 = .ok (.lstore 4, 2) := by decide +kernel
theorem dX5_run_3 : decode cX5_run 3 = .ok (.iconst 0, 1) := by decide +kernel
theorem dX5_run_4 : decode cX5_run 4 = .ok (.istore 6, 2) := by decide +kernel
theorem dX5_run_6 : decode cX5_run 6 = .ok (.iload 6, 2) := by decide +kernel
theorem dX5_run_8 : decode cX5_run 8 = .ok (.iload_n 3, 1) := by decide +kernel
theorem dX5_run_9 : decode cX5_run 9 = .ok (.if_icmp .ge 31, 3) := by decide +kernel
theorem dX5_run_12 : decode cX5_run 12 = .ok (.lload 4, 2) := by decide +kernel
theorem dX5_run_14 : decode cX5_run 14 = .ok (.ldc2_w 7, 3) := by decide +kernel
theorem dX5_run_17 : decode cX5_run 17 = .ok (.lmul, 1) := by decide +kernel
theorem dX5_run_18 : decode cX5_run 18 = .ok (.ldc2_w 9, 3) := by decide +kernel
theorem dX5_run_21 : decode cX5_run 21 = .ok (.ladd, 1) := by decide +kernel
theorem dX5_run_22 : decode cX5_run 22 = .ok (.lstore 4, 2) := by decide +kernel
theorem dX5_run_24 : decode cX5_run 24 = .ok (.aload_n 0, 1) := by decide +kernel
theorem dX5_run_25 : decode cX5_run 25 = .ok (.lload 4, 2) := by decide +kernel
theorem dX5_run_27 : decode cX5_run 27 = .ok (.bipush 33, 2) := by decide +kernel
theorem dX5_run_29 : decode cX5_run 29 = .ok (.lushr, 1) := by decide +kernel
theorem dX5_run_30 : decode cX5_run 30 = .ok (.l2i, 1) := by decide +kernel
theorem dX5_run_31 : decode cX5_run 31 = .ok (.invokestatic 11, 3) := by decide +kernel
theorem dX5_run_34 : decode cX5_run 34 = .ok (.iinc 6 1, 3) := by decide +kernel
theorem dX5_run_37 : decode cX5_run 37 = .ok (.goto (-31), 3) := by decide +kernel
theorem dX5_run_40 : decode cX5_run 40 = .ok (.return_, 1) := by decide +kernel
set_option maxRecDepth 20000 in
theorem ggX5_turn_X1_insertLevel : GoodIn wsX5_turn wsX1_insertLevel := goodIn_r _ [5, 6, 7, 8, 9, 10, 11, 12, 13, 4, 14, 15, 16, 17, 18, 19, 20, 21, 22, 23, 24, 25, 26, 27, 28, 29, 30, 31, 32, 33, 34, 35, 36, 37, 38, 39, 40, 93, 94, 95, 96] (by decide +kernel) (by decide +kernel)
set_option maxRecDepth 20000 in
theorem gX5_turn_X1_insertLevel : GoodIn wsX5_turn (wsV RX5 17 RX1 yX1_insertLevel wsX1_insertLevel) := goodIn_app (goodIn_of _ (by decide +kernel)) ggX5_turn_X1_insertLevel
set_option maxRecDepth 20000 in
theorem ggX5_turn_X1_deleteLevel : GoodIn wsX5_turn wsX1_deleteLevel := goodIn_r _ [44, 7, 6, 45, 46, 47, 4, 48, 15, 16, 17, 18, 19, 20, 21, 22, 23, 28, 29, 30, 31, 32, 33, 34, 35, 36, 37, 38, 39, 40, 93, 94, 95, 96] (by decide +kernel) (by decide +kernel)
set_option maxRecDepth 20000 in
theorem gX5_turn_X1_deleteLevel : GoodIn wsX5_turn (wsV RX5 23 RX1 yX1_deleteLevel wsX1_deleteLevel) := goodIn_app (goodIn_of _ (by decide +kernel)) ggX5_turn_X1_deleteLevel
set_option maxRecDepth 20000 in
theorem ggX5_turn_X1_changeKind : GoodIn wsX5_turn wsX1_changeKind := goodIn_r _ [52, 7, 45, 46, 47, 4, 48, 6, 8, 9, 10, 20, 21, 22, 23, 19, 28, 29, 30, 31, 15, 16, 17, 18, 32, 33, 34, 35, 36, 37, 38, 39, 40, 93, 94, 95, 96] (by decide +kernel) (by decide +kernel)
set_option maxRecDepth 20000 in
theorem gX5_turn_X1_changeKind : GoodIn wsX5_turn (wsV RX5 27 RX1 yX1_changeKind wsX1_changeKind) := goodIn_app (goodIn_of _ (by decide +kernel)) ggX5_turn_X1_changeKind
set_option maxRecDepth 20000 in
theorem ggX5_turn_X1_moveGround : GoodIn wsX5_turn wsX1_moveGround := goodIn_r _ [56, 7, 45, 46, 47, 4, 48, 6, 57, 58, 59, 60, 15, 16, 17, 18, 19, 28, 29, 30, 31, 20, 21, 22, 23, 32, 33, 34, 35, 36, 37, 38, 39, 40, 93, 94, 95, 96] (by decide +kernel) (by decide +kernel)
set_option maxRecDepth 20000 in
theorem gX5_turn_X1_moveGround : GoodIn wsX5_turn (wsV RX5 30 RX1 yX1_moveGround wsX1_moveGround) := goodIn_app (goodIn_of _ (by decide +kernel)) ggX5_turn_X1_moveGround
set_option maxRecDepth 20000 in
theorem ggX5_turn_X1_changeSkip : GoodIn wsX5_turn wsX1_changeSkip := goodIn_r _ [64, 36, 65, 9, 66, 28, 29, 30, 4, 31, 7, 6, 20, 21, 22, 23, 19, 15, 16, 17, 18, 32, 33, 34, 35, 37, 38, 39, 40, 93, 94, 95, 96] (by decide +kernel) (by decide +kernel)
set_option maxRecDepth 20000 in
theorem gX5_turn_X1_changeSkip : GoodIn wsX5_turn (wsV RX5 34 RX1 yX1_changeSkip wsX1_changeSkip) := goodIn_app (goodIn_of _ (by decide +kernel)) ggX5_turn_X1_changeSkip
set_option maxRecDepth 20000 in
theorem ggX5_turn_X1_changeService : GoodIn wsX5_turn wsX1_changeService := goodIn_r _ [70, 71, 9, 72, 45, 46, 47, 4, 48, 6, 20, 21, 22, 23, 19, 93, 94, 95, 96] (by decide +kernel) (by decide +kernel)
set_option maxRecDepth 20000 in
theorem gX5_turn_X1_changeService : GoodIn wsX5_turn (wsV RX5 38 RX1 yX1_changeService wsX1_changeService) := goodIn_app (goodIn_of _ (by decide +kernel)) ggX5_turn_X1_changeService
set_option maxRecDepth 20000 in
theorem ggX5_turn_X1_correctSign : GoodIn wsX5_turn wsX1_correctSign := goodIn_r _ [76, 45, 46, 47, 4, 48, 6, 15, 16, 17, 18, 19, 20, 21, 22, 23, 93, 94, 95, 96] (by decide +kernel) (by decide +kernel)
set_option maxRecDepth 20000 in
theorem gX5_turn_X1_correctSign : GoodIn wsX5_turn (wsV RX5 42 RX1 yX1_correctSign wsX1_correctSign) := goodIn_app (goodIn_of _ (by decide +kernel)) ggX5_turn_X1_correctSign
set_option maxRecDepth 20000 in
theorem ggX5_turn_X1_correctCar : GoodIn wsX5_turn wsX1_correctCar := goodIn_r _ [80, 6, 71, 9, 72, 15, 16, 17, 4, 18, 19, 20, 21, 22, 23, 93, 94, 95, 96] (by decide +kernel) (by decide +kernel)
set_option maxRecDepth 20000 in
theorem gX5_turn_X1_correctCar : GoodIn wsX5_turn (wsV RX5 45 RX1 yX1_correctCar wsX1_correctCar) := goodIn_app (goodIn_of _ (by decide +kernel)) ggX5_turn_X1_correctCar
set_option maxRecDepth 20000 in
theorem ggX5_turn_X1_swapButtons : GoodIn wsX5_turn wsX1_swapButtons := goodIn_r _ [84, 71, 9, 72, 45, 46, 47, 4, 48, 6, 85, 86, 87, 88, 15, 16, 17, 18, 19, 20, 21, 22, 23, 93, 94, 95, 96] (by decide +kernel) (by decide +kernel)
set_option maxRecDepth 20000 in
theorem gX5_turn_X1_swapButtons : GoodIn wsX5_turn (wsV RX5 48 RX1 yX1_swapButtons wsX1_swapButtons) := goodIn_app (goodIn_of _ (by decide +kernel)) ggX5_turn_X1_swapButtons
set_option maxRecDepth 20000 in
theorem ggX5_turn_X1_correctButton : GoodIn wsX5_turn wsX1_correctButton := goodIn_r _ [92, 71, 9, 72, 45, 46, 47, 4, 48, 6, 15, 16, 17, 18, 19, 20, 21, 22, 23, 93, 94, 95, 96] (by decide +kernel) (by decide +kernel)
set_option maxRecDepth 20000 in
theorem gX5_turn_X1_correctButton : GoodIn wsX5_turn (wsV RX5 52 RX1 yX1_correctButton wsX1_correctButton) := goodIn_app (goodIn_of _ (by decide +kernel)) ggX5_turn_X1_correctButton
theorem dX5_turn_0 : decode cX5_turn 0 = .ok (.iload_n 1, 1) := by decide +kernel
theorem dX5_turn_1 : decode cX5_turn 1 = .ok (.bipush 16, 2) := by decide +kernel
theorem dX5_turn_3 : decode cX5_turn 3 = .ok (.idiv, 1) := by decide +kernel
theorem dX5_turn_4 : decode cX5_turn 4 = .ok (.bipush 16, 2) := by decide +kernel
theorem dX5_turn_6 : decode cX5_turn 6 = .ok (.irem, 1) := by decide +kernel
theorem dX5_turn_7 : decode cX5_turn 7 = .ok (.istore_n 2, 1) := by decide +kernel
theorem dX5_turn_8 : decode cX5_turn 8 = .ok (.iload_n 1, 1) := by decide +kernel
theorem dX5_turn_9 : decode cX5_turn 9 = .ok (.sipush 256, 3) := by decide +kernel
theorem dX5_turn_12 : decode cX5_turn 12 = .ok (.idiv, 1) := by decide +kernel
theorem dX5_turn_13 : decode cX5_turn 13 = .ok (.iconst 4, 1) := by decide +kernel
theorem dX5_turn_14 : decode cX5_turn 14 = .ok (.irem, 1) := by decide +kernel
theorem dX5_turn_15 : decode cX5_turn 15 = .ok (.istore_n 3, 1) := by decide +kernel
theorem dX5_turn_16 : decode cX5_turn 16 = .ok (.iload_n 1, 1) := by decide +kernel
theorem dX5_turn_17 : decode cX5_turn 17 = .ok (.sipush 256, 3) := by decide +kernel
theorem dX5_turn_20 : decode cX5_turn 20 = .ok (.idiv, 1) := by decide +kernel
theorem dX5_turn_21 : decode cX5_turn 21 = .ok (.iconst 3, 1) := by decide +kernel
theorem dX5_turn_22 : decode cX5_turn 22 = .ok (.irem, 1) := by decide +kernel
theorem dX5_turn_23 : decode cX5_turn 23 = .ok (.istore 4, 2) := by decide +kernel
theorem dX5_turn_25 : decode cX5_turn 25 = .ok (.iload_n 1, 1) := by decide +kernel
theorem dX5_turn_26 : decode cX5_turn 26 = .ok (.bipush 16, 2) := by decide +kernel
theorem dX5_turn_28 : decode cX5_turn 28 = .ok (.irem, 1) := by decide +kernel
theorem dX5_turn_29 : decode cX5_turn 29 = .ok (.tableswitch 198 0 12 #[67, 67, 77, 86, 96, 104, 104, 136, 161, 161, 161, 170, 180], 67) := by decide +kernel
theorem dX5_turn_96 : decode cX5_turn 96 = .ok (.aload_n 0, 1) := by decide +kernel
theorem dX5_turn_97 : decode cX5_turn 97 = .ok (.iload_n 2, 1) := by decide +kernel
theorem dX5_turn_98 : decode cX5_turn 98 = .ok (.iload_n 3, 1) := by decide +kernel
theorem dX5_turn_99 : decode cX5_turn 99 = .ok (.invokevirtual 17, 3) := by decide +kernel
theorem dX5_turn_102 : decode cX5_turn 102 = .ok (.pop, 1) := by decide +kernel
theorem dX5_turn_103 : decode cX5_turn 103 = .ok (.goto 132, 3) := by decide +kernel
theorem dX5_turn_106 : decode cX5_turn 106 = .ok (.aload_n 0, 1) := by decide +kernel
theorem dX5_turn_107 : decode cX5_turn 107 = .ok (.iload_n 2, 1) := by decide +kernel
theorem dX5_turn_108 : decode cX5_turn 108 = .ok (.invokevirtual 23, 3) := by decide +kernel
theorem dX5_turn_111 : decode cX5_turn 111 = .ok (.pop, 1) := by decide +kernel
theorem dX5_turn_112 : decode cX5_turn 112 = .ok (.goto 123, 3) := by decide +kernel
theorem dX5_turn_115 : decode cX5_turn 115 = .ok (.aload_n 0, 1) := by decide +kernel
theorem dX5_turn_116 : decode cX5_turn 116 = .ok (.iload_n 2, 1) := by decide +kernel
theorem dX5_turn_117 : decode cX5_turn 117 = .ok (.iload_n 3, 1) := by decide +kernel
theorem dX5_turn_118 : decode cX5_turn 118 = .ok (.invokevirtual 27, 3) := by decide +kernel
theorem dX5_turn_121 : decode cX5_turn 121 = .ok (.pop, 1) := by decide +kernel
theorem dX5_turn_122 : decode cX5_turn 122 = .ok (.goto 113, 3) := by decide +kernel
theorem dX5_turn_125 : decode cX5_turn 125 = .ok (.aload_n 0, 1) := by decide +kernel
theorem dX5_turn_126 : decode cX5_turn 126 = .ok (.iload_n 2, 1) := by decide +kernel
theorem dX5_turn_127 : decode cX5_turn 127 = .ok (.invokevirtual 30, 3) := by decide +kernel
theorem dX5_turn_130 : decode cX5_turn 130 = .ok (.goto 105, 3) := by decide +kernel
theorem dX5_turn_133 : decode cX5_turn 133 = .ok (.aload_n 0, 1) := by decide +kernel
theorem dX5_turn_134 : decode cX5_turn 134 = .ok (.iconst 1, 1) := by decide +kernel
theorem dX5_turn_135 : decode cX5_turn 135 = .ok (.iload_n 1, 1) := by decide +kernel
theorem dX5_turn_136 : decode cX5_turn 136 = .ok (.bipush 16, 2) := by decide +kernel
theorem dX5_turn_138 : decode cX5_turn 138 = .ok (.idiv, 1) := by decide +kernel
theorem dX5_turn_139 : decode cX5_turn 139 = .ok (.bipush 30, 2) := by decide +kernel
theorem dX5_turn_141 : decode cX5_turn 141 = .ok (.irem, 1) := by decide +kernel
theorem dX5_turn_142 : decode cX5_turn 142 = .ok (.iadd, 1) := by decide +kernel
theorem dX5_turn_143 : decode cX5_turn 143 = .ok (.iload_n 1, 1) := by decide +kernel
theorem dX5_turn_144 : decode cX5_turn 144 = .ok (.sipush 512, 3) := by decide +kernel
theorem dX5_turn_147 : decode cX5_turn 147 = .ok (.idiv, 1) := by decide +kernel
theorem dX5_turn_148 : decode cX5_turn 148 = .ok (.iconst 2, 1) := by decide +kernel
theorem dX5_turn_149 : decode cX5_turn 149 = .ok (.irem, 1) := by decide +kernel
theorem dX5_turn_150 : decode cX5_turn 150 = .ok (.ifCond .ne 7, 3) := by decide +kernel
theorem dX5_turn_153 : decode cX5_turn 153 = .ok (.iconst 1, 1) := by decide +kernel
theorem dX5_turn_154 : decode cX5_turn 154 = .ok (.goto 4, 3) := by decide +kernel
theorem dX5_turn_157 : decode cX5_turn 157 = .ok (.iconst 0, 1) := by decide +kernel
theorem dX5_turn_158 : decode cX5_turn 158 = .ok (.invokevirtual 34, 3) := by decide +kernel
theorem dX5_turn_161 : decode cX5_turn 161 = .ok (.pop, 1) := by decide +kernel
theorem dX5_turn_162 : decode cX5_turn 162 = .ok (.goto 73, 3) := by decide +kernel
theorem dX5_turn_165 : decode cX5_turn 165 = .ok (.aload_n 0, 1) := by decide +kernel
theorem dX5_turn_166 : decode cX5_turn 166 = .ok (.iload 4, 2) := by decide +kernel
theorem dX5_turn_168 : decode cX5_turn 168 = .ok (.iload_n 2, 1) := by decide +kernel
theorem dX5_turn_169 : decode cX5_turn 169 = .ok (.iload_n 1, 1) := by decide +kernel
theorem dX5_turn_170 : decode cX5_turn 170 = .ok (.sipush 1024, 3) := by decide +kernel
theorem dX5_turn_173 : decode cX5_turn 173 = .ok (.idiv, 1) := by decide +kernel
theorem dX5_turn_174 : decode cX5_turn 174 = .ok (.iconst 2, 1) := by decide +kernel
theorem dX5_turn_175 : decode cX5_turn 175 = .ok (.irem, 1) := by decide +kernel
theorem dX5_turn_176 : decode cX5_turn 176 = .ok (.ifCond .ne 7, 3) := by decide +kernel
theorem dX5_turn_179 : decode cX5_turn 179 = .ok (.iconst 1, 1) := by decide +kernel
theorem dX5_turn_180 : decode cX5_turn 180 = .ok (.goto 4, 3) := by decide +kernel
theorem dX5_turn_183 : decode cX5_turn 183 = .ok (.iconst 0, 1) := by decide +kernel
theorem dX5_turn_184 : decode cX5_turn 184 = .ok (.invokevirtual 38, 3) := by decide +kernel
theorem dX5_turn_187 : decode cX5_turn 187 = .ok (.goto 48, 3) := by decide +kernel
theorem dX5_turn_190 : decode cX5_turn 190 = .ok (.aload_n 0, 1) := by decide +kernel
theorem dX5_turn_191 : decode cX5_turn 191 = .ok (.iload_n 2, 1) := by decide +kernel
theorem dX5_turn_192 : decode cX5_turn 192 = .ok (.invokevirtual 42, 3) := by decide +kernel
theorem dX5_turn_195 : decode cX5_turn 195 = .ok (.pop, 1) := by decide +kernel
theorem dX5_turn_196 : decode cX5_turn 196 = .ok (.goto 39, 3) := by decide +kernel
theorem dX5_turn_199 : decode cX5_turn 199 = .ok (.aload_n 0, 1) := by decide +kernel
theorem dX5_turn_200 : decode cX5_turn 200 = .ok (.iload 4, 2) := by decide +kernel
theorem dX5_turn_202 : decode cX5_turn 202 = .ok (.invokevirtual 45, 3) := by decide +kernel
theorem dX5_turn_205 : decode cX5_turn 205 = .ok (.pop, 1) := by decide +kernel
theorem dX5_turn_206 : decode cX5_turn 206 = .ok (.goto 29, 3) := by decide +kernel
theorem dX5_turn_209 : decode cX5_turn 209 = .ok (.aload_n 0, 1) := by decide +kernel
theorem dX5_turn_210 : decode cX5_turn 210 = .ok (.iload 4, 2) := by decide +kernel
theorem dX5_turn_212 : decode cX5_turn 212 = .ok (.iload_n 2, 1) := by decide +kernel
theorem dX5_turn_213 : decode cX5_turn 213 = .ok (.iload_n 1, 1) := by decide +kernel
theorem dX5_turn_214 : decode cX5_turn 214 = .ok (.sipush 1024, 3) := by decide +kernel
theorem dX5_turn_217 : decode cX5_turn 217 = .ok (.idiv, 1) := by decide +kernel
theorem dX5_turn_218 : decode cX5_turn 218 = .ok (.bipush 16, 2) := by decide +kernel
theorem dX5_turn_220 : decode cX5_turn 220 = .ok (.irem, 1) := by decide +kernel
theorem dX5_turn_221 : decode cX5_turn 221 = .ok (.invokevirtual 48, 3) := by decide +kernel
theorem dX5_turn_224 : decode cX5_turn 224 = .ok (.goto 11, 3) := by decide +kernel
theorem dX5_turn_227 : decode cX5_turn 227 = .ok (.aload_n 0, 1) := by decide +kernel
theorem dX5_turn_228 : decode cX5_turn 228 = .ok (.iload 4, 2) := by decide +kernel
theorem dX5_turn_230 : decode cX5_turn 230 = .ok (.iload_n 2, 1) := by decide +kernel
theorem dX5_turn_231 : decode cX5_turn 231 = .ok (.invokevirtual 52, 3) := by decide +kernel
theorem dX5_turn_234 : decode cX5_turn 234 = .ok (.pop, 1) := by decide +kernel
theorem dX5_turn_235 : decode cX5_turn 235 = .ok (.return_, 1) := by decide +kernel
set_option maxRecDepth 20000 in
theorem ggX6_init_X2_init : GoodIn wsX6_init wsX2_init := goodIn_r _ [21, 22, 2, 3, 23, 24, 65, 66] (by decide +kernel) (by decide +kernel)
set_option maxRecDepth 20000 in
theorem gX6_init_X2_init_n9 : GoodIn wsX6_init (wsX2_init) := ggX6_init_X2_init
set_option maxRecDepth 20000 in
theorem ggX6_init_X1_init : GoodIn wsX6_init wsX1_init := goodIn_r _ [27, 28, 2, 3, 29, 30, 31, 32, 33, 34, 10, 35, 36, 37, 38, 39, 40, 41, 42, 43, 44, 45, 46, 47, 48, 49, 50, 51, 52, 53, 54, 55, 56, 57, 73, 74, 75, 76] (by decide +kernel) (by decide +kernel)
set_option maxRecDepth 20000 in
theorem gX6_init_X1_init : GoodIn wsX6_init (wsX1_init) := ggX6_init_X1_init
set_option maxRecDepth 20000 in
theorem ggX6_init_X0_init : GoodIn wsX6_init wsX0_init := goodIn_r _ [60, 61, 2, 3, 62, 63, 9, 10, 64, 26, 27, 28, 29, 30, 31, 32, 33, 34, 35, 36, 37, 38, 39, 40, 41, 42, 43, 44, 45, 46, 47, 48, 49, 50, 51, 52, 53, 54, 55, 56, 57, 77, 78, 79, 73, 74, 75, 76] (by decide +kernel) (by decide +kernel)
set_option maxRecDepth 20000 in
theorem gX6_init_X0_init : GoodIn wsX6_init (wsX0_init) := ggX6_init_X0_init
theorem dX6_init_0 : decode cX6_init 0 = .ok (.aload_n 0, 1) := by decide +kernel
theorem dX6_init_1 : decode cX6_init 1 = .ok (.invokespecial 1, 3) := by decide +kernel
theorem dX6_init_4 : decode cX6_init 4 = .ok (.aload_n 0, 1) := by decide +kernel
theorem dX6_init_5 : decode cX6_init 5 = .ok (.new 7, 3) := by decide +kernel
theorem dX6_init_8 : decode cX6_init 8 = .ok (.dup, 1) := by decide +kernel
theorem dX6_init_9 : decode cX6_init 9 = .ok (.invokespecial 9, 3) := by decide +kernel
theorem dX6_init_12 : decode cX6_init 12 = .ok (.putfield 10, 3) := by decide +kernel
theorem dX6_init_15 : decode cX6_init 15 = .ok (.aload_n 0, 1) := by decide +kernel
theorem dX6_init_16 : decode cX6_init 16 = .ok (.new 16, 3) := by decide +kernel
theorem dX6_init_19 : decode cX6_init 19 = .ok (.dup, 1) := by decide +kernel
theorem dX6_init_20 : decode cX6_init 20 = .ok (.invokespecial 18, 3) := by decide +kernel
theorem dX6_init_23 : decode cX6_init 23 = .ok (.putfield 19, 3) := by decide +kernel
theorem dX6_init_26 : decode cX6_init 26 = .ok (.aload_n 0, 1) := by decide +kernel
theorem dX6_init_27 : decode cX6_init 27 = .ok (.new 16, 3) := by decide +kernel
theorem dX6_init_30 : decode cX6_init 30 = .ok (.dup, 1) := by decide +kernel
theorem dX6_init_31 : decode cX6_init 31 = .ok (.invokespecial 18, 3) := by decide +kernel
theorem dX6_init_34 : decode cX6_init 34 = .ok (.putfield 23, 3) := by decide +kernel
theorem dX6_init_37 : decode cX6_init 37 = .ok (.aload_n 0, 1) := by decide +kernel
theorem dX6_init_38 : decode cX6_init 38 = .ok (.new 26, 3) := by decide +kernel
theorem dX6_init_41 : decode cX6_init 41 = .ok (.dup, 1) := by decide +kernel
theorem dX6_init_42 : decode cX6_init 42 = .ok (.invokespecial 28, 3) := by decide +kernel
theorem dX6_init_45 : decode cX6_init 45 = .ok (.putfield 29, 3) := by decide +kernel
theorem dX6_init_48 : decode cX6_init 48 = .ok (.aload_n 0, 1) := by decide +kernel
theorem dX6_init_49 : decode cX6_init 49 = .ok (.iconst 2, 1) := by decide +kernel
theorem dX6_init_50 : decode cX6_init 50 = .ok (.anewarray 16, 3) := by decide +kernel
theorem dX6_init_53 : decode cX6_init 53 = .ok (.putfield 33, 3) := by decide +kernel
theorem dX6_init_56 : decode cX6_init 56 = .ok (.iconst 0, 1) := by decide +kernel
theorem dX6_init_57 : decode cX6_init 57 = .ok (.istore_n 1, 1) := by decide +kernel
theorem dX6_init_58 : decode cX6_init 58 = .ok (.iload_n 1, 1) := by decide +kernel
theorem dX6_init_59 : decode cX6_init 59 = .ok (.aload_n 0, 1) := by decide +kernel
theorem dX6_init_60 : decode cX6_init 60 = .ok (.getfield 33, 3) := by decide +kernel
theorem dX6_init_63 : decode cX6_init 63 = .ok (.arraylength, 1) := by decide +kernel
theorem dX6_init_64 : decode cX6_init 64 = .ok (.if_icmp .ge 22, 3) := by decide +kernel
theorem dX6_init_67 : decode cX6_init 67 = .ok (.aload_n 0, 1) := by decide +kernel
theorem dX6_init_68 : decode cX6_init 68 = .ok (.getfield 33, 3) := by decide +kernel
theorem dX6_init_71 : decode cX6_init 71 = .ok (.iload_n 1, 1) := by decide +kernel
theorem dX6_init_72 : decode cX6_init 72 = .ok (.new 16, 3) := by decide +kernel
theorem dX6_init_75 : decode cX6_init 75 = .ok (.dup, 1) := by decide +kernel
theorem dX6_init_76 : decode cX6_init 76 = .ok (.invokespecial 18, 3) := by decide +kernel
theorem dX6_init_79 : decode cX6_init 79 = .ok (.aastore, 1) := by decide +kernel
theorem dX6_init_80 : decode cX6_init 80 = .ok (.iinc 1 1, 3) := by decide +kernel
theorem dX6_init_83 : decode cX6_init 83 = .ok (.goto (-25), 3) := by decide +kernel
theorem dX6_init_86 : decode cX6_init 86 = .ok (.aload_n 0, 1) := by decide +kernel
theorem dX6_init_87 : decode cX6_init 87 = .ok (.iconst 2, 1) := by decide +kernel
theorem dX6_init_88 : decode cX6_init 88 = .ok (.newarray .boolean, 2) := by decide +kernel
theorem dX6_init_90 : decode cX6_init 90 = .ok (.putfield 37, 3) := by decide +kernel
theorem dX6_init_93 : decode cX6_init 93 = .ok (.return_, 1) := by decide +kernel
set_option maxRecDepth 20000 in
theorem ggX6_append_X2_isFull : GoodIn wsX6_append wsX2_isFull := goodIn_r _ [10, 11, 28, 29] (by decide +kernel) (by decide +kernel)
set_option maxRecDepth 20000 in
theorem gX6_append_X2_isFull : GoodIn wsX6_append (wsV RX6 48 RX2 yX2_isFull wsX2_isFull) := goodIn_app (goodIn_of _ (by decide +kernel)) ggX6_append_X2_isFull
set_option maxRecDepth 20000 in
theorem ggX6_append_X2_write : GoodIn wsX6_append wsX2_write := goodIn_r _ [15, 16, 11, 17, 7, 8, 9, 10, 28, 29] (by decide +kernel) (by decide +kernel)
set_option maxRecDepth 20000 in
theorem gX6_append_X2_write : GoodIn wsX6_append (wsV RX6 57 RX2 yX2_write wsX2_write) := goodIn_app (goodIn_of _ (by decide +kernel)) ggX6_append_X2_write
set_option maxRecDepth 20000 in
theorem ggX6_append_X2_length : GoodIn wsX6_append wsX2_length := goodIn_r _ [21, 11, 28, 29] (by decide +kernel) (by decide +kernel)
set_option maxRecDepth 20000 in
theorem gX6_append_X2_length : GoodIn wsX6_append (wsV RX6 61 RX2 yX2_length wsX2_length) := goodIn_app (goodIn_of _ (by decide +kernel)) ggX6_append_X2_length
theorem dX6_append_0 : decode cX6_append 0 = .ok (.iload_n 1, 1) := by decide +kernel
theorem dX6_append_1 : decode cX6_append 1 = .ok (.ifCond .lt 10, 3) := by decide +kernel
theorem dX6_append_4 : decode cX6_append 4 = .ok (.iload_n 1, 1) := by decide +kernel
theorem dX6_append_5 : decode cX6_append 5 = .ok (.sipush 255, 3) := by decide +kernel
theorem dX6_append_8 : decode cX6_append 8 = .ok (.if_icmp .le 13, 3) := by decide +kernel
theorem dX6_append_11 : decode cX6_append 11 = .ok (.new 41, 3) := by decide +kernel
theorem dX6_append_14 : decode cX6_append 14 = .ok (.dup, 1) := by decide +kernel
theorem dX6_append_15 : decode cX6_append 15 = .ok (.ldc 43, 2) := by decide +kernel
theorem dX6_append_17 : decode cX6_append 17 = .ok (.invokespecial 45, 3) := by decide +kernel
theorem dX6_append_20 : decode cX6_append 20 = .ok (.athrow, 1) := by decide +kernel
theorem dX6_append_21 : decode cX6_append 21 = .ok (.aload_n 0, 1) := by decide +kernel
theorem dX6_append_22 : decode cX6_append 22 = .ok (.getfield 10, 3) := by decide +kernel
theorem dX6_append_25 : decode cX6_append 25 = .ok (.invokevirtual 48, 3) := by decide +kernel
theorem dX6_append_28 : decode cX6_append 28 = .ok (.ifCond .eq 13, 3) := by decide +kernel
theorem dX6_append_31 : decode cX6_append 31 = .ok (.new 52, 3) := by decide +kernel
theorem dX6_append_34 : decode cX6_append 34 = .ok (.dup, 1) := by decide +kernel
theorem dX6_append_35 : decode cX6_append 35 = .ok (.ldc 54, 2) := by decide +kernel
theorem dX6_append_37 : decode cX6_append 37 = .ok (.invokespecial 56, 3) := by decide +kernel
theorem dX6_append_40 : decode cX6_append 40 = .ok (.athrow, 1) := by decide +kernel
theorem dX6_append_41 : decode cX6_append 41 = .ok (.aload_n 0, 1) := by decide +kernel
theorem dX6_append_42 : decode cX6_append 42 = .ok (.getfield 10, 3) := by decide +kernel
theorem dX6_append_45 : decode cX6_append 45 = .ok (.iload_n 1, 1) := by decide +kernel
theorem dX6_append_46 : decode cX6_append 46 = .ok (.i2c, 1) := by decide +kernel
theorem dX6_append_47 : decode cX6_append 47 = .ok (.invokevirtual 57, 3) := by decide +kernel
theorem dX6_append_50 : decode cX6_append 50 = .ok (.aload_n 0, 1) := by decide +kernel
theorem dX6_append_51 : decode cX6_append 51 = .ok (.getfield 10, 3) := by decide +kernel
theorem dX6_append_54 : decode cX6_append 54 = .ok (.invokevirtual 61, 3) := by decide +kernel
theorem dX6_append_57 : decode cX6_append 57 = .ok (.ireturn, 1) := by decide +kernel
set_option maxRecDepth 20000 in
theorem ggX6_clearText_X2_length : GoodIn wsX6_clearText wsX2_length := goodIn_r _ [6, 7, 18, 19] (by decide +kernel) (by decide +kernel)
set_option maxRecDepth 20000 in
theorem gX6_clearText_X2_length : GoodIn wsX6_clearText (wsV RX6 61 RX2 yX2_length wsX2_length) := goodIn_app (goodIn_of _ (by decide +kernel)) ggX6_clearText_X2_length
set_option maxRecDepth 20000 in
theorem ggX6_clearText_X2_wipe : GoodIn wsX6_clearText wsX2_wipe := goodIn_r _ [11, 7, 18, 19] (by decide +kernel) (by decide +kernel)
set_option maxRecDepth 20000 in
theorem gX6_clearText_X2_wipe : GoodIn wsX6_clearText (wsV RX6 65 RX2 yX2_wipe wsX2_wipe) := goodIn_app (goodIn_of _ (by decide +kernel)) ggX6_clearText_X2_wipe
theorem dX6_clearText_0 : decode cX6_clearText 0 = .ok (.aload_n 0, 1) := by decide +kernel
theorem dX6_clearText_1 : decode cX6_clearText 1 = .ok (.getfield 10, 3) := by decide +kernel
theorem dX6_clearText_4 : decode cX6_clearText 4 = .ok (.invokevirtual 61, 3) := by decide +kernel
theorem dX6_clearText_7 : decode cX6_clearText 7 = .ok (.istore_n 1, 1) := by decide +kernel
theorem dX6_clearText_8 : decode cX6_clearText 8 = .ok (.aload_n 0, 1) := by decide +kernel
theorem dX6_clearText_9 : decode cX6_clearText 9 = .ok (.getfield 10, 3) := by decide +kernel
theorem dX6_clearText_12 : decode cX6_clearText 12 = .ok (.invokevirtual 65, 3) := by decide +kernel
theorem dX6_clearText_15 : decode cX6_clearText 15 = .ok (.iload_n 1, 1) := by decide +kernel
theorem dX6_clearText_16 : decode cX6_clearText 16 = .ok (.ireturn, 1) := by decide +kernel
set_option maxRecDepth 20000 in
theorem ggX6_errorPosition_X2_firstError : GoodIn wsX6_errorPosition wsX2_firstError := goodIn_r _ [6, 7, 8, 9, 10, 5, 11, 12, 13, 14, 15, 16, 17, 18, 19, 20, 21, 22, 23, 24, 25, 26, 27, 28, 29, 30, 31, 38, 39] (by decide +kernel) (by decide +kernel)
set_option maxRecDepth 20000 in
theorem gX6_errorPosition_X2_firstError : GoodIn wsX6_errorPosition (wsV RX6 68 RX2 yX2_firstError wsX2_firstError) := goodIn_app (goodIn_of _ (by decide +kernel)) ggX6_errorPosition_X2_firstError
theorem dX6_errorPosition_0 : decode cX6_errorPosition 0 = .ok (.aload_n 0, 1) := by decide +kernel
theorem dX6_errorPosition_1 : decode cX6_errorPosition 1 = .ok (.getfield 10, 3) := by decide +kernel
theorem dX6_errorPosition_4 : decode cX6_errorPosition 4 = .ok (.invokevirtual 68, 3) := by decide +kernel
theorem dX6_errorPosition_7 : decode cX6_errorPosition 7 = .ok (.ireturn, 1) := by decide +kernel
set_option maxRecDepth 20000 in
theorem ggX6_load_X2_firstError : GoodIn wsX6_load wsX2_firstError := goodIn_r _ [11, 12, 13, 14, 15, 10, 16, 17, 18, 19, 20, 21, 22, 23, 24, 25, 26, 27, 28, 29, 30, 31, 32, 33, 34, 35, 36, 96, 97] (by decide +kernel) (by decide +kernel)
set_option maxRecDepth 20000 in
theorem gX6_load_X2_firstError : GoodIn wsX6_load (wsV RX6 68 RX2 yX2_firstError wsX2_firstError) := goodIn_app (goodIn_of _ (by decide +kernel)) ggX6_load_X2_firstError
set_option maxRecDepth 20000 in
theorem ggX6_load_X1_rebuild : GoodIn wsX6_load wsX1_rebuild := goodIn_r _ [41, 42, 43, 44, 45, 14, 15, 10, 16, 12, 17, 18, 19, 20, 21, 22, 23, 24, 25, 46, 27, 28, 29, 13, 47, 48, 49, 50, 51, 52, 53, 54, 55, 56, 57, 40, 58, 59, 60, 61, 62, 63, 64, 65, 66, 67, 68, 69, 70, 71, 72, 73, 74, 75, 76, 77, 78, 79, 98, 99, 100, 101, 96, 97] (by decide +kernel) (by decide +kernel)
set_option maxRecDepth 20000 in
theorem gX6_load_X1_rebuild : GoodIn wsX6_load (wsV RX6 73 RX1 yX1_rebuild wsX1_rebuild) := goodIn_app (goodIn_of _ (by decide +kernel)) ggX6_load_X1_rebuild
set_option maxRecDepth 20000 in
theorem ggX6_load_X0_forget : GoodIn wsX6_load wsX0_forget := goodIn_r _ [84, 85, 102, 103, 104] (by decide +kernel) (by decide +kernel)
set_option maxRecDepth 20000 in
theorem gX6_load_X0_forget : GoodIn wsX6_load (wsV RX6 77 RX0 yX0_forget wsX0_forget) := goodIn_app (goodIn_of _ (by decide +kernel)) ggX6_load_X0_forget
set_option maxRecDepth 20000 in
theorem ggX6_load_X1_levels : GoodIn wsX6_load wsX1_levels := goodIn_r _ [89, 42, 98, 99, 100, 101] (by decide +kernel) (by decide +kernel)
set_option maxRecDepth 20000 in
theorem gX6_load_X1_levels : GoodIn wsX6_load (wsV RX6 80 RX1 yX1_levels wsX1_levels) := goodIn_app (goodIn_of _ (by decide +kernel)) ggX6_load_X1_levels
theorem dX6_load_0 : decode cX6_load 0 = .ok (.aload_n 0, 1) := by decide +kernel
theorem dX6_load_1 : decode cX6_load 1 = .ok (.getfield 10, 3) := by decide +kernel
theorem dX6_load_4 : decode cX6_load 4 = .ok (.invokevirtual 68, 3) := by decide +kernel
theorem dX6_load_7 : decode cX6_load 7 = .ok (.iconst (-1), 1) := by decide +kernel
theorem dX6_load_8 : decode cX6_load 8 = .ok (.if_icmp .eq 13, 3) := by decide +kernel
theorem dX6_load_11 : decode cX6_load 11 = .ok (.new 52, 3) := by decide +kernel
theorem dX6_load_14 : decode cX6_load 14 = .ok (.dup, 1) := by decide +kernel
theorem dX6_load_15 : decode cX6_load 15 = .ok (.ldc 71, 2) := by decide +kernel
theorem dX6_load_17 : decode cX6_load 17 = .ok (.invokespecial 56, 3) := by decide +kernel
theorem dX6_load_20 : decode cX6_load 20 = .ok (.athrow, 1) := by decide +kernel
theorem dX6_load_21 : decode cX6_load 21 = .ok (.aload_n 0, 1) := by decide +kernel
theorem dX6_load_22 : decode cX6_load 22 = .ok (.getfield 19, 3) := by decide +kernel
theorem dX6_load_25 : decode cX6_load 25 = .ok (.aload_n 0, 1) := by decide +kernel
theorem dX6_load_26 : decode cX6_load 26 = .ok (.getfield 10, 3) := by decide +kernel
theorem dX6_load_29 : decode cX6_load 29 = .ok (.invokevirtual 73, 3) := by decide +kernel
theorem dX6_load_32 : decode cX6_load 32 = .ok (.aload_n 0, 1) := by decide +kernel
theorem dX6_load_33 : decode cX6_load 33 = .ok (.getfield 29, 3) := by decide +kernel
theorem dX6_load_36 : decode cX6_load 36 = .ok (.invokevirtual 77, 3) := by decide +kernel
theorem dX6_load_39 : decode cX6_load 39 = .ok (.iconst 0, 1) := by decide +kernel
theorem dX6_load_40 : decode cX6_load 40 = .ok (.istore_n 1, 1) := by decide +kernel
theorem dX6_load_41 : decode cX6_load 41 = .ok (.iload_n 1, 1) := by decide +kernel
theorem dX6_load_42 : decode cX6_load 42 = .ok (.aload_n 0, 1) := by decide +kernel
theorem dX6_load_43 : decode cX6_load 43 = .ok (.getfield 37, 3) := by decide +kernel
theorem dX6_load_46 : decode cX6_load 46 = .ok (.arraylength, 1) := by decide +kernel
theorem dX6_load_47 : decode cX6_load 47 = .ok (.if_icmp .ge 16, 3) := by decide +kernel
theorem dX6_load_50 : decode cX6_load 50 = .ok (.aload_n 0, 1) := by decide +kernel
theorem dX6_load_51 : decode cX6_load 51 = .ok (.getfield 37, 3) := by decide +kernel
theorem dX6_load_54 : decode cX6_load 54 = .ok (.iload_n 1, 1) := by decide +kernel
theorem dX6_load_55 : decode cX6_load 55 = .ok (.iconst 0, 1) := by decide +kernel
theorem dX6_load_56 : decode cX6_load 56 = .ok (.bastore, 1) := by decide +kernel
theorem dX6_load_57 : decode cX6_load 57 = .ok (.iinc 1 1, 3) := by decide +kernel
theorem dX6_load_60 : decode cX6_load 60 = .ok (.goto (-19), 3) := by decide +kernel
theorem dX6_load_63 : decode cX6_load 63 = .ok (.aload_n 0, 1) := by decide +kernel
theorem dX6_load_64 : decode cX6_load 64 = .ok (.getfield 19, 3) := by decide +kernel
theorem dX6_load_67 : decode cX6_load 67 = .ok (.invokevirtual 80, 3) := by decide +kernel
theorem dX6_load_70 : decode cX6_load 70 = .ok (.ireturn, 1) := by decide +kernel
set_option maxRecDepth 20000 in
theorem ggX6_about_X1_levels : GoodIn wsX6_about wsX1_levels := goodIn_r _ [8, 9, 93, 94, 95, 96] (by decide +kernel) (by decide +kernel)
set_option maxRecDepth 20000 in
theorem gX6_about_X1_levels : GoodIn wsX6_about (wsV RX6 80 RX1 yX1_levels wsX1_levels) := goodIn_app (goodIn_of _ (by decide +kernel)) ggX6_about_X1_levels
set_option maxRecDepth 20000 in
theorem ggX6_about_X1_groundLevel : GoodIn wsX6_about wsX1_groundLevel := goodIn_r _ [13, 14, 93, 94, 95, 96] (by decide +kernel) (by decide +kernel)
set_option maxRecDepth 20000 in
theorem gX6_about_X1_groundLevel : GoodIn wsX6_about (wsV RX6 83 RX1 yX1_groundLevel wsX1_groundLevel) := goodIn_app (goodIn_of _ (by decide +kernel)) ggX6_about_X1_groundLevel
set_option maxRecDepth 20000 in
theorem ggX6_about_X1_wrongSigns : GoodIn wsX6_about wsX1_wrongSigns := goodIn_r _ [18, 19, 20, 21, 7, 22, 9, 23, 24, 25, 26, 27, 28, 29, 30, 31, 93, 94, 95, 96] (by decide +kernel) (by decide +kernel)
set_option maxRecDepth 20000 in
theorem gX6_about_X1_wrongSigns : GoodIn wsX6_about (wsV RX6 86 RX1 yX1_wrongSigns wsX1_wrongSigns) := goodIn_app (goodIn_of _ (by decide +kernel)) ggX6_about_X1_wrongSigns
set_option maxRecDepth 20000 in
theorem ggX6_about_X1_wrongButtons : GoodIn wsX6_about wsX1_wrongButtons := goodIn_r _ [35, 19, 20, 21, 7, 22, 9, 23, 24, 25, 26, 27, 28, 29, 30, 31, 93, 94, 95, 96] (by decide +kernel) (by decide +kernel)
set_option maxRecDepth 20000 in
theorem gX6_about_X1_wrongButtons : GoodIn wsX6_about (wsV RX6 89 RX1 yX1_wrongButtons wsX1_wrongButtons) := goodIn_app (goodIn_of _ (by decide +kernel)) ggX6_about_X1_wrongButtons
set_option maxRecDepth 20000 in
theorem ggX6_about_X1_namelessLevels : GoodIn wsX6_about wsX1_namelessLevels := goodIn_r _ [39, 9, 40, 41, 42, 7, 43, 27, 28, 29, 30, 31, 93, 94, 95, 96] (by decide +kernel) (by decide +kernel)
set_option maxRecDepth 20000 in
theorem gX6_about_X1_namelessLevels : GoodIn wsX6_about (wsV RX6 92 RX1 yX1_namelessLevels wsX1_namelessLevels) := goodIn_app (goodIn_of _ (by decide +kernel)) ggX6_about_X1_namelessLevels
set_option maxRecDepth 20000 in
theorem ggX6_about_X1_levelsWithSharedNames : GoodIn wsX6_about wsX1_levelsWithSharedNames := goodIn_r _ [47, 9, 48, 49, 50, 7, 51, 40, 41, 42, 43, 27, 28, 29, 30, 31, 52, 53, 54, 55, 93, 94, 95, 96] (by decide +kernel) (by decide +kernel)
set_option maxRecDepth 20000 in
theorem gX6_about_X1_levelsWithSharedNames : GoodIn wsX6_about (wsV RX6 95 RX1 yX1_levelsWithSharedNames wsX1_levelsWithSharedNames) := goodIn_app (goodIn_of _ (by decide +kernel)) ggX6_about_X1_levelsWithSharedNames
set_option maxRecDepth 20000 in
theorem ggX6_about_X1_skippedStoreys : GoodIn wsX6_about wsX1_skippedStoreys := goodIn_r _ [59, 60, 61, 62, 63, 64, 65, 66, 67, 93, 94, 95, 96] (by decide +kernel) (by decide +kernel)
set_option maxRecDepth 20000 in
theorem gX6_about_X1_skippedStoreys : GoodIn wsX6_about (wsV RX6 98 RX1 yX1_skippedStoreys wsX1_skippedStoreys) := goodIn_app (goodIn_of _ (by decide +kernel)) ggX6_about_X1_skippedStoreys
set_option maxRecDepth 20000 in
theorem ggX6_about_X1_greatestStorey : GoodIn wsX6_about wsX1_greatestStorey := goodIn_r _ [71, 9, 72, 73, 74, 75, 40, 41, 42, 7, 43, 27, 28, 29, 30, 31, 52, 53, 54, 55, 76, 77, 78, 79, 93, 94, 95, 96] (by decide +kernel) (by decide +kernel)
set_option maxRecDepth 20000 in
theorem gX6_about_X1_greatestStorey : GoodIn wsX6_about (wsV RX6 101 RX1 yX1_greatestStorey wsX1_greatestStorey) := goodIn_app (goodIn_of _ (by decide +kernel)) ggX6_about_X1_greatestStorey
set_option maxRecDepth 20000 in
theorem ggX6_about_X1_leastStorey : GoodIn wsX6_about wsX1_leastStorey := goodIn_r _ [83, 9, 84, 85, 74, 86, 40, 41, 42, 7, 43, 27, 28, 29, 30, 31, 52, 53, 54, 55, 76, 77, 78, 79, 93, 94, 95, 96] (by decide +kernel) (by decide +kernel)
set_option maxRecDepth 20000 in
theorem gX6_about_X1_leastStorey : GoodIn wsX6_about (wsV RX6 104 RX1 yX1_leastStorey wsX1_leastStorey) := goodIn_app (goodIn_of _ (by decide +kernel)) ggX6_about_X1_leastStorey
theorem dX6_about_0 : decode cX6_about 0 = .ok (.iload_n 1, 1) := by decide +kernel
theorem dX6_about_1 : decode cX6_about 1 = .ok (.tableswitch 123 0 8 #[51, 59, 67, 75, 83, 91, 99, 107, 115], 51) := by decide +kernel
theorem dX6_about_52 : decode cX6_about 52 = .ok (.aload_n 0, 1) := by decide +kernel
theorem dX6_about_53 : decode cX6_about 53 = .ok (.getfield 19, 3) := by decide +kernel
theorem dX6_about_56 : decode cX6_about 56 = .ok (.invokevirtual 80, 3) := by decide +kernel
theorem dX6_about_59 : decode cX6_about 59 = .ok (.ireturn, 1) := by decide +kernel
theorem dX6_about_60 : decode cX6_about 60 = .ok (.aload_n 0, 1) := by decide +kernel
theorem dX6_about_61 : decode cX6_about 61 = .ok (.getfield 19, 3) := by decide +kernel
theorem dX6_about_64 : decode cX6_about 64 = .ok (.invokevirtual 83, 3) := by decide +kernel
theorem dX6_about_67 : decode cX6_about 67 = .ok (.ireturn, 1) := by decide +kernel
theorem dX6_about_68 : decode cX6_about 68 = .ok (.aload_n 0, 1) := by decide +kernel
theorem dX6_about_69 : decode cX6_about 69 = .ok (.getfield 19, 3) := by decide +kernel
theorem dX6_about_72 : decode cX6_about 72 = .ok (.invokevirtual 86, 3) := by decide +kernel
theorem dX6_about_75 : decode cX6_about 75 = .ok (.ireturn, 1) := by decide +kernel
theorem dX6_about_76 : decode cX6_about 76 = .ok (.aload_n 0, 1) := by decide +kernel
theorem dX6_about_77 : decode cX6_about 77 = .ok (.getfield 19, 3) := by decide +kernel
theorem dX6_about_80 : decode cX6_about 80 = .ok (.invokevirtual 89, 3) := by decide +kernel
theorem dX6_about_83 : decode cX6_about 83 = .ok (.ireturn, 1) := by decide +kernel
theorem dX6_about_84 : decode cX6_about 84 = .ok (.aload_n 0, 1) := by decide +kernel
theorem dX6_about_85 : decode cX6_about 85 = .ok (.getfield 19, 3) := by decide +kernel
theorem dX6_about_88 : decode cX6_about 88 = .ok (.invokevirtual 92, 3) := by decide +kernel
theorem dX6_about_91 : decode cX6_about 91 = .ok (.ireturn, 1) := by decide +kernel
theorem dX6_about_92 : decode cX6_about 92 = .ok (.aload_n 0, 1) := by decide +kernel
theorem dX6_about_93 : decode cX6_about 93 = .ok (.getfield 19, 3) := by decide +kernel
theorem dX6_about_96 : decode cX6_about 96 = .ok (.invokevirtual 95, 3) := by decide +kernel
theorem dX6_about_99 : decode cX6_about 99 = .ok (.ireturn, 1) := by decide +kernel
theorem dX6_about_100 : decode cX6_about 100 = .ok (.aload_n 0, 1) := by decide +kernel
theorem dX6_about_101 : decode cX6_about 101 = .ok (.getfield 19, 3) := by decide +kernel
theorem dX6_about_104 : decode cX6_about 104 = .ok (.invokevirtual 98, 3) := by decide +kernel
theorem dX6_about_107 : decode cX6_about 107 = .ok (.ireturn, 1) := by decide +kernel
theorem dX6_about_108 : decode cX6_about 108 = .ok (.aload_n 0, 1) := by decide +kernel
theorem dX6_about_109 : decode cX6_about 109 = .ok (.getfield 19, 3) := by decide +kernel
theorem dX6_about_112 : decode cX6_about 112 = .ok (.invokevirtual 101, 3) := by decide +kernel
theorem dX6_about_115 : decode cX6_about 115 = .ok (.ireturn, 1) := by decide +kernel
theorem dX6_about_116 : decode cX6_about 116 = .ok (.aload_n 0, 1) := by decide +kernel
theorem dX6_about_117 : decode cX6_about 117 = .ok (.getfield 19, 3) := by decide +kernel
theorem dX6_about_120 : decode cX6_about 120 = .ok (.invokevirtual 104, 3) := by decide +kernel
theorem dX6_about_123 : decode cX6_about 123 = .ok (.ireturn, 1) := by decide +kernel
theorem dX6_about_124 : decode cX6_about 124 = .ok (.new 41, 3) := by decide +kernel
theorem dX6_about_127 : decode cX6_about 127 = .ok (.dup, 1) := by decide +kernel
theorem dX6_about_128 : decode cX6_about 128 = .ok (.ldc 107, 2) := by decide +kernel
theorem dX6_about_130 : decode cX6_about 130 = .ok (.invokespecial 45, 3) := by decide +kernel
theorem dX6_about_133 : decode cX6_about 133 = .ok (.athrow, 1) := by decide +kernel
set_option maxRecDepth 20000 in
theorem ggX6_level_X6_requireLevel : GoodIn wsX6_level wsX6_requireLevel := goodIn_ca (goodIn_r _ [8, 9, 10, 3, 11, 12, 13, 14, 15, 16, 51, 52, 53, 54, 55, 56, 57, 58, 59, 60] (by decide +kernel) (by decide +kernel)) (goodIn_sub (fun _ h => List.mem_cons_of_mem _ (List.mem_append_right _ h)) (by decide +kernel))
set_option maxRecDepth 20000 in
theorem gX6_level_X6_requireLevel : GoodIn wsX6_level (wsV RX6 109 RX6 yX6_requireLevel wsX6_requireLevel) := goodIn_app (goodIn_of _ (by decide +kernel)) ggX6_level_X6_requireLevel
set_option maxRecDepth 20000 in
theorem ggX6_level_X1_kindOf : GoodIn wsX6_level wsX1_kindOf := goodIn_r _ [20, 21, 22, 23, 14, 24, 25, 57, 58, 59, 60] (by decide +kernel) (by decide +kernel)
set_option maxRecDepth 20000 in
theorem gX6_level_X1_kindOf : GoodIn wsX6_level (wsV RX6 113 RX1 yX1_kindOf wsX1_kindOf) := goodIn_app (goodIn_of _ (by decide +kernel)) ggX6_level_X1_kindOf
set_option maxRecDepth 20000 in
theorem ggX6_level_X1_nameOf : GoodIn wsX6_level wsX1_nameOf := goodIn_r _ [29, 21, 22, 23, 14, 24, 25, 57, 58, 59, 60] (by decide +kernel) (by decide +kernel)
set_option maxRecDepth 20000 in
theorem gX6_level_X1_nameOf : GoodIn wsX6_level (wsV RX6 117 RX1 yX1_nameOf wsX1_nameOf) := goodIn_app (goodIn_of _ (by decide +kernel)) ggX6_level_X1_nameOf
set_option maxRecDepth 20000 in
theorem ggX6_level_X1_signAt : GoodIn wsX6_level wsX1_signAt := goodIn_r _ [33, 21, 22, 23, 14, 24, 25, 57, 58, 59, 60] (by decide +kernel) (by decide +kernel)
set_option maxRecDepth 20000 in
theorem gX6_level_X1_signAt : GoodIn wsX6_level (wsV RX6 120 RX1 yX1_signAt wsX1_signAt) := goodIn_app (goodIn_of _ (by decide +kernel)) ggX6_level_X1_signAt
set_option maxRecDepth 20000 in
theorem ggX6_level_X1_isSignRight : GoodIn wsX6_level wsX1_isSignRight := goodIn_r _ [37, 38, 39, 40, 14, 41, 21, 22, 23, 24, 25, 57, 58, 59, 60] (by decide +kernel) (by decide +kernel)
set_option maxRecDepth 20000 in
theorem gX6_level_X1_isSignRight : GoodIn wsX6_level (wsV RX6 123 RX1 yX1_isSignRight wsX1_isSignRight) := goodIn_app (goodIn_of _ (by decide +kernel)) ggX6_level_X1_isSignRight
set_option maxRecDepth 20000 in
theorem ggX6_level_X1_levelsNamedLike : GoodIn wsX6_level wsX1_levelsNamedLike := goodIn_r _ [45, 16, 46, 47, 48, 14, 49, 21, 22, 23, 24, 25, 50, 27, 28, 29, 57, 58, 59, 60] (by decide +kernel) (by decide +kernel)
set_option maxRecDepth 20000 in
theorem gX6_level_X1_levelsNamedLike : GoodIn wsX6_level (wsV RX6 127 RX1 yX1_levelsNamedLike wsX1_levelsNamedLike) := goodIn_app (goodIn_of _ (by decide +kernel)) ggX6_level_X1_levelsNamedLike
theorem dX6_level_0 : decode cX6_level 0 = .ok (.aload_n 0, 1) := by decide +kernel
theorem dX6_level_1 : decode cX6_level 1 = .ok (.iload_n 1, 1) := by decide +kernel
theorem dX6_level_2 : decode cX6_level 2 = .ok (.invokevirtual 109, 3) := by decide +kernel
theorem dX6_level_5 : decode cX6_level 5 = .ok (.iload_n 2, 1) := by decide +kernel
theorem dX6_level_6 : decode cX6_level 6 = .ok (.tableswitch 87 0 4 #[34, 43, 52, 61, 78], 34) := by decide +kernel
theorem dX6_level_40 : decode cX6_level 40 = .ok (.aload_n 0, 1) := by decide +kernel
theorem dX6_level_41 : decode cX6_level 41 = .ok (.getfield 19, 3) := by decide +kernel
theorem dX6_level_44 : decode cX6_level 44 = .ok (.iload_n 1, 1) := by decide +kernel
theorem dX6_level_45 : decode cX6_level 45 = .ok (.invokevirtual 113, 3) := by decide +kernel
theorem dX6_level_48 : decode cX6_level 48 = .ok (.ireturn, 1) := by decide +kernel
theorem dX6_level_49 : decode cX6_level 49 = .ok (.aload_n 0, 1) := by decide +kernel
theorem dX6_level_50 : decode cX6_level 50 = .ok (.getfield 19, 3) := by decide +kernel
theorem dX6_level_53 : decode cX6_level 53 = .ok (.iload_n 1, 1) := by decide +kernel
theorem dX6_level_54 : decode cX6_level 54 = .ok (.invokevirtual 117, 3) := by decide +kernel
theorem dX6_level_57 : decode cX6_level 57 = .ok (.ireturn, 1) := by decide +kernel
theorem dX6_level_58 : decode cX6_level 58 = .ok (.aload_n 0, 1) := by decide +kernel
theorem dX6_level_59 : decode cX6_level 59 = .ok (.getfield 19, 3) := by decide +kernel
theorem dX6_level_62 : decode cX6_level 62 = .ok (.iload_n 1, 1) := by decide +kernel
theorem dX6_level_63 : decode cX6_level 63 = .ok (.invokevirtual 120, 3) := by decide +kernel
theorem dX6_level_66 : decode cX6_level 66 = .ok (.ireturn, 1) := by decide +kernel
theorem dX6_level_67 : decode cX6_level 67 = .ok (.aload_n 0, 1) := by decide +kernel
theorem dX6_level_68 : decode cX6_level 68 = .ok (.getfield 19, 3) := by decide +kernel
theorem dX6_level_71 : decode cX6_level 71 = .ok (.iload_n 1, 1) := by decide +kernel
theorem dX6_level_72 : decode cX6_level 72 = .ok (.invokevirtual 123, 3) := by decide +kernel
theorem dX6_level_75 : decode cX6_level 75 = .ok (.ifCond .eq 7, 3) := by decide +kernel
theorem dX6_level_78 : decode cX6_level 78 = .ok (.iconst 1, 1) := by decide +kernel
theorem dX6_level_79 : decode cX6_level 79 = .ok (.goto 4, 3) := by decide +kernel
theorem dX6_level_82 : decode cX6_level 82 = .ok (.iconst 0, 1) := by decide +kernel
theorem dX6_level_83 : decode cX6_level 83 = .ok (.ireturn, 1) := by decide +kernel
theorem dX6_level_84 : decode cX6_level 84 = .ok (.aload_n 0, 1) := by decide +kernel
theorem dX6_level_85 : decode cX6_level 85 = .ok (.getfield 19, 3) := by decide +kernel
theorem dX6_level_88 : decode cX6_level 88 = .ok (.iload_n 1, 1) := by decide +kernel
theorem dX6_level_89 : decode cX6_level 89 = .ok (.invokevirtual 127, 3) := by decide +kernel
theorem dX6_level_92 : decode cX6_level 92 = .ok (.ireturn, 1) := by decide +kernel
theorem dX6_level_93 : decode cX6_level 93 = .ok (.new 41, 3) := by decide +kernel
theorem dX6_level_96 : decode cX6_level 96 = .ok (.dup, 1) := by decide +kernel
theorem dX6_level_97 : decode cX6_level 97 = .ok (.ldc 130, 2) := by decide +kernel
theorem dX6_level_99 : decode cX6_level 99 = .ok (.invokespecial 45, 3) := by decide +kernel
theorem dX6_level_102 : decode cX6_level 102 = .ok (.athrow, 1) := by decide +kernel
set_option maxRecDepth 20000 in
theorem ggX6_button_X6_requireCar : GoodIn wsX6_button wsX6_requireCar := goodIn_ca (goodIn_r _ [8, 9, 10, 11, 12, 7, 13] (by decide +kernel) (by decide +kernel)) (goodIn_sub (fun _ h => List.mem_cons_of_mem _ (List.mem_append_right _ h)) (by decide +kernel))
set_option maxRecDepth 20000 in
theorem gX6_button_X6_requireCar : GoodIn wsX6_button (wsV RX6 132 RX6 yX6_requireCar wsX6_requireCar) := goodIn_app (goodIn_of _ (by decide +kernel)) ggX6_button_X6_requireCar
set_option maxRecDepth 20000 in
theorem ggX6_button_X6_requireLevel : GoodIn wsX6_button wsX6_requireLevel := goodIn_ca (goodIn_r _ [17, 9, 10, 3, 18, 19, 20, 21, 22, 23, 45, 46, 47, 48, 49, 50, 51, 52, 53, 54] (by decide +kernel) (by decide +kernel)) (goodIn_sub (fun _ h => List.mem_cons_of_mem _ (List.mem_append_right _ h)) (by decide +kernel))
set_option maxRecDepth 20000 in
theorem gX6_button_X6_requireLevel : GoodIn wsX6_button (wsV RX6 109 RX6 yX6_requireLevel wsX6_requireLevel) := goodIn_app (goodIn_of _ (by decide +kernel)) ggX6_button_X6_requireLevel
set_option maxRecDepth 20000 in
theorem ggX6_button_X1_buttonAt : GoodIn wsX6_button wsX1_buttonAt := goodIn_r _ [27, 28, 29, 30, 21, 31, 32, 51, 52, 53, 54] (by decide +kernel) (by decide +kernel)
set_option maxRecDepth 20000 in
theorem gX6_button_X1_buttonAt : GoodIn wsX6_button (wsV RX6 135 RX1 yX1_buttonAt wsX1_buttonAt) := goodIn_app (goodIn_of _ (by decide +kernel)) ggX6_button_X1_buttonAt
set_option maxRecDepth 20000 in
theorem ggX6_button_X1_isButtonRight : GoodIn wsX6_button wsX1_isButtonRight := goodIn_r _ [36, 37, 38, 39, 21, 40, 28, 29, 30, 31, 32, 51, 52, 53, 54] (by decide +kernel) (by decide +kernel)
set_option maxRecDepth 20000 in
theorem gX6_button_X1_isButtonRight : GoodIn wsX6_button (wsV RX6 139 RX1 yX1_isButtonRight wsX1_isButtonRight) := goodIn_app (goodIn_of _ (by decide +kernel)) ggX6_button_X1_isButtonRight
set_option maxRecDepth 20000 in
theorem ggX6_button_X1_isServed : GoodIn wsX6_button wsX1_isServed := goodIn_r _ [44, 28, 29, 30, 21, 31, 32, 51, 52, 53, 54] (by decide +kernel) (by decide +kernel)
set_option maxRecDepth 20000 in
theorem gX6_button_X1_isServed : GoodIn wsX6_button (wsV RX6 143 RX1 yX1_isServed wsX1_isServed) := goodIn_app (goodIn_of _ (by decide +kernel)) ggX6_button_X1_isServed
theorem dX6_button_0 : decode cX6_button 0 = .ok (.aload_n 0, 1) := by decide +kernel
theorem dX6_button_1 : decode cX6_button 1 = .ok (.iload_n 1, 1) := by decide +kernel
theorem dX6_button_2 : decode cX6_button 2 = .ok (.invokevirtual 132, 3) := by decide +kernel
theorem dX6_button_5 : decode cX6_button 5 = .ok (.aload_n 0, 1) := by decide +kernel
theorem dX6_button_6 : decode cX6_button 6 = .ok (.iload_n 2, 1) := by decide +kernel
theorem dX6_button_7 : decode cX6_button 7 = .ok (.invokevirtual 109, 3) := by decide +kernel
theorem dX6_button_10 : decode cX6_button 10 = .ok (.iload_n 3, 1) := by decide +kernel
theorem dX6_button_11 : decode cX6_button 11 = .ok (.tableswitch 71 0 2 #[25, 35, 53], 25) := by decide +kernel
theorem dX6_button_36 : decode cX6_button 36 = .ok (.aload_n 0, 1) := by decide +kernel
theorem dX6_button_37 : decode cX6_button 37 = .ok (.getfield 19, 3) := by decide +kernel
theorem dX6_button_40 : decode cX6_button 40 = .ok (.iload_n 1, 1) := by decide +kernel
theorem dX6_button_41 : decode cX6_button 41 = .ok (.iload_n 2, 1) := by decide +kernel
theorem dX6_button_42 : decode cX6_button 42 = .ok (.invokevirtual 135, 3) := by decide +kernel
theorem dX6_button_45 : decode cX6_button 45 = .ok (.ireturn, 1) := by decide +kernel
theorem dX6_button_46 : decode cX6_button 46 = .ok (.aload_n 0, 1) := by decide +kernel
theorem dX6_button_47 : decode cX6_button 47 = .ok (.getfield 19, 3) := by decide +kernel
theorem dX6_button_50 : decode cX6_button 50 = .ok (.iload_n 1, 1) := by decide +kernel
theorem dX6_button_51 : decode cX6_button 51 = .ok (.iload_n 2, 1) := by decide +kernel
theorem dX6_button_52 : decode cX6_button 52 = .ok (.invokevirtual 139, 3) := by decide +kernel
theorem dX6_button_55 : decode cX6_button 55 = .ok (.ifCond .eq 7, 3) := by decide +kernel
theorem dX6_button_58 : decode cX6_button 58 = .ok (.iconst 1, 1) := by decide +kernel
theorem dX6_button_59 : decode cX6_button 59 = .ok (.goto 4, 3) := by decide +kernel
theorem dX6_button_62 : decode cX6_button 62 = .ok (.iconst 0, 1) := by decide +kernel
theorem dX6_button_63 : decode cX6_button 63 = .ok (.ireturn, 1) := by decide +kernel
theorem dX6_button_64 : decode cX6_button 64 = .ok (.aload_n 0, 1) := by decide +kernel
theorem dX6_button_65 : decode cX6_button 65 = .ok (.getfield 19, 3) := by decide +kernel
theorem dX6_button_68 : decode cX6_button 68 = .ok (.iload_n 1, 1) := by decide +kernel
theorem dX6_button_69 : decode cX6_button 69 = .ok (.iload_n 2, 1) := by decide +kernel
theorem dX6_button_70 : decode cX6_button 70 = .ok (.invokevirtual 143, 3) := by decide +kernel
theorem dX6_button_73 : decode cX6_button 73 = .ok (.ifCond .eq 7, 3) := by decide +kernel
theorem dX6_button_76 : decode cX6_button 76 = .ok (.iconst 1, 1) := by decide +kernel
theorem dX6_button_77 : decode cX6_button 77 = .ok (.goto 4, 3) := by decide +kernel
theorem dX6_button_80 : decode cX6_button 80 = .ok (.iconst 0, 1) := by decide +kernel
theorem dX6_button_81 : decode cX6_button 81 = .ok (.ireturn, 1) := by decide +kernel
theorem dX6_button_82 : decode cX6_button 82 = .ok (.new 41, 3) := by decide +kernel
theorem dX6_button_85 : decode cX6_button 85 = .ok (.dup, 1) := by decide +kernel
theorem dX6_button_86 : decode cX6_button 86 = .ok (.ldc 146, 2) := by decide +kernel
theorem dX6_button_88 : decode cX6_button 88 = .ok (.invokespecial 45, 3) := by decide +kernel
theorem dX6_button_91 : decode cX6_button 91 = .ok (.athrow, 1) := by decide +kernel
set_option maxRecDepth 20000 in
theorem ggX6_isSkipped_X6_requireStorey : GoodIn wsX6_isSkipped wsX6_requireStorey := goodIn_ca (goodIn_r _ [6, 7, 8, 9, 10, 5, 11] (by decide +kernel) (by decide +kernel)) (goodIn_sub (fun _ h => List.mem_cons_of_mem _ (List.mem_append_right _ h)) (by decide +kernel))
set_option maxRecDepth 20000 in
theorem gX6_isSkipped_X6_requireStorey : GoodIn wsX6_isSkipped (wsV RX6 148 RX6 yX6_requireStorey wsX6_requireStorey) := goodIn_app (goodIn_of _ (by decide +kernel)) ggX6_isSkipped_X6_requireStorey
set_option maxRecDepth 20000 in
theorem ggX6_isSkipped_X1_skips : GoodIn wsX6_isSkipped wsX1_skips := goodIn_r _ [16, 17, 10, 5, 11, 24, 25, 26, 27] (by decide +kernel) (by decide +kernel)
set_option maxRecDepth 20000 in
theorem gX6_isSkipped_X1_skips : GoodIn wsX6_isSkipped (wsV RX6 151 RX1 yX1_skips wsX1_skips) := goodIn_app (goodIn_of _ (by decide +kernel)) ggX6_isSkipped_X1_skips
theorem dX6_isSkipped_0 : decode cX6_isSkipped 0 = .ok (.aload_n 0, 1) := by decide +kernel
theorem dX6_isSkipped_1 : decode cX6_isSkipped 1 = .ok (.iload_n 1, 1) := by decide +kernel
theorem dX6_isSkipped_2 : decode cX6_isSkipped 2 = .ok (.invokevirtual 148, 3) := by decide +kernel
theorem dX6_isSkipped_5 : decode cX6_isSkipped 5 = .ok (.aload_n 0, 1) := by decide +kernel
theorem dX6_isSkipped_6 : decode cX6_isSkipped 6 = .ok (.getfield 19, 3) := by decide +kernel
theorem dX6_isSkipped_9 : decode cX6_isSkipped 9 = .ok (.iload_n 1, 1) := by decide +kernel
theorem dX6_isSkipped_10 : decode cX6_isSkipped 10 = .ok (.invokevirtual 151, 3) := by decide +kernel
theorem dX6_isSkipped_13 : decode cX6_isSkipped 13 = .ok (.ireturn, 1) := by decide +kernel
set_option maxRecDepth 20000 in
theorem ggX6_named_X1_levelNamed : GoodIn wsX6_named wsX1_levelNamed := goodIn_r _ [8, 9, 10, 11, 12, 7, 13, 14, 15, 16, 17, 18, 19, 20, 21, 22, 29, 30, 31, 32] (by decide +kernel) (by decide +kernel)
set_option maxRecDepth 20000 in
theorem gX6_named_X1_levelNamed : GoodIn wsX6_named (wsV RX6 156 RX1 yX1_levelNamed wsX1_levelNamed) := goodIn_app (goodIn_of _ (by decide +kernel)) ggX6_named_X1_levelNamed
theorem dX6_named_0 : decode cX6_named 0 = .ok (.iload_n 2, 1) := by decide +kernel
theorem dX6_named_1 : decode cX6_named 1 = .ok (.ifCond .ge 13, 3) := by decide +kernel
theorem dX6_named_4 : decode cX6_named 4 = .ok (.new 41, 3) := by decide +kernel
theorem dX6_named_7 : decode cX6_named 7 = .ok (.dup, 1) := by decide +kernel
theorem dX6_named_8 : decode cX6_named 8 = .ok (.ldc 154, 2) := by decide +kernel
theorem dX6_named_10 : decode cX6_named 10 = .ok (.invokespecial 45, 3) := by decide +kernel
theorem dX6_named_13 : decode cX6_named 13 = .ok (.athrow, 1) := by decide +kernel
theorem dX6_named_14 : decode cX6_named 14 = .ok (.aload_n 0, 1) := by decide +kernel
theorem dX6_named_15 : decode cX6_named 15 = .ok (.getfield 19, 3) := by decide +kernel
theorem dX6_named_18 : decode cX6_named 18 = .ok (.iload_n 1, 1) := by decide +kernel
theorem dX6_named_19 : decode cX6_named 19 = .ok (.iload_n 2, 1) := by decide +kernel
theorem dX6_named_20 : decode cX6_named 20 = .ok (.invokevirtual 156, 3) := by decide +kernel
theorem dX6_named_23 : decode cX6_named 23 = .ok (.ireturn, 1) := by decide +kernel
set_option maxRecDepth 20000 in
theorem ggX6_add_X6_requireRoomFor : GoodIn wsX6_add wsX6_requireRoomFor := goodIn_ca (goodIn_ca (goodIn_ca (goodIn_r _ [7, 8, 9, 10, 11, 2, 12, 13, 14, 15, 16, 17, 18, 19, 20, 6, 21, 22, 23, 24, 25, 26, 27, 28, 29, 30, 87, 88, 89, 90, 91, 92, 93, 94, 95, 96] (by decide +kernel) (by decide +kernel)) (goodIn_sub (fun _ h => List.mem_cons_of_mem _ (List.mem_append_left _ (List.mem_append_left _ (List.mem_append_right _ h)))) (by decide +kernel))) (goodIn_sub (fun _ h => List.mem_cons_of_mem _ (List.mem_append_left _ (List.mem_append_right _ h))) (by decide +kernel))) (goodIn_sub (fun _ h => List.mem_cons_of_mem _ (List.mem_append_right _ h)) (by decide +kernel))
set_option maxRecDepth 20000 in
theorem gX6_add_X6_requireRoomFor : GoodIn wsX6_add (wsV RX6 159 RX6 yX6_requireRoomFor wsX6_requireRoomFor) := goodIn_app (goodIn_of _ (by decide +kernel)) ggX6_add_X6_requireRoomFor
set_option maxRecDepth 20000 in
theorem ggX6_add_X0_remember : GoodIn wsX6_add wsX0_remember := goodIn_r _ [35, 36, 37, 38, 39, 40, 41, 42, 43, 44, 45, 46, 47, 48, 49, 15, 50, 51, 52, 53, 54, 55, 17, 56, 57, 97, 98, 99, 93, 94, 95, 96] (by decide +kernel) (by decide +kernel)
set_option maxRecDepth 20000 in
theorem gX6_add_X0_remember : GoodIn wsX6_add (wsV RX6 163 RX0 yX0_remember wsX0_remember) := goodIn_app (goodIn_of _ (by decide +kernel)) ggX6_add_X0_remember
set_option maxRecDepth 20000 in
theorem ggX6_add_X1_insertLevel : GoodIn wsX6_add wsX1_insertLevel := goodIn_r _ [61, 17, 56, 25, 6, 26, 62, 28, 29, 15, 30, 63, 64, 65, 66, 51, 67, 68, 69, 70, 71, 72, 73, 74, 75, 76, 77, 78, 79, 80, 81, 82, 57, 83, 84, 85, 86, 93, 94, 95, 96] (by decide +kernel) (by decide +kernel)
set_option maxRecDepth 20000 in
theorem gX6_add_X1_insertLevel : GoodIn wsX6_add (wsV RX6 167 RX1 yX1_insertLevel wsX1_insertLevel) := goodIn_app (goodIn_of _ (by decide +kernel)) ggX6_add_X1_insertLevel
set_option maxRecDepth 20000 in
theorem ggX6_add_X1_levels : GoodIn wsX6_add wsX1_levels := goodIn_r _ [16, 17, 93, 94, 95, 96] (by decide +kernel) (by decide +kernel)
set_option maxRecDepth 20000 in
theorem gX6_add_X1_levels : GoodIn wsX6_add (wsV RX6 80 RX1 yX1_levels wsX1_levels) := goodIn_app (goodIn_of _ (by decide +kernel)) ggX6_add_X1_levels
theorem dX6_add_0 : decode cX6_add 0 = .ok (.aload_n 0, 1) := by decide +kernel
theorem dX6_add_1 : decode cX6_add 1 = .ok (.iload_n 1, 1) := by decide +kernel
theorem dX6_add_2 : decode cX6_add 2 = .ok (.iload_n 2, 1) := by decide +kernel
theorem dX6_add_3 : decode cX6_add 3 = .ok (.invokevirtual 159, 3) := by decide +kernel
theorem dX6_add_6 : decode cX6_add 6 = .ok (.aload_n 0, 1) := by decide +kernel
theorem dX6_add_7 : decode cX6_add 7 = .ok (.getfield 29, 3) := by decide +kernel
theorem dX6_add_10 : decode cX6_add 10 = .ok (.aload_n 0, 1) := by decide +kernel
theorem dX6_add_11 : decode cX6_add 11 = .ok (.getfield 19, 3) := by decide +kernel
theorem dX6_add_14 : decode cX6_add 14 = .ok (.invokevirtual 163, 3) := by decide +kernel
theorem dX6_add_17 : decode cX6_add 17 = .ok (.aload_n 0, 1) := by decide +kernel
theorem dX6_add_18 : decode cX6_add 18 = .ok (.getfield 19, 3) := by decide +kernel
theorem dX6_add_21 : decode cX6_add 21 = .ok (.iload_n 1, 1) := by decide +kernel
theorem dX6_add_22 : decode cX6_add 22 = .ok (.iload_n 2, 1) := by decide +kernel
theorem dX6_add_23 : decode cX6_add 23 = .ok (.invokevirtual 167, 3) := by decide +kernel
theorem dX6_add_26 : decode cX6_add 26 = .ok (.pop, 1) := by decide +kernel
theorem dX6_add_27 : decode cX6_add 27 = .ok (.aload_n 0, 1) := by decide +kernel
theorem dX6_add_28 : decode cX6_add 28 = .ok (.getfield 19, 3) := by decide +kernel
theorem dX6_add_31 : decode cX6_add 31 = .ok (.invokevirtual 80, 3) := by decide +kernel
theorem dX6_add_34 : decode cX6_add 34 = .ok (.ireturn, 1) := by decide +kernel
set_option maxRecDepth 20000 in
theorem ggX6_remove_X6_requireLevel : GoodIn wsX6_remove wsX6_requireLevel := goodIn_ca (goodIn_r _ [9, 10, 11, 3, 12, 13, 14, 15, 16, 17, 78, 79, 80, 81, 82, 83, 84, 85, 86, 87] (by decide +kernel) (by decide +kernel)) (goodIn_sub (fun _ h => List.mem_cons_of_mem _ (List.mem_append_right _ h)) (by decide +kernel))
set_option maxRecDepth 20000 in
theorem gX6_remove_X6_requireLevel : GoodIn wsX6_remove (wsV RX6 109 RX6 yX6_requireLevel wsX6_requireLevel) := goodIn_app (goodIn_of _ (by decide +kernel)) ggX6_remove_X6_requireLevel
set_option maxRecDepth 20000 in
theorem ggX6_remove_X1_groundLevel : GoodIn wsX6_remove wsX1_groundLevel := goodIn_r _ [21, 22, 84, 85, 86, 87] (by decide +kernel) (by decide +kernel)
set_option maxRecDepth 20000 in
theorem gX6_remove_X1_groundLevel : GoodIn wsX6_remove (wsV RX6 83 RX1 yX1_groundLevel wsX1_groundLevel) := goodIn_app (goodIn_of _ (by decide +kernel)) ggX6_remove_X1_groundLevel
set_option maxRecDepth 20000 in
theorem ggX6_remove_X0_remember : GoodIn wsX6_remove wsX0_remember := goodIn_r _ [27, 28, 29, 30, 31, 32, 33, 34, 35, 36, 37, 38, 39, 40, 41, 15, 42, 43, 44, 45, 46, 47, 17, 22, 48, 88, 89, 90, 84, 85, 86, 87] (by decide +kernel) (by decide +kernel)
set_option maxRecDepth 20000 in
theorem gX6_remove_X0_remember : GoodIn wsX6_remove (wsV RX6 163 RX0 yX0_remember wsX0_remember) := goodIn_app (goodIn_of _ (by decide +kernel)) ggX6_remove_X0_remember
set_option maxRecDepth 20000 in
theorem ggX6_remove_X1_deleteLevel : GoodIn wsX6_remove wsX1_deleteLevel := goodIn_r _ [52, 22, 17, 53, 13, 14, 15, 16, 54, 55, 56, 57, 43, 58, 59, 60, 61, 62, 63, 64, 65, 66, 67, 68, 69, 48, 70, 71, 72, 73, 84, 85, 86, 87] (by decide +kernel) (by decide +kernel)
set_option maxRecDepth 20000 in
theorem gX6_remove_X1_deleteLevel : GoodIn wsX6_remove (wsV RX6 172 RX1 yX1_deleteLevel wsX1_deleteLevel) := goodIn_app (goodIn_of _ (by decide +kernel)) ggX6_remove_X1_deleteLevel
set_option maxRecDepth 20000 in
theorem ggX6_remove_X1_levels : GoodIn wsX6_remove wsX1_levels := goodIn_r _ [77, 17, 84, 85, 86, 87] (by decide +kernel) (by decide +kernel)
set_option maxRecDepth 20000 in
theorem gX6_remove_X1_levels : GoodIn wsX6_remove (wsV RX6 80 RX1 yX1_levels wsX1_levels) := goodIn_app (goodIn_of _ (by decide +kernel)) ggX6_remove_X1_levels
theorem dX6_remove_0 : decode cX6_remove 0 = .ok (.aload_n 0, 1) := by decide +kernel
theorem dX6_remove_1 : decode cX6_remove 1 = .ok (.iload_n 1, 1) := by decide +kernel
theorem dX6_remove_2 : decode cX6_remove 2 = .ok (.invokevirtual 109, 3) := by decide +kernel
theorem dX6_remove_5 : decode cX6_remove 5 = .ok (.iload_n 1, 1) := by decide +kernel
theorem dX6_remove_6 : decode cX6_remove 6 = .ok (.aload_n 0, 1) := by decide +kernel
theorem dX6_remove_7 : decode cX6_remove 7 = .ok (.getfield 19, 3) := by decide +kernel
theorem dX6_remove_10 : decode cX6_remove 10 = .ok (.invokevirtual 83, 3) := by decide +kernel
theorem dX6_remove_13 : decode cX6_remove 13 = .ok (.if_icmp .ne 13, 3) := by decide +kernel
theorem dX6_remove_16 : decode cX6_remove 16 = .ok (.new 52, 3) := by decide +kernel
theorem dX6_remove_19 : decode cX6_remove 19 = .ok (.dup, 1) := by decide +kernel
theorem dX6_remove_20 : decode cX6_remove 20 = .ok (.ldc 170, 2) := by decide +kernel
theorem dX6_remove_22 : decode cX6_remove 22 = .ok (.invokespecial 56, 3) := by decide +kernel
theorem dX6_remove_25 : decode cX6_remove 25 = .ok (.athrow, 1) := by decide +kernel
theorem dX6_remove_26 : decode cX6_remove 26 = .ok (.aload_n 0, 1) := by decide +kernel
theorem dX6_remove_27 : decode cX6_remove 27 = .ok (.getfield 29, 3) := by decide +kernel
theorem dX6_remove_30 : decode cX6_remove 30 = .ok (.aload_n 0, 1) := by decide +kernel
theorem dX6_remove_31 : decode cX6_remove 31 = .ok (.getfield 19, 3) := by decide +kernel
theorem dX6_remove_34 : decode cX6_remove 34 = .ok (.invokevirtual 163, 3) := by decide +kernel
theorem dX6_remove_37 : decode cX6_remove 37 = .ok (.aload_n 0, 1) := by decide +kernel
theorem dX6_remove_38 : decode cX6_remove 38 = .ok (.getfield 19, 3) := by decide +kernel
theorem dX6_remove_41 : decode cX6_remove 41 = .ok (.iload_n 1, 1) := by decide +kernel
theorem dX6_remove_42 : decode cX6_remove 42 = .ok (.invokevirtual 172, 3) := by decide +kernel
theorem dX6_remove_45 : decode cX6_remove 45 = .ok (.pop, 1) := by decide +kernel
theorem dX6_remove_46 : decode cX6_remove 46 = .ok (.aload_n 0, 1) := by decide +kernel
theorem dX6_remove_47 : decode cX6_remove 47 = .ok (.getfield 19, 3) := by decide +kernel
theorem dX6_remove_50 : decode cX6_remove 50 = .ok (.invokevirtual 80, 3) := by decide +kernel
theorem dX6_remove_53 : decode cX6_remove 53 = .ok (.ireturn, 1) := by decide +kernel
set_option maxRecDepth 20000 in
theorem ggX6_kind_X6_requireLevel : GoodIn wsX6_kind wsX6_requireLevel := goodIn_ca (goodIn_r _ [9, 10, 11, 3, 12, 13, 14, 15, 16, 17, 87, 88, 89, 90, 91, 92, 93, 94, 95, 96] (by decide +kernel) (by decide +kernel)) (goodIn_sub (fun _ h => List.mem_cons_of_mem _ (List.mem_append_left _ (List.mem_append_right _ h))) (by decide +kernel))
set_option maxRecDepth 20000 in
theorem gX6_kind_X6_requireLevel : GoodIn wsX6_kind (wsV RX6 109 RX6 yX6_requireLevel wsX6_requireLevel) := goodIn_app (goodIn_of _ (by decide +kernel)) ggX6_kind_X6_requireLevel
set_option maxRecDepth 20000 in
theorem ggX6_kind_X6_requireKind : GoodIn wsX6_kind wsX6_requireKind := goodIn_ca (goodIn_r _ [21, 22, 23, 24, 25, 8, 26] (by decide +kernel) (by decide +kernel)) (goodIn_sub (fun _ h => List.mem_cons_of_mem _ (List.mem_append_right _ h)) (by decide +kernel))
set_option maxRecDepth 20000 in
theorem gX6_kind_X6_requireKind : GoodIn wsX6_kind (wsV RX6 175 RX6 yX6_requireKind wsX6_requireKind) := goodIn_app (goodIn_of _ (by decide +kernel)) ggX6_kind_X6_requireKind
set_option maxRecDepth 20000 in
theorem ggX6_kind_X1_groundLevel : GoodIn wsX6_kind wsX1_groundLevel := goodIn_r _ [30, 31, 93, 94, 95, 96] (by decide +kernel) (by decide +kernel)
set_option maxRecDepth 20000 in
theorem gX6_kind_X1_groundLevel : GoodIn wsX6_kind (wsV RX6 83 RX1 yX1_groundLevel wsX1_groundLevel) := goodIn_app (goodIn_of _ (by decide +kernel)) ggX6_kind_X1_groundLevel
set_option maxRecDepth 20000 in
theorem ggX6_kind_X0_remember : GoodIn wsX6_kind wsX0_remember := goodIn_r _ [36, 37, 38, 39, 40, 41, 42, 43, 44, 45, 46, 47, 48, 49, 50, 15, 51, 52, 53, 54, 55, 56, 17, 31, 57, 97, 98, 99, 93, 94, 95, 96] (by decide +kernel) (by decide +kernel)
set_option maxRecDepth 20000 in
theorem gX6_kind_X0_remember : GoodIn wsX6_kind (wsV RX6 163 RX0 yX0_remember wsX0_remember) := goodIn_app (goodIn_of _ (by decide +kernel)) ggX6_kind_X0_remember
set_option maxRecDepth 20000 in
theorem ggX6_kind_X1_kindOf : GoodIn wsX6_kind wsX1_kindOf := goodIn_r _ [61, 62, 63, 64, 15, 65, 52, 93, 94, 95, 96] (by decide +kernel) (by decide +kernel)
set_option maxRecDepth 20000 in
theorem gX6_kind_X1_kindOf : GoodIn wsX6_kind (wsV RX6 113 RX1 yX1_kindOf wsX1_kindOf) := goodIn_app (goodIn_of _ (by decide +kernel)) ggX6_kind_X1_kindOf
set_option maxRecDepth 20000 in
theorem ggX6_kind_X1_changeKind : GoodIn wsX6_kind wsX1_changeKind := goodIn_r _ [69, 31, 70, 13, 14, 15, 16, 17, 25, 8, 26, 71, 72, 73, 74, 52, 75, 76, 77, 78, 62, 63, 64, 65, 79, 80, 81, 82, 57, 83, 84, 85, 86, 93, 94, 95, 96] (by decide +kernel) (by decide +kernel)
set_option maxRecDepth 20000 in
theorem gX6_kind_X1_changeKind : GoodIn wsX6_kind (wsV RX6 180 RX1 yX1_changeKind wsX1_changeKind) := goodIn_app (goodIn_of _ (by decide +kernel)) ggX6_kind_X1_changeKind
theorem dX6_kind_0 : decode cX6_kind 0 = .ok (.aload_n 0, 1) := by decide +kernel
theorem dX6_kind_1 : decode cX6_kind 1 = .ok (.iload_n 1, 1) := by decide +kernel
theorem dX6_kind_2 : decode cX6_kind 2 = .ok (.invokevirtual 109, 3) := by decide +kernel
theorem dX6_kind_5 : decode cX6_kind 5 = .ok (.aload_n 0, 1) := by decide +kernel
theorem dX6_kind_6 : decode cX6_kind 6 = .ok (.iload_n 2, 1) := by decide +kernel
theorem dX6_kind_7 : decode cX6_kind 7 = .ok (.invokevirtual 175, 3) := by decide +kernel
theorem dX6_kind_10 : decode cX6_kind 10 = .ok (.iload_n 1, 1) := by decide +kernel
theorem dX6_kind_11 : decode cX6_kind 11 = .ok (.aload_n 0, 1) := by decide +kernel
theorem dX6_kind_12 : decode cX6_kind 12 = .ok (.getfield 19, 3) := by decide +kernel
theorem dX6_kind_15 : decode cX6_kind 15 = .ok (.invokevirtual 83, 3) := by decide +kernel
theorem dX6_kind_18 : decode cX6_kind 18 = .ok (.if_icmp .ne 17, 3) := by decide +kernel
theorem dX6_kind_21 : decode cX6_kind 21 = .ok (.iload_n 2, 1) := by decide +kernel
theorem dX6_kind_22 : decode cX6_kind 22 = .ok (.ifCond .eq 13, 3) := by decide +kernel
theorem dX6_kind_25 : decode cX6_kind 25 = .ok (.new 52, 3) := by decide +kernel
theorem dX6_kind_28 : decode cX6_kind 28 = .ok (.dup, 1) := by decide +kernel
theorem dX6_kind_29 : decode cX6_kind 29 = .ok (.ldc 178, 2) := by decide +kernel
theorem dX6_kind_31 : decode cX6_kind 31 = .ok (.invokespecial 56, 3) := by decide +kernel
theorem dX6_kind_34 : decode cX6_kind 34 = .ok (.athrow, 1) := by decide +kernel
theorem dX6_kind_35 : decode cX6_kind 35 = .ok (.aload_n 0, 1) := by decide +kernel
theorem dX6_kind_36 : decode cX6_kind 36 = .ok (.getfield 29, 3) := by decide +kernel
theorem dX6_kind_39 : decode cX6_kind 39 = .ok (.aload_n 0, 1) := by decide +kernel
theorem dX6_kind_40 : decode cX6_kind 40 = .ok (.getfield 19, 3) := by decide +kernel
theorem dX6_kind_43 : decode cX6_kind 43 = .ok (.invokevirtual 163, 3) := by decide +kernel
theorem dX6_kind_46 : decode cX6_kind 46 = .ok (.aload_n 0, 1) := by decide +kernel
theorem dX6_kind_47 : decode cX6_kind 47 = .ok (.getfield 19, 3) := by decide +kernel
theorem dX6_kind_50 : decode cX6_kind 50 = .ok (.iload_n 1, 1) := by decide +kernel
theorem dX6_kind_51 : decode cX6_kind 51 = .ok (.invokevirtual 113, 3) := by decide +kernel
theorem dX6_kind_54 : decode cX6_kind 54 = .ok (.istore_n 3, 1) := by decide +kernel
theorem dX6_kind_55 : decode cX6_kind 55 = .ok (.aload_n 0, 1) := by decide +kernel
theorem dX6_kind_56 : decode cX6_kind 56 = .ok (.getfield 19, 3) := by decide +kernel
theorem dX6_kind_59 : decode cX6_kind 59 = .ok (.iload_n 1, 1) := by decide +kernel
theorem dX6_kind_60 : decode cX6_kind 60 = .ok (.iload_n 2, 1) := by decide +kernel
theorem dX6_kind_61 : decode cX6_kind 61 = .ok (.invokevirtual 180, 3) := by decide +kernel
theorem dX6_kind_64 : decode cX6_kind 64 = .ok (.pop, 1) := by decide +kernel
theorem dX6_kind_65 : decode cX6_kind 65 = .ok (.iload_n 3, 1) := by decide +kernel
theorem dX6_kind_66 : decode cX6_kind 66 = .ok (.ireturn, 1) := by decide +kernel
set_option maxRecDepth 20000 in
theorem ggX6_ground_X6_requireLevel : GoodIn wsX6_ground wsX6_requireLevel := goodIn_ca (goodIn_r _ [9, 10, 11, 3, 12, 13, 14, 15, 16, 17, 79, 80, 81, 82, 83, 84, 85, 86, 87, 88] (by decide +kernel) (by decide +kernel)) (goodIn_sub (fun _ h => List.mem_cons_of_mem _ (List.mem_append_right _ h)) (by decide +kernel))
set_option maxRecDepth 20000 in
theorem gX6_ground_X6_requireLevel : GoodIn wsX6_ground (wsV RX6 109 RX6 yX6_requireLevel wsX6_requireLevel) := goodIn_app (goodIn_of _ (by decide +kernel)) ggX6_ground_X6_requireLevel
set_option maxRecDepth 20000 in
theorem ggX6_ground_X1_kindOf : GoodIn wsX6_ground wsX1_kindOf := goodIn_r _ [21, 22, 23, 24, 15, 25, 26, 85, 86, 87, 88] (by decide +kernel) (by decide +kernel)
set_option maxRecDepth 20000 in
theorem gX6_ground_X1_kindOf : GoodIn wsX6_ground (wsV RX6 113 RX1 yX1_kindOf wsX1_kindOf) := goodIn_app (goodIn_of _ (by decide +kernel)) ggX6_ground_X1_kindOf
set_option maxRecDepth 20000 in
theorem ggX6_ground_X0_remember : GoodIn wsX6_ground wsX0_remember := goodIn_r _ [31, 32, 33, 34, 35, 36, 37, 38, 39, 40, 41, 42, 43, 44, 45, 15, 46, 26, 47, 48, 49, 50, 17, 51, 52, 89, 90, 91, 85, 86, 87, 88] (by decide +kernel) (by decide +kernel)
set_option maxRecDepth 20000 in
theorem gX6_ground_X0_remember : GoodIn wsX6_ground (wsV RX6 163 RX0 yX0_remember wsX0_remember) := goodIn_app (goodIn_of _ (by decide +kernel)) ggX6_ground_X0_remember
set_option maxRecDepth 20000 in
theorem ggX6_ground_X1_groundLevel : GoodIn wsX6_ground wsX1_groundLevel := goodIn_r _ [56, 51, 85, 86, 87, 88] (by decide +kernel) (by decide +kernel)
set_option maxRecDepth 20000 in
theorem gX6_ground_X1_groundLevel : GoodIn wsX6_ground (wsV RX6 83 RX1 yX1_groundLevel wsX1_groundLevel) := goodIn_app (goodIn_of _ (by decide +kernel)) ggX6_ground_X1_groundLevel
set_option maxRecDepth 20000 in
theorem ggX6_ground_X1_moveGround : GoodIn wsX6_ground wsX1_moveGround := goodIn_r _ [60, 51, 61, 13, 14, 15, 16, 17, 62, 19, 20, 21, 22, 23, 24, 25, 26, 63, 64, 65, 66, 67, 68, 69, 70, 71, 72, 73, 74, 52, 75, 76, 77, 78, 85, 86, 87, 88] (by decide +kernel) (by decide +kernel)
set_option maxRecDepth 20000 in
theorem gX6_ground_X1_moveGround : GoodIn wsX6_ground (wsV RX6 185 RX1 yX1_moveGround wsX1_moveGround) := goodIn_app (goodIn_of _ (by decide +kernel)) ggX6_ground_X1_moveGround
theorem dX6_ground_0 : decode cX6_ground 0 = .ok (.aload_n 0, 1) := by decide +kernel
theorem dX6_ground_1 : decode cX6_ground 1 = .ok (.iload_n 1, 1) := by decide +kernel
theorem dX6_ground_2 : decode cX6_ground 2 = .ok (.invokevirtual 109, 3) := by decide +kernel
theorem dX6_ground_5 : decode cX6_ground 5 = .ok (.aload_n 0, 1) := by decide +kernel
theorem dX6_ground_6 : decode cX6_ground 6 = .ok (.getfield 19, 3) := by decide +kernel
theorem dX6_ground_9 : decode cX6_ground 9 = .ok (.iload_n 1, 1) := by decide +kernel
theorem dX6_ground_10 : decode cX6_ground 10 = .ok (.invokevirtual 113, 3) := by decide +kernel
theorem dX6_ground_13 : decode cX6_ground 13 = .ok (.ifCond .eq 13, 3) := by decide +kernel
theorem dX6_ground_16 : decode cX6_ground 16 = .ok (.new 52, 3) := by decide +kernel
theorem dX6_ground_19 : decode cX6_ground 19 = .ok (.dup, 1) := by decide +kernel
theorem dX6_ground_20 : decode cX6_ground 20 = .ok (.ldc 183, 2) := by decide +kernel
theorem dX6_ground_22 : decode cX6_ground 22 = .ok (.invokespecial 56, 3) := by decide +kernel
theorem dX6_ground_25 : decode cX6_ground 25 = .ok (.athrow, 1) := by decide +kernel
theorem dX6_ground_26 : decode cX6_ground 26 = .ok (.aload_n 0, 1) := by decide +kernel
theorem dX6_ground_27 : decode cX6_ground 27 = .ok (.getfield 29, 3) := by decide +kernel
theorem dX6_ground_30 : decode cX6_ground 30 = .ok (.aload_n 0, 1) := by decide +kernel
theorem dX6_ground_31 : decode cX6_ground 31 = .ok (.getfield 19, 3) := by decide +kernel
theorem dX6_ground_34 : decode cX6_ground 34 = .ok (.invokevirtual 163, 3) := by decide +kernel
theorem dX6_ground_37 : decode cX6_ground 37 = .ok (.aload_n 0, 1) := by decide +kernel
theorem dX6_ground_38 : decode cX6_ground 38 = .ok (.getfield 19, 3) := by decide +kernel
theorem dX6_ground_41 : decode cX6_ground 41 = .ok (.invokevirtual 83, 3) := by decide +kernel
theorem dX6_ground_44 : decode cX6_ground 44 = .ok (.istore_n 2, 1) := by decide +kernel
theorem dX6_ground_45 : decode cX6_ground 45 = .ok (.aload_n 0, 1) := by decide +kernel
theorem dX6_ground_46 : decode cX6_ground 46 = .ok (.getfield 19, 3) := by decide +kernel
theorem dX6_ground_49 : decode cX6_ground 49 = .ok (.iload_n 1, 1) := by decide +kernel
theorem dX6_ground_50 : decode cX6_ground 50 = .ok (.invokevirtual 185, 3) := by decide +kernel
theorem dX6_ground_53 : decode cX6_ground 53 = .ok (.iload_n 2, 1) := by decide +kernel
theorem dX6_ground_54 : decode cX6_ground 54 = .ok (.ireturn, 1) := by decide +kernel
set_option maxRecDepth 20000 in
theorem ggX6_skip_X6_requireStorey : GoodIn wsX6_skip wsX6_requireStorey := goodIn_ca (goodIn_r _ [7, 8, 9, 10, 11, 6, 12] (by decide +kernel) (by decide +kernel)) (goodIn_sub (fun _ h => List.mem_cons_of_mem _ (List.mem_append_right _ h)) (by decide +kernel))
set_option maxRecDepth 20000 in
theorem gX6_skip_X6_requireStorey : GoodIn wsX6_skip (wsV RX6 148 RX6 yX6_requireStorey wsX6_requireStorey) := goodIn_app (goodIn_of _ (by decide +kernel)) ggX6_skip_X6_requireStorey
set_option maxRecDepth 20000 in
theorem ggX6_skip_X0_remember : GoodIn wsX6_skip wsX0_remember := goodIn_r _ [17, 18, 19, 20, 21, 22, 23, 24, 25, 26, 27, 28, 29, 30, 31, 32, 33, 34, 35, 36, 37, 38, 39, 40, 41, 83, 84, 85, 86, 87, 88, 89] (by decide +kernel) (by decide +kernel)
set_option maxRecDepth 20000 in
theorem gX6_skip_X0_remember : GoodIn wsX6_skip (wsV RX6 163 RX0 yX0_remember wsX0_remember) := goodIn_app (goodIn_of _ (by decide +kernel)) ggX6_skip_X0_remember
set_option maxRecDepth 20000 in
theorem ggX6_skip_X1_changeSkip : GoodIn wsX6_skip wsX1_changeSkip := goodIn_r _ [45, 41, 11, 6, 12, 46, 47, 48, 32, 49, 40, 39, 50, 51, 52, 53, 34, 54, 55, 56, 57, 58, 59, 60, 61, 62, 63, 64, 65, 86, 87, 88, 89] (by decide +kernel) (by decide +kernel)
set_option maxRecDepth 20000 in
theorem gX6_skip_X1_changeSkip : GoodIn wsX6_skip (wsV RX6 188 RX1 yX1_changeSkip wsX1_changeSkip) := goodIn_app (goodIn_of _ (by decide +kernel)) ggX6_skip_X1_changeSkip
set_option maxRecDepth 20000 in
theorem ggX6_skip_X1_skippedStoreys : GoodIn wsX6_skip wsX1_skippedStoreys := goodIn_r _ [69, 41, 70, 71, 72, 73, 74, 75, 76, 86, 87, 88, 89] (by decide +kernel) (by decide +kernel)
set_option maxRecDepth 20000 in
theorem gX6_skip_X1_skippedStoreys : GoodIn wsX6_skip (wsV RX6 98 RX1 yX1_skippedStoreys wsX1_skippedStoreys) := goodIn_app (goodIn_of _ (by decide +kernel)) ggX6_skip_X1_skippedStoreys
theorem dX6_skip_0 : decode cX6_skip 0 = .ok (.aload_n 0, 1) := by decide +kernel
theorem dX6_skip_1 : decode cX6_skip 1 = .ok (.iload_n 1, 1) := by decide +kernel
theorem dX6_skip_2 : decode cX6_skip 2 = .ok (.invokevirtual 148, 3) := by decide +kernel
theorem dX6_skip_5 : decode cX6_skip 5 = .ok (.aload_n 0, 1) := by decide +kernel
theorem dX6_skip_6 : decode cX6_skip 6 = .ok (.getfield 29, 3) := by decide +kernel
theorem dX6_skip_9 : decode cX6_skip 9 = .ok (.aload_n 0, 1) := by decide +kernel
theorem dX6_skip_10 : decode cX6_skip 10 = .ok (.getfield 19, 3) := by decide +kernel
theorem dX6_skip_13 : decode cX6_skip 13 = .ok (.invokevirtual 163, 3) := by decide +kernel
theorem dX6_skip_16 : decode cX6_skip 16 = .ok (.aload_n 0, 1) := by decide +kernel
theorem dX6_skip_17 : decode cX6_skip 17 = .ok (.getfield 19, 3) := by decide +kernel
theorem dX6_skip_20 : decode cX6_skip 20 = .ok (.iload_n 1, 1) := by decide +kernel
theorem dX6_skip_21 : decode cX6_skip 21 = .ok (.iload_n 2, 1) := by decide +kernel
theorem dX6_skip_22 : decode cX6_skip 22 = .ok (.invokevirtual 188, 3) := by decide +kernel
theorem dX6_skip_25 : decode cX6_skip 25 = .ok (.pop, 1) := by decide +kernel
theorem dX6_skip_26 : decode cX6_skip 26 = .ok (.aload_n 0, 1) := by decide +kernel
theorem dX6_skip_27 : decode cX6_skip 27 = .ok (.getfield 19, 3) := by decide +kernel
theorem dX6_skip_30 : decode cX6_skip 30 = .ok (.invokevirtual 98, 3) := by decide +kernel
theorem dX6_skip_33 : decode cX6_skip 33 = .ok (.ireturn, 1) := by decide +kernel
set_option maxRecDepth 20000 in
theorem ggX6_serve_X6_requireCar : GoodIn wsX6_serve wsX6_requireCar := goodIn_ca (goodIn_r _ [7, 8, 9, 10, 11, 6, 12] (by decide +kernel) (by decide +kernel)) (goodIn_sub (fun _ h => List.mem_cons_of_mem _ (List.mem_append_right _ h)) (by decide +kernel))
set_option maxRecDepth 20000 in
theorem gX6_serve_X6_requireCar : GoodIn wsX6_serve (wsV RX6 132 RX6 yX6_requireCar wsX6_requireCar) := goodIn_app (goodIn_of _ (by decide +kernel)) ggX6_serve_X6_requireCar
set_option maxRecDepth 20000 in
theorem ggX6_serve_X6_requireLevel : GoodIn wsX6_serve wsX6_requireLevel := goodIn_ca (goodIn_r _ [16, 8, 9, 2, 17, 18, 19, 20, 21, 22, 71, 72, 73, 74, 75, 76, 77, 78, 79, 80] (by decide +kernel) (by decide +kernel)) (goodIn_sub (fun _ h => List.mem_cons_of_mem _ (List.mem_append_right _ h)) (by decide +kernel))
set_option maxRecDepth 20000 in
theorem gX6_serve_X6_requireLevel : GoodIn wsX6_serve (wsV RX6 109 RX6 yX6_requireLevel wsX6_requireLevel) := goodIn_app (goodIn_of _ (by decide +kernel)) ggX6_serve_X6_requireLevel
set_option maxRecDepth 20000 in
theorem ggX6_serve_X0_remember : GoodIn wsX6_serve wsX0_remember := goodIn_r _ [27, 28, 29, 30, 31, 32, 33, 34, 35, 36, 37, 38, 39, 40, 41, 20, 42, 43, 44, 45, 46, 47, 22, 48, 49, 81, 82, 83, 77, 78, 79, 80] (by decide +kernel) (by decide +kernel)
set_option maxRecDepth 20000 in
theorem gX6_serve_X0_remember : GoodIn wsX6_serve (wsV RX6 163 RX0 yX0_remember wsX0_remember) := goodIn_app (goodIn_of _ (by decide +kernel)) ggX6_serve_X0_remember
set_option maxRecDepth 20000 in
theorem ggX6_serve_X1_changeService : GoodIn wsX6_serve wsX1_changeService := goodIn_r _ [53, 11, 6, 12, 54, 18, 19, 20, 21, 22, 55, 56, 57, 58, 43, 77, 78, 79, 80] (by decide +kernel) (by decide +kernel)
set_option maxRecDepth 20000 in
theorem gX6_serve_X1_changeService : GoodIn wsX6_serve (wsV RX6 192 RX1 yX1_changeService wsX1_changeService) := goodIn_app (goodIn_of _ (by decide +kernel)) ggX6_serve_X1_changeService
set_option maxRecDepth 20000 in
theorem ggX6_serve_X1_servedLevels : GoodIn wsX6_serve wsX1_servedLevels := goodIn_r _ [62, 22, 63, 64, 65, 20, 66, 67, 68, 69, 70, 43, 77, 78, 79, 80] (by decide +kernel) (by decide +kernel)
set_option maxRecDepth 20000 in
theorem gX6_serve_X1_servedLevels : GoodIn wsX6_serve (wsV RX6 196 RX1 yX1_servedLevels wsX1_servedLevels) := goodIn_app (goodIn_of _ (by decide +kernel)) ggX6_serve_X1_servedLevels
theorem dX6_serve_0 : decode cX6_serve 0 = .ok (.aload_n 0, 1) := by decide +kernel
theorem dX6_serve_1 : decode cX6_serve 1 = .ok (.iload_n 1, 1) := by decide +kernel
theorem dX6_serve_2 : decode cX6_serve 2 = .ok (.invokevirtual 132, 3) := by decide +kernel
theorem dX6_serve_5 : decode cX6_serve 5 = .ok (.aload_n 0, 1) := by decide +kernel
theorem dX6_serve_6 : decode cX6_serve 6 = .ok (.iload_n 2, 1) := by decide +kernel
theorem dX6_serve_7 : decode cX6_serve 7 = .ok (.invokevirtual 109, 3) := by decide +kernel
theorem dX6_serve_10 : decode cX6_serve 10 = .ok (.aload_n 0, 1) := by decide +kernel
theorem dX6_serve_11 : decode cX6_serve 11 = .ok (.getfield 29, 3) := by decide +kernel
theorem dX6_serve_14 : decode cX6_serve 14 = .ok (.aload_n 0, 1) := by decide +kernel
theorem dX6_serve_15 : decode cX6_serve 15 = .ok (.getfield 19, 3) := by decide +kernel
theorem dX6_serve_18 : decode cX6_serve 18 = .ok (.invokevirtual 163, 3) := by decide +kernel
theorem dX6_serve_21 : decode cX6_serve 21 = .ok (.aload_n 0, 1) := by decide +kernel
theorem dX6_serve_22 : decode cX6_serve 22 = .ok (.getfield 19, 3) := by decide +kernel
theorem dX6_serve_25 : decode cX6_serve 25 = .ok (.iload_n 1, 1) := by decide +kernel
theorem dX6_serve_26 : decode cX6_serve 26 = .ok (.iload_n 2, 1) := by decide +kernel
theorem dX6_serve_27 : decode cX6_serve 27 = .ok (.iload_n 3, 1) := by decide +kernel
theorem dX6_serve_28 : decode cX6_serve 28 = .ok (.invokevirtual 192, 3) := by decide +kernel
theorem dX6_serve_31 : decode cX6_serve 31 = .ok (.aload_n 0, 1) := by decide +kernel
theorem dX6_serve_32 : decode cX6_serve 32 = .ok (.getfield 19, 3) := by decide +kernel
theorem dX6_serve_35 : decode cX6_serve 35 = .ok (.iload_n 1, 1) := by decide +kernel
theorem dX6_serve_36 : decode cX6_serve 36 = .ok (.invokevirtual 196, 3) := by decide +kernel
theorem dX6_serve_39 : decode cX6_serve 39 = .ok (.ireturn, 1) := by decide +kernel
set_option maxRecDepth 20000 in
theorem ggX6_putSign_X6_requireLevel : GoodIn wsX6_putSign wsX6_requireLevel := goodIn_ca (goodIn_r _ [7, 8, 9, 2, 10, 11, 12, 13, 14, 15, 60, 61, 62, 63, 64, 65, 66, 67, 68, 69] (by decide +kernel) (by decide +kernel)) (goodIn_sub (fun _ h => List.mem_cons_of_mem _ (List.mem_append_right _ h)) (by decide +kernel))
set_option maxRecDepth 20000 in
theorem gX6_putSign_X6_requireLevel : GoodIn wsX6_putSign (wsV RX6 109 RX6 yX6_requireLevel wsX6_requireLevel) := goodIn_app (goodIn_of _ (by decide +kernel)) ggX6_putSign_X6_requireLevel
set_option maxRecDepth 20000 in
theorem ggX6_putSign_X0_remember : GoodIn wsX6_putSign wsX0_remember := goodIn_r _ [20, 21, 22, 23, 24, 25, 26, 27, 28, 29, 30, 31, 32, 33, 34, 13, 35, 36, 37, 38, 39, 40, 15, 41, 42, 70, 71, 72, 66, 67, 68, 69] (by decide +kernel) (by decide +kernel)
set_option maxRecDepth 20000 in
theorem gX6_putSign_X0_remember : GoodIn wsX6_putSign (wsV RX6 163 RX0 yX0_remember wsX0_remember) := goodIn_app (goodIn_of _ (by decide +kernel)) ggX6_putSign_X0_remember
set_option maxRecDepth 20000 in
theorem ggX6_putSign_X1_signAt : GoodIn wsX6_putSign wsX1_signAt := goodIn_r _ [46, 47, 48, 49, 13, 50, 36, 66, 67, 68, 69] (by decide +kernel) (by decide +kernel)
set_option maxRecDepth 20000 in
theorem gX6_putSign_X1_signAt : GoodIn wsX6_putSign (wsV RX6 120 RX1 yX1_signAt wsX1_signAt) := goodIn_app (goodIn_of _ (by decide +kernel)) ggX6_putSign_X1_signAt
set_option maxRecDepth 20000 in
theorem ggX6_putSign_X1_correctSign : GoodIn wsX6_putSign wsX1_correctSign := goodIn_r _ [54, 55, 11, 12, 13, 14, 15, 47, 48, 49, 50, 36, 56, 57, 58, 59, 66, 67, 68, 69] (by decide +kernel) (by decide +kernel)
set_option maxRecDepth 20000 in
theorem gX6_putSign_X1_correctSign : GoodIn wsX6_putSign (wsV RX6 199 RX1 yX1_correctSign wsX1_correctSign) := goodIn_app (goodIn_of _ (by decide +kernel)) ggX6_putSign_X1_correctSign
theorem dX6_putSign_0 : decode cX6_putSign 0 = .ok (.aload_n 0, 1) := by decide +kernel
theorem dX6_putSign_1 : decode cX6_putSign 1 = .ok (.iload_n 1, 1) := by decide +kernel
theorem dX6_putSign_2 : decode cX6_putSign 2 = .ok (.invokevirtual 109, 3) := by decide +kernel
theorem dX6_putSign_5 : decode cX6_putSign 5 = .ok (.aload_n 0, 1) := by decide +kernel
theorem dX6_putSign_6 : decode cX6_putSign 6 = .ok (.getfield 29, 3) := by decide +kernel
theorem dX6_putSign_9 : decode cX6_putSign 9 = .ok (.aload_n 0, 1) := by decide +kernel
theorem dX6_putSign_10 : decode cX6_putSign 10 = .ok (.getfield 19, 3) := by decide +kernel
theorem dX6_putSign_13 : decode cX6_putSign 13 = .ok (.invokevirtual 163, 3) := by decide +kernel
theorem dX6_putSign_16 : decode cX6_putSign 16 = .ok (.aload_n 0, 1) := by decide +kernel
theorem dX6_putSign_17 : decode cX6_putSign 17 = .ok (.getfield 19, 3) := by decide +kernel
theorem dX6_putSign_20 : decode cX6_putSign 20 = .ok (.iload_n 1, 1) := by decide +kernel
theorem dX6_putSign_21 : decode cX6_putSign 21 = .ok (.invokevirtual 120, 3) := by decide +kernel
theorem dX6_putSign_24 : decode cX6_putSign 24 = .ok (.istore_n 2, 1) := by decide +kernel
theorem dX6_putSign_25 : decode cX6_putSign 25 = .ok (.aload_n 0, 1) := by decide +kernel
theorem dX6_putSign_26 : decode cX6_putSign 26 = .ok (.getfield 19, 3) := by decide +kernel
theorem dX6_putSign_29 : decode cX6_putSign 29 = .ok (.iload_n 1, 1) := by decide +kernel
theorem dX6_putSign_30 : decode cX6_putSign 30 = .ok (.invokevirtual 199, 3) := by decide +kernel
theorem dX6_putSign_33 : decode cX6_putSign 33 = .ok (.pop, 1) := by decide +kernel
theorem dX6_putSign_34 : decode cX6_putSign 34 = .ok (.iload_n 2, 1) := by decide +kernel
theorem dX6_putSign_35 : decode cX6_putSign 35 = .ok (.ireturn, 1) := by decide +kernel
set_option maxRecDepth 20000 in
theorem ggX6_putButton_X6_requireCar : GoodIn wsX6_putButton wsX6_requireCar := goodIn_ca (goodIn_r _ [7, 8, 9, 10, 11, 6, 12] (by decide +kernel) (by decide +kernel)) (goodIn_sub (fun _ h => List.mem_cons_of_mem _ (List.mem_append_right _ h)) (by decide +kernel))
set_option maxRecDepth 20000 in
theorem gX6_putButton_X6_requireCar : GoodIn wsX6_putButton (wsV RX6 132 RX6 yX6_requireCar wsX6_requireCar) := goodIn_app (goodIn_of _ (by decide +kernel)) ggX6_putButton_X6_requireCar
set_option maxRecDepth 20000 in
theorem ggX6_putButton_X6_requireLevel : GoodIn wsX6_putButton wsX6_requireLevel := goodIn_ca (goodIn_r _ [16, 8, 9, 2, 17, 18, 19, 20, 21, 22, 67, 68, 69, 70, 71, 72, 73, 74, 75, 76] (by decide +kernel) (by decide +kernel)) (goodIn_sub (fun _ h => List.mem_cons_of_mem _ (List.mem_append_right _ h)) (by decide +kernel))
set_option maxRecDepth 20000 in
theorem gX6_putButton_X6_requireLevel : GoodIn wsX6_putButton (wsV RX6 109 RX6 yX6_requireLevel wsX6_requireLevel) := goodIn_app (goodIn_of _ (by decide +kernel)) ggX6_putButton_X6_requireLevel
set_option maxRecDepth 20000 in
theorem ggX6_putButton_X0_remember : GoodIn wsX6_putButton wsX0_remember := goodIn_r _ [27, 28, 29, 30, 31, 32, 33, 34, 35, 36, 37, 38, 39, 40, 41, 20, 42, 43, 44, 45, 46, 47, 22, 48, 49, 77, 78, 79, 73, 74, 75, 76] (by decide +kernel) (by decide +kernel)
set_option maxRecDepth 20000 in
theorem gX6_putButton_X0_remember : GoodIn wsX6_putButton (wsV RX6 163 RX0 yX0_remember wsX0_remember) := goodIn_app (goodIn_of _ (by decide +kernel)) ggX6_putButton_X0_remember
set_option maxRecDepth 20000 in
theorem ggX6_putButton_X1_buttonAt : GoodIn wsX6_putButton wsX1_buttonAt := goodIn_r _ [53, 54, 55, 56, 20, 57, 43, 73, 74, 75, 76] (by decide +kernel) (by decide +kernel)
set_option maxRecDepth 20000 in
theorem gX6_putButton_X1_buttonAt : GoodIn wsX6_putButton (wsV RX6 135 RX1 yX1_buttonAt wsX1_buttonAt) := goodIn_app (goodIn_of _ (by decide +kernel)) ggX6_putButton_X1_buttonAt
set_option maxRecDepth 20000 in
theorem ggX6_putButton_X1_correctButton : GoodIn wsX6_putButton wsX1_correctButton := goodIn_r _ [61, 11, 6, 12, 62, 18, 19, 20, 21, 22, 54, 55, 56, 57, 43, 63, 64, 65, 66, 73, 74, 75, 76] (by decide +kernel) (by decide +kernel)
set_option maxRecDepth 20000 in
theorem gX6_putButton_X1_correctButton : GoodIn wsX6_putButton (wsV RX6 202 RX1 yX1_correctButton wsX1_correctButton) := goodIn_app (goodIn_of _ (by decide +kernel)) ggX6_putButton_X1_correctButton
theorem dX6_putButton_0 : decode cX6_putButton 0 = .ok (.aload_n 0, 1) := by decide +kernel
theorem dX6_putButton_1 : decode cX6_putButton 1 = .ok (.iload_n 1, 1) := by decide +kernel
theorem dX6_putButton_2 : decode cX6_putButton 2 = .ok (.invokevirtual 132, 3) := by decide +kernel
theorem dX6_putButton_5 : decode cX6_putButton 5 = .ok (.aload_n 0, 1) := by decide +kernel
theorem dX6_putButton_6 : decode cX6_putButton 6 = .ok (.iload_n 2, 1) := by decide +kernel
theorem dX6_putButton_7 : decode cX6_putButton 7 = .ok (.invokevirtual 109, 3) := by decide +kernel
theorem dX6_putButton_10 : decode cX6_putButton 10 = .ok (.aload_n 0, 1) := by decide +kernel
theorem dX6_putButton_11 : decode cX6_putButton 11 = .ok (.getfield 29, 3) := by decide +kernel
theorem dX6_putButton_14 : decode cX6_putButton 14 = .ok (.aload_n 0, 1) := by decide +kernel
theorem dX6_putButton_15 : decode cX6_putButton 15 = .ok (.getfield 19, 3) := by decide +kernel
theorem dX6_putButton_18 : decode cX6_putButton 18 = .ok (.invokevirtual 163, 3) := by decide +kernel
theorem dX6_putButton_21 : decode cX6_putButton 21 = .ok (.aload_n 0, 1) := by decide +kernel
theorem dX6_putButton_22 : decode cX6_putButton 22 = .ok (.getfield 19, 3) := by decide +kernel
theorem dX6_putButton_25 : decode cX6_putButton 25 = .ok (.iload_n 1, 1) := by decide +kernel
theorem dX6_putButton_26 : decode cX6_putButton 26 = .ok (.iload_n 2, 1) := by decide +kernel
theorem dX6_putButton_27 : decode cX6_putButton 27 = .ok (.invokevirtual 135, 3) := by decide +kernel
theorem dX6_putButton_30 : decode cX6_putButton 30 = .ok (.istore_n 3, 1) := by decide +kernel
theorem dX6_putButton_31 : decode cX6_putButton 31 = .ok (.aload_n 0, 1) := by decide +kernel
theorem dX6_putButton_32 : decode cX6_putButton 32 = .ok (.getfield 19, 3) := by decide +kernel
theorem dX6_putButton_35 : decode cX6_putButton 35 = .ok (.iload_n 1, 1) := by decide +kernel
theorem dX6_putButton_36 : decode cX6_putButton 36 = .ok (.iload_n 2, 1) := by decide +kernel
theorem dX6_putButton_37 : decode cX6_putButton 37 = .ok (.invokevirtual 202, 3) := by decide +kernel
theorem dX6_putButton_40 : decode cX6_putButton 40 = .ok (.pop, 1) := by decide +kernel
theorem dX6_putButton_41 : decode cX6_putButton 41 = .ok (.iload_n 3, 1) := by decide +kernel
theorem dX6_putButton_42 : decode cX6_putButton 42 = .ok (.ireturn, 1) := by decide +kernel
set_option maxRecDepth 20000 in
theorem ggX6_putCar_X6_requireCar : GoodIn wsX6_putCar wsX6_requireCar := goodIn_ca (goodIn_r _ [7, 8, 9, 10, 11, 6, 12] (by decide +kernel) (by decide +kernel)) (goodIn_sub (fun _ h => List.mem_cons_of_mem _ (List.mem_append_right _ h)) (by decide +kernel))
set_option maxRecDepth 20000 in
theorem gX6_putCar_X6_requireCar : GoodIn wsX6_putCar (wsV RX6 132 RX6 yX6_requireCar wsX6_requireCar) := goodIn_app (goodIn_of _ (by decide +kernel)) ggX6_putCar_X6_requireCar
set_option maxRecDepth 20000 in
theorem ggX6_putCar_X0_remember : GoodIn wsX6_putCar wsX0_remember := goodIn_r _ [17, 18, 19, 20, 21, 22, 23, 24, 25, 26, 27, 28, 29, 30, 31, 32, 33, 34, 35, 36, 37, 38, 39, 40, 41, 72, 73, 74, 75, 76, 77, 78] (by decide +kernel) (by decide +kernel)
set_option maxRecDepth 20000 in
theorem gX6_putCar_X0_remember : GoodIn wsX6_putCar (wsV RX6 163 RX0 yX0_remember wsX0_remember) := goodIn_app (goodIn_of _ (by decide +kernel)) ggX6_putCar_X0_remember
set_option maxRecDepth 20000 in
theorem ggX6_putCar_X1_wrongButtonsOf : GoodIn wsX6_putCar wsX1_wrongButtonsOf := goodIn_r _ [45, 46, 47, 48, 32, 49, 39, 50, 51, 52, 53, 54, 55, 56, 57, 34, 75, 76, 77, 78] (by decide +kernel) (by decide +kernel)
set_option maxRecDepth 20000 in
theorem gX6_putCar_X1_wrongButtonsOf : GoodIn wsX6_putCar (wsV RX6 205 RX1 yX1_wrongButtonsOf wsX1_wrongButtonsOf) := goodIn_app (goodIn_of _ (by decide +kernel)) ggX6_putCar_X1_wrongButtonsOf
set_option maxRecDepth 20000 in
theorem ggX6_putCar_X1_correctCar : GoodIn wsX6_putCar wsX1_correctCar := goodIn_r _ [61, 39, 11, 6, 12, 54, 55, 56, 32, 57, 34, 62, 63, 64, 65, 75, 76, 77, 78] (by decide +kernel) (by decide +kernel)
set_option maxRecDepth 20000 in
theorem gX6_putCar_X1_correctCar : GoodIn wsX6_putCar (wsV RX6 208 RX1 yX1_correctCar wsX1_correctCar) := goodIn_app (goodIn_of _ (by decide +kernel)) ggX6_putCar_X1_correctCar
theorem dX6_putCar_0 : decode cX6_putCar 0 = .ok (.aload_n 0, 1) := by decide +kernel
theorem dX6_putCar_1 : decode cX6_putCar 1 = .ok (.iload_n 1, 1) := by decide +kernel
theorem dX6_putCar_2 : decode cX6_putCar 2 = .ok (.invokevirtual 132, 3) := by decide +kernel
theorem dX6_putCar_5 : decode cX6_putCar 5 = .ok (.aload_n 0, 1) := by decide +kernel
theorem dX6_putCar_6 : decode cX6_putCar 6 = .ok (.getfield 29, 3) := by decide +kernel
theorem dX6_putCar_9 : decode cX6_putCar 9 = .ok (.aload_n 0, 1) := by decide +kernel
theorem dX6_putCar_10 : decode cX6_putCar 10 = .ok (.getfield 19, 3) := by decide +kernel
theorem dX6_putCar_13 : decode cX6_putCar 13 = .ok (.invokevirtual 163, 3) := by decide +kernel
theorem dX6_putCar_16 : decode cX6_putCar 16 = .ok (.aload_n 0, 1) := by decide +kernel
theorem dX6_putCar_17 : decode cX6_putCar 17 = .ok (.getfield 19, 3) := by decide +kernel
theorem dX6_putCar_20 : decode cX6_putCar 20 = .ok (.iload_n 1, 1) := by decide +kernel
theorem dX6_putCar_21 : decode cX6_putCar 21 = .ok (.invokevirtual 205, 3) := by decide +kernel
theorem dX6_putCar_24 : decode cX6_putCar 24 = .ok (.istore_n 2, 1) := by decide +kernel
theorem dX6_putCar_25 : decode cX6_putCar 25 = .ok (.aload_n 0, 1) := by decide +kernel
theorem dX6_putCar_26 : decode cX6_putCar 26 = .ok (.getfield 19, 3) := by decide +kernel
theorem dX6_putCar_29 : decode cX6_putCar 29 = .ok (.iload_n 1, 1) := by decide +kernel
theorem dX6_putCar_30 : decode cX6_putCar 30 = .ok (.invokevirtual 208, 3) := by decide +kernel
theorem dX6_putCar_33 : decode cX6_putCar 33 = .ok (.pop, 1) := by decide +kernel
theorem dX6_putCar_34 : decode cX6_putCar 34 = .ok (.iload_n 2, 1) := by decide +kernel
theorem dX6_putCar_35 : decode cX6_putCar 35 = .ok (.ireturn, 1) := by decide +kernel
set_option maxRecDepth 20000 in
theorem ggX6_exchange_X6_requireCar : GoodIn wsX6_exchange wsX6_requireCar := goodIn_ca (goodIn_r _ [7, 8, 9, 10, 11, 6, 12] (by decide +kernel) (by decide +kernel)) (goodIn_sub (fun _ h => List.mem_cons_of_mem _ (List.mem_append_right _ h)) (by decide +kernel))
set_option maxRecDepth 20000 in
theorem gX6_exchange_X6_requireCar : GoodIn wsX6_exchange (wsV RX6 132 RX6 yX6_requireCar wsX6_requireCar) := goodIn_app (goodIn_of _ (by decide +kernel)) ggX6_exchange_X6_requireCar
set_option maxRecDepth 20000 in
theorem ggX6_exchange_X6_requireLevel : GoodIn wsX6_exchange wsX6_requireLevel := goodIn_ca (goodIn_r _ [16, 8, 9, 2, 17, 18, 19, 20, 21, 22, 75, 76, 77, 78, 79, 80, 81, 82, 83, 84] (by decide +kernel) (by decide +kernel)) (goodIn_sub (fun _ h => List.mem_cons_of_mem _ (List.mem_append_right _ h)) (by decide +kernel))
set_option maxRecDepth 20000 in
theorem gX6_exchange_X6_requireLevel : GoodIn wsX6_exchange (wsV RX6 109 RX6 yX6_requireLevel wsX6_requireLevel) := goodIn_app (goodIn_of _ (by decide +kernel)) ggX6_exchange_X6_requireLevel
set_option maxRecDepth 20000 in
theorem ggX6_exchange_X0_remember : GoodIn wsX6_exchange wsX0_remember := goodIn_r _ [27, 28, 29, 30, 31, 32, 33, 34, 35, 36, 37, 38, 39, 40, 41, 20, 42, 43, 44, 45, 46, 47, 22, 48, 49, 85, 86, 87, 81, 82, 83, 84] (by decide +kernel) (by decide +kernel)
set_option maxRecDepth 20000 in
theorem gX6_exchange_X0_remember : GoodIn wsX6_exchange (wsV RX6 163 RX0 yX0_remember wsX0_remember) := goodIn_app (goodIn_of _ (by decide +kernel)) ggX6_exchange_X0_remember
set_option maxRecDepth 20000 in
theorem ggX6_exchange_X1_swapButtons : GoodIn wsX6_exchange wsX1_swapButtons := goodIn_r _ [53, 11, 6, 12, 54, 18, 19, 20, 21, 22, 55, 56, 57, 58, 59, 60, 61, 62, 43, 63, 64, 65, 66, 81, 82, 83, 84] (by decide +kernel) (by decide +kernel)
set_option maxRecDepth 20000 in
theorem gX6_exchange_X1_swapButtons : GoodIn wsX6_exchange (wsV RX6 211 RX1 yX1_swapButtons wsX1_swapButtons) := goodIn_app (goodIn_of _ (by decide +kernel)) ggX6_exchange_X1_swapButtons
set_option maxRecDepth 20000 in
theorem ggX6_exchange_X1_isButtonRight : GoodIn wsX6_exchange wsX1_isButtonRight := goodIn_r _ [70, 71, 72, 73, 20, 74, 59, 60, 61, 62, 43, 81, 82, 83, 84] (by decide +kernel) (by decide +kernel)
set_option maxRecDepth 20000 in
theorem gX6_exchange_X1_isButtonRight : GoodIn wsX6_exchange (wsV RX6 139 RX1 yX1_isButtonRight wsX1_isButtonRight) := goodIn_app (goodIn_of _ (by decide +kernel)) ggX6_exchange_X1_isButtonRight
theorem dX6_exchange_0 : decode cX6_exchange 0 = .ok (.aload_n 0, 1) := by decide +kernel
theorem dX6_exchange_1 : decode cX6_exchange 1 = .ok (.iload_n 1, 1) := by decide +kernel
theorem dX6_exchange_2 : decode cX6_exchange 2 = .ok (.invokevirtual 132, 3) := by decide +kernel
theorem dX6_exchange_5 : decode cX6_exchange 5 = .ok (.aload_n 0, 1) := by decide +kernel
theorem dX6_exchange_6 : decode cX6_exchange 6 = .ok (.iload_n 2, 1) := by decide +kernel
theorem dX6_exchange_7 : decode cX6_exchange 7 = .ok (.invokevirtual 109, 3) := by decide +kernel
theorem dX6_exchange_10 : decode cX6_exchange 10 = .ok (.aload_n 0, 1) := by decide +kernel
theorem dX6_exchange_11 : decode cX6_exchange 11 = .ok (.iload_n 3, 1) := by decide +kernel
theorem dX6_exchange_12 : decode cX6_exchange 12 = .ok (.invokevirtual 109, 3) := by decide +kernel
theorem dX6_exchange_15 : decode cX6_exchange 15 = .ok (.aload_n 0, 1) := by decide +kernel
theorem dX6_exchange_16 : decode cX6_exchange 16 = .ok (.getfield 29, 3) := by decide +kernel
theorem dX6_exchange_19 : decode cX6_exchange 19 = .ok (.aload_n 0, 1) := by decide +kernel
theorem dX6_exchange_20 : decode cX6_exchange 20 = .ok (.getfield 19, 3) := by decide +kernel
theorem dX6_exchange_23 : decode cX6_exchange 23 = .ok (.invokevirtual 163, 3) := by decide +kernel
theorem dX6_exchange_26 : decode cX6_exchange 26 = .ok (.aload_n 0, 1) := by decide +kernel
theorem dX6_exchange_27 : decode cX6_exchange 27 = .ok (.getfield 19, 3) := by decide +kernel
theorem dX6_exchange_30 : decode cX6_exchange 30 = .ok (.iload_n 1, 1) := by decide +kernel
theorem dX6_exchange_31 : decode cX6_exchange 31 = .ok (.iload_n 2, 1) := by decide +kernel
theorem dX6_exchange_32 : decode cX6_exchange 32 = .ok (.iload_n 3, 1) := by decide +kernel
theorem dX6_exchange_33 : decode cX6_exchange 33 = .ok (.invokevirtual 211, 3) := by decide +kernel
theorem dX6_exchange_36 : decode cX6_exchange 36 = .ok (.aload_n 0, 1) := by decide +kernel
theorem dX6_exchange_37 : decode cX6_exchange 37 = .ok (.getfield 19, 3) := by decide +kernel
theorem dX6_exchange_40 : decode cX6_exchange 40 = .ok (.iload_n 1, 1) := by decide +kernel
theorem dX6_exchange_41 : decode cX6_exchange 41 = .ok (.iload_n 2, 1) := by decide +kernel
theorem dX6_exchange_42 : decode cX6_exchange 42 = .ok (.invokevirtual 139, 3) := by decide +kernel
theorem dX6_exchange_45 : decode cX6_exchange 45 = .ok (.ifCond .eq 7, 3) := by decide +kernel
theorem dX6_exchange_48 : decode cX6_exchange 48 = .ok (.iconst 0, 1) := by decide +kernel
theorem dX6_exchange_49 : decode cX6_exchange 49 = .ok (.goto 4, 3) := by decide +kernel
theorem dX6_exchange_52 : decode cX6_exchange 52 = .ok (.iconst 1, 1) := by decide +kernel
theorem dX6_exchange_53 : decode cX6_exchange 53 = .ok (.istore 4, 2) := by decide +kernel
theorem dX6_exchange_55 : decode cX6_exchange 55 = .ok (.iload_n 3, 1) := by decide +kernel
theorem dX6_exchange_56 : decode cX6_exchange 56 = .ok (.iload_n 2, 1) := by decide +kernel
theorem dX6_exchange_57 : decode cX6_exchange 57 = .ok (.if_icmp .eq 18, 3) := by decide +kernel
theorem dX6_exchange_60 : decode cX6_exchange 60 = .ok (.aload_n 0, 1) := by decide +kernel
theorem dX6_exchange_61 : decode cX6_exchange 61 = .ok (.getfield 19, 3) := by decide +kernel
theorem dX6_exchange_64 : decode cX6_exchange 64 = .ok (.iload_n 1, 1) := by decide +kernel
theorem dX6_exchange_65 : decode cX6_exchange 65 = .ok (.iload_n 3, 1) := by decide +kernel
theorem dX6_exchange_66 : decode cX6_exchange 66 = .ok (.invokevirtual 139, 3) := by decide +kernel
theorem dX6_exchange_69 : decode cX6_exchange 69 = .ok (.ifCond .ne 6, 3) := by decide +kernel
theorem dX6_exchange_72 : decode cX6_exchange 72 = .ok (.iinc 4 1, 3) := by decide +kernel
theorem dX6_exchange_75 : decode cX6_exchange 75 = .ok (.iload 4, 2) := by decide +kernel
theorem dX6_exchange_77 : decode cX6_exchange 77 = .ok (.ireturn, 1) := by decide +kernel
set_option maxRecDepth 20000 in
theorem ggX6_undo_X0_isEmpty : GoodIn wsX6_undo wsX0_isEmpty := goodIn_r _ [9, 10, 44, 45, 46] (by decide +kernel) (by decide +kernel)
set_option maxRecDepth 20000 in
theorem gX6_undo_X0_isEmpty : GoodIn wsX6_undo (wsV RX6 215 RX0 yX0_isEmpty wsX0_isEmpty) := goodIn_app (goodIn_of _ (by decide +kernel)) ggX6_undo_X0_isEmpty
set_option maxRecDepth 20000 in
theorem ggX6_undo_X0_takeBack : GoodIn wsX6_undo wsX0_takeBack := goodIn_r _ [14, 15, 16, 10, 17, 18, 19, 20, 21, 22, 23, 24, 25, 26, 27, 28, 29, 30, 31, 32, 33, 44, 45, 46, 47, 48, 49, 50] (by decide +kernel) (by decide +kernel)
set_option maxRecDepth 20000 in
theorem gX6_undo_X0_takeBack : GoodIn wsX6_undo (wsV RX6 220 RX0 yX0_takeBack wsX0_takeBack) := goodIn_app (goodIn_of _ (by decide +kernel)) ggX6_undo_X0_takeBack
set_option maxRecDepth 20000 in
theorem ggX6_undo_X0_count : GoodIn wsX6_undo wsX0_count := goodIn_r _ [37, 10, 44, 45, 46] (by decide +kernel) (by decide +kernel)
set_option maxRecDepth 20000 in
theorem gX6_undo_X0_count : GoodIn wsX6_undo (wsV RX6 223 RX0 yX0_count wsX0_count) := goodIn_app (goodIn_of _ (by decide +kernel)) ggX6_undo_X0_count
theorem dX6_undo_0 : decode cX6_undo 0 = .ok (.aload_n 0, 1) := by decide +kernel
theorem dX6_undo_1 : decode cX6_undo 1 = .ok (.getfield 29, 3) := by decide +kernel
theorem dX6_undo_4 : decode cX6_undo 4 = .ok (.invokevirtual 215, 3) := by decide +kernel
theorem dX6_undo_7 : decode cX6_undo 7 = .ok (.ifCond .eq 13, 3) := by decide +kernel
theorem dX6_undo_10 : decode cX6_undo 10 = .ok (.new 52, 3) := by decide +kernel
theorem dX6_undo_13 : decode cX6_undo 13 = .ok (.dup, 1) := by decide +kernel
theorem dX6_undo_14 : decode cX6_undo 14 = .ok (.ldc 218, 2) := by decide +kernel
theorem dX6_undo_16 : decode cX6_undo 16 = .ok (.invokespecial 56, 3) := by decide +kernel
theorem dX6_undo_19 : decode cX6_undo 19 = .ok (.athrow, 1) := by decide +kernel
theorem dX6_undo_20 : decode cX6_undo 20 = .ok (.aload_n 0, 1) := by decide +kernel
theorem dX6_undo_21 : decode cX6_undo 21 = .ok (.getfield 29, 3) := by decide +kernel
theorem dX6_undo_24 : decode cX6_undo 24 = .ok (.aload_n 0, 1) := by decide +kernel
theorem dX6_undo_25 : decode cX6_undo 25 = .ok (.getfield 19, 3) := by decide +kernel
theorem dX6_undo_28 : decode cX6_undo 28 = .ok (.invokevirtual 220, 3) := by decide +kernel
theorem dX6_undo_31 : decode cX6_undo 31 = .ok (.aload_n 0, 1) := by decide +kernel
theorem dX6_undo_32 : decode cX6_undo 32 = .ok (.getfield 29, 3) := by decide +kernel
theorem dX6_undo_35 : decode cX6_undo 35 = .ok (.invokevirtual 223, 3) := by decide +kernel
theorem dX6_undo_38 : decode cX6_undo 38 = .ok (.ireturn, 1) := by decide +kernel
set_option maxRecDepth 20000 in
theorem ggX6_goes_X6_requireCar : GoodIn wsX6_goes wsX6_requireCar := goodIn_ca (goodIn_r _ [6, 7, 8, 9, 10, 5, 11] (by decide +kernel) (by decide +kernel)) (goodIn_sub (fun _ h => List.mem_cons_of_mem _ (List.mem_append_right _ h)) (by decide +kernel))
set_option maxRecDepth 20000 in
theorem gX6_goes_X6_requireCar : GoodIn wsX6_goes (wsV RX6 132 RX6 yX6_requireCar wsX6_requireCar) := goodIn_app (goodIn_of _ (by decide +kernel)) ggX6_goes_X6_requireCar
set_option maxRecDepth 20000 in
theorem ggX6_goes_X6_requireLevel : GoodIn wsX6_goes wsX6_requireLevel := goodIn_ca (goodIn_r _ [15, 7, 8, 1, 16, 17, 18, 19, 20, 21, 43, 44, 45, 46, 47, 48, 49, 50, 51, 52] (by decide +kernel) (by decide +kernel)) (goodIn_sub (fun _ h => List.mem_cons_of_mem _ (List.mem_append_right _ h)) (by decide +kernel))
set_option maxRecDepth 20000 in
theorem gX6_goes_X6_requireLevel : GoodIn wsX6_goes (wsV RX6 109 RX6 yX6_requireLevel wsX6_requireLevel) := goodIn_app (goodIn_of _ (by decide +kernel)) ggX6_goes_X6_requireLevel
set_option maxRecDepth 20000 in
theorem ggX6_goes_X3_destination : GoodIn wsX6_goes wsX3_destination := goodIn_r _ [25, 26, 27, 28, 19, 29, 30, 31, 32, 33, 34, 35, 36, 37, 38, 21, 39, 40, 41, 42, 49, 50, 51, 52] (by decide +kernel) (by decide +kernel)
set_option maxRecDepth 20000 in
theorem gX6_goes_X3_destination : GoodIn wsX6_goes (va_wsS RX6 226 yX3_destination wsX3_destination) := goodIn_app (goodIn_of _ (by decide +kernel)) ggX6_goes_X3_destination
theorem dX6_goes_0 : decode cX6_goes 0 = .ok (.aload_n 0, 1) := by decide +kernel
theorem dX6_goes_1 : decode cX6_goes 1 = .ok (.iload_n 1, 1) := by decide +kernel
theorem dX6_goes_2 : decode cX6_goes 2 = .ok (.invokevirtual 132, 3) := by decide +kernel
theorem dX6_goes_5 : decode cX6_goes 5 = .ok (.aload_n 0, 1) := by decide +kernel
theorem dX6_goes_6 : decode cX6_goes 6 = .ok (.iload_n 2, 1) := by decide +kernel
theorem dX6_goes_7 : decode cX6_goes 7 = .ok (.invokevirtual 109, 3) := by decide +kernel
theorem dX6_goes_10 : decode cX6_goes 10 = .ok (.aload_n 0, 1) := by decide +kernel
theorem dX6_goes_11 : decode cX6_goes 11 = .ok (.getfield 19, 3) := by decide +kernel
theorem dX6_goes_14 : decode cX6_goes 14 = .ok (.iload_n 1, 1) := by decide +kernel
theorem dX6_goes_15 : decode cX6_goes 15 = .ok (.iload_n 2, 1) := by decide +kernel
theorem dX6_goes_16 : decode cX6_goes 16 = .ok (.iload_n 3, 1) := by decide +kernel
theorem dX6_goes_17 : decode cX6_goes 17 = .ok (.invokestatic 226, 3) := by decide +kernel
theorem dX6_goes_20 : decode cX6_goes 20 = .ok (.ireturn, 1) := by decide +kernel
set_option maxRecDepth 20000 in
theorem ggX6_astray_X6_requireCar : GoodIn wsX6_astray wsX6_requireCar := goodIn_ca (goodIn_r _ [6, 7, 8, 9, 10, 5, 11] (by decide +kernel) (by decide +kernel)) (goodIn_sub (fun _ h => List.mem_cons_of_mem _ (List.mem_append_right _ h)) (by decide +kernel))
set_option maxRecDepth 20000 in
theorem gX6_astray_X6_requireCar : GoodIn wsX6_astray (wsV RX6 132 RX6 yX6_requireCar wsX6_requireCar) := goodIn_app (goodIn_of _ (by decide +kernel)) ggX6_astray_X6_requireCar
set_option maxRecDepth 20000 in
theorem ggX6_astray_X3_leadingAstray : GoodIn wsX6_astray wsX3_leadingAstray := goodIn_r _ [15, 16, 17, 18, 19, 20, 21, 22, 23, 24, 25, 26, 27, 28, 29, 30, 31, 32, 33, 34, 35, 36, 14, 37, 44, 45, 46, 47] (by decide +kernel) (by decide +kernel)
set_option maxRecDepth 20000 in
theorem gX6_astray_X3_leadingAstray : GoodIn wsX6_astray (va_wsS RX6 232 yX3_leadingAstray wsX3_leadingAstray) := goodIn_app (goodIn_of _ (by decide +kernel)) ggX6_astray_X3_leadingAstray
theorem dX6_astray_0 : decode cX6_astray 0 = .ok (.aload_n 0, 1) := by decide +kernel
theorem dX6_astray_1 : decode cX6_astray 1 = .ok (.iload_n 1, 1) := by decide +kernel
theorem dX6_astray_2 : decode cX6_astray 2 = .ok (.invokevirtual 132, 3) := by decide +kernel
theorem dX6_astray_5 : decode cX6_astray 5 = .ok (.aload_n 0, 1) := by decide +kernel
theorem dX6_astray_6 : decode cX6_astray 6 = .ok (.getfield 19, 3) := by decide +kernel
theorem dX6_astray_9 : decode cX6_astray 9 = .ok (.iload_n 1, 1) := by decide +kernel
theorem dX6_astray_10 : decode cX6_astray 10 = .ok (.invokestatic 232, 3) := by decide +kernel
theorem dX6_astray_13 : decode cX6_astray 13 = .ok (.ireturn, 1) := by decide +kernel
set_option maxRecDepth 20000 in
theorem ggX6_rides_X6_requireLevel : GoodIn wsX6_rides wsX6_requireLevel := goodIn_ca (goodIn_r _ [6, 7, 8, 1, 9, 10, 11, 12, 13, 14, 45, 46, 47, 48, 49, 50, 51, 52, 53, 54] (by decide +kernel) (by decide +kernel)) (goodIn_sub (fun _ h => List.mem_cons_of_mem _ (List.mem_append_right _ h)) (by decide +kernel))
set_option maxRecDepth 20000 in
theorem gX6_rides_X6_requireLevel : GoodIn wsX6_rides (wsV RX6 109 RX6 yX6_requireLevel wsX6_requireLevel) := goodIn_app (goodIn_of _ (by decide +kernel)) ggX6_rides_X6_requireLevel
set_option maxRecDepth 20000 in
theorem ggX6_rides_X3_fewest : GoodIn wsX6_rides wsX3_fewest := goodIn_r _ [18, 19, 20, 17, 21, 22, 23, 24, 12, 25, 14, 26, 27, 28, 29, 30, 31, 32, 33, 34, 35, 36, 37, 38, 39, 40, 41, 42, 43, 44, 51, 52, 53, 54] (by decide +kernel) (by decide +kernel)
set_option maxRecDepth 20000 in
theorem gX6_rides_X3_fewest : GoodIn wsX6_rides (va_wsS RX6 236 yX3_fewest wsX3_fewest) := goodIn_app (goodIn_of _ (by decide +kernel)) ggX6_rides_X3_fewest
theorem dX6_rides_0 : decode cX6_rides 0 = .ok (.aload_n 0, 1) := by decide +kernel
theorem dX6_rides_1 : decode cX6_rides 1 = .ok (.iload_n 1, 1) := by decide +kernel
theorem dX6_rides_2 : decode cX6_rides 2 = .ok (.invokevirtual 109, 3) := by decide +kernel
theorem dX6_rides_5 : decode cX6_rides 5 = .ok (.aload_n 0, 1) := by decide +kernel
theorem dX6_rides_6 : decode cX6_rides 6 = .ok (.iload_n 2, 1) := by decide +kernel
theorem dX6_rides_7 : decode cX6_rides 7 = .ok (.invokevirtual 109, 3) := by decide +kernel
theorem dX6_rides_10 : decode cX6_rides 10 = .ok (.aload_n 0, 1) := by decide +kernel
theorem dX6_rides_11 : decode cX6_rides 11 = .ok (.getfield 19, 3) := by decide +kernel
theorem dX6_rides_14 : decode cX6_rides 14 = .ok (.iload_n 1, 1) := by decide +kernel
theorem dX6_rides_15 : decode cX6_rides 15 = .ok (.iload_n 2, 1) := by decide +kernel
theorem dX6_rides_16 : decode cX6_rides 16 = .ok (.invokestatic 236, 3) := by decide +kernel
theorem dX6_rides_19 : decode cX6_rides 19 = .ok (.ireturn, 1) := by decide +kernel
set_option maxRecDepth 20000 in
theorem ggX6_ifSkipped_X6_requireStorey : GoodIn wsX6_ifSkipped wsX6_requireStorey := goodIn_ca (goodIn_r _ [5, 6, 7, 8, 9, 4, 10] (by decide +kernel) (by decide +kernel)) (goodIn_sub (fun _ h => List.mem_cons_of_mem _ (List.mem_append_right _ h)) (by decide +kernel))
set_option maxRecDepth 20000 in
theorem gX6_ifSkipped_X6_requireStorey : GoodIn wsX6_ifSkipped (wsV RX6 148 RX6 yX6_requireStorey wsX6_requireStorey) := goodIn_app (goodIn_of _ (by decide +kernel)) ggX6_ifSkipped_X6_requireStorey
set_option maxRecDepth 20000 in
theorem ggX6_ifSkipped_X6_wrongIfSkipChanged : GoodIn wsX6_ifSkipped wsX6_wrongIfSkipChanged := goodIn_r _ [14, 15, 16, 17, 18, 19, 20, 21, 22, 23, 24, 25, 26, 27, 28, 29, 30, 31, 32, 33, 9, 4, 10, 34, 35, 36, 37, 38, 39, 40, 41, 42, 43, 44, 45, 46, 47, 48, 49, 50, 51, 52, 53, 54, 55, 56, 57, 58, 59, 60, 61, 62, 63, 64, 65, 66, 67, 68, 69, 70, 71, 72, 73, 74, 75, 76, 77, 78, 79] (by decide +kernel) (by decide +kernel)
set_option maxRecDepth 20000 in
theorem gX6_ifSkipped_X6_wrongIfSkipChanged : GoodIn wsX6_ifSkipped (wsV RX6 240 RX6 yX6_wrongIfSkipChanged wsX6_wrongIfSkipChanged) := goodIn_app (goodIn_of _ (by decide +kernel)) ggX6_ifSkipped_X6_wrongIfSkipChanged
theorem dX6_ifSkipped_0 : decode cX6_ifSkipped 0 = .ok (.aload_n 0, 1) := by decide +kernel
theorem dX6_ifSkipped_1 : decode cX6_ifSkipped 1 = .ok (.iload_n 1, 1) := by decide +kernel
theorem dX6_ifSkipped_2 : decode cX6_ifSkipped 2 = .ok (.invokevirtual 148, 3) := by decide +kernel
theorem dX6_ifSkipped_5 : decode cX6_ifSkipped 5 = .ok (.aload_n 0, 1) := by decide +kernel
theorem dX6_ifSkipped_6 : decode cX6_ifSkipped 6 = .ok (.iload_n 1, 1) := by decide +kernel
theorem dX6_ifSkipped_7 : decode cX6_ifSkipped 7 = .ok (.invokevirtual 240, 3) := by decide +kernel
theorem dX6_ifSkipped_10 : decode cX6_ifSkipped 10 = .ok (.ireturn, 1) := by decide +kernel
set_option maxRecDepth 20000 in
theorem ggX6_bestSkip_X1_wrongInAll : GoodIn wsX6_bestSkip wsX1_wrongInAll := goodIn_r _ [6, 7, 8, 9, 5, 10, 11, 12, 13, 14, 15, 16, 17, 18, 19, 20, 69, 70, 71, 72] (by decide +kernel) (by decide +kernel)
set_option maxRecDepth 20000 in
theorem gX6_bestSkip_X1_wrongInAll : GoodIn wsX6_bestSkip (wsV RX6 243 RX1 yX1_wrongInAll wsX1_wrongInAll) := goodIn_app (goodIn_of _ (by decide +kernel)) ggX6_bestSkip_X1_wrongInAll
set_option maxRecDepth 20000 in
theorem ggX6_bestSkip_X6_wrongIfSkipChanged : GoodIn wsX6_bestSkip wsX6_wrongIfSkipChanged := goodIn_r _ [25, 26, 1, 27, 28, 29, 5, 30, 20, 31, 32, 33, 34, 11, 35, 36, 37, 38, 39, 40, 41, 24, 42, 43, 44, 45, 46, 47, 48, 49, 50, 51, 52, 53, 54, 16, 17, 18, 19, 55, 56, 57, 58, 59, 60, 61, 62, 2, 3, 4, 6, 7, 8, 9, 10, 12, 13, 14, 15, 63, 64, 65, 66, 67, 68, 69, 70, 71, 72] (by decide +kernel) (by decide +kernel)
set_option maxRecDepth 20000 in
theorem gX6_bestSkip_X6_wrongIfSkipChanged : GoodIn wsX6_bestSkip (wsV RX6 240 RX6 yX6_wrongIfSkipChanged wsX6_wrongIfSkipChanged) := goodIn_app (goodIn_of _ (by decide +kernel)) ggX6_bestSkip_X6_wrongIfSkipChanged
theorem dX6_bestSkip_0 : decode cX6_bestSkip 0 = .ok (.iconst (-1), 1) := by decide +kernel
theorem dX6_bestSkip_1 : decode cX6_bestSkip 1 = .ok (.istore_n 1, 1) := by decide +kernel
theorem dX6_bestSkip_2 : decode cX6_bestSkip 2 = .ok (.aload_n 0, 1) := by decide +kernel
theorem dX6_bestSkip_3 : decode cX6_bestSkip 3 = .ok (.getfield 19, 3) := by decide +kernel
theorem dX6_bestSkip_6 : decode cX6_bestSkip 6 = .ok (.invokevirtual 243, 3) := by decide +kernel
theorem dX6_bestSkip_9 : decode cX6_bestSkip 9 = .ok (.istore_n 2, 1) := by decide +kernel
theorem dX6_bestSkip_10 : decode cX6_bestSkip 10 = .ok (.iconst 1, 1) := by decide +kernel
theorem dX6_bestSkip_11 : decode cX6_bestSkip 11 = .ok (.istore_n 3, 1) := by decide +kernel
theorem dX6_bestSkip_12 : decode cX6_bestSkip 12 = .ok (.iload_n 3, 1) := by decide +kernel
theorem dX6_bestSkip_13 : decode cX6_bestSkip 13 = .ok (.bipush 30, 2) := by decide +kernel
theorem dX6_bestSkip_15 : decode cX6_bestSkip 15 = .ok (.if_icmp .gt 27, 3) := by decide +kernel
theorem dX6_bestSkip_18 : decode cX6_bestSkip 18 = .ok (.aload_n 0, 1) := by decide +kernel
theorem dX6_bestSkip_19 : decode cX6_bestSkip 19 = .ok (.iload_n 3, 1) := by decide +kernel
theorem dX6_bestSkip_20 : decode cX6_bestSkip 20 = .ok (.invokevirtual 240, 3) := by decide +kernel
theorem dX6_bestSkip_23 : decode cX6_bestSkip 23 = .ok (.istore 4, 2) := by decide +kernel
theorem dX6_bestSkip_25 : decode cX6_bestSkip 25 = .ok (.iload 4, 2) := by decide +kernel
theorem dX6_bestSkip_27 : decode cX6_bestSkip 27 = .ok (.iload_n 2, 1) := by decide +kernel
theorem dX6_bestSkip_28 : decode cX6_bestSkip 28 = .ok (.if_icmp .ge 8, 3) := by decide +kernel
theorem dX6_bestSkip_31 : decode cX6_bestSkip 31 = .ok (.iload 4, 2) := by decide +kernel
theorem dX6_bestSkip_33 : decode cX6_bestSkip 33 = .ok (.istore_n 2, 1) := by decide +kernel
theorem dX6_bestSkip_34 : decode cX6_bestSkip 34 = .ok (.iload_n 3, 1) := by decide +kernel
theorem dX6_bestSkip_35 : decode cX6_bestSkip 35 = .ok (.istore_n 1, 1) := by decide +kernel
theorem dX6_bestSkip_36 : decode cX6_bestSkip 36 = .ok (.iinc 3 1, 3) := by decide +kernel
theorem dX6_bestSkip_39 : decode cX6_bestSkip 39 = .ok (.goto (-27), 3) := by decide +kernel
theorem dX6_bestSkip_42 : decode cX6_bestSkip 42 = .ok (.iload_n 1, 1) := by decide +kernel
theorem dX6_bestSkip_43 : decode cX6_bestSkip 43 = .ok (.ireturn, 1) := by decide +kernel
set_option maxRecDepth 20000 in
theorem ggX6_ifAdded_X6_requireRoomFor : GoodIn wsX6_ifAdded wsX6_requireRoomFor := goodIn_ca (goodIn_ca (goodIn_ca (goodIn_r _ [7, 8, 9, 10, 11, 2, 12, 13, 14, 15, 16, 17, 18, 19, 20, 6, 21, 22, 23, 24, 25, 26, 27, 28, 29, 30, 87, 88, 89, 90, 91, 92, 93, 94, 95, 96] (by decide +kernel) (by decide +kernel)) (goodIn_sub (fun _ h => List.mem_cons_of_mem _ (List.mem_append_left _ (List.mem_append_left _ (List.mem_append_right _ h)))) (by decide +kernel))) (goodIn_sub (fun _ h => List.mem_cons_of_mem _ (List.mem_append_left _ (List.mem_append_right _ h))) (by decide +kernel))) (goodIn_sub (fun _ h => List.mem_cons_of_mem _ (List.mem_append_right _ h)) (by decide +kernel))
set_option maxRecDepth 20000 in
theorem gX6_ifAdded_X6_requireRoomFor : GoodIn wsX6_ifAdded (wsV RX6 159 RX6 yX6_requireRoomFor wsX6_requireRoomFor) := goodIn_app (goodIn_of _ (by decide +kernel)) ggX6_ifAdded_X6_requireRoomFor
set_option maxRecDepth 20000 in
theorem ggX6_ifAdded_X1_copyFrom : GoodIn wsX6_ifAdded wsX1_copyFrom := goodIn_r _ [34, 35, 36, 37, 38, 39, 17, 40, 41, 93, 94, 95, 96] (by decide +kernel) (by decide +kernel)
set_option maxRecDepth 20000 in
theorem gX6_ifAdded_X1_copyFrom : GoodIn wsX6_ifAdded (wsV RX6 246 RX1 yX1_copyFrom wsX1_copyFrom) := goodIn_app (goodIn_of _ (by decide +kernel)) ggX6_ifAdded_X1_copyFrom
set_option maxRecDepth 20000 in
theorem ggX6_ifAdded_X1_insertLevel : GoodIn wsX6_ifAdded wsX1_insertLevel := goodIn_r _ [45, 17, 40, 25, 6, 26, 46, 28, 29, 15, 30, 47, 48, 49, 50, 35, 51, 52, 53, 54, 55, 56, 57, 58, 59, 60, 61, 62, 63, 64, 65, 66, 41, 67, 68, 69, 70, 93, 94, 95, 96] (by decide +kernel) (by decide +kernel)
set_option maxRecDepth 20000 in
theorem gX6_ifAdded_X1_insertLevel : GoodIn wsX6_ifAdded (wsV RX6 167 RX1 yX1_insertLevel wsX1_insertLevel) := goodIn_app (goodIn_of _ (by decide +kernel)) ggX6_ifAdded_X1_insertLevel
set_option maxRecDepth 20000 in
theorem ggX6_ifAdded_X1_wrongInAll : GoodIn wsX6_ifAdded wsX1_wrongInAll := goodIn_r _ [74, 75, 76, 77, 15, 78, 17, 79, 80, 81, 82, 47, 48, 49, 50, 35, 93, 94, 95, 96] (by decide +kernel) (by decide +kernel)
set_option maxRecDepth 20000 in
theorem gX6_ifAdded_X1_wrongInAll : GoodIn wsX6_ifAdded (wsV RX6 243 RX1 yX1_wrongInAll wsX1_wrongInAll) := goodIn_app (goodIn_of _ (by decide +kernel)) ggX6_ifAdded_X1_wrongInAll
set_option maxRecDepth 20000 in
theorem ggX6_ifAdded_X1_wrongOf : GoodIn wsX6_ifAdded wsX1_wrongOf := goodIn_r _ [86, 79, 80, 81, 15, 82, 47, 48, 49, 50, 35, 93, 94, 95, 96] (by decide +kernel) (by decide +kernel)
set_option maxRecDepth 20000 in
theorem gX6_ifAdded_X1_wrongOf : GoodIn wsX6_ifAdded (wsV RX6 249 RX1 yX1_wrongOf wsX1_wrongOf) := goodIn_app (goodIn_of _ (by decide +kernel)) ggX6_ifAdded_X1_wrongOf
theorem dX6_ifAdded_0 : decode cX6_ifAdded 0 = .ok (.aload_n 0, 1) := by decide +kernel
theorem dX6_ifAdded_1 : decode cX6_ifAdded 1 = .ok (.iload_n 1, 1) := by decide +kernel
theorem dX6_ifAdded_2 : decode cX6_ifAdded 2 = .ok (.iload_n 2, 1) := by decide +kernel
theorem dX6_ifAdded_3 : decode cX6_ifAdded 3 = .ok (.invokevirtual 159, 3) := by decide +kernel
theorem dX6_ifAdded_6 : decode cX6_ifAdded 6 = .ok (.aload_n 0, 1) := by decide +kernel
theorem dX6_ifAdded_7 : decode cX6_ifAdded 7 = .ok (.getfield 23, 3) := by decide +kernel
theorem dX6_ifAdded_10 : decode cX6_ifAdded 10 = .ok (.aload_n 0, 1) := by decide +kernel
theorem dX6_ifAdded_11 : decode cX6_ifAdded 11 = .ok (.getfield 19, 3) := by decide +kernel
theorem dX6_ifAdded_14 : decode cX6_ifAdded 14 = .ok (.invokevirtual 246, 3) := by decide +kernel
theorem dX6_ifAdded_17 : decode cX6_ifAdded 17 = .ok (.aload_n 0, 1) := by decide +kernel
theorem dX6_ifAdded_18 : decode cX6_ifAdded 18 = .ok (.getfield 23, 3) := by decide +kernel
theorem dX6_ifAdded_21 : decode cX6_ifAdded 21 = .ok (.iload_n 1, 1) := by decide +kernel
theorem dX6_ifAdded_22 : decode cX6_ifAdded 22 = .ok (.iload_n 2, 1) := by decide +kernel
theorem dX6_ifAdded_23 : decode cX6_ifAdded 23 = .ok (.invokevirtual 167, 3) := by decide +kernel
theorem dX6_ifAdded_26 : decode cX6_ifAdded 26 = .ok (.pop, 1) := by decide +kernel
theorem dX6_ifAdded_27 : decode cX6_ifAdded 27 = .ok (.aload_n 0, 1) := by decide +kernel
theorem dX6_ifAdded_28 : decode cX6_ifAdded 28 = .ok (.getfield 23, 3) := by decide +kernel
theorem dX6_ifAdded_31 : decode cX6_ifAdded 31 = .ok (.invokevirtual 243, 3) := by decide +kernel
theorem dX6_ifAdded_34 : decode cX6_ifAdded 34 = .ok (.aload_n 0, 1) := by decide +kernel
theorem dX6_ifAdded_35 : decode cX6_ifAdded 35 = .ok (.getfield 23, 3) := by decide +kernel
theorem dX6_ifAdded_38 : decode cX6_ifAdded 38 = .ok (.iload_n 1, 1) := by decide +kernel
theorem dX6_ifAdded_39 : decode cX6_ifAdded 39 = .ok (.invokevirtual 249, 3) := by decide +kernel
theorem dX6_ifAdded_42 : decode cX6_ifAdded 42 = .ok (.isub, 1) := by decide +kernel
theorem dX6_ifAdded_43 : decode cX6_ifAdded 43 = .ok (.ireturn, 1) := by decide +kernel
set_option maxRecDepth 20000 in
theorem ggX6_worst_X3_leadingAstray : GoodIn wsX6_worst wsX3_leadingAstray := goodIn_r _ [5, 6, 7, 8, 9, 10, 11, 12, 13, 14, 15, 16, 17, 18, 19, 20, 21, 22, 23, 24, 25, 26, 4, 27, 34, 35, 36, 37] (by decide +kernel) (by decide +kernel)
set_option maxRecDepth 20000 in
theorem gX6_worst_X3_leadingAstray : GoodIn wsX6_worst (va_wsS RX6 232 yX3_leadingAstray wsX3_leadingAstray) := goodIn_app (goodIn_of _ (by decide +kernel)) ggX6_worst_X3_leadingAstray
theorem dX6_worst_0 : decode cX6_worst 0 = .ok (.iconst 0, 1) := by decide +kernel
theorem dX6_worst_1 : decode cX6_worst 1 = .ok (.istore_n 1, 1) := by decide +kernel
theorem dX6_worst_2 : decode cX6_worst 2 = .ok (.aload_n 0, 1) := by decide +kernel
theorem dX6_worst_3 : decode cX6_worst 3 = .ok (.getfield 19, 3) := by decide +kernel
theorem dX6_worst_6 : decode cX6_worst 6 = .ok (.iconst 0, 1) := by decide +kernel
theorem dX6_worst_7 : decode cX6_worst 7 = .ok (.invokestatic 232, 3) := by decide +kernel
theorem dX6_worst_10 : decode cX6_worst 10 = .ok (.istore_n 2, 1) := by decide +kernel
theorem dX6_worst_11 : decode cX6_worst 11 = .ok (.iconst 1, 1) := by decide +kernel
theorem dX6_worst_12 : decode cX6_worst 12 = .ok (.istore_n 3, 1) := by decide +kernel
theorem dX6_worst_13 : decode cX6_worst 13 = .ok (.iload_n 3, 1) := by decide +kernel
theorem dX6_worst_14 : decode cX6_worst 14 = .ok (.iconst 3, 1) := by decide +kernel
theorem dX6_worst_15 : decode cX6_worst 15 = .ok (.if_icmp .ge 30, 3) := by decide +kernel
theorem dX6_worst_18 : decode cX6_worst 18 = .ok (.aload_n 0, 1) := by decide +kernel
theorem dX6_worst_19 : decode cX6_worst 19 = .ok (.getfield 19, 3) := by decide +kernel
theorem dX6_worst_22 : decode cX6_worst 22 = .ok (.iload_n 3, 1) := by decide +kernel
theorem dX6_worst_23 : decode cX6_worst 23 = .ok (.invokestatic 232, 3) := by decide +kernel
theorem dX6_worst_26 : decode cX6_worst 26 = .ok (.istore 4, 2) := by decide +kernel
theorem dX6_worst_28 : decode cX6_worst 28 = .ok (.iload 4, 2) := by decide +kernel
theorem dX6_worst_30 : decode cX6_worst 30 = .ok (.iload_n 2, 1) := by decide +kernel
theorem dX6_worst_31 : decode cX6_worst 31 = .ok (.if_icmp .le 8, 3) := by decide +kernel
theorem dX6_worst_34 : decode cX6_worst 34 = .ok (.iload 4, 2) := by decide +kernel
theorem dX6_worst_36 : decode cX6_worst 36 = .ok (.istore_n 2, 1) := by decide +kernel
theorem dX6_worst_37 : decode cX6_worst 37 = .ok (.iload_n 3, 1) := by decide +kernel
theorem dX6_worst_38 : decode cX6_worst 38 = .ok (.istore_n 1, 1) := by decide +kernel
theorem dX6_worst_39 : decode cX6_worst 39 = .ok (.iinc 3 1, 3) := by decide +kernel
theorem dX6_worst_42 : decode cX6_worst 42 = .ok (.goto (-29), 3) := by decide +kernel
theorem dX6_worst_45 : decode cX6_worst 45 = .ok (.iload_n 1, 1) := by decide +kernel
theorem dX6_worst_46 : decode cX6_worst 46 = .ok (.ireturn, 1) := by decide +kernel
set_option maxRecDepth 20000 in
theorem ggX6_runScript_X4_above : GoodIn wsX6_runScript wsX4_above := goodIn_r _ [8, 9] (by decide +kernel) (by decide +kernel)
set_option maxRecDepth 20000 in
theorem gX6_runScript_X4_above : GoodIn wsX6_runScript (va_wsS RX6 256 yX4_above wsX4_above) := goodIn_app (goodIn_of _ (by decide +kernel)) ggX6_runScript_X4_above
set_option maxRecDepth 20000 in
theorem ggX6_runScript_X1_copyFrom : GoodIn wsX6_runScript wsX1_copyFrom := goodIn_r _ [14, 15, 16, 17, 18, 19, 20, 21, 22, 122, 123, 124, 125] (by decide +kernel) (by decide +kernel)
set_option maxRecDepth 20000 in
theorem gX6_runScript_X1_copyFrom : GoodIn wsX6_runScript (wsV RX6 246 RX1 yX1_copyFrom wsX1_copyFrom) := goodIn_app (goodIn_of _ (by decide +kernel)) ggX6_runScript_X1_copyFrom
set_option maxRecDepth 20000 in
theorem ggX6_runScript_X4_firstFailure : GoodIn wsX6_runScript wsX4_firstFailure := goodIn_r _ [25, 26, 27, 7, 28, 9, 29, 30, 31, 32, 33, 34, 13, 35, 20, 21, 36, 37, 38, 39, 40, 41, 42, 43, 44, 45, 46, 15, 47, 48, 49, 50, 51, 52, 53, 54, 55, 56, 57, 58, 59, 60, 61, 62, 22, 63, 64, 65, 66, 67, 68, 69, 70, 71, 72, 73, 74, 75, 76, 77, 78, 79, 80, 81, 82, 83, 84, 85, 86, 87, 88, 89, 90, 91, 92, 93, 94, 95, 96, 97, 98, 99, 100, 101, 102, 103, 104, 105, 106, 107, 108, 109, 110, 111, 112, 113, 114, 115, 122, 123, 124, 125] (by decide +kernel) (by decide +kernel)
set_option maxRecDepth 20000 in
theorem gX6_runScript_X4_firstFailure : GoodIn wsX6_runScript (va_wsS RX6 262 yX4_firstFailure wsX4_firstFailure) := goodIn_app (goodIn_of _ (by decide +kernel)) ggX6_runScript_X4_firstFailure
theorem dX6_runScript_0 : decode cX6_runScript 0 = .ok (.iload_n 1, 1) := by decide +kernel
theorem dX6_runScript_1 : decode cX6_runScript 1 = .ok (.iconst 1, 1) := by decide +kernel
theorem dX6_runScript_2 : decode cX6_runScript 2 = .ok (.if_icmp .lt 8, 3) := by decide +kernel
theorem dX6_runScript_5 : decode cX6_runScript 5 = .ok (.iload_n 1, 1) := by decide +kernel
theorem dX6_runScript_6 : decode cX6_runScript 6 = .ok (.iconst 3, 1) := by decide +kernel
theorem dX6_runScript_7 : decode cX6_runScript 7 = .ok (.if_icmp .le 13, 3) := by decide +kernel
theorem dX6_runScript_10 : decode cX6_runScript 10 = .ok (.new 41, 3) := by decide +kernel
theorem dX6_runScript_13 : decode cX6_runScript 13 = .ok (.dup, 1) := by decide +kernel
theorem dX6_runScript_14 : decode cX6_runScript 14 = .ok (.ldc 254, 2) := by decide +kernel
theorem dX6_runScript_16 : decode cX6_runScript 16 = .ok (.invokespecial 45, 3) := by decide +kernel
theorem dX6_runScript_19 : decode cX6_runScript 19 = .ok (.athrow, 1) := by decide +kernel
theorem dX6_runScript_20 : decode cX6_runScript 20 = .ok (.lload_n 2, 1) := by decide +kernel
theorem dX6_runScript_21 : decode cX6_runScript 21 = .ok (.lconst 0, 1) := by decide +kernel
theorem dX6_runScript_22 : decode cX6_runScript 22 = .ok (.lcmp, 1) := by decide +kernel
theorem dX6_runScript_23 : decode cX6_runScript 23 = .ok (.ifCond .lt 12, 3) := by decide +kernel
theorem dX6_runScript_26 : decode cX6_runScript 26 = .ok (.lload_n 2, 1) := by decide +kernel
theorem dX6_runScript_27 : decode cX6_runScript 27 = .ok (.iload_n 1, 1) := by decide +kernel
theorem dX6_runScript_28 : decode cX6_runScript 28 = .ok (.invokestatic 256, 3) := by decide +kernel
theorem dX6_runScript_31 : decode cX6_runScript 31 = .ok (.lcmp, 1) := by decide +kernel
theorem dX6_runScript_32 : decode cX6_runScript 32 = .ok (.ifCond .lt 14, 3) := by decide +kernel
theorem dX6_runScript_35 : decode cX6_runScript 35 = .ok (.new 41, 3) := by decide +kernel
theorem dX6_runScript_38 : decode cX6_runScript 38 = .ok (.dup, 1) := by decide +kernel
theorem dX6_runScript_39 : decode cX6_runScript 39 = .ok (.ldc_w 260, 3) := by decide +kernel
theorem dX6_runScript_42 : decode cX6_runScript 42 = .ok (.invokespecial 45, 3) := by decide +kernel
theorem dX6_runScript_45 : decode cX6_runScript 45 = .ok (.athrow, 1) := by decide +kernel
theorem dX6_runScript_46 : decode cX6_runScript 46 = .ok (.aload_n 0, 1) := by decide +kernel
theorem dX6_runScript_47 : decode cX6_runScript 47 = .ok (.getfield 23, 3) := by decide +kernel
theorem dX6_runScript_50 : decode cX6_runScript 50 = .ok (.aload_n 0, 1) := by decide +kernel
theorem dX6_runScript_51 : decode cX6_runScript 51 = .ok (.getfield 19, 3) := by decide +kernel
theorem dX6_runScript_54 : decode cX6_runScript 54 = .ok (.invokevirtual 246, 3) := by decide +kernel
theorem dX6_runScript_57 : decode cX6_runScript 57 = .ok (.aload_n 0, 1) := by decide +kernel
theorem dX6_runScript_58 : decode cX6_runScript 58 = .ok (.getfield 23, 3) := by decide +kernel
theorem dX6_runScript_61 : decode cX6_runScript 61 = .ok (.iload_n 1, 1) := by decide +kernel
theorem dX6_runScript_62 : decode cX6_runScript 62 = .ok (.lload_n 2, 1) := by decide +kernel
theorem dX6_runScript_63 : decode cX6_runScript 63 = .ok (.invokestatic 262, 3) := by decide +kernel
theorem dX6_runScript_66 : decode cX6_runScript 66 = .ok (.ireturn, 1) := by decide +kernel
set_option maxRecDepth 20000 in
theorem ggX6_simulate_X1_copyFrom : GoodIn wsX6_simulate wsX1_copyFrom := goodIn_r _ [9, 10, 11, 12, 13, 14, 15, 16, 17, 136, 137, 138, 139] (by decide +kernel) (by decide +kernel)
set_option maxRecDepth 20000 in
theorem gX6_simulate_X1_copyFrom : GoodIn wsX6_simulate (wsV RX6 246 RX1 yX1_copyFrom wsX1_copyFrom) := goodIn_app (goodIn_of _ (by decide +kernel)) ggX6_simulate_X1_copyFrom
set_option maxRecDepth 20000 in
theorem ggX6_simulate_X5_run : GoodIn wsX6_simulate wsX5_run := goodIn_r _ [21, 22, 23, 24, 25, 20, 26, 27, 28, 29, 8, 30, 15, 16, 31, 32, 33, 34, 35, 36, 37, 38, 39, 40, 41, 10, 42, 43, 44, 45, 46, 47, 48, 49, 50, 51, 52, 53, 54, 55, 56, 57, 17, 58, 59, 60, 61, 62, 63, 64, 65, 66, 67, 68, 69, 70, 71, 72, 73, 74, 75, 76, 77, 78, 79, 80, 81, 82, 83, 84, 85, 86, 87, 88, 89, 90, 91, 92, 93, 94, 95, 96, 97, 98, 99, 100, 101, 102, 103, 104, 105, 106, 107, 108, 109, 110, 111, 112, 113, 136, 137, 138, 139] (by decide +kernel) (by decide +kernel)
set_option maxRecDepth 20000 in
theorem gX6_simulate_X5_run : GoodIn wsX6_simulate (va_wsS RX6 268 yX5_run wsX5_run) := goodIn_app (goodIn_of _ (by decide +kernel)) ggX6_simulate_X5_run
set_option maxRecDepth 20000 in
theorem ggX6_simulate_X1_wrongInAll : GoodIn wsX6_simulate wsX1_wrongInAll := goodIn_r _ [117, 118, 119, 120, 8, 121, 15, 122, 123, 124, 125, 38, 39, 40, 41, 10, 136, 137, 138, 139] (by decide +kernel) (by decide +kernel)
set_option maxRecDepth 20000 in
theorem gX6_simulate_X1_wrongInAll : GoodIn wsX6_simulate (wsV RX6 243 RX1 yX1_wrongInAll wsX1_wrongInAll) := goodIn_app (goodIn_of _ (by decide +kernel)) ggX6_simulate_X1_wrongInAll
set_option maxRecDepth 20000 in
theorem ggX6_simulate_X1_levels : GoodIn wsX6_simulate wsX1_levels := goodIn_r _ [129, 15, 136, 137, 138, 139] (by decide +kernel) (by decide +kernel)
set_option maxRecDepth 20000 in
theorem gX6_simulate_X1_levels : GoodIn wsX6_simulate (wsV RX6 80 RX1 yX1_levels wsX1_levels) := goodIn_app (goodIn_of _ (by decide +kernel)) ggX6_simulate_X1_levels
theorem dX6_simulate_0 : decode cX6_simulate 0 = .ok (.iload_n 3, 1) := by decide +kernel
theorem dX6_simulate_1 : decode cX6_simulate 1 = .ok (.iconst 1, 1) := by decide +kernel
theorem dX6_simulate_2 : decode cX6_simulate 2 = .ok (.if_icmp .lt 9, 3) := by decide +kernel
theorem dX6_simulate_5 : decode cX6_simulate 5 = .ok (.iload_n 3, 1) := by decide +kernel
theorem dX6_simulate_6 : decode cX6_simulate 6 = .ok (.bipush 80, 2) := by decide +kernel
theorem dX6_simulate_8 : decode cX6_simulate 8 = .ok (.if_icmp .le 14, 3) := by decide +kernel
theorem dX6_simulate_11 : decode cX6_simulate 11 = .ok (.new 41, 3) := by decide +kernel
theorem dX6_simulate_14 : decode cX6_simulate 14 = .ok (.dup, 1) := by decide +kernel
theorem dX6_simulate_15 : decode cX6_simulate 15 = .ok (.ldc_w 266, 3) := by decide +kernel
theorem dX6_simulate_18 : decode cX6_simulate 18 = .ok (.invokespecial 45, 3) := by decide +kernel
theorem dX6_simulate_21 : decode cX6_simulate 21 = .ok (.athrow, 1) := by decide +kernel
theorem dX6_simulate_22 : decode cX6_simulate 22 = .ok (.aload_n 0, 1) := by decide +kernel
theorem dX6_simulate_23 : decode cX6_simulate 23 = .ok (.getfield 23, 3) := by decide +kernel
theorem dX6_simulate_26 : decode cX6_simulate 26 = .ok (.aload_n 0, 1) := by decide +kernel
theorem dX6_simulate_27 : decode cX6_simulate 27 = .ok (.getfield 19, 3) := by decide +kernel
theorem dX6_simulate_30 : decode cX6_simulate 30 = .ok (.invokevirtual 246, 3) := by decide +kernel
theorem dX6_simulate_33 : decode cX6_simulate 33 = .ok (.aload_n 0, 1) := by decide +kernel
theorem dX6_simulate_34 : decode cX6_simulate 34 = .ok (.getfield 23, 3) := by decide +kernel
theorem dX6_simulate_37 : decode cX6_simulate 37 = .ok (.lload_n 1, 1) := by decide +kernel
theorem dX6_simulate_38 : decode cX6_simulate 38 = .ok (.iload_n 3, 1) := by decide +kernel
theorem dX6_simulate_39 : decode cX6_simulate 39 = .ok (.invokestatic 268, 3) := by decide +kernel
theorem dX6_simulate_42 : decode cX6_simulate 42 = .ok (.sipush 1000, 3) := by decide +kernel
theorem dX6_simulate_45 : decode cX6_simulate 45 = .ok (.aload_n 0, 1) := by decide +kernel
theorem dX6_simulate_46 : decode cX6_simulate 46 = .ok (.getfield 23, 3) := by decide +kernel
theorem dX6_simulate_49 : decode cX6_simulate 49 = .ok (.invokevirtual 243, 3) := by decide +kernel
theorem dX6_simulate_52 : decode cX6_simulate 52 = .ok (.imul, 1) := by decide +kernel
theorem dX6_simulate_53 : decode cX6_simulate 53 = .ok (.aload_n 0, 1) := by decide +kernel
theorem dX6_simulate_54 : decode cX6_simulate 54 = .ok (.getfield 23, 3) := by decide +kernel
theorem dX6_simulate_57 : decode cX6_simulate 57 = .ok (.invokevirtual 80, 3) := by decide +kernel
theorem dX6_simulate_60 : decode cX6_simulate 60 = .ok (.iadd, 1) := by decide +kernel
theorem dX6_simulate_61 : decode cX6_simulate 61 = .ok (.ireturn, 1) := by decide +kernel
set_option maxRecDepth 20000 in
theorem ggX6_save_X6_requireSlot : GoodIn wsX6_save wsX6_requireSlot := goodIn_ca (goodIn_r _ [8, 9, 10] (by decide +kernel) (by decide +kernel)) (goodIn_sub (fun _ h => List.mem_cons_of_mem _ (List.mem_append_right _ h)) (by decide +kernel))
set_option maxRecDepth 20000 in
theorem gX6_save_X6_requireSlot : GoodIn wsX6_save (wsV RX6 274 RX6 yX6_requireSlot wsX6_requireSlot) := goodIn_app (goodIn_of _ (by decide +kernel)) ggX6_save_X6_requireSlot
set_option maxRecDepth 20000 in
theorem ggX6_save_X1_copyFrom : GoodIn wsX6_save wsX1_copyFrom := goodIn_r _ [15, 16, 17, 18, 19, 20, 21, 22, 23, 34, 35, 36, 37] (by decide +kernel) (by decide +kernel)
set_option maxRecDepth 20000 in
theorem gX6_save_X1_copyFrom : GoodIn wsX6_save (wsV RX6 246 RX1 yX1_copyFrom wsX1_copyFrom) := goodIn_app (goodIn_of _ (by decide +kernel)) ggX6_save_X1_copyFrom
set_option maxRecDepth 20000 in
theorem ggX6_save_X1_levels : GoodIn wsX6_save wsX1_levels := goodIn_r _ [27, 21, 34, 35, 36, 37] (by decide +kernel) (by decide +kernel)
set_option maxRecDepth 20000 in
theorem gX6_save_X1_levels : GoodIn wsX6_save (wsV RX6 80 RX1 yX1_levels wsX1_levels) := goodIn_app (goodIn_of _ (by decide +kernel)) ggX6_save_X1_levels
theorem dX6_save_0 : decode cX6_save 0 = .ok (.aload_n 0, 1) := by decide +kernel
theorem dX6_save_1 : decode cX6_save 1 = .ok (.iload_n 1, 1) := by decide +kernel
theorem dX6_save_2 : decode cX6_save 2 = .ok (.invokevirtual 274, 3) := by decide +kernel
theorem dX6_save_5 : decode cX6_save 5 = .ok (.aload_n 0, 1) := by decide +kernel
theorem dX6_save_6 : decode cX6_save 6 = .ok (.getfield 33, 3) := by decide +kernel
theorem dX6_save_9 : decode cX6_save 9 = .ok (.iload_n 1, 1) := by decide +kernel
theorem dX6_save_10 : decode cX6_save 10 = .ok (.aaload, 1) := by decide +kernel
theorem dX6_save_11 : decode cX6_save 11 = .ok (.aload_n 0, 1) := by decide +kernel
theorem dX6_save_12 : decode cX6_save 12 = .ok (.getfield 19, 3) := by decide +kernel
theorem dX6_save_15 : decode cX6_save 15 = .ok (.invokevirtual 246, 3) := by decide +kernel
theorem dX6_save_18 : decode cX6_save 18 = .ok (.aload_n 0, 1) := by decide +kernel
theorem dX6_save_19 : decode cX6_save 19 = .ok (.getfield 37, 3) := by decide +kernel
theorem dX6_save_22 : decode cX6_save 22 = .ok (.iload_n 1, 1) := by decide +kernel
theorem dX6_save_23 : decode cX6_save 23 = .ok (.iconst 1, 1) := by decide +kernel
theorem dX6_save_24 : decode cX6_save 24 = .ok (.bastore, 1) := by decide +kernel
theorem dX6_save_25 : decode cX6_save 25 = .ok (.aload_n 0, 1) := by decide +kernel
theorem dX6_save_26 : decode cX6_save 26 = .ok (.getfield 19, 3) := by decide +kernel
theorem dX6_save_29 : decode cX6_save 29 = .ok (.invokevirtual 80, 3) := by decide +kernel
theorem dX6_save_32 : decode cX6_save 32 = .ok (.ireturn, 1) := by decide +kernel
set_option maxRecDepth 20000 in
theorem ggX6_restore_X6_requireSlot : GoodIn wsX6_restore wsX6_requireSlot := goodIn_ca (goodIn_r _ [11, 12, 13] (by decide +kernel) (by decide +kernel)) (goodIn_sub (fun _ h => List.mem_cons_of_mem _ (List.mem_append_right _ h)) (by decide +kernel))
set_option maxRecDepth 20000 in
theorem gX6_restore_X6_requireSlot : GoodIn wsX6_restore (wsV RX6 274 RX6 yX6_requireSlot wsX6_requireSlot) := goodIn_app (goodIn_of _ (by decide +kernel)) ggX6_restore_X6_requireSlot
set_option maxRecDepth 20000 in
theorem ggX6_restore_X1_copyFrom : GoodIn wsX6_restore wsX1_copyFrom := goodIn_r _ [18, 19, 20, 21, 22, 23, 24, 25, 26, 43, 44, 45, 46] (by decide +kernel) (by decide +kernel)
set_option maxRecDepth 20000 in
theorem gX6_restore_X1_copyFrom : GoodIn wsX6_restore (wsV RX6 246 RX1 yX1_copyFrom wsX1_copyFrom) := goodIn_app (goodIn_of _ (by decide +kernel)) ggX6_restore_X1_copyFrom
set_option maxRecDepth 20000 in
theorem ggX6_restore_X0_forget : GoodIn wsX6_restore wsX0_forget := goodIn_r _ [31, 32, 47, 48, 49] (by decide +kernel) (by decide +kernel)
set_option maxRecDepth 20000 in
theorem gX6_restore_X0_forget : GoodIn wsX6_restore (wsV RX6 77 RX0 yX0_forget wsX0_forget) := goodIn_app (goodIn_of _ (by decide +kernel)) ggX6_restore_X0_forget
set_option maxRecDepth 20000 in
theorem ggX6_restore_X1_levels : GoodIn wsX6_restore wsX1_levels := goodIn_r _ [36, 24, 43, 44, 45, 46] (by decide +kernel) (by decide +kernel)
set_option maxRecDepth 20000 in
theorem gX6_restore_X1_levels : GoodIn wsX6_restore (wsV RX6 80 RX1 yX1_levels wsX1_levels) := goodIn_app (goodIn_of _ (by decide +kernel)) ggX6_restore_X1_levels
theorem dX6_restore_0 : decode cX6_restore 0 = .ok (.aload_n 0, 1) := by decide +kernel
theorem dX6_restore_1 : decode cX6_restore 1 = .ok (.iload_n 1, 1) := by decide +kernel
theorem dX6_restore_2 : decode cX6_restore 2 = .ok (.invokevirtual 274, 3) := by decide +kernel
theorem dX6_restore_5 : decode cX6_restore 5 = .ok (.aload_n 0, 1) := by decide +kernel
theorem dX6_restore_6 : decode cX6_restore 6 = .ok (.getfield 37, 3) := by decide +kernel
theorem dX6_restore_9 : decode cX6_restore 9 = .ok (.iload_n 1, 1) := by decide +kernel
theorem dX6_restore_10 : decode cX6_restore 10 = .ok (.baload, 1) := by decide +kernel
theorem dX6_restore_11 : decode cX6_restore 11 = .ok (.ifCond .ne 14, 3) := by decide +kernel
theorem dX6_restore_14 : decode cX6_restore 14 = .ok (.new 52, 3) := by decide +kernel
theorem dX6_restore_17 : decode cX6_restore 17 = .ok (.dup, 1) := by decide +kernel
theorem dX6_restore_18 : decode cX6_restore 18 = .ok (.ldc_w 277, 3) := by decide +kernel
theorem dX6_restore_21 : decode cX6_restore 21 = .ok (.invokespecial 56, 3) := by decide +kernel
theorem dX6_restore_24 : decode cX6_restore 24 = .ok (.athrow, 1) := by decide +kernel
theorem dX6_restore_25 : decode cX6_restore 25 = .ok (.aload_n 0, 1) := by decide +kernel
theorem dX6_restore_26 : decode cX6_restore 26 = .ok (.getfield 19, 3) := by decide +kernel
theorem dX6_restore_29 : decode cX6_restore 29 = .ok (.aload_n 0, 1) := by decide +kernel
theorem dX6_restore_30 : decode cX6_restore 30 = .ok (.getfield 33, 3) := by decide +kernel
theorem dX6_restore_33 : decode cX6_restore 33 = .ok (.iload_n 1, 1) := by decide +kernel
theorem dX6_restore_34 : decode cX6_restore 34 = .ok (.aaload, 1) := by decide +kernel
theorem dX6_restore_35 : decode cX6_restore 35 = .ok (.invokevirtual 246, 3) := by decide +kernel
theorem dX6_restore_38 : decode cX6_restore 38 = .ok (.aload_n 0, 1) := by decide +kernel
theorem dX6_restore_39 : decode cX6_restore 39 = .ok (.getfield 29, 3) := by decide +kernel
theorem dX6_restore_42 : decode cX6_restore 42 = .ok (.invokevirtual 77, 3) := by decide +kernel
theorem dX6_restore_45 : decode cX6_restore 45 = .ok (.aload_n 0, 1) := by decide +kernel
theorem dX6_restore_46 : decode cX6_restore 46 = .ok (.getfield 19, 3) := by decide +kernel
theorem dX6_restore_49 : decode cX6_restore 49 = .ok (.invokevirtual 80, 3) := by decide +kernel
theorem dX6_restore_52 : decode cX6_restore 52 = .ok (.ireturn, 1) := by decide +kernel
set_option maxRecDepth 20000 in
theorem ggX6_requireLevel_X1_hasLevel : GoodIn wsX6_requireLevel wsX1_hasLevel := goodIn_r _ [8, 9, 16, 17, 18, 19] (by decide +kernel) (by decide +kernel)
set_option maxRecDepth 20000 in
theorem gX6_requireLevel_X1_hasLevel : GoodIn wsX6_requireLevel (wsV RX6 279 RX1 yX1_hasLevel wsX1_hasLevel) := goodIn_app (goodIn_of _ (by decide +kernel)) ggX6_requireLevel_X1_hasLevel
theorem dX6_requireLevel_0 : decode cX6_requireLevel 0 = .ok (.aload_n 0, 1) := by decide +kernel
theorem dX6_requireLevel_1 : decode cX6_requireLevel 1 = .ok (.getfield 19, 3) := by decide +kernel
theorem dX6_requireLevel_4 : decode cX6_requireLevel 4 = .ok (.iload_n 1, 1) := by decide +kernel
theorem dX6_requireLevel_5 : decode cX6_requireLevel 5 = .ok (.invokevirtual 279, 3) := by decide +kernel
theorem dX6_requireLevel_8 : decode cX6_requireLevel 8 = .ok (.ifCond .ne 14, 3) := by decide +kernel
theorem dX6_requireLevel_11 : decode cX6_requireLevel 11 = .ok (.new 282, 3) := by decide +kernel
theorem dX6_requireLevel_14 : decode cX6_requireLevel 14 = .ok (.dup, 1) := by decide +kernel
theorem dX6_requireLevel_15 : decode cX6_requireLevel 15 = .ok (.ldc_w 284, 3) := by decide +kernel
theorem dX6_requireLevel_18 : decode cX6_requireLevel 18 = .ok (.invokespecial 286, 3) := by decide +kernel
theorem dX6_requireLevel_21 : decode cX6_requireLevel 21 = .ok (.athrow, 1) := by decide +kernel
theorem dX6_requireLevel_22 : decode cX6_requireLevel 22 = .ok (.return_, 1) := by decide +kernel
set_option maxRecDepth 20000 in
theorem ggX6_requireCar_X6_isCar : GoodIn wsX6_requireCar wsX6_isCar := goodIn_r _ [6] (by decide +kernel) (by decide +kernel)
set_option maxRecDepth 20000 in
theorem gX6_requireCar_X6_isCar : GoodIn wsX6_requireCar (va_wsS RX6 287 yX6_isCar wsX6_isCar) := goodIn_app (goodIn_of _ (by decide +kernel)) ggX6_requireCar_X6_isCar
theorem dX6_requireCar_0 : decode cX6_requireCar 0 = .ok (.iload_n 1, 1) := by decide +kernel
theorem dX6_requireCar_1 : decode cX6_requireCar 1 = .ok (.invokestatic 287, 3) := by decide +kernel
theorem dX6_requireCar_4 : decode cX6_requireCar 4 = .ok (.ifCond .ne 14, 3) := by decide +kernel
theorem dX6_requireCar_7 : decode cX6_requireCar 7 = .ok (.new 282, 3) := by decide +kernel
theorem dX6_requireCar_10 : decode cX6_requireCar 10 = .ok (.dup, 1) := by decide +kernel
theorem dX6_requireCar_11 : decode cX6_requireCar 11 = .ok (.ldc_w 290, 3) := by decide +kernel
theorem dX6_requireCar_14 : decode cX6_requireCar 14 = .ok (.invokespecial 286, 3) := by decide +kernel
theorem dX6_requireCar_17 : decode cX6_requireCar 17 = .ok (.athrow, 1) := by decide +kernel
theorem dX6_requireCar_18 : decode cX6_requireCar 18 = .ok (.return_, 1) := by decide +kernel
theorem dX6_requireSlot_0 : decode cX6_requireSlot 0 = .ok (.iload_n 1, 1) := by decide +kernel
theorem dX6_requireSlot_1 : decode cX6_requireSlot 1 = .ok (.ifCond .lt 8, 3) := by decide +kernel
theorem dX6_requireSlot_4 : decode cX6_requireSlot 4 = .ok (.iload_n 1, 1) := by decide +kernel
theorem dX6_requireSlot_5 : decode cX6_requireSlot 5 = .ok (.iconst 2, 1) := by decide +kernel
theorem dX6_requireSlot_6 : decode cX6_requireSlot 6 = .ok (.if_icmp .lt 14, 3) := by decide +kernel
theorem dX6_requireSlot_9 : decode cX6_requireSlot 9 = .ok (.new 282, 3) := by decide +kernel
theorem dX6_requireSlot_12 : decode cX6_requireSlot 12 = .ok (.dup, 1) := by decide +kernel
theorem dX6_requireSlot_13 : decode cX6_requireSlot 13 = .ok (.ldc_w 292, 3) := by decide +kernel
theorem dX6_requireSlot_16 : decode cX6_requireSlot 16 = .ok (.invokespecial 286, 3) := by decide +kernel
theorem dX6_requireSlot_19 : decode cX6_requireSlot 19 = .ok (.athrow, 1) := by decide +kernel
theorem dX6_requireSlot_20 : decode cX6_requireSlot 20 = .ok (.return_, 1) := by decide +kernel
set_option maxRecDepth 20000 in
theorem ggX6_requireKind_X6_isKind : GoodIn wsX6_requireKind wsX6_isKind := goodIn_r _ [6] (by decide +kernel) (by decide +kernel)
set_option maxRecDepth 20000 in
theorem gX6_requireKind_X6_isKind : GoodIn wsX6_requireKind (va_wsS RX6 294 yX6_isKind wsX6_isKind) := goodIn_app (goodIn_of _ (by decide +kernel)) ggX6_requireKind_X6_isKind
theorem dX6_requireKind_0 : decode cX6_requireKind 0 = .ok (.iload_n 1, 1) := by decide +kernel
theorem dX6_requireKind_1 : decode cX6_requireKind 1 = .ok (.invokestatic 294, 3) := by decide +kernel
theorem dX6_requireKind_4 : decode cX6_requireKind 4 = .ok (.ifCond .ne 14, 3) := by decide +kernel
theorem dX6_requireKind_7 : decode cX6_requireKind 7 = .ok (.new 41, 3) := by decide +kernel
theorem dX6_requireKind_10 : decode cX6_requireKind 10 = .ok (.dup, 1) := by decide +kernel
theorem dX6_requireKind_11 : decode cX6_requireKind 11 = .ok (.ldc_w 297, 3) := by decide +kernel
theorem dX6_requireKind_14 : decode cX6_requireKind 14 = .ok (.invokespecial 45, 3) := by decide +kernel
theorem dX6_requireKind_17 : decode cX6_requireKind 17 = .ok (.athrow, 1) := by decide +kernel
theorem dX6_requireKind_18 : decode cX6_requireKind 18 = .ok (.return_, 1) := by decide +kernel
set_option maxRecDepth 20000 in
theorem ggX6_requireStorey_X6_canBeSkipped : GoodIn wsX6_requireStorey wsX6_canBeSkipped := goodIn_r _ [6] (by decide +kernel) (by decide +kernel)
set_option maxRecDepth 20000 in
theorem gX6_requireStorey_X6_canBeSkipped : GoodIn wsX6_requireStorey (va_wsS RX6 299 yX6_canBeSkipped wsX6_canBeSkipped) := goodIn_app (goodIn_of _ (by decide +kernel)) ggX6_requireStorey_X6_canBeSkipped
theorem dX6_requireStorey_0 : decode cX6_requireStorey 0 = .ok (.iload_n 1, 1) := by decide +kernel
theorem dX6_requireStorey_1 : decode cX6_requireStorey 1 = .ok (.invokestatic 299, 3) := by decide +kernel
theorem dX6_requireStorey_4 : decode cX6_requireStorey 4 = .ok (.ifCond .ne 14, 3) := by decide +kernel
theorem dX6_requireStorey_7 : decode cX6_requireStorey 7 = .ok (.new 41, 3) := by decide +kernel
theorem dX6_requireStorey_10 : decode cX6_requireStorey 10 = .ok (.dup, 1) := by decide +kernel
theorem dX6_requireStorey_11 : decode cX6_requireStorey 11 = .ok (.ldc_w 302, 3) := by decide +kernel
theorem dX6_requireStorey_14 : decode cX6_requireStorey 14 = .ok (.invokespecial 45, 3) := by decide +kernel
theorem dX6_requireStorey_17 : decode cX6_requireStorey 17 = .ok (.athrow, 1) := by decide +kernel
theorem dX6_requireStorey_18 : decode cX6_requireStorey 18 = .ok (.return_, 1) := by decide +kernel
set_option maxRecDepth 20000 in
theorem ggX6_requireRoomFor_X1_levels : GoodIn wsX6_requireRoomFor wsX1_levels := goodIn_r _ [10, 11, 32, 33, 34, 35] (by decide +kernel) (by decide +kernel)
set_option maxRecDepth 20000 in
theorem gX6_requireRoomFor_X1_levels : GoodIn wsX6_requireRoomFor (wsV RX6 80 RX1 yX1_levels wsX1_levels) := goodIn_app (goodIn_of _ (by decide +kernel)) ggX6_requireRoomFor_X1_levels
set_option maxRecDepth 20000 in
theorem ggX6_requireRoomFor_X6_requireKind : GoodIn wsX6_requireRoomFor wsX6_requireKind := goodIn_ca (goodIn_r _ [16, 17, 18, 19, 20, 15, 21] (by decide +kernel) (by decide +kernel)) (goodIn_sub (fun _ h => List.mem_cons_of_mem _ (List.mem_append_right _ h)) (by decide +kernel))
set_option maxRecDepth 20000 in
theorem gX6_requireRoomFor_X6_requireKind : GoodIn wsX6_requireRoomFor (wsV RX6 175 RX6 yX6_requireKind wsX6_requireKind) := goodIn_app (goodIn_of _ (by decide +kernel)) ggX6_requireRoomFor_X6_requireKind
set_option maxRecDepth 20000 in
theorem ggX6_requireRoomFor_X1_isFull : GoodIn wsX6_requireRoomFor wsX1_isFull := goodIn_r _ [25, 11, 32, 33, 34, 35] (by decide +kernel) (by decide +kernel)
set_option maxRecDepth 20000 in
theorem gX6_requireRoomFor_X1_isFull : GoodIn wsX6_requireRoomFor (wsV RX6 306 RX1 yX1_isFull wsX1_isFull) := goodIn_app (goodIn_of _ (by decide +kernel)) ggX6_requireRoomFor_X1_isFull
theorem dX6_requireRoomFor_0 : decode cX6_requireRoomFor 0 = .ok (.iload_n 1, 1) := by decide +kernel
theorem dX6_requireRoomFor_1 : decode cX6_requireRoomFor 1 = .ok (.ifCond .lt 14, 3) := by decide +kernel
theorem dX6_requireRoomFor_4 : decode cX6_requireRoomFor 4 = .ok (.iload_n 1, 1) := by decide +kernel
theorem dX6_requireRoomFor_5 : decode cX6_requireRoomFor 5 = .ok (.aload_n 0, 1) := by decide +kernel
theorem dX6_requireRoomFor_6 : decode cX6_requireRoomFor 6 = .ok (.getfield 19, 3) := by decide +kernel
theorem dX6_requireRoomFor_9 : decode cX6_requireRoomFor 9 = .ok (.invokevirtual 80, 3) := by decide +kernel
theorem dX6_requireRoomFor_12 : decode cX6_requireRoomFor 12 = .ok (.if_icmp .le 14, 3) := by decide +kernel
theorem dX6_requireRoomFor_15 : decode cX6_requireRoomFor 15 = .ok (.new 282, 3) := by decide +kernel
theorem dX6_requireRoomFor_18 : decode cX6_requireRoomFor 18 = .ok (.dup, 1) := by decide +kernel
theorem dX6_requireRoomFor_19 : decode cX6_requireRoomFor 19 = .ok (.ldc_w 304, 3) := by decide +kernel
theorem dX6_requireRoomFor_22 : decode cX6_requireRoomFor 22 = .ok (.invokespecial 286, 3) := by decide +kernel
theorem dX6_requireRoomFor_25 : decode cX6_requireRoomFor 25 = .ok (.athrow, 1) := by decide +kernel
theorem dX6_requireRoomFor_26 : decode cX6_requireRoomFor 26 = .ok (.aload_n 0, 1) := by decide +kernel
theorem dX6_requireRoomFor_27 : decode cX6_requireRoomFor 27 = .ok (.iload_n 2, 1) := by decide +kernel
theorem dX6_requireRoomFor_28 : decode cX6_requireRoomFor 28 = .ok (.invokevirtual 175, 3) := by decide +kernel
theorem dX6_requireRoomFor_31 : decode cX6_requireRoomFor 31 = .ok (.aload_n 0, 1) := by decide +kernel
theorem dX6_requireRoomFor_32 : decode cX6_requireRoomFor 32 = .ok (.getfield 19, 3) := by decide +kernel
theorem dX6_requireRoomFor_35 : decode cX6_requireRoomFor 35 = .ok (.invokevirtual 306, 3) := by decide +kernel
theorem dX6_requireRoomFor_38 : decode cX6_requireRoomFor 38 = .ok (.ifCond .eq 14, 3) := by decide +kernel
theorem dX6_requireRoomFor_41 : decode cX6_requireRoomFor 41 = .ok (.new 52, 3) := by decide +kernel
theorem dX6_requireRoomFor_44 : decode cX6_requireRoomFor 44 = .ok (.dup, 1) := by decide +kernel
theorem dX6_requireRoomFor_45 : decode cX6_requireRoomFor 45 = .ok (.ldc_w 307, 3) := by decide +kernel
theorem dX6_requireRoomFor_48 : decode cX6_requireRoomFor 48 = .ok (.invokespecial 56, 3) := by decide +kernel
theorem dX6_requireRoomFor_51 : decode cX6_requireRoomFor 51 = .ok (.athrow, 1) := by decide +kernel
theorem dX6_requireRoomFor_52 : decode cX6_requireRoomFor 52 = .ok (.return_, 1) := by decide +kernel
set_option maxRecDepth 20000 in
theorem ggX6_wrongIfSkipChanged_X1_copyFrom : GoodIn wsX6_wrongIfSkipChanged wsX1_copyFrom := goodIn_r _ [7, 8, 9, 10, 11, 12, 13, 14, 15, 65, 66, 67, 68] (by decide +kernel) (by decide +kernel)
set_option maxRecDepth 20000 in
theorem gX6_wrongIfSkipChanged_X1_copyFrom : GoodIn wsX6_wrongIfSkipChanged (wsV RX6 246 RX1 yX1_copyFrom wsX1_copyFrom) := goodIn_app (goodIn_of _ (by decide +kernel)) ggX6_wrongIfSkipChanged_X1_copyFrom
set_option maxRecDepth 20000 in
theorem ggX6_wrongIfSkipChanged_X1_skips : GoodIn wsX6_wrongIfSkipChanged wsX1_skips := goodIn_r _ [19, 15, 20, 21, 22, 65, 66, 67, 68] (by decide +kernel) (by decide +kernel)
set_option maxRecDepth 20000 in
theorem gX6_wrongIfSkipChanged_X1_skips : GoodIn wsX6_wrongIfSkipChanged (wsV RX6 151 RX1 yX1_skips wsX1_skips) := goodIn_app (goodIn_of _ (by decide +kernel)) ggX6_wrongIfSkipChanged_X1_skips
set_option maxRecDepth 20000 in
theorem ggX6_wrongIfSkipChanged_X1_changeSkip : GoodIn wsX6_wrongIfSkipChanged wsX1_changeSkip := goodIn_r _ [26, 15, 20, 21, 22, 27, 28, 29, 6, 30, 14, 13, 31, 32, 33, 34, 8, 35, 36, 37, 38, 39, 40, 41, 42, 43, 44, 45, 46, 65, 66, 67, 68] (by decide +kernel) (by decide +kernel)
set_option maxRecDepth 20000 in
theorem gX6_wrongIfSkipChanged_X1_changeSkip : GoodIn wsX6_wrongIfSkipChanged (wsV RX6 188 RX1 yX1_changeSkip wsX1_changeSkip) := goodIn_app (goodIn_of _ (by decide +kernel)) ggX6_wrongIfSkipChanged_X1_changeSkip
set_option maxRecDepth 20000 in
theorem ggX6_wrongIfSkipChanged_X1_wrongInAll : GoodIn wsX6_wrongIfSkipChanged wsX1_wrongInAll := goodIn_r _ [50, 51, 52, 53, 6, 54, 13, 55, 56, 57, 58, 35, 36, 37, 38, 8, 65, 66, 67, 68] (by decide +kernel) (by decide +kernel)
set_option maxRecDepth 20000 in
theorem gX6_wrongIfSkipChanged_X1_wrongInAll : GoodIn wsX6_wrongIfSkipChanged (wsV RX6 243 RX1 yX1_wrongInAll wsX1_wrongInAll) := goodIn_app (goodIn_of _ (by decide +kernel)) ggX6_wrongIfSkipChanged_X1_wrongInAll
theorem dX6_wrongIfSkipChanged_0 : decode cX6_wrongIfSkipChanged 0 = .ok (.aload_n 0, 1) := by decide +kernel
theorem dX6_wrongIfSkipChanged_1 : decode cX6_wrongIfSkipChanged 1 = .ok (.getfield 23, 3) := by decide +kernel
theorem dX6_wrongIfSkipChanged_4 : decode cX6_wrongIfSkipChanged 4 = .ok (.aload_n 0, 1) := by decide +kernel
theorem dX6_wrongIfSkipChanged_5 : decode cX6_wrongIfSkipChanged 5 = .ok (.getfield 19, 3) := by decide +kernel
theorem dX6_wrongIfSkipChanged_8 : decode cX6_wrongIfSkipChanged 8 = .ok (.invokevirtual 246, 3) := by decide +kernel
theorem dX6_wrongIfSkipChanged_11 : decode cX6_wrongIfSkipChanged 11 = .ok (.aload_n 0, 1) := by decide +kernel
theorem dX6_wrongIfSkipChanged_12 : decode cX6_wrongIfSkipChanged 12 = .ok (.getfield 23, 3) := by decide +kernel
theorem dX6_wrongIfSkipChanged_15 : decode cX6_wrongIfSkipChanged 15 = .ok (.iload_n 1, 1) := by decide +kernel
theorem dX6_wrongIfSkipChanged_16 : decode cX6_wrongIfSkipChanged 16 = .ok (.aload_n 0, 1) := by decide +kernel
theorem dX6_wrongIfSkipChanged_17 : decode cX6_wrongIfSkipChanged 17 = .ok (.getfield 23, 3) := by decide +kernel
theorem dX6_wrongIfSkipChanged_20 : decode cX6_wrongIfSkipChanged 20 = .ok (.iload_n 1, 1) := by decide +kernel
theorem dX6_wrongIfSkipChanged_21 : decode cX6_wrongIfSkipChanged 21 = .ok (.invokevirtual 151, 3) := by decide +kernel
theorem dX6_wrongIfSkipChanged_24 : decode cX6_wrongIfSkipChanged 24 = .ok (.ifCond .ne 7, 3) := by decide +kernel
theorem dX6_wrongIfSkipChanged_27 : decode cX6_wrongIfSkipChanged 27 = .ok (.iconst 1, 1) := by decide +kernel
theorem dX6_wrongIfSkipChanged_28 : decode cX6_wrongIfSkipChanged 28 = .ok (.goto 4, 3) := by decide +kernel
theorem dX6_wrongIfSkipChanged_31 : decode cX6_wrongIfSkipChanged 31 = .ok (.iconst 0, 1) := by decide +kernel
theorem dX6_wrongIfSkipChanged_32 : decode cX6_wrongIfSkipChanged 32 = .ok (.invokevirtual 188, 3) := by decide +kernel
theorem dX6_wrongIfSkipChanged_35 : decode cX6_wrongIfSkipChanged 35 = .ok (.pop, 1) := by decide +kernel
theorem dX6_wrongIfSkipChanged_36 : decode cX6_wrongIfSkipChanged 36 = .ok (.aload_n 0, 1) := by decide +kernel
theorem dX6_wrongIfSkipChanged_37 : decode cX6_wrongIfSkipChanged 37 = .ok (.getfield 23, 3) := by decide +kernel
theorem dX6_wrongIfSkipChanged_40 : decode cX6_wrongIfSkipChanged 40 = .ok (.invokevirtual 243, 3) := by decide +kernel
theorem dX6_wrongIfSkipChanged_43 : decode cX6_wrongIfSkipChanged 43 = .ok (.ireturn, 1) := by decide +kernel
theorem dX6_isCar_0 : decode cX6_isCar 0 = .ok (.iload_n 0, 1) := by decide +kernel
theorem dX6_isCar_1 : decode cX6_isCar 1 = .ok (.ifCond .lt 12, 3) := by decide +kernel
theorem dX6_isCar_4 : decode cX6_isCar 4 = .ok (.iload_n 0, 1) := by decide +kernel
theorem dX6_isCar_5 : decode cX6_isCar 5 = .ok (.iconst 3, 1) := by decide +kernel
theorem dX6_isCar_6 : decode cX6_isCar 6 = .ok (.if_icmp .ge 7, 3) := by decide +kernel
theorem dX6_isCar_9 : decode cX6_isCar 9 = .ok (.iconst 1, 1) := by decide +kernel
theorem dX6_isCar_10 : decode cX6_isCar 10 = .ok (.goto 4, 3) := by decide +kernel
theorem dX6_isCar_13 : decode cX6_isCar 13 = .ok (.iconst 0, 1) := by decide +kernel
theorem dX6_isCar_14 : decode cX6_isCar 14 = .ok (.ireturn, 1) := by decide +kernel
theorem dX6_isKind_0 : decode cX6_isKind 0 = .ok (.iload_n 0, 1) := by decide +kernel
theorem dX6_isKind_1 : decode cX6_isKind 1 = .ok (.ifCond .lt 12, 3) := by decide +kernel
theorem dX6_isKind_4 : decode cX6_isKind 4 = .ok (.iload_n 0, 1) := by decide +kernel
theorem dX6_isKind_5 : decode cX6_isKind 5 = .ok (.iconst 3, 1) := by decide +kernel
theorem dX6_isKind_6 : decode cX6_isKind 6 = .ok (.if_icmp .gt 7, 3) := by decide +kernel
theorem dX6_isKind_9 : decode cX6_isKind 9 = .ok (.iconst 1, 1) := by decide +kernel
theorem dX6_isKind_10 : decode cX6_isKind 10 = .ok (.goto 4, 3) := by decide +kernel
theorem dX6_isKind_13 : decode cX6_isKind 13 = .ok (.iconst 0, 1) := by decide +kernel
theorem dX6_isKind_14 : decode cX6_isKind 14 = .ok (.ireturn, 1) := by decide +kernel
theorem dX6_canBeSkipped_0 : decode cX6_canBeSkipped 0 = .ok (.iload_n 0, 1) := by decide +kernel
theorem dX6_canBeSkipped_1 : decode cX6_canBeSkipped 1 = .ok (.iconst 1, 1) := by decide +kernel
theorem dX6_canBeSkipped_2 : decode cX6_canBeSkipped 2 = .ok (.if_icmp .lt 13, 3) := by decide +kernel
theorem dX6_canBeSkipped_5 : decode cX6_canBeSkipped 5 = .ok (.iload_n 0, 1) := by decide +kernel
theorem dX6_canBeSkipped_6 : decode cX6_canBeSkipped 6 = .ok (.bipush 30, 2) := by decide +kernel
theorem dX6_canBeSkipped_8 : decode cX6_canBeSkipped 8 = .ok (.if_icmp .gt 7, 3) := by decide +kernel
theorem dX6_canBeSkipped_11 : decode cX6_canBeSkipped 11 = .ok (.iconst 1, 1) := by decide +kernel
theorem dX6_canBeSkipped_12 : decode cX6_canBeSkipped 12 = .ok (.goto 4, 3) := by decide +kernel
theorem dX6_canBeSkipped_15 : decode cX6_canBeSkipped 15 = .ok (.iconst 0, 1) := by decide +kernel
theorem dX6_canBeSkipped_16 : decode cX6_canBeSkipped 16 = .ok (.ireturn, 1) := by decide +kernel
