theorem dX0_init_0 : decode cX0_init 0 = .ok (.aload_n 0, 1) := by decide +kernel
theorem dX0_init_1 : decode cX0_init 1 = .ok (.invokespecial 3, 3) := by decide +kernel
theorem dX0_init_4 : decode cX0_init 4 = .ok (.aload_n 0, 1) := by decide +kernel
theorem dX0_init_5 : decode cX0_init 5 = .ok (.sipush 408, 3) := by decide +kernel
theorem dX0_init_8 : decode cX0_init 8 = .ok (.newarray .long, 2) := by decide +kernel
theorem dX0_init_10 : decode cX0_init 10 = .ok (.putfield 11, 3) := by decide +kernel
theorem dX0_init_13 : decode cX0_init 13 = .ok (.aload_n 0, 1) := by decide +kernel
theorem dX0_init_14 : decode cX0_init 14 = .ok (.sipush 408, 3) := by decide +kernel
theorem dX0_init_17 : decode cX0_init 17 = .ok (.newarray .long, 2) := by decide +kernel
theorem dX0_init_19 : decode cX0_init 19 = .ok (.putfield 15, 3) := by decide +kernel
theorem dX0_init_22 : decode cX0_init 22 = .ok (.aload_n 0, 1) := by decide +kernel
theorem dX0_init_23 : decode cX0_init 23 = .ok (.bipush (-9), 2) := by decide +kernel
theorem dX0_init_25 : decode cX0_init 25 = .ok (.putfield 18, 3) := by decide +kernel
theorem dX0_init_28 : decode cX0_init 28 = .ok (.return_, 1) := by decide +kernel
set_option maxRecDepth 20000 in
theorem ggX0_lookAhead_X0_lookFrom : GoodIn wsX0_lookAhead wsX0_lookFrom := goodIn_r _ [14, 5, 1, 2, 3, 4, 9, 15, 16, 17, 18, 19, 20, 21, 22, 23, 24, 25, 26, 27, 28, 29, 30, 31, 32, 33, 34, 35, 36, 37, 38, 39, 40, 41, 42, 43, 13, 44, 6, 45, 46, 47, 48, 49, 50, 51, 8, 52, 53, 54, 55, 56, 57, 58, 59, 60] (by decide +kernel) (by decide +kernel)
set_option maxRecDepth 20000 in
theorem gX0_lookAhead_X0_lookFrom : GoodIn wsX0_lookAhead (wsV RX0 36 RX0 yX0_lookFrom wsX0_lookFrom) := goodIn_app (goodIn_of _ (by decide +kernel)) ggX0_lookAhead_X0_lookFrom
theorem dX0_lookAhead_0 : decode cX0_lookAhead 0 = .ok (.aload_n 0, 1) := by decide +kernel
theorem dX0_lookAhead_1 : decode cX0_lookAhead 1 = .ok (.iload_n 2, 1) := by decide +kernel
theorem dX0_lookAhead_2 : decode cX0_lookAhead 2 = .ok (.sipush 135, 3) := by decide +kernel
theorem dX0_lookAhead_5 : decode cX0_lookAhead 5 = .ok (.invokestatic 22, 3) := by decide +kernel
theorem dX0_lookAhead_8 : decode cX0_lookAhead 8 = .ok (.putfield 18, 3) := by decide +kernel
theorem dX0_lookAhead_11 : decode cX0_lookAhead 11 = .ok (.aload_n 1, 1) := by decide +kernel
theorem dX0_lookAhead_12 : decode cX0_lookAhead 12 = .ok (.getfield 28, 3) := by decide +kernel
theorem dX0_lookAhead_15 : decode cX0_lookAhead 15 = .ok (.iconst 1, 1) := by decide +kernel
theorem dX0_lookAhead_16 : decode cX0_lookAhead 16 = .ok (.isub, 1) := by decide +kernel
theorem dX0_lookAhead_17 : decode cX0_lookAhead 17 = .ok (.istore_n 3, 1) := by decide +kernel
theorem dX0_lookAhead_18 : decode cX0_lookAhead 18 = .ok (.iload_n 3, 1) := by decide +kernel
theorem dX0_lookAhead_19 : decode cX0_lookAhead 19 = .ok (.iconst 1, 1) := by decide +kernel
theorem dX0_lookAhead_20 : decode cX0_lookAhead 20 = .ok (.if_icmp .lt 55, 3) := by decide +kernel
theorem dX0_lookAhead_23 : decode cX0_lookAhead 23 = .ok (.iconst 0, 1) := by decide +kernel
theorem dX0_lookAhead_24 : decode cX0_lookAhead 24 = .ok (.istore 4, 2) := by decide +kernel
theorem dX0_lookAhead_26 : decode cX0_lookAhead 26 = .ok (.iload 4, 2) := by decide +kernel
theorem dX0_lookAhead_28 : decode cX0_lookAhead 28 = .ok (.aload_n 1, 1) := by decide +kernel
theorem dX0_lookAhead_29 : decode cX0_lookAhead 29 = .ok (.getfield 33, 3) := by decide +kernel
theorem dX0_lookAhead_32 : decode cX0_lookAhead 32 = .ok (.if_icmp .ge 17, 3) := by decide +kernel
theorem dX0_lookAhead_35 : decode cX0_lookAhead 35 = .ok (.aload_n 0, 1) := by decide +kernel
theorem dX0_lookAhead_36 : decode cX0_lookAhead 36 = .ok (.aload_n 1, 1) := by decide +kernel
theorem dX0_lookAhead_37 : decode cX0_lookAhead 37 = .ok (.iload 4, 2) := by decide +kernel
theorem dX0_lookAhead_39 : decode cX0_lookAhead 39 = .ok (.iload_n 3, 1) := by decide +kernel
theorem dX0_lookAhead_40 : decode cX0_lookAhead 40 = .ok (.invokevirtual 36, 3) := by decide +kernel
theorem dX0_lookAhead_43 : decode cX0_lookAhead 43 = .ok (.iinc 4 1, 3) := by decide +kernel
theorem dX0_lookAhead_46 : decode cX0_lookAhead 46 = .ok (.goto (-20), 3) := by decide +kernel
theorem dX0_lookAhead_49 : decode cX0_lookAhead 49 = .ok (.aload_n 0, 1) := by decide +kernel
theorem dX0_lookAhead_50 : decode cX0_lookAhead 50 = .ok (.getfield 15, 3) := by decide +kernel
theorem dX0_lookAhead_53 : decode cX0_lookAhead 53 = .ok (.astore 4, 2) := by decide +kernel
theorem dX0_lookAhead_55 : decode cX0_lookAhead 55 = .ok (.aload_n 0, 1) := by decide +kernel
theorem dX0_lookAhead_56 : decode cX0_lookAhead 56 = .ok (.aload_n 0, 1) := by decide +kernel
theorem dX0_lookAhead_57 : decode cX0_lookAhead 57 = .ok (.getfield 11, 3) := by decide +kernel
theorem dX0_lookAhead_60 : decode cX0_lookAhead 60 = .ok (.putfield 15, 3) := by decide +kernel
theorem dX0_lookAhead_63 : decode cX0_lookAhead 63 = .ok (.aload_n 0, 1) := by decide +kernel
theorem dX0_lookAhead_64 : decode cX0_lookAhead 64 = .ok (.aload 4, 2) := by decide +kernel
theorem dX0_lookAhead_66 : decode cX0_lookAhead 66 = .ok (.putfield 11, 3) := by decide +kernel
theorem dX0_lookAhead_69 : decode cX0_lookAhead 69 = .ok (.iinc 3 (-1), 3) := by decide +kernel
theorem dX0_lookAhead_72 : decode cX0_lookAhead 72 = .ok (.goto (-54), 3) := by decide +kernel
theorem dX0_lookAhead_75 : decode cX0_lookAhead 75 = .ok (.return_, 1) := by decide +kernel
set_option maxRecDepth 20000 in
theorem ggX0_lookFrom_X6_secondsAt : GoodIn wsX0_lookFrom wsX6_secondsAt := goodIn_r _ [11, 12, 13, 14, 10, 15, 16, 17, 18, 19, 20, 21, 22, 23, 24, 25, 26, 51, 52, 53, 54, 55] (by decide +kernel) (by decide +kernel)
set_option maxRecDepth 20000 in
theorem gX0_lookFrom_X6_secondsAt : GoodIn wsX0_lookFrom (wsV RX0 40 RX6 yX6_secondsAt wsX6_secondsAt) := goodIn_app (goodIn_of _ (by decide +kernel)) ggX0_lookFrom_X6_secondsAt
set_option maxRecDepth 20000 in
theorem ggX0_lookFrom_X6_tenthsAcross : GoodIn wsX0_lookFrom wsX6_tenthsAcross := goodIn_r _ [30, 31, 32, 12, 13, 14, 10, 15, 16, 17, 18, 19, 20, 21, 22, 23, 24, 25, 26, 51, 52, 53, 54, 55] (by decide +kernel) (by decide +kernel)
set_option maxRecDepth 20000 in
theorem gX0_lookFrom_X6_tenthsAcross : GoodIn wsX0_lookFrom (wsV RX0 43 RX6 yX6_tenthsAcross wsX6_tenthsAcross) := goodIn_app (goodIn_of _ (by decide +kernel)) ggX0_lookFrom_X6_tenthsAcross
set_option maxRecDepth 20000 in
theorem ggX0_lookFrom_X0_chanceBehind : GoodIn wsX0_lookFrom wsX0_chanceBehind := goodIn_r _ [37, 1, 38, 39, 40, 4, 41, 42, 43, 44, 36, 45, 46, 47, 23, 24, 10, 25, 26, 48, 49, 50, 51, 52, 53, 54, 55] (by decide +kernel) (by decide +kernel)
set_option maxRecDepth 20000 in
theorem gX0_lookFrom_X0_chanceBehind : GoodIn wsX0_lookFrom (wsV RX0 46 RX0 yX0_chanceBehind wsX0_chanceBehind) := goodIn_app (goodIn_of _ (by decide +kernel)) ggX0_lookFrom_X0_chanceBehind
theorem dX0_lookFrom_0 : decode cX0_lookFrom 0 = .ok (.aload_n 1, 1) := by decide +kernel
theorem dX0_lookFrom_1 : decode cX0_lookFrom 1 = .ok (.iload_n 2, 1) := by decide +kernel
theorem dX0_lookFrom_2 : decode cX0_lookFrom 2 = .ok (.iload_n 3, 1) := by decide +kernel
theorem dX0_lookFrom_3 : decode cX0_lookFrom 3 = .ok (.invokevirtual 40, 3) := by decide +kernel
theorem dX0_lookFrom_6 : decode cX0_lookFrom 6 = .ok (.istore 4, 2) := by decide +kernel
theorem dX0_lookFrom_8 : decode cX0_lookFrom 8 = .ok (.aload_n 1, 1) := by decide +kernel
theorem dX0_lookFrom_9 : decode cX0_lookFrom 9 = .ok (.iload_n 2, 1) := by decide +kernel
theorem dX0_lookFrom_10 : decode cX0_lookFrom 10 = .ok (.iload_n 3, 1) := by decide +kernel
theorem dX0_lookFrom_11 : decode cX0_lookFrom 11 = .ok (.invokevirtual 43, 3) := by decide +kernel
theorem dX0_lookFrom_14 : decode cX0_lookFrom 14 = .ok (.istore 5, 2) := by decide +kernel
theorem dX0_lookFrom_16 : decode cX0_lookFrom 16 = .ok (.aload_n 0, 1) := by decide +kernel
theorem dX0_lookFrom_17 : decode cX0_lookFrom 17 = .ok (.getfield 18, 3) := by decide +kernel
theorem dX0_lookFrom_20 : decode cX0_lookFrom 20 = .ok (.bipush 10, 2) := by decide +kernel
theorem dX0_lookFrom_22 : decode cX0_lookFrom 22 = .ok (.iload_n 3, 1) := by decide +kernel
theorem dX0_lookFrom_23 : decode cX0_lookFrom 23 = .ok (.imul, 1) := by decide +kernel
theorem dX0_lookFrom_24 : decode cX0_lookFrom 24 = .ok (.invokestatic 22, 3) := by decide +kernel
theorem dX0_lookFrom_27 : decode cX0_lookFrom 27 = .ok (.istore 6, 2) := by decide +kernel
theorem dX0_lookFrom_29 : decode cX0_lookFrom 29 = .ok (.iload_n 3, 1) := by decide +kernel
theorem dX0_lookFrom_30 : decode cX0_lookFrom 30 = .ok (.istore 7, 2) := by decide +kernel
theorem dX0_lookFrom_32 : decode cX0_lookFrom 32 = .ok (.iload 7, 2) := by decide +kernel
theorem dX0_lookFrom_34 : decode cX0_lookFrom 34 = .ok (.iload 6, 2) := by decide +kernel
theorem dX0_lookFrom_36 : decode cX0_lookFrom 36 = .ok (.if_icmp .gt 38, 3) := by decide +kernel
theorem dX0_lookFrom_39 : decode cX0_lookFrom 39 = .ok (.aload_n 0, 1) := by decide +kernel
theorem dX0_lookFrom_40 : decode cX0_lookFrom 40 = .ok (.getfield 11, 3) := by decide +kernel
theorem dX0_lookFrom_43 : decode cX0_lookFrom 43 = .ok (.iload_n 2, 1) := by decide +kernel
theorem dX0_lookFrom_44 : decode cX0_lookFrom 44 = .ok (.sipush 136, 3) := by decide +kernel
theorem dX0_lookFrom_47 : decode cX0_lookFrom 47 = .ok (.imul, 1) := by decide +kernel
theorem dX0_lookFrom_48 : decode cX0_lookFrom 48 = .ok (.iload 7, 2) := by decide +kernel
theorem dX0_lookFrom_50 : decode cX0_lookFrom 50 = .ok (.iadd, 1) := by decide +kernel
theorem dX0_lookFrom_51 : decode cX0_lookFrom 51 = .ok (.iload 5, 2) := by decide +kernel
theorem dX0_lookFrom_53 : decode cX0_lookFrom 53 = .ok (.i2l, 1) := by decide +kernel
theorem dX0_lookFrom_54 : decode cX0_lookFrom 54 = .ok (.aload_n 0, 1) := by decide +kernel
theorem dX0_lookFrom_55 : decode cX0_lookFrom 55 = .ok (.aload_n 1, 1) := by decide +kernel
theorem dX0_lookFrom_56 : decode cX0_lookFrom 56 = .ok (.iload_n 2, 1) := by decide +kernel
theorem dX0_lookFrom_57 : decode cX0_lookFrom 57 = .ok (.iload_n 3, 1) := by decide +kernel
theorem dX0_lookFrom_58 : decode cX0_lookFrom 58 = .ok (.iload 7, 2) := by decide +kernel
theorem dX0_lookFrom_60 : decode cX0_lookFrom 60 = .ok (.iload 4, 2) := by decide +kernel
theorem dX0_lookFrom_62 : decode cX0_lookFrom 62 = .ok (.iadd, 1) := by decide +kernel
theorem dX0_lookFrom_63 : decode cX0_lookFrom 63 = .ok (.invokevirtual 46, 3) := by decide +kernel
theorem dX0_lookFrom_66 : decode cX0_lookFrom 66 = .ok (.lmul, 1) := by decide +kernel
theorem dX0_lookFrom_67 : decode cX0_lookFrom 67 = .ok (.lastore, 1) := by decide +kernel
theorem dX0_lookFrom_68 : decode cX0_lookFrom 68 = .ok (.iinc 7 1, 3) := by decide +kernel
theorem dX0_lookFrom_71 : decode cX0_lookFrom 71 = .ok (.goto (-39), 3) := by decide +kernel
theorem dX0_lookFrom_74 : decode cX0_lookFrom 74 = .ok (.return_, 1) := by decide +kernel
set_option maxRecDepth 20000 in
theorem ggX0_chanceBehind_X0_chanceIn : GoodIn wsX0_chanceBehind wsX0_chanceIn := goodIn_r _ [11, 1, 12, 13, 14, 15, 16, 17, 18, 19, 20, 21, 22, 23, 24, 25, 26] (by decide +kernel) (by decide +kernel)
set_option maxRecDepth 20000 in
theorem gX0_chanceBehind_X0_chanceIn : GoodIn wsX0_chanceBehind (wsV RX0 50 RX0 yX0_chanceIn wsX0_chanceIn) := goodIn_app (goodIn_of _ (by decide +kernel)) ggX0_chanceBehind_X0_chanceIn
theorem dX0_chanceBehind_0 : decode cX0_chanceBehind 0 = .ok (.iload 4, 2) := by decide +kernel
theorem dX0_chanceBehind_2 : decode cX0_chanceBehind 2 = .ok (.aload_n 0, 1) := by decide +kernel
theorem dX0_chanceBehind_3 : decode cX0_chanceBehind 3 = .ok (.getfield 18, 3) := by decide +kernel
theorem dX0_chanceBehind_6 : decode cX0_chanceBehind 6 = .ok (.if_icmp .le 5, 3) := by decide +kernel
theorem dX0_chanceBehind_9 : decode cX0_chanceBehind 9 = .ok (.lconst 0, 1) := by decide +kernel
theorem dX0_chanceBehind_10 : decode cX0_chanceBehind 10 = .ok (.lreturn, 1) := by decide +kernel
theorem dX0_chanceBehind_11 : decode cX0_chanceBehind 11 = .ok (.iload_n 3, 1) := by decide +kernel
theorem dX0_chanceBehind_12 : decode cX0_chanceBehind 12 = .ok (.aload_n 1, 1) := by decide +kernel
theorem dX0_chanceBehind_13 : decode cX0_chanceBehind 13 = .ok (.getfield 28, 3) := by decide +kernel
theorem dX0_chanceBehind_16 : decode cX0_chanceBehind 16 = .ok (.iconst 1, 1) := by decide +kernel
theorem dX0_chanceBehind_17 : decode cX0_chanceBehind 17 = .ok (.isub, 1) := by decide +kernel
theorem dX0_chanceBehind_18 : decode cX0_chanceBehind 18 = .ok (.if_icmp .ne 5, 3) := by decide +kernel
theorem dX0_chanceBehind_21 : decode cX0_chanceBehind 21 = .ok (.lconst 1, 1) := by decide +kernel
theorem dX0_chanceBehind_22 : decode cX0_chanceBehind 22 = .ok (.lreturn, 1) := by decide +kernel
theorem dX0_chanceBehind_23 : decode cX0_chanceBehind 23 = .ok (.aload_n 0, 1) := by decide +kernel
theorem dX0_chanceBehind_24 : decode cX0_chanceBehind 24 = .ok (.aload_n 1, 1) := by decide +kernel
theorem dX0_chanceBehind_25 : decode cX0_chanceBehind 25 = .ok (.iload_n 2, 1) := by decide +kernel
theorem dX0_chanceBehind_26 : decode cX0_chanceBehind 26 = .ok (.iload 4, 2) := by decide +kernel
theorem dX0_chanceBehind_28 : decode cX0_chanceBehind 28 = .ok (.invokevirtual 50, 3) := by decide +kernel
theorem dX0_chanceBehind_31 : decode cX0_chanceBehind 31 = .ok (.lstore 5, 2) := by decide +kernel
theorem dX0_chanceBehind_33 : decode cX0_chanceBehind 33 = .ok (.aload_n 0, 1) := by decide +kernel
theorem dX0_chanceBehind_34 : decode cX0_chanceBehind 34 = .ok (.aload_n 1, 1) := by decide +kernel
theorem dX0_chanceBehind_35 : decode cX0_chanceBehind 35 = .ok (.iload_n 2, 1) := by decide +kernel
theorem dX0_chanceBehind_36 : decode cX0_chanceBehind 36 = .ok (.iconst 1, 1) := by decide +kernel
theorem dX0_chanceBehind_37 : decode cX0_chanceBehind 37 = .ok (.isub, 1) := by decide +kernel
theorem dX0_chanceBehind_38 : decode cX0_chanceBehind 38 = .ok (.iload 4, 2) := by decide +kernel
theorem dX0_chanceBehind_40 : decode cX0_chanceBehind 40 = .ok (.iconst 1, 1) := by decide +kernel
theorem dX0_chanceBehind_41 : decode cX0_chanceBehind 41 = .ok (.iadd, 1) := by decide +kernel
theorem dX0_chanceBehind_42 : decode cX0_chanceBehind 42 = .ok (.invokevirtual 50, 3) := by decide +kernel
theorem dX0_chanceBehind_45 : decode cX0_chanceBehind 45 = .ok (.lstore 7, 2) := by decide +kernel
theorem dX0_chanceBehind_47 : decode cX0_chanceBehind 47 = .ok (.aload_n 0, 1) := by decide +kernel
theorem dX0_chanceBehind_48 : decode cX0_chanceBehind 48 = .ok (.aload_n 1, 1) := by decide +kernel
theorem dX0_chanceBehind_49 : decode cX0_chanceBehind 49 = .ok (.iload_n 2, 1) := by decide +kernel
theorem dX0_chanceBehind_50 : decode cX0_chanceBehind 50 = .ok (.iconst 1, 1) := by decide +kernel
theorem dX0_chanceBehind_51 : decode cX0_chanceBehind 51 = .ok (.iadd, 1) := by decide +kernel
theorem dX0_chanceBehind_52 : decode cX0_chanceBehind 52 = .ok (.iload 4, 2) := by decide +kernel
theorem dX0_chanceBehind_54 : decode cX0_chanceBehind 54 = .ok (.iconst 1, 1) := by decide +kernel
theorem dX0_chanceBehind_55 : decode cX0_chanceBehind 55 = .ok (.iadd, 1) := by decide +kernel
theorem dX0_chanceBehind_56 : decode cX0_chanceBehind 56 = .ok (.invokevirtual 50, 3) := by decide +kernel
theorem dX0_chanceBehind_59 : decode cX0_chanceBehind 59 = .ok (.lstore 9, 2) := by decide +kernel
theorem dX0_chanceBehind_61 : decode cX0_chanceBehind 61 = .ok (.lload 5, 2) := by decide +kernel
theorem dX0_chanceBehind_63 : decode cX0_chanceBehind 63 = .ok (.lload 7, 2) := by decide +kernel
theorem dX0_chanceBehind_65 : decode cX0_chanceBehind 65 = .ok (.lload 9, 2) := by decide +kernel
theorem dX0_chanceBehind_67 : decode cX0_chanceBehind 67 = .ok (.invokestatic 54, 3) := by decide +kernel
theorem dX0_chanceBehind_70 : decode cX0_chanceBehind 70 = .ok (.invokestatic 54, 3) := by decide +kernel
theorem dX0_chanceBehind_73 : decode cX0_chanceBehind 73 = .ok (.lreturn, 1) := by decide +kernel
set_option maxRecDepth 20000 in
theorem ggX0_chanceIn_X6_hasLane : GoodIn wsX0_chanceIn wsX6_hasLane := goodIn_r _ [7, 8, 12, 13, 14, 15, 16] (by decide +kernel) (by decide +kernel)
set_option maxRecDepth 20000 in
theorem gX0_chanceIn_X6_hasLane : GoodIn wsX0_chanceIn (wsV RX0 58 RX6 yX6_hasLane wsX6_hasLane) := goodIn_app (goodIn_of _ (by decide +kernel)) ggX0_chanceIn_X6_hasLane
theorem dX0_chanceIn_0 : decode cX0_chanceIn 0 = .ok (.aload_n 1, 1) := by decide +kernel
theorem dX0_chanceIn_1 : decode cX0_chanceIn 1 = .ok (.iload_n 2, 1) := by decide +kernel
theorem dX0_chanceIn_2 : decode cX0_chanceIn 2 = .ok (.invokevirtual 58, 3) := by decide +kernel
theorem dX0_chanceIn_5 : decode cX0_chanceIn 5 = .ok (.ifCond .eq 15, 3) := by decide +kernel
theorem dX0_chanceIn_8 : decode cX0_chanceIn 8 = .ok (.iload_n 3, 1) := by decide +kernel
theorem dX0_chanceIn_9 : decode cX0_chanceIn 9 = .ok (.ifCond .lt 11, 3) := by decide +kernel
theorem dX0_chanceIn_12 : decode cX0_chanceIn 12 = .ok (.iload_n 3, 1) := by decide +kernel
theorem dX0_chanceIn_13 : decode cX0_chanceIn 13 = .ok (.aload_n 0, 1) := by decide +kernel
theorem dX0_chanceIn_14 : decode cX0_chanceIn 14 = .ok (.getfield 18, 3) := by decide +kernel
theorem dX0_chanceIn_17 : decode cX0_chanceIn 17 = .ok (.if_icmp .le 5, 3) := by decide +kernel
theorem dX0_chanceIn_20 : decode cX0_chanceIn 20 = .ok (.lconst 0, 1) := by decide +kernel
theorem dX0_chanceIn_21 : decode cX0_chanceIn 21 = .ok (.lreturn, 1) := by decide +kernel
theorem dX0_chanceIn_22 : decode cX0_chanceIn 22 = .ok (.aload_n 0, 1) := by decide +kernel
theorem dX0_chanceIn_23 : decode cX0_chanceIn 23 = .ok (.getfield 15, 3) := by decide +kernel
theorem dX0_chanceIn_26 : decode cX0_chanceIn 26 = .ok (.iload_n 2, 1) := by decide +kernel
theorem dX0_chanceIn_27 : decode cX0_chanceIn 27 = .ok (.sipush 136, 3) := by decide +kernel
theorem dX0_chanceIn_30 : decode cX0_chanceIn 30 = .ok (.imul, 1) := by decide +kernel
theorem dX0_chanceIn_31 : decode cX0_chanceIn 31 = .ok (.iload_n 3, 1) := by decide +kernel
theorem dX0_chanceIn_32 : decode cX0_chanceIn 32 = .ok (.iadd, 1) := by decide +kernel
theorem dX0_chanceIn_33 : decode cX0_chanceIn 33 = .ok (.laload, 1) := by decide +kernel
theorem dX0_chanceIn_34 : decode cX0_chanceIn 34 = .ok (.lreturn, 1) := by decide +kernel
set_option maxRecDepth 20000 in
theorem ggX0_homeFrom_X6_tenthsAcross : GoodIn wsX0_homeFrom wsX6_tenthsAcross := goodIn_r _ [5, 6, 7, 8, 9, 10, 4, 11, 12, 13, 14, 15, 16, 17, 18, 19, 20, 21, 22, 44, 45, 46, 47, 48] (by decide +kernel) (by decide +kernel)
set_option maxRecDepth 20000 in
theorem gX0_homeFrom_X6_tenthsAcross : GoodIn wsX0_homeFrom (wsV RX0 43 RX6 yX6_tenthsAcross wsX6_tenthsAcross) := goodIn_app (goodIn_of _ (by decide +kernel)) ggX0_homeFrom_X6_tenthsAcross
set_option maxRecDepth 20000 in
theorem ggX0_homeFrom_X6_secondsAt : GoodIn wsX0_homeFrom wsX6_secondsAt := goodIn_r _ [26, 8, 9, 10, 4, 11, 12, 13, 14, 15, 16, 17, 18, 19, 20, 21, 22, 44, 45, 46, 47, 48] (by decide +kernel) (by decide +kernel)
set_option maxRecDepth 20000 in
theorem gX0_homeFrom_X6_secondsAt : GoodIn wsX0_homeFrom (wsV RX0 40 RX6 yX6_secondsAt wsX6_secondsAt) := goodIn_app (goodIn_of _ (by decide +kernel)) ggX0_homeFrom_X6_secondsAt
set_option maxRecDepth 20000 in
theorem ggX0_homeFrom_X0_chanceBehind : GoodIn wsX0_homeFrom wsX0_chanceBehind := goodIn_r _ [31, 32, 33, 34, 35, 36, 37, 38, 39, 40, 30, 41, 42, 43, 19, 20, 4, 21, 22, 49, 50, 51, 44, 45, 46, 47, 48] (by decide +kernel) (by decide +kernel)
set_option maxRecDepth 20000 in
theorem gX0_homeFrom_X0_chanceBehind : GoodIn wsX0_homeFrom (wsV RX0 46 RX0 yX0_chanceBehind wsX0_chanceBehind) := goodIn_app (goodIn_of _ (by decide +kernel)) ggX0_homeFrom_X0_chanceBehind
theorem dX0_homeFrom_0 : decode cX0_homeFrom 0 = .ok (.aload_n 1, 1) := by decide +kernel
theorem dX0_homeFrom_1 : decode cX0_homeFrom 1 = .ok (.iload_n 2, 1) := by decide +kernel
theorem dX0_homeFrom_2 : decode cX0_homeFrom 2 = .ok (.iconst 0, 1) := by decide +kernel
theorem dX0_homeFrom_3 : decode cX0_homeFrom 3 = .ok (.invokevirtual 43, 3) := by decide +kernel
theorem dX0_homeFrom_6 : decode cX0_homeFrom 6 = .ok (.i2l, 1) := by decide +kernel
theorem dX0_homeFrom_7 : decode cX0_homeFrom 7 = .ok (.aload_n 0, 1) := by decide +kernel
theorem dX0_homeFrom_8 : decode cX0_homeFrom 8 = .ok (.aload_n 1, 1) := by decide +kernel
theorem dX0_homeFrom_9 : decode cX0_homeFrom 9 = .ok (.iload_n 2, 1) := by decide +kernel
theorem dX0_homeFrom_10 : decode cX0_homeFrom 10 = .ok (.iconst 0, 1) := by decide +kernel
theorem dX0_homeFrom_11 : decode cX0_homeFrom 11 = .ok (.aload_n 1, 1) := by decide +kernel
theorem dX0_homeFrom_12 : decode cX0_homeFrom 12 = .ok (.iload_n 2, 1) := by decide +kernel
theorem dX0_homeFrom_13 : decode cX0_homeFrom 13 = .ok (.iconst 0, 1) := by decide +kernel
theorem dX0_homeFrom_14 : decode cX0_homeFrom 14 = .ok (.invokevirtual 40, 3) := by decide +kernel
theorem dX0_homeFrom_17 : decode cX0_homeFrom 17 = .ok (.invokevirtual 46, 3) := by decide +kernel
theorem dX0_homeFrom_20 : decode cX0_homeFrom 20 = .ok (.lmul, 1) := by decide +kernel
theorem dX0_homeFrom_21 : decode cX0_homeFrom 21 = .ok (.lreturn, 1) := by decide +kernel
set_option maxRecDepth 20000 in
theorem ggX0_bestLane_X0_homeFrom : GoodIn wsX0_bestLane wsX0_homeFrom := goodIn_r _ [6, 7, 8, 9, 10, 11, 12, 13, 14, 15, 16, 17, 18, 19, 20, 21, 22, 23, 24, 25, 26, 27, 28, 29, 30, 31, 32, 33, 34, 35, 5, 36, 37, 38, 39, 40, 41, 42, 43, 44, 45, 46, 47, 48, 49, 50, 51, 52, 53, 54, 55, 56] (by decide +kernel) (by decide +kernel)
set_option maxRecDepth 20000 in
theorem gX0_bestLane_X0_homeFrom : GoodIn wsX0_bestLane (wsV RX0 62 RX0 yX0_homeFrom wsX0_homeFrom) := goodIn_app (goodIn_of _ (by decide +kernel)) ggX0_bestLane_X0_homeFrom
theorem dX0_bestLane_0 : decode cX0_bestLane 0 = .ok (.iconst 0, 1) := by decide +kernel
theorem dX0_bestLane_1 : decode cX0_bestLane 1 = .ok (.istore_n 2, 1) := by decide +kernel
theorem dX0_bestLane_2 : decode cX0_bestLane 2 = .ok (.iconst 1, 1) := by decide +kernel
theorem dX0_bestLane_3 : decode cX0_bestLane 3 = .ok (.istore_n 3, 1) := by decide +kernel
theorem dX0_bestLane_4 : decode cX0_bestLane 4 = .ok (.iload_n 3, 1) := by decide +kernel
theorem dX0_bestLane_5 : decode cX0_bestLane 5 = .ok (.aload_n 1, 1) := by decide +kernel
theorem dX0_bestLane_6 : decode cX0_bestLane 6 = .ok (.getfield 33, 3) := by decide +kernel
theorem dX0_bestLane_9 : decode cX0_bestLane 9 = .ok (.if_icmp .ge 27, 3) := by decide +kernel
theorem dX0_bestLane_12 : decode cX0_bestLane 12 = .ok (.aload_n 0, 1) := by decide +kernel
theorem dX0_bestLane_13 : decode cX0_bestLane 13 = .ok (.aload_n 1, 1) := by decide +kernel
theorem dX0_bestLane_14 : decode cX0_bestLane 14 = .ok (.iload_n 3, 1) := by decide +kernel
theorem dX0_bestLane_15 : decode cX0_bestLane 15 = .ok (.invokevirtual 62, 3) := by decide +kernel
theorem dX0_bestLane_18 : decode cX0_bestLane 18 = .ok (.aload_n 0, 1) := by decide +kernel
theorem dX0_bestLane_19 : decode cX0_bestLane 19 = .ok (.aload_n 1, 1) := by decide +kernel
theorem dX0_bestLane_20 : decode cX0_bestLane 20 = .ok (.iload_n 2, 1) := by decide +kernel
theorem dX0_bestLane_21 : decode cX0_bestLane 21 = .ok (.invokevirtual 62, 3) := by decide +kernel
theorem dX0_bestLane_24 : decode cX0_bestLane 24 = .ok (.lcmp, 1) := by decide +kernel
theorem dX0_bestLane_25 : decode cX0_bestLane 25 = .ok (.ifCond .le 5, 3) := by decide +kernel
theorem dX0_bestLane_28 : decode cX0_bestLane 28 = .ok (.iload_n 3, 1) := by decide +kernel
theorem dX0_bestLane_29 : decode cX0_bestLane 29 = .ok (.istore_n 2, 1) := by decide +kernel
theorem dX0_bestLane_30 : decode cX0_bestLane 30 = .ok (.iinc 3 1, 3) := by decide +kernel
theorem dX0_bestLane_33 : decode cX0_bestLane 33 = .ok (.goto (-29), 3) := by decide +kernel
theorem dX0_bestLane_36 : decode cX0_bestLane 36 = .ok (.iload_n 2, 1) := by decide +kernel
theorem dX0_bestLane_37 : decode cX0_bestLane 37 = .ok (.ireturn, 1) := by decide +kernel
set_option maxRecDepth 20000 in
theorem ggX0_laneBehindFirst_X0_homeFrom : GoodIn wsX0_laneBehindFirst wsX0_homeFrom := goodIn_r _ [5, 6, 7, 8, 9, 10, 11, 12, 13, 14, 15, 16, 17, 18, 19, 20, 21, 22, 23, 24, 25, 26, 27, 28, 29, 30, 31, 32, 33, 34, 4, 35, 36, 37, 38, 39, 40, 41, 42, 43, 44, 45, 46, 47, 48, 49, 50, 51, 52, 53, 54, 55] (by decide +kernel) (by decide +kernel)
set_option maxRecDepth 20000 in
theorem gX0_laneBehindFirst_X0_homeFrom : GoodIn wsX0_laneBehindFirst (wsV RX0 62 RX0 yX0_homeFrom wsX0_homeFrom) := goodIn_app (goodIn_of _ (by decide +kernel)) ggX0_laneBehindFirst_X0_homeFrom
set_option maxRecDepth 20000 in
theorem ggX0_laneBehindFirst_X6_secondsAt : GoodIn wsX0_laneBehindFirst wsX6_secondsAt := goodIn_r _ [31, 13, 14, 15, 9, 16, 17, 18, 19, 20, 21, 22, 23, 24, 25, 26, 27, 48, 49, 50, 51, 52] (by decide +kernel) (by decide +kernel)
set_option maxRecDepth 20000 in
theorem gX0_laneBehindFirst_X6_secondsAt : GoodIn wsX0_laneBehindFirst (wsV RX0 40 RX6 yX6_secondsAt wsX6_secondsAt) := goodIn_app (goodIn_of _ (by decide +kernel)) ggX0_laneBehindFirst_X6_secondsAt
set_option maxRecDepth 20000 in
theorem ggX0_laneBehindFirst_X0_chanceIn : GoodIn wsX0_laneBehindFirst wsX0_chanceIn := goodIn_r _ [45, 36, 46, 47, 24, 25, 9, 26, 27, 53, 54, 55, 48, 49, 50, 51, 52] (by decide +kernel) (by decide +kernel)
set_option maxRecDepth 20000 in
theorem gX0_laneBehindFirst_X0_chanceIn : GoodIn wsX0_laneBehindFirst (wsV RX0 50 RX0 yX0_chanceIn wsX0_chanceIn) := goodIn_app (goodIn_of _ (by decide +kernel)) ggX0_laneBehindFirst_X0_chanceIn
theorem dX0_laneBehindFirst_0 : decode cX0_laneBehindFirst 0 = .ok (.aload_n 0, 1) := by decide +kernel
theorem dX0_laneBehindFirst_1 : decode cX0_laneBehindFirst 1 = .ok (.aload_n 1, 1) := by decide +kernel
theorem dX0_laneBehindFirst_2 : decode cX0_laneBehindFirst 2 = .ok (.iload_n 2, 1) := by decide +kernel
theorem dX0_laneBehindFirst_3 : decode cX0_laneBehindFirst 3 = .ok (.invokevirtual 62, 3) := by decide +kernel
theorem dX0_laneBehindFirst_6 : decode cX0_laneBehindFirst 6 = .ok (.lconst 0, 1) := by decide +kernel
theorem dX0_laneBehindFirst_7 : decode cX0_laneBehindFirst 7 = .ok (.lcmp, 1) := by decide +kernel
theorem dX0_laneBehindFirst_8 : decode cX0_laneBehindFirst 8 = .ok (.ifCond .ne 5, 3) := by decide +kernel
theorem dX0_laneBehindFirst_11 : decode cX0_laneBehindFirst 11 = .ok (.iload_n 2, 1) := by decide +kernel
theorem dX0_laneBehindFirst_12 : decode cX0_laneBehindFirst 12 = .ok (.ireturn, 1) := by decide +kernel
theorem dX0_laneBehindFirst_13 : decode cX0_laneBehindFirst 13 = .ok (.aload_n 1, 1) := by decide +kernel
theorem dX0_laneBehindFirst_14 : decode cX0_laneBehindFirst 14 = .ok (.iload_n 2, 1) := by decide +kernel
theorem dX0_laneBehindFirst_15 : decode cX0_laneBehindFirst 15 = .ok (.iconst 0, 1) := by decide +kernel
theorem dX0_laneBehindFirst_16 : decode cX0_laneBehindFirst 16 = .ok (.invokevirtual 40, 3) := by decide +kernel
theorem dX0_laneBehindFirst_19 : decode cX0_laneBehindFirst 19 = .ok (.istore_n 3, 1) := by decide +kernel
theorem dX0_laneBehindFirst_20 : decode cX0_laneBehindFirst 20 = .ok (.aload_n 0, 1) := by decide +kernel
theorem dX0_laneBehindFirst_21 : decode cX0_laneBehindFirst 21 = .ok (.aload_n 1, 1) := by decide +kernel
theorem dX0_laneBehindFirst_22 : decode cX0_laneBehindFirst 22 = .ok (.iload_n 2, 1) := by decide +kernel
theorem dX0_laneBehindFirst_23 : decode cX0_laneBehindFirst 23 = .ok (.iload_n 3, 1) := by decide +kernel
theorem dX0_laneBehindFirst_24 : decode cX0_laneBehindFirst 24 = .ok (.invokevirtual 50, 3) := by decide +kernel
theorem dX0_laneBehindFirst_27 : decode cX0_laneBehindFirst 27 = .ok (.lstore 4, 2) := by decide +kernel
theorem dX0_laneBehindFirst_29 : decode cX0_laneBehindFirst 29 = .ok (.aload_n 0, 1) := by decide +kernel
theorem dX0_laneBehindFirst_30 : decode cX0_laneBehindFirst 30 = .ok (.aload_n 1, 1) := by decide +kernel
theorem dX0_laneBehindFirst_31 : decode cX0_laneBehindFirst 31 = .ok (.iload_n 2, 1) := by decide +kernel
theorem dX0_laneBehindFirst_32 : decode cX0_laneBehindFirst 32 = .ok (.iconst 1, 1) := by decide +kernel
theorem dX0_laneBehindFirst_33 : decode cX0_laneBehindFirst 33 = .ok (.isub, 1) := by decide +kernel
theorem dX0_laneBehindFirst_34 : decode cX0_laneBehindFirst 34 = .ok (.iload_n 3, 1) := by decide +kernel
theorem dX0_laneBehindFirst_35 : decode cX0_laneBehindFirst 35 = .ok (.iconst 1, 1) := by decide +kernel
theorem dX0_laneBehindFirst_36 : decode cX0_laneBehindFirst 36 = .ok (.iadd, 1) := by decide +kernel
theorem dX0_laneBehindFirst_37 : decode cX0_laneBehindFirst 37 = .ok (.invokevirtual 50, 3) := by decide +kernel
theorem dX0_laneBehindFirst_40 : decode cX0_laneBehindFirst 40 = .ok (.lstore 6, 2) := by decide +kernel
theorem dX0_laneBehindFirst_42 : decode cX0_laneBehindFirst 42 = .ok (.aload_n 0, 1) := by decide +kernel
theorem dX0_laneBehindFirst_43 : decode cX0_laneBehindFirst 43 = .ok (.aload_n 1, 1) := by decide +kernel
theorem dX0_laneBehindFirst_44 : decode cX0_laneBehindFirst 44 = .ok (.iload_n 2, 1) := by decide +kernel
theorem dX0_laneBehindFirst_45 : decode cX0_laneBehindFirst 45 = .ok (.iconst 1, 1) := by decide +kernel
theorem dX0_laneBehindFirst_46 : decode cX0_laneBehindFirst 46 = .ok (.iadd, 1) := by decide +kernel
theorem dX0_laneBehindFirst_47 : decode cX0_laneBehindFirst 47 = .ok (.iload_n 3, 1) := by decide +kernel
theorem dX0_laneBehindFirst_48 : decode cX0_laneBehindFirst 48 = .ok (.iconst 1, 1) := by decide +kernel
theorem dX0_laneBehindFirst_49 : decode cX0_laneBehindFirst 49 = .ok (.iadd, 1) := by decide +kernel
theorem dX0_laneBehindFirst_50 : decode cX0_laneBehindFirst 50 = .ok (.invokevirtual 50, 3) := by decide +kernel
theorem dX0_laneBehindFirst_53 : decode cX0_laneBehindFirst 53 = .ok (.lstore 8, 2) := by decide +kernel
theorem dX0_laneBehindFirst_55 : decode cX0_laneBehindFirst 55 = .ok (.lload 4, 2) := by decide +kernel
theorem dX0_laneBehindFirst_57 : decode cX0_laneBehindFirst 57 = .ok (.lload 6, 2) := by decide +kernel
theorem dX0_laneBehindFirst_59 : decode cX0_laneBehindFirst 59 = .ok (.lcmp, 1) := by decide +kernel
theorem dX0_laneBehindFirst_60 : decode cX0_laneBehindFirst 60 = .ok (.ifCond .lt 13, 3) := by decide +kernel
theorem dX0_laneBehindFirst_63 : decode cX0_laneBehindFirst 63 = .ok (.lload 4, 2) := by decide +kernel
theorem dX0_laneBehindFirst_65 : decode cX0_laneBehindFirst 65 = .ok (.lload 8, 2) := by decide +kernel
theorem dX0_laneBehindFirst_67 : decode cX0_laneBehindFirst 67 = .ok (.lcmp, 1) := by decide +kernel
theorem dX0_laneBehindFirst_68 : decode cX0_laneBehindFirst 68 = .ok (.ifCond .lt 5, 3) := by decide +kernel
theorem dX0_laneBehindFirst_71 : decode cX0_laneBehindFirst 71 = .ok (.iload_n 2, 1) := by decide +kernel
theorem dX0_laneBehindFirst_72 : decode cX0_laneBehindFirst 72 = .ok (.ireturn, 1) := by decide +kernel
theorem dX0_laneBehindFirst_73 : decode cX0_laneBehindFirst 73 = .ok (.lload 6, 2) := by decide +kernel
theorem dX0_laneBehindFirst_75 : decode cX0_laneBehindFirst 75 = .ok (.lload 8, 2) := by decide +kernel
theorem dX0_laneBehindFirst_77 : decode cX0_laneBehindFirst 77 = .ok (.lcmp, 1) := by decide +kernel
theorem dX0_laneBehindFirst_78 : decode cX0_laneBehindFirst 78 = .ok (.ifCond .lt 9, 3) := by decide +kernel
theorem dX0_laneBehindFirst_81 : decode cX0_laneBehindFirst 81 = .ok (.iload_n 2, 1) := by decide +kernel
theorem dX0_laneBehindFirst_82 : decode cX0_laneBehindFirst 82 = .ok (.iconst 1, 1) := by decide +kernel
theorem dX0_laneBehindFirst_83 : decode cX0_laneBehindFirst 83 = .ok (.isub, 1) := by decide +kernel
theorem dX0_laneBehindFirst_84 : decode cX0_laneBehindFirst 84 = .ok (.goto 6, 3) := by decide +kernel
theorem dX0_laneBehindFirst_87 : decode cX0_laneBehindFirst 87 = .ok (.iload_n 2, 1) := by decide +kernel
theorem dX0_laneBehindFirst_88 : decode cX0_laneBehindFirst 88 = .ok (.iconst 1, 1) := by decide +kernel
theorem dX0_laneBehindFirst_89 : decode cX0_laneBehindFirst 89 = .ok (.iadd, 1) := by decide +kernel
theorem dX0_laneBehindFirst_90 : decode cX0_laneBehindFirst 90 = .ok (.ireturn, 1) := by decide +kernel
theorem dX1_init_0 : decode cX1_init 0 = .ok (.aload_n 0, 1) := by decide +kernel
theorem dX1_init_1 : decode cX1_init 1 = .ok (.invokespecial 3, 3) := by decide +kernel
theorem dX1_init_4 : decode cX1_init 4 = .ok (.aload_n 0, 1) := by decide +kernel
theorem dX1_init_5 : decode cX1_init 5 = .ok (.iconst 3, 1) := by decide +kernel
theorem dX1_init_6 : decode cX1_init 6 = .ok (.putfield 9, 3) := by decide +kernel
theorem dX1_init_9 : decode cX1_init 9 = .ok (.aload_n 0, 1) := by decide +kernel
theorem dX1_init_10 : decode cX1_init 10 = .ok (.iconst 3, 1) := by decide +kernel
theorem dX1_init_11 : decode cX1_init 11 = .ok (.putfield 15, 3) := by decide +kernel
theorem dX1_init_14 : decode cX1_init 14 = .ok (.aload_n 0, 1) := by decide +kernel
theorem dX1_init_15 : decode cX1_init 15 = .ok (.iconst 1, 1) := by decide +kernel
theorem dX1_init_16 : decode cX1_init 16 = .ok (.putfield 18, 3) := by decide +kernel
theorem dX1_init_19 : decode cX1_init 19 = .ok (.aload_n 0, 1) := by decide +kernel
theorem dX1_init_20 : decode cX1_init 20 = .ok (.iconst 1, 1) := by decide +kernel
theorem dX1_init_21 : decode cX1_init 21 = .ok (.putfield 21, 3) := by decide +kernel
theorem dX1_init_24 : decode cX1_init 24 = .ok (.aload_n 0, 1) := by decide +kernel
theorem dX1_init_25 : decode cX1_init 25 = .ok (.bipush 10, 2) := by decide +kernel
theorem dX1_init_27 : decode cX1_init 27 = .ok (.putfield 24, 3) := by decide +kernel
theorem dX1_init_30 : decode cX1_init 30 = .ok (.aload_n 0, 1) := by decide +kernel
theorem dX1_init_31 : decode cX1_init 31 = .ok (.iconst 0, 1) := by decide +kernel
theorem dX1_init_32 : decode cX1_init 32 = .ok (.putfield 27, 3) := by decide +kernel
theorem dX1_init_35 : decode cX1_init 35 = .ok (.aload_n 0, 1) := by decide +kernel
theorem dX1_init_36 : decode cX1_init 36 = .ok (.iconst 0, 1) := by decide +kernel
theorem dX1_init_37 : decode cX1_init 37 = .ok (.putfield 30, 3) := by decide +kernel
theorem dX1_init_40 : decode cX1_init 40 = .ok (.aload_n 0, 1) := by decide +kernel
theorem dX1_init_41 : decode cX1_init 41 = .ok (.bipush 8, 2) := by decide +kernel
theorem dX1_init_43 : decode cX1_init 43 = .ok (.newarray .int, 2) := by decide +kernel
theorem dX1_init_45 : decode cX1_init 45 = .ok (.putfield 33, 3) := by decide +kernel
theorem dX1_init_48 : decode cX1_init 48 = .ok (.aload_n 0, 1) := by decide +kernel
theorem dX1_init_49 : decode cX1_init 49 = .ok (.bipush 8, 2) := by decide +kernel
theorem dX1_init_51 : decode cX1_init 51 = .ok (.newarray .int, 2) := by decide +kernel
theorem dX1_init_53 : decode cX1_init 53 = .ok (.putfield 37, 3) := by decide +kernel
theorem dX1_init_56 : decode cX1_init 56 = .ok (.aload_n 0, 1) := by decide +kernel
theorem dX1_init_57 : decode cX1_init 57 = .ok (.bipush 8, 2) := by decide +kernel
theorem dX1_init_59 : decode cX1_init 59 = .ok (.newarray .int, 2) := by decide +kernel
theorem dX1_init_61 : decode cX1_init 61 = .ok (.putfield 40, 3) := by decide +kernel
theorem dX1_init_64 : decode cX1_init 64 = .ok (.return_, 1) := by decide +kernel
theorem dX1_fold_0 : decode cX1_fold 0 = .ok (.aload_n 0, 1) := by decide +kernel
theorem dX1_fold_1 : decode cX1_fold 1 = .ok (.iload_n 1, 1) := by decide +kernel
theorem dX1_fold_2 : decode cX1_fold 2 = .ok (.putfield 9, 3) := by decide +kernel
theorem dX1_fold_5 : decode cX1_fold 5 = .ok (.aload_n 0, 1) := by decide +kernel
theorem dX1_fold_6 : decode cX1_fold 6 = .ok (.iload_n 2, 1) := by decide +kernel
theorem dX1_fold_7 : decode cX1_fold 7 = .ok (.putfield 15, 3) := by decide +kernel
theorem dX1_fold_10 : decode cX1_fold 10 = .ok (.aload_n 0, 1) := by decide +kernel
theorem dX1_fold_11 : decode cX1_fold 11 = .ok (.iload_n 3, 1) := by decide +kernel
theorem dX1_fold_12 : decode cX1_fold 12 = .ok (.putfield 18, 3) := by decide +kernel
theorem dX1_fold_15 : decode cX1_fold 15 = .ok (.aload_n 0, 1) := by decide +kernel
theorem dX1_fold_16 : decode cX1_fold 16 = .ok (.iload 4, 2) := by decide +kernel
theorem dX1_fold_18 : decode cX1_fold 18 = .ok (.putfield 21, 3) := by decide +kernel
theorem dX1_fold_21 : decode cX1_fold 21 = .ok (.aload_n 0, 1) := by decide +kernel
theorem dX1_fold_22 : decode cX1_fold 22 = .ok (.bipush 10, 2) := by decide +kernel
theorem dX1_fold_24 : decode cX1_fold 24 = .ok (.putfield 24, 3) := by decide +kernel
theorem dX1_fold_27 : decode cX1_fold 27 = .ok (.aload_n 0, 1) := by decide +kernel
theorem dX1_fold_28 : decode cX1_fold 28 = .ok (.iconst 0, 1) := by decide +kernel
theorem dX1_fold_29 : decode cX1_fold 29 = .ok (.putfield 27, 3) := by decide +kernel
theorem dX1_fold_32 : decode cX1_fold 32 = .ok (.aload_n 0, 1) := by decide +kernel
theorem dX1_fold_33 : decode cX1_fold 33 = .ok (.iconst 0, 1) := by decide +kernel
theorem dX1_fold_34 : decode cX1_fold 34 = .ok (.putfield 30, 3) := by decide +kernel
theorem dX1_fold_37 : decode cX1_fold 37 = .ok (.return_, 1) := by decide +kernel
set_option maxRecDepth 20000 in
theorem ggX1_copyFrom_X1_fold : GoodIn wsX1_copyFrom wsX1_fold := goodIn_r _ [15, 1, 2, 3, 4, 5, 6, 7, 20, 21, 22, 23, 24, 25, 26, 27, 28, 29] (by decide +kernel) (by decide +kernel)
set_option maxRecDepth 20000 in
theorem gX1_copyFrom_X1_fold : GoodIn wsX1_copyFrom (wsV RX1 43 RX1 yX1_fold wsX1_fold) := goodIn_app (goodIn_of _ (by decide +kernel)) ggX1_copyFrom_X1_fold
set_option maxRecDepth 20000 in
theorem ggX1_copyFrom_X1_lay : GoodIn wsX1_copyFrom wsX1_lay := goodIn_r _ [19, 7, 8, 9, 10, 20, 21, 22, 23, 24, 25, 26, 27, 28, 29] (by decide +kernel) (by decide +kernel)
set_option maxRecDepth 20000 in
theorem gX1_copyFrom_X1_lay : GoodIn wsX1_copyFrom (wsV RX1 47 RX1 yX1_lay wsX1_lay) := goodIn_app (goodIn_of _ (by decide +kernel)) ggX1_copyFrom_X1_lay
theorem dX1_copyFrom_0 : decode cX1_copyFrom 0 = .ok (.aload_n 0, 1) := by decide +kernel
theorem dX1_copyFrom_1 : decode cX1_copyFrom 1 = .ok (.aload_n 1, 1) := by decide +kernel
theorem dX1_copyFrom_2 : decode cX1_copyFrom 2 = .ok (.getfield 9, 3) := by decide +kernel
theorem dX1_copyFrom_5 : decode cX1_copyFrom 5 = .ok (.aload_n 1, 1) := by decide +kernel
theorem dX1_copyFrom_6 : decode cX1_copyFrom 6 = .ok (.getfield 15, 3) := by decide +kernel
theorem dX1_copyFrom_9 : decode cX1_copyFrom 9 = .ok (.aload_n 1, 1) := by decide +kernel
theorem dX1_copyFrom_10 : decode cX1_copyFrom 10 = .ok (.getfield 18, 3) := by decide +kernel
theorem dX1_copyFrom_13 : decode cX1_copyFrom 13 = .ok (.aload_n 1, 1) := by decide +kernel
theorem dX1_copyFrom_14 : decode cX1_copyFrom 14 = .ok (.getfield 21, 3) := by decide +kernel
theorem dX1_copyFrom_17 : decode cX1_copyFrom 17 = .ok (.invokevirtual 43, 3) := by decide +kernel
theorem dX1_copyFrom_20 : decode cX1_copyFrom 20 = .ok (.aload_n 0, 1) := by decide +kernel
theorem dX1_copyFrom_21 : decode cX1_copyFrom 21 = .ok (.aload_n 1, 1) := by decide +kernel
theorem dX1_copyFrom_22 : decode cX1_copyFrom 22 = .ok (.getfield 24, 3) := by decide +kernel
theorem dX1_copyFrom_25 : decode cX1_copyFrom 25 = .ok (.putfield 24, 3) := by decide +kernel
theorem dX1_copyFrom_28 : decode cX1_copyFrom 28 = .ok (.aload_n 0, 1) := by decide +kernel
theorem dX1_copyFrom_29 : decode cX1_copyFrom 29 = .ok (.aload_n 1, 1) := by decide +kernel
theorem dX1_copyFrom_30 : decode cX1_copyFrom 30 = .ok (.getfield 27, 3) := by decide +kernel
theorem dX1_copyFrom_33 : decode cX1_copyFrom 33 = .ok (.putfield 27, 3) := by decide +kernel
theorem dX1_copyFrom_36 : decode cX1_copyFrom 36 = .ok (.iconst 0, 1) := by decide +kernel
theorem dX1_copyFrom_37 : decode cX1_copyFrom 37 = .ok (.istore_n 2, 1) := by decide +kernel
theorem dX1_copyFrom_38 : decode cX1_copyFrom 38 = .ok (.iload_n 2, 1) := by decide +kernel
theorem dX1_copyFrom_39 : decode cX1_copyFrom 39 = .ok (.aload_n 1, 1) := by decide +kernel
theorem dX1_copyFrom_40 : decode cX1_copyFrom 40 = .ok (.getfield 30, 3) := by decide +kernel
theorem dX1_copyFrom_43 : decode cX1_copyFrom 43 = .ok (.if_icmp .ge 38, 3) := by decide +kernel
theorem dX1_copyFrom_46 : decode cX1_copyFrom 46 = .ok (.iload_n 2, 1) := by decide +kernel
theorem dX1_copyFrom_47 : decode cX1_copyFrom 47 = .ok (.bipush 8, 2) := by decide +kernel
theorem dX1_copyFrom_49 : decode cX1_copyFrom 49 = .ok (.if_icmp .ge 32, 3) := by decide +kernel
theorem dX1_copyFrom_52 : decode cX1_copyFrom 52 = .ok (.aload_n 0, 1) := by decide +kernel
theorem dX1_copyFrom_53 : decode cX1_copyFrom 53 = .ok (.aload_n 1, 1) := by decide +kernel
theorem dX1_copyFrom_54 : decode cX1_copyFrom 54 = .ok (.getfield 33, 3) := by decide +kernel
theorem dX1_copyFrom_57 : decode cX1_copyFrom 57 = .ok (.iload_n 2, 1) := by decide +kernel
theorem dX1_copyFrom_58 : decode cX1_copyFrom 58 = .ok (.iaload, 1) := by decide +kernel
theorem dX1_copyFrom_59 : decode cX1_copyFrom 59 = .ok (.aload_n 1, 1) := by decide +kernel
theorem dX1_copyFrom_60 : decode cX1_copyFrom 60 = .ok (.getfield 37, 3) := by decide +kernel
theorem dX1_copyFrom_63 : decode cX1_copyFrom 63 = .ok (.iload_n 2, 1) := by decide +kernel
theorem dX1_copyFrom_64 : decode cX1_copyFrom 64 = .ok (.iaload, 1) := by decide +kernel
theorem dX1_copyFrom_65 : decode cX1_copyFrom 65 = .ok (.aload_n 1, 1) := by decide +kernel
theorem dX1_copyFrom_66 : decode cX1_copyFrom 66 = .ok (.getfield 40, 3) := by decide +kernel
theorem dX1_copyFrom_69 : decode cX1_copyFrom 69 = .ok (.iload_n 2, 1) := by decide +kernel
theorem dX1_copyFrom_70 : decode cX1_copyFrom 70 = .ok (.iaload, 1) := by decide +kernel
theorem dX1_copyFrom_71 : decode cX1_copyFrom 71 = .ok (.invokevirtual 47, 3) := by decide +kernel
theorem dX1_copyFrom_74 : decode cX1_copyFrom 74 = .ok (.pop, 1) := by decide +kernel
theorem dX1_copyFrom_75 : decode cX1_copyFrom 75 = .ok (.iinc 2 1, 3) := by decide +kernel
theorem dX1_copyFrom_78 : decode cX1_copyFrom 78 = .ok (.goto (-40), 3) := by decide +kernel
theorem dX1_copyFrom_81 : decode cX1_copyFrom 81 = .ok (.return_, 1) := by decide +kernel
theorem dX1_lay_0 : decode cX1_lay 0 = .ok (.aload_n 0, 1) := by decide +kernel
theorem dX1_lay_1 : decode cX1_lay 1 = .ok (.getfield 30, 3) := by decide +kernel
theorem dX1_lay_4 : decode cX1_lay 4 = .ok (.bipush 8, 2) := by decide +kernel
theorem dX1_lay_6 : decode cX1_lay 6 = .ok (.if_icmp .lt 6, 3) := by decide +kernel
theorem dX1_lay_9 : decode cX1_lay 9 = .ok (.bipush (-4), 2) := by decide +kernel
theorem dX1_lay_11 : decode cX1_lay 11 = .ok (.ireturn, 1) := by decide +kernel
theorem dX1_lay_12 : decode cX1_lay 12 = .ok (.aload_n 0, 1) := by decide +kernel
theorem dX1_lay_13 : decode cX1_lay 13 = .ok (.getfield 33, 3) := by decide +kernel
theorem dX1_lay_16 : decode cX1_lay 16 = .ok (.aload_n 0, 1) := by decide +kernel
theorem dX1_lay_17 : decode cX1_lay 17 = .ok (.getfield 30, 3) := by decide +kernel
theorem dX1_lay_20 : decode cX1_lay 20 = .ok (.iload_n 1, 1) := by decide +kernel
theorem dX1_lay_21 : decode cX1_lay 21 = .ok (.iastore, 1) := by decide +kernel
theorem dX1_lay_22 : decode cX1_lay 22 = .ok (.aload_n 0, 1) := by decide +kernel
theorem dX1_lay_23 : decode cX1_lay 23 = .ok (.getfield 37, 3) := by decide +kernel
theorem dX1_lay_26 : decode cX1_lay 26 = .ok (.aload_n 0, 1) := by decide +kernel
theorem dX1_lay_27 : decode cX1_lay 27 = .ok (.getfield 30, 3) := by decide +kernel
theorem dX1_lay_30 : decode cX1_lay 30 = .ok (.iload_n 2, 1) := by decide +kernel
theorem dX1_lay_31 : decode cX1_lay 31 = .ok (.iastore, 1) := by decide +kernel
theorem dX1_lay_32 : decode cX1_lay 32 = .ok (.aload_n 0, 1) := by decide +kernel
theorem dX1_lay_33 : decode cX1_lay 33 = .ok (.getfield 40, 3) := by decide +kernel
theorem dX1_lay_36 : decode cX1_lay 36 = .ok (.aload_n 0, 1) := by decide +kernel
theorem dX1_lay_37 : decode cX1_lay 37 = .ok (.getfield 30, 3) := by decide +kernel
theorem dX1_lay_40 : decode cX1_lay 40 = .ok (.iload_n 3, 1) := by decide +kernel
theorem dX1_lay_41 : decode cX1_lay 41 = .ok (.iastore, 1) := by decide +kernel
theorem dX1_lay_42 : decode cX1_lay 42 = .ok (.aload_n 0, 1) := by decide +kernel
theorem dX1_lay_43 : decode cX1_lay 43 = .ok (.dup, 1) := by decide +kernel
theorem dX1_lay_44 : decode cX1_lay 44 = .ok (.getfield 30, 3) := by decide +kernel
theorem dX1_lay_47 : decode cX1_lay 47 = .ok (.iconst 1, 1) := by decide +kernel
theorem dX1_lay_48 : decode cX1_lay 48 = .ok (.iadd, 1) := by decide +kernel
theorem dX1_lay_49 : decode cX1_lay 49 = .ok (.putfield 30, 3) := by decide +kernel
theorem dX1_lay_52 : decode cX1_lay 52 = .ok (.aload_n 0, 1) := by decide +kernel
theorem dX1_lay_53 : decode cX1_lay 53 = .ok (.getfield 30, 3) := by decide +kernel
theorem dX1_lay_56 : decode cX1_lay 56 = .ok (.iconst 1, 1) := by decide +kernel
theorem dX1_lay_57 : decode cX1_lay 57 = .ok (.isub, 1) := by decide +kernel
theorem dX1_lay_58 : decode cX1_lay 58 = .ok (.ireturn, 1) := by decide +kernel
theorem dX1_a_0 : decode cX1_a 0 = .ok (.aload_n 0, 1) := by decide +kernel
theorem dX1_a_1 : decode cX1_a 1 = .ok (.getfield 9, 3) := by decide +kernel
theorem dX1_a_4 : decode cX1_a 4 = .ok (.iconst 2, 1) := by decide +kernel
theorem dX1_a_5 : decode cX1_a 5 = .ok (.aload_n 0, 1) := by decide +kernel
theorem dX1_a_6 : decode cX1_a 6 = .ok (.getfield 21, 3) := by decide +kernel
theorem dX1_a_9 : decode cX1_a 9 = .ok (.imul, 1) := by decide +kernel
theorem dX1_a_10 : decode cX1_a 10 = .ok (.isub, 1) := by decide +kernel
theorem dX1_a_11 : decode cX1_a 11 = .ok (.ireturn, 1) := by decide +kernel
theorem dX1_b_0 : decode cX1_b 0 = .ok (.aload_n 0, 1) := by decide +kernel
theorem dX1_b_1 : decode cX1_b 1 = .ok (.getfield 15, 3) := by decide +kernel
theorem dX1_b_4 : decode cX1_b 4 = .ok (.iconst 2, 1) := by decide +kernel
theorem dX1_b_5 : decode cX1_b 5 = .ok (.aload_n 0, 1) := by decide +kernel
theorem dX1_b_6 : decode cX1_b 6 = .ok (.getfield 21, 3) := by decide +kernel
theorem dX1_b_9 : decode cX1_b 9 = .ok (.imul, 1) := by decide +kernel
theorem dX1_b_10 : decode cX1_b 10 = .ok (.isub, 1) := by decide +kernel
theorem dX1_b_11 : decode cX1_b 11 = .ok (.ireturn, 1) := by decide +kernel
set_option maxRecDepth 20000 in
theorem ggX1_cells_X1_a : GoodIn wsX1_cells wsX1_a := goodIn_r _ [5, 6, 7, 13, 14, 15, 16, 17, 18, 19, 20, 21, 22] (by decide +kernel) (by decide +kernel)
set_option maxRecDepth 20000 in
theorem gX1_cells_X1_a : GoodIn wsX1_cells (wsV RX1 51 RX1 yX1_a wsX1_a) := goodIn_app (goodIn_of _ (by decide +kernel)) ggX1_cells_X1_a
set_option maxRecDepth 20000 in
theorem ggX1_cells_X1_b : GoodIn wsX1_cells wsX1_b := goodIn_r _ [11, 12, 7, 13, 14, 15, 16, 17, 18, 19, 20, 21, 22] (by decide +kernel) (by decide +kernel)
set_option maxRecDepth 20000 in
theorem gX1_cells_X1_b : GoodIn wsX1_cells (wsV RX1 55 RX1 yX1_b wsX1_b) := goodIn_app (goodIn_of _ (by decide +kernel)) ggX1_cells_X1_b
theorem dX1_cells_0 : decode cX1_cells 0 = .ok (.aload_n 0, 1) := by decide +kernel
theorem dX1_cells_1 : decode cX1_cells 1 = .ok (.invokevirtual 51, 3) := by decide +kernel
theorem dX1_cells_4 : decode cX1_cells 4 = .ok (.aload_n 0, 1) := by decide +kernel
theorem dX1_cells_5 : decode cX1_cells 5 = .ok (.invokevirtual 55, 3) := by decide +kernel
theorem dX1_cells_8 : decode cX1_cells 8 = .ok (.imul, 1) := by decide +kernel
theorem dX1_cells_9 : decode cX1_cells 9 = .ok (.ireturn, 1) := by decide +kernel
theorem dX1_weightOf_0 : decode cX1_weightOf 0 = .ok (.iload_n 1, 1) := by decide +kernel
theorem dX1_weightOf_1 : decode cX1_weightOf 1 = .ok (.ifCond .lt 11, 3) := by decide +kernel
theorem dX1_weightOf_4 : decode cX1_weightOf 4 = .ok (.iload_n 1, 1) := by decide +kernel
theorem dX1_weightOf_5 : decode cX1_weightOf 5 = .ok (.aload_n 0, 1) := by decide +kernel
theorem dX1_weightOf_6 : decode cX1_weightOf 6 = .ok (.getfield 30, 3) := by decide +kernel
theorem dX1_weightOf_9 : decode cX1_weightOf 9 = .ok (.if_icmp .lt 7, 3) := by decide +kernel
theorem dX1_weightOf_12 : decode cX1_weightOf 12 = .ok (.iconst 0, 1) := by decide +kernel
theorem dX1_weightOf_13 : decode cX1_weightOf 13 = .ok (.goto 9, 3) := by decide +kernel
theorem dX1_weightOf_16 : decode cX1_weightOf 16 = .ok (.aload_n 0, 1) := by decide +kernel
theorem dX1_weightOf_17 : decode cX1_weightOf 17 = .ok (.getfield 40, 3) := by decide +kernel
theorem dX1_weightOf_20 : decode cX1_weightOf 20 = .ok (.iload_n 1, 1) := by decide +kernel
theorem dX1_weightOf_21 : decode cX1_weightOf 21 = .ok (.iaload, 1) := by decide +kernel
theorem dX1_weightOf_22 : decode cX1_weightOf 22 = .ok (.ireturn, 1) := by decide +kernel
set_option maxRecDepth 20000 in
theorem ggX1_pullM_X1_a : GoodIn wsX1_pullM wsX1_a := goodIn_r _ [8, 9, 10, 11, 12, 13, 14, 15, 16, 17, 18, 19, 20] (by decide +kernel) (by decide +kernel)
set_option maxRecDepth 20000 in
theorem gX1_pullM_X1_a : GoodIn wsX1_pullM (wsV RX1 51 RX1 yX1_a wsX1_a) := goodIn_app (goodIn_of _ (by decide +kernel)) ggX1_pullM_X1_a
theorem dX1_pullM_0 : decode cX1_pullM 0 = .ok (.iload_n 1, 1) := by decide +kernel
theorem dX1_pullM_1 : decode cX1_pullM 1 = .ok (.ifCond .lt 11, 3) := by decide +kernel
theorem dX1_pullM_4 : decode cX1_pullM 4 = .ok (.iload_n 1, 1) := by decide +kernel
theorem dX1_pullM_5 : decode cX1_pullM 5 = .ok (.aload_n 0, 1) := by decide +kernel
theorem dX1_pullM_6 : decode cX1_pullM 6 = .ok (.getfield 30, 3) := by decide +kernel
theorem dX1_pullM_9 : decode cX1_pullM 9 = .ok (.if_icmp .lt 7, 3) := by decide +kernel
theorem dX1_pullM_12 : decode cX1_pullM 12 = .ok (.iconst 0, 1) := by decide +kernel
theorem dX1_pullM_13 : decode cX1_pullM 13 = .ok (.goto 25, 3) := by decide +kernel
theorem dX1_pullM_16 : decode cX1_pullM 16 = .ok (.aload_n 0, 1) := by decide +kernel
theorem dX1_pullM_17 : decode cX1_pullM 17 = .ok (.getfield 40, 3) := by decide +kernel
theorem dX1_pullM_20 : decode cX1_pullM 20 = .ok (.iload_n 1, 1) := by decide +kernel
theorem dX1_pullM_21 : decode cX1_pullM 21 = .ok (.iaload, 1) := by decide +kernel
theorem dX1_pullM_22 : decode cX1_pullM 22 = .ok (.iconst 2, 1) := by decide +kernel
theorem dX1_pullM_23 : decode cX1_pullM 23 = .ok (.aload_n 0, 1) := by decide +kernel
theorem dX1_pullM_24 : decode cX1_pullM 24 = .ok (.getfield 33, 3) := by decide +kernel
theorem dX1_pullM_27 : decode cX1_pullM 27 = .ok (.iload_n 1, 1) := by decide +kernel
theorem dX1_pullM_28 : decode cX1_pullM 28 = .ok (.iaload, 1) := by decide +kernel
theorem dX1_pullM_29 : decode cX1_pullM 29 = .ok (.imul, 1) := by decide +kernel
theorem dX1_pullM_30 : decode cX1_pullM 30 = .ok (.iconst 1, 1) := by decide +kernel
theorem dX1_pullM_31 : decode cX1_pullM 31 = .ok (.iadd, 1) := by decide +kernel
theorem dX1_pullM_32 : decode cX1_pullM 32 = .ok (.aload_n 0, 1) := by decide +kernel
theorem dX1_pullM_33 : decode cX1_pullM 33 = .ok (.invokevirtual 51, 3) := by decide +kernel
theorem dX1_pullM_36 : decode cX1_pullM 36 = .ok (.isub, 1) := by decide +kernel
theorem dX1_pullM_37 : decode cX1_pullM 37 = .ok (.imul, 1) := by decide +kernel
theorem dX1_pullM_38 : decode cX1_pullM 38 = .ok (.ireturn, 1) := by decide +kernel
set_option maxRecDepth 20000 in
theorem ggX1_pullN_X1_b : GoodIn wsX1_pullN wsX1_b := goodIn_r _ [8, 9, 10, 11, 12, 13, 14, 15, 16, 17, 18, 19, 20] (by decide +kernel) (by decide +kernel)
set_option maxRecDepth 20000 in
theorem gX1_pullN_X1_b : GoodIn wsX1_pullN (wsV RX1 55 RX1 yX1_b wsX1_b) := goodIn_app (goodIn_of _ (by decide +kernel)) ggX1_pullN_X1_b
theorem dX1_pullN_0 : decode cX1_pullN 0 = .ok (.iload_n 1, 1) := by decide +kernel
theorem dX1_pullN_1 : decode cX1_pullN 1 = .ok (.ifCond .lt 11, 3) := by decide +kernel
theorem dX1_pullN_4 : decode cX1_pullN 4 = .ok (.iload_n 1, 1) := by decide +kernel
theorem dX1_pullN_5 : decode cX1_pullN 5 = .ok (.aload_n 0, 1) := by decide +kernel
theorem dX1_pullN_6 : decode cX1_pullN 6 = .ok (.getfield 30, 3) := by decide +kernel
theorem dX1_pullN_9 : decode cX1_pullN 9 = .ok (.if_icmp .lt 7, 3) := by decide +kernel
theorem dX1_pullN_12 : decode cX1_pullN 12 = .ok (.iconst 0, 1) := by decide +kernel
theorem dX1_pullN_13 : decode cX1_pullN 13 = .ok (.goto 25, 3) := by decide +kernel
theorem dX1_pullN_16 : decode cX1_pullN 16 = .ok (.aload_n 0, 1) := by decide +kernel
theorem dX1_pullN_17 : decode cX1_pullN 17 = .ok (.getfield 40, 3) := by decide +kernel
theorem dX1_pullN_20 : decode cX1_pullN 20 = .ok (.iload_n 1, 1) := by decide +kernel
theorem dX1_pullN_21 : decode cX1_pullN 21 = .ok (.iaload, 1) := by decide +kernel
theorem dX1_pullN_22 : decode cX1_pullN 22 = .ok (.iconst 2, 1) := by decide +kernel
theorem dX1_pullN_23 : decode cX1_pullN 23 = .ok (.aload_n 0, 1) := by decide +kernel
theorem dX1_pullN_24 : decode cX1_pullN 24 = .ok (.getfield 37, 3) := by decide +kernel
theorem dX1_pullN_27 : decode cX1_pullN 27 = .ok (.iload_n 1, 1) := by decide +kernel
theorem dX1_pullN_28 : decode cX1_pullN 28 = .ok (.iaload, 1) := by decide +kernel
theorem dX1_pullN_29 : decode cX1_pullN 29 = .ok (.imul, 1) := by decide +kernel
theorem dX1_pullN_30 : decode cX1_pullN 30 = .ok (.iconst 1, 1) := by decide +kernel
theorem dX1_pullN_31 : decode cX1_pullN 31 = .ok (.iadd, 1) := by decide +kernel
theorem dX1_pullN_32 : decode cX1_pullN 32 = .ok (.aload_n 0, 1) := by decide +kernel
theorem dX1_pullN_33 : decode cX1_pullN 33 = .ok (.invokevirtual 55, 3) := by decide +kernel
theorem dX1_pullN_36 : decode cX1_pullN 36 = .ok (.isub, 1) := by decide +kernel
theorem dX1_pullN_37 : decode cX1_pullN 37 = .ok (.imul, 1) := by decide +kernel
theorem dX1_pullN_38 : decode cX1_pullN 38 = .ok (.ireturn, 1) := by decide +kernel
set_option maxRecDepth 20000 in
theorem ggX1_momentM_X1_pullM : GoodIn wsX1_momentM wsX1_pullM := goodIn_r _ [6, 1, 7, 8, 9, 10, 11, 5, 12, 13, 14, 15, 16, 17, 18, 19, 20, 21, 22, 23, 24] (by decide +kernel) (by decide +kernel)
set_option maxRecDepth 20000 in
theorem gX1_momentM_X1_pullM : GoodIn wsX1_momentM (wsV RX1 58 RX1 yX1_pullM wsX1_pullM) := goodIn_app (goodIn_of _ (by decide +kernel)) ggX1_momentM_X1_pullM
theorem dX1_momentM_0 : decode cX1_momentM 0 = .ok (.iconst 0, 1) := by decide +kernel
theorem dX1_momentM_1 : decode cX1_momentM 1 = .ok (.istore_n 1, 1) := by decide +kernel
theorem dX1_momentM_2 : decode cX1_momentM 2 = .ok (.iconst 0, 1) := by decide +kernel
theorem dX1_momentM_3 : decode cX1_momentM 3 = .ok (.istore_n 2, 1) := by decide +kernel
theorem dX1_momentM_4 : decode cX1_momentM 4 = .ok (.iload_n 2, 1) := by decide +kernel
theorem dX1_momentM_5 : decode cX1_momentM 5 = .ok (.aload_n 0, 1) := by decide +kernel
theorem dX1_momentM_6 : decode cX1_momentM 6 = .ok (.getfield 30, 3) := by decide +kernel
theorem dX1_momentM_9 : decode cX1_momentM 9 = .ok (.if_icmp .ge 17, 3) := by decide +kernel
theorem dX1_momentM_12 : decode cX1_momentM 12 = .ok (.iload_n 1, 1) := by decide +kernel
theorem dX1_momentM_13 : decode cX1_momentM 13 = .ok (.aload_n 0, 1) := by decide +kernel
theorem dX1_momentM_14 : decode cX1_momentM 14 = .ok (.iload_n 2, 1) := by decide +kernel
theorem dX1_momentM_15 : decode cX1_momentM 15 = .ok (.invokevirtual 58, 3) := by decide +kernel
theorem dX1_momentM_18 : decode cX1_momentM 18 = .ok (.iadd, 1) := by decide +kernel
theorem dX1_momentM_19 : decode cX1_momentM 19 = .ok (.istore_n 1, 1) := by decide +kernel
theorem dX1_momentM_20 : decode cX1_momentM 20 = .ok (.iinc 2 1, 3) := by decide +kernel
theorem dX1_momentM_23 : decode cX1_momentM 23 = .ok (.goto (-19), 3) := by decide +kernel
theorem dX1_momentM_26 : decode cX1_momentM 26 = .ok (.iload_n 1, 1) := by decide +kernel
theorem dX1_momentM_27 : decode cX1_momentM 27 = .ok (.ireturn, 1) := by decide +kernel
set_option maxRecDepth 20000 in
theorem ggX1_momentN_X1_pullN : GoodIn wsX1_momentN wsX1_pullN := goodIn_r _ [6, 1, 7, 8, 9, 10, 11, 5, 12, 13, 14, 15, 16, 17, 18, 19, 20, 21, 22, 23, 24] (by decide +kernel) (by decide +kernel)
set_option maxRecDepth 20000 in
theorem gX1_momentN_X1_pullN : GoodIn wsX1_momentN (wsV RX1 62 RX1 yX1_pullN wsX1_pullN) := goodIn_app (goodIn_of _ (by decide +kernel)) ggX1_momentN_X1_pullN
theorem dX1_momentN_0 : decode cX1_momentN 0 = .ok (.iconst 0, 1) := by decide +kernel
theorem dX1_momentN_1 : decode cX1_momentN 1 = .ok (.istore_n 1, 1) := by decide +kernel
theorem dX1_momentN_2 : decode cX1_momentN 2 = .ok (.iconst 0, 1) := by decide +kernel
theorem dX1_momentN_3 : decode cX1_momentN 3 = .ok (.istore_n 2, 1) := by decide +kernel
theorem dX1_momentN_4 : decode cX1_momentN 4 = .ok (.iload_n 2, 1) := by decide +kernel
theorem dX1_momentN_5 : decode cX1_momentN 5 = .ok (.aload_n 0, 1) := by decide +kernel
theorem dX1_momentN_6 : decode cX1_momentN 6 = .ok (.getfield 30, 3) := by decide +kernel
theorem dX1_momentN_9 : decode cX1_momentN 9 = .ok (.if_icmp .ge 17, 3) := by decide +kernel
theorem dX1_momentN_12 : decode cX1_momentN 12 = .ok (.iload_n 1, 1) := by decide +kernel
theorem dX1_momentN_13 : decode cX1_momentN 13 = .ok (.aload_n 0, 1) := by decide +kernel
theorem dX1_momentN_14 : decode cX1_momentN 14 = .ok (.iload_n 2, 1) := by decide +kernel
theorem dX1_momentN_15 : decode cX1_momentN 15 = .ok (.invokevirtual 62, 3) := by decide +kernel
theorem dX1_momentN_18 : decode cX1_momentN 18 = .ok (.iadd, 1) := by decide +kernel
theorem dX1_momentN_19 : decode cX1_momentN 19 = .ok (.istore_n 1, 1) := by decide +kernel
theorem dX1_momentN_20 : decode cX1_momentN 20 = .ok (.iinc 2 1, 3) := by decide +kernel
theorem dX1_momentN_23 : decode cX1_momentN 23 = .ok (.goto (-19), 3) := by decide +kernel
theorem dX1_momentN_26 : decode cX1_momentN 26 = .ok (.iload_n 1, 1) := by decide +kernel
theorem dX1_momentN_27 : decode cX1_momentN 27 = .ok (.ireturn, 1) := by decide +kernel
theorem dX1_weightEmpty_0 : decode cX1_weightEmpty 0 = .ok (.aload_n 0, 1) := by decide +kernel
theorem dX1_weightEmpty_1 : decode cX1_weightEmpty 1 = .ok (.getfield 9, 3) := by decide +kernel
theorem dX1_weightEmpty_4 : decode cX1_weightEmpty 4 = .ok (.aload_n 0, 1) := by decide +kernel
theorem dX1_weightEmpty_5 : decode cX1_weightEmpty 5 = .ok (.getfield 15, 3) := by decide +kernel
theorem dX1_weightEmpty_8 : decode cX1_weightEmpty 8 = .ok (.imul, 1) := by decide +kernel
theorem dX1_weightEmpty_9 : decode cX1_weightEmpty 9 = .ok (.aload_n 0, 1) := by decide +kernel
theorem dX1_weightEmpty_10 : decode cX1_weightEmpty 10 = .ok (.getfield 18, 3) := by decide +kernel
theorem dX1_weightEmpty_13 : decode cX1_weightEmpty 13 = .ok (.imul, 1) := by decide +kernel
theorem dX1_weightEmpty_14 : decode cX1_weightEmpty 14 = .ok (.ireturn, 1) := by decide +kernel
set_option maxRecDepth 20000 in
theorem ggX1_weightAt_X1_weightEmpty : GoodIn wsX1_weightAt wsX1_weightEmpty := goodIn_r _ [7, 8, 9, 10, 16, 17, 18, 19, 20, 21, 22, 23, 24, 25] (by decide +kernel) (by decide +kernel)
set_option maxRecDepth 20000 in
theorem gX1_weightAt_X1_weightEmpty : GoodIn wsX1_weightAt (wsV RX1 65 RX1 yX1_weightEmpty wsX1_weightEmpty) := goodIn_app (goodIn_of _ (by decide +kernel)) ggX1_weightAt_X1_weightEmpty
set_option maxRecDepth 20000 in
theorem ggX1_weightAt_X1_weightOf : GoodIn wsX1_weightAt wsX1_weightOf := goodIn_r _ [14, 2, 15, 16, 17, 18, 19, 20, 21, 22, 23, 24, 25] (by decide +kernel) (by decide +kernel)
set_option maxRecDepth 20000 in
theorem gX1_weightAt_X1_weightOf : GoodIn wsX1_weightAt (wsV RX1 68 RX1 yX1_weightOf wsX1_weightOf) := goodIn_app (goodIn_of _ (by decide +kernel)) ggX1_weightAt_X1_weightOf
theorem dX1_weightAt_0 : decode cX1_weightAt 0 = .ok (.aload_n 0, 1) := by decide +kernel
theorem dX1_weightAt_1 : decode cX1_weightAt 1 = .ok (.invokevirtual 65, 3) := by decide +kernel
theorem dX1_weightAt_4 : decode cX1_weightAt 4 = .ok (.iload_n 1, 1) := by decide +kernel
theorem dX1_weightAt_5 : decode cX1_weightAt 5 = .ok (.aload_n 0, 1) := by decide +kernel
theorem dX1_weightAt_6 : decode cX1_weightAt 6 = .ok (.getfield 24, 3) := by decide +kernel
theorem dX1_weightAt_9 : decode cX1_weightAt 9 = .ok (.imul, 1) := by decide +kernel
theorem dX1_weightAt_10 : decode cX1_weightAt 10 = .ok (.iadd, 1) := by decide +kernel
theorem dX1_weightAt_11 : decode cX1_weightAt 11 = .ok (.istore_n 2, 1) := by decide +kernel
theorem dX1_weightAt_12 : decode cX1_weightAt 12 = .ok (.iconst 0, 1) := by decide +kernel
theorem dX1_weightAt_13 : decode cX1_weightAt 13 = .ok (.istore_n 3, 1) := by decide +kernel
theorem dX1_weightAt_14 : decode cX1_weightAt 14 = .ok (.iload_n 3, 1) := by decide +kernel
theorem dX1_weightAt_15 : decode cX1_weightAt 15 = .ok (.aload_n 0, 1) := by decide +kernel
theorem dX1_weightAt_16 : decode cX1_weightAt 16 = .ok (.getfield 30, 3) := by decide +kernel
theorem dX1_weightAt_19 : decode cX1_weightAt 19 = .ok (.if_icmp .ge 17, 3) := by decide +kernel
theorem dX1_weightAt_22 : decode cX1_weightAt 22 = .ok (.iload_n 2, 1) := by decide +kernel
theorem dX1_weightAt_23 : decode cX1_weightAt 23 = .ok (.aload_n 0, 1) := by decide +kernel
theorem dX1_weightAt_24 : decode cX1_weightAt 24 = .ok (.iload_n 3, 1) := by decide +kernel
theorem dX1_weightAt_25 : decode cX1_weightAt 25 = .ok (.invokevirtual 68, 3) := by decide +kernel
theorem dX1_weightAt_28 : decode cX1_weightAt 28 = .ok (.iadd, 1) := by decide +kernel
theorem dX1_weightAt_29 : decode cX1_weightAt 29 = .ok (.istore_n 2, 1) := by decide +kernel
theorem dX1_weightAt_30 : decode cX1_weightAt 30 = .ok (.iinc 3 1, 3) := by decide +kernel
theorem dX1_weightAt_33 : decode cX1_weightAt 33 = .ok (.goto (-19), 3) := by decide +kernel
theorem dX1_weightAt_36 : decode cX1_weightAt 36 = .ok (.iload_n 2, 1) := by decide +kernel
theorem dX1_weightAt_37 : decode cX1_weightAt 37 = .ok (.ireturn, 1) := by decide +kernel
set_option maxRecDepth 20000 in
theorem ggX1_cornerOf_X1_cells : GoodIn wsX1_cornerOf wsX1_cells := goodIn_r _ [10, 11, 12, 13, 9, 14, 15, 16, 17, 18, 19, 20, 21, 22, 23, 24, 25, 26, 27, 28, 29, 30, 31] (by decide +kernel) (by decide +kernel)
set_option maxRecDepth 20000 in
theorem gX1_cornerOf_X1_cells : GoodIn wsX1_cornerOf (wsV RX1 71 RX1 yX1_cells wsX1_cells) := goodIn_app (goodIn_of _ (by decide +kernel)) ggX1_cornerOf_X1_cells
set_option maxRecDepth 20000 in
theorem ggX1_cornerOf_X1_b : GoodIn wsX1_cornerOf wsX1_b := goodIn_r _ [20, 21, 16, 22, 23, 24, 25, 26, 27, 28, 29, 30, 31] (by decide +kernel) (by decide +kernel)
set_option maxRecDepth 20000 in
theorem gX1_cornerOf_X1_b : GoodIn wsX1_cornerOf (wsV RX1 55 RX1 yX1_b wsX1_b) := goodIn_app (goodIn_of _ (by decide +kernel)) ggX1_cornerOf_X1_b
set_option maxRecDepth 20000 in
theorem ggX1_cornerOf_X1_a : GoodIn wsX1_cornerOf wsX1_a := goodIn_r _ [14, 15, 16, 22, 23, 24, 25, 26, 27, 28, 29, 30, 31] (by decide +kernel) (by decide +kernel)
set_option maxRecDepth 20000 in
theorem gX1_cornerOf_X1_a : GoodIn wsX1_cornerOf (wsV RX1 51 RX1 yX1_a wsX1_a) := goodIn_app (goodIn_of _ (by decide +kernel)) ggX1_cornerOf_X1_a
theorem dX1_cornerOf_0 : decode cX1_cornerOf 0 = .ok (.iload_n 1, 1) := by decide +kernel
theorem dX1_cornerOf_1 : decode cX1_cornerOf 1 = .ok (.i2l, 1) := by decide +kernel
theorem dX1_cornerOf_2 : decode cX1_cornerOf 2 = .ok (.aload_n 0, 1) := by decide +kernel
theorem dX1_cornerOf_3 : decode cX1_cornerOf 3 = .ok (.invokevirtual 71, 3) := by decide +kernel
theorem dX1_cornerOf_6 : decode cX1_cornerOf 6 = .ok (.i2l, 1) := by decide +kernel
theorem dX1_cornerOf_7 : decode cX1_cornerOf 7 = .ok (.lmul, 1) := by decide +kernel
theorem dX1_cornerOf_8 : decode cX1_cornerOf 8 = .ok (.ldc2_w 74, 3) := by decide +kernel
theorem dX1_cornerOf_11 : decode cX1_cornerOf 11 = .ok (.iload_n 2, 1) := by decide +kernel
theorem dX1_cornerOf_12 : decode cX1_cornerOf 12 = .ok (.invokestatic 76, 3) := by decide +kernel
theorem dX1_cornerOf_15 : decode cX1_cornerOf 15 = .ok (.i2l, 1) := by decide +kernel
theorem dX1_cornerOf_16 : decode cX1_cornerOf 16 = .ok (.lmul, 1) := by decide +kernel
theorem dX1_cornerOf_17 : decode cX1_cornerOf 17 = .ok (.aload_n 0, 1) := by decide +kernel
theorem dX1_cornerOf_18 : decode cX1_cornerOf 18 = .ok (.invokevirtual 55, 3) := by decide +kernel
theorem dX1_cornerOf_21 : decode cX1_cornerOf 21 = .ok (.i2l, 1) := by decide +kernel
theorem dX1_cornerOf_22 : decode cX1_cornerOf 22 = .ok (.lmul, 1) := by decide +kernel
theorem dX1_cornerOf_23 : decode cX1_cornerOf 23 = .ok (.ladd, 1) := by decide +kernel
theorem dX1_cornerOf_24 : decode cX1_cornerOf 24 = .ok (.ldc2_w 74, 3) := by decide +kernel
theorem dX1_cornerOf_27 : decode cX1_cornerOf 27 = .ok (.iload_n 3, 1) := by decide +kernel
theorem dX1_cornerOf_28 : decode cX1_cornerOf 28 = .ok (.invokestatic 76, 3) := by decide +kernel
theorem dX1_cornerOf_31 : decode cX1_cornerOf 31 = .ok (.i2l, 1) := by decide +kernel
theorem dX1_cornerOf_32 : decode cX1_cornerOf 32 = .ok (.lmul, 1) := by decide +kernel
theorem dX1_cornerOf_33 : decode cX1_cornerOf 33 = .ok (.aload_n 0, 1) := by decide +kernel
theorem dX1_cornerOf_34 : decode cX1_cornerOf 34 = .ok (.invokevirtual 51, 3) := by decide +kernel
theorem dX1_cornerOf_37 : decode cX1_cornerOf 37 = .ok (.i2l, 1) := by decide +kernel
theorem dX1_cornerOf_38 : decode cX1_cornerOf 38 = .ok (.lmul, 1) := by decide +kernel
theorem dX1_cornerOf_39 : decode cX1_cornerOf 39 = .ok (.ladd, 1) := by decide +kernel
theorem dX1_cornerOf_40 : decode cX1_cornerOf 40 = .ok (.lreturn, 1) := by decide +kernel
set_option maxRecDepth 20000 in
theorem ggX1_cornerAt_X1_weightAt : GoodIn wsX1_cornerAt wsX1_weightAt := goodIn_r _ [5, 6, 7, 8, 9, 10, 4, 11, 12, 13, 14, 15, 16, 17, 18, 19, 60, 61, 62, 63, 64, 65, 66, 67, 68, 69] (by decide +kernel) (by decide +kernel)
set_option maxRecDepth 20000 in
theorem gX1_cornerAt_X1_weightAt : GoodIn wsX1_cornerAt (wsV RX1 81 RX1 yX1_weightAt wsX1_weightAt) := goodIn_app (goodIn_of _ (by decide +kernel)) ggX1_cornerAt_X1_weightAt
set_option maxRecDepth 20000 in
theorem ggX1_cornerAt_X1_momentM : GoodIn wsX1_cornerAt wsX1_momentM := goodIn_r _ [23, 7, 24, 25, 26, 4, 27, 19, 28, 29, 30, 31, 32, 12, 33, 60, 61, 62, 63, 64, 65, 66, 67, 68, 69] (by decide +kernel) (by decide +kernel)
set_option maxRecDepth 20000 in
theorem gX1_cornerAt_X1_momentM : GoodIn wsX1_cornerAt (wsV RX1 84 RX1 yX1_momentM wsX1_momentM) := goodIn_app (goodIn_of _ (by decide +kernel)) ggX1_cornerAt_X1_momentM
set_option maxRecDepth 20000 in
theorem ggX1_cornerAt_X1_momentN : GoodIn wsX1_cornerAt wsX1_momentN := goodIn_r _ [37, 7, 38, 39, 40, 4, 41, 19, 42, 43, 44, 45, 46, 13, 33, 60, 61, 62, 63, 64, 65, 66, 67, 68, 69] (by decide +kernel) (by decide +kernel)
set_option maxRecDepth 20000 in
theorem gX1_cornerAt_X1_momentN : GoodIn wsX1_cornerAt (wsV RX1 87 RX1 yX1_momentN wsX1_momentN) := goodIn_app (goodIn_of _ (by decide +kernel)) ggX1_cornerAt_X1_momentN
set_option maxRecDepth 20000 in
theorem ggX1_cornerAt_X1_cornerOf : GoodIn wsX1_cornerAt wsX1_cornerOf := goodIn_r _ [50, 51, 52, 53, 54, 55, 56, 57, 58, 4, 59, 29, 30, 31, 32, 12, 33, 43, 44, 45, 46, 13, 60, 61, 62, 63, 64, 65, 66, 67, 68, 69] (by decide +kernel) (by decide +kernel)
set_option maxRecDepth 20000 in
theorem gX1_cornerAt_X1_cornerOf : GoodIn wsX1_cornerAt (wsV RX1 90 RX1 yX1_cornerOf wsX1_cornerOf) := goodIn_app (goodIn_of _ (by decide +kernel)) ggX1_cornerAt_X1_cornerOf
theorem dX1_cornerAt_0 : decode cX1_cornerAt 0 = .ok (.aload_n 0, 1) := by decide +kernel
theorem dX1_cornerAt_1 : decode cX1_cornerAt 1 = .ok (.aload_n 0, 1) := by decide +kernel
theorem dX1_cornerAt_2 : decode cX1_cornerAt 2 = .ok (.iload_n 1, 1) := by decide +kernel
theorem dX1_cornerAt_3 : decode cX1_cornerAt 3 = .ok (.invokevirtual 81, 3) := by decide +kernel
theorem dX1_cornerAt_6 : decode cX1_cornerAt 6 = .ok (.aload_n 0, 1) := by decide +kernel
theorem dX1_cornerAt_7 : decode cX1_cornerAt 7 = .ok (.invokevirtual 84, 3) := by decide +kernel
theorem dX1_cornerAt_10 : decode cX1_cornerAt 10 = .ok (.aload_n 0, 1) := by decide +kernel
theorem dX1_cornerAt_11 : decode cX1_cornerAt 11 = .ok (.invokevirtual 87, 3) := by decide +kernel
theorem dX1_cornerAt_14 : decode cX1_cornerAt 14 = .ok (.invokevirtual 90, 3) := by decide +kernel
theorem dX1_cornerAt_17 : decode cX1_cornerAt 17 = .ok (.lreturn, 1) := by decide +kernel
set_option maxRecDepth 20000 in
theorem ggX1_cornerUnit_X1_cells : GoodIn wsX1_cornerUnit wsX1_cells := goodIn_r _ [6, 7, 8, 9, 5, 10, 11, 12, 13, 14, 15, 16, 17, 18, 19, 20, 21, 22, 23, 24, 25, 26, 27] (by decide +kernel) (by decide +kernel)
set_option maxRecDepth 20000 in
theorem gX1_cornerUnit_X1_cells : GoodIn wsX1_cornerUnit (wsV RX1 71 RX1 yX1_cells wsX1_cells) := goodIn_app (goodIn_of _ (by decide +kernel)) ggX1_cornerUnit_X1_cells
theorem dX1_cornerUnit_0 : decode cX1_cornerUnit 0 = .ok (.ldc2_w 94, 3) := by decide +kernel
theorem dX1_cornerUnit_3 : decode cX1_cornerUnit 3 = .ok (.aload_n 0, 1) := by decide +kernel
theorem dX1_cornerUnit_4 : decode cX1_cornerUnit 4 = .ok (.invokevirtual 71, 3) := by decide +kernel
theorem dX1_cornerUnit_7 : decode cX1_cornerUnit 7 = .ok (.i2l, 1) := by decide +kernel
theorem dX1_cornerUnit_8 : decode cX1_cornerUnit 8 = .ok (.lmul, 1) := by decide +kernel
theorem dX1_cornerUnit_9 : decode cX1_cornerUnit 9 = .ok (.aload_n 0, 1) := by decide +kernel
theorem dX1_cornerUnit_10 : decode cX1_cornerUnit 10 = .ok (.invokevirtual 71, 3) := by decide +kernel
theorem dX1_cornerUnit_13 : decode cX1_cornerUnit 13 = .ok (.i2l, 1) := by decide +kernel
theorem dX1_cornerUnit_14 : decode cX1_cornerUnit 14 = .ok (.lmul, 1) := by decide +kernel
theorem dX1_cornerUnit_15 : decode cX1_cornerUnit 15 = .ok (.lreturn, 1) := by decide +kernel
set_option maxRecDepth 20000 in
theorem ggX1_room_X1_cornerUnit : GoodIn wsX1_room wsX1_cornerUnit := goodIn_r _ [6, 7, 8, 9, 10, 5, 11, 12, 13, 14, 15, 16, 1, 17, 18, 19, 20, 21, 22, 23, 24, 25, 26, 27, 28, 29, 30, 31] (by decide +kernel) (by decide +kernel)
set_option maxRecDepth 20000 in
theorem gX1_room_X1_cornerUnit : GoodIn wsX1_room (wsV RX1 96 RX1 yX1_cornerUnit wsX1_cornerUnit) := goodIn_app (goodIn_of _ (by decide +kernel)) ggX1_room_X1_cornerUnit
theorem dX1_room_0 : decode cX1_room 0 = .ok (.aload_n 0, 1) := by decide +kernel
theorem dX1_room_1 : decode cX1_room 1 = .ok (.getfield 21, 3) := by decide +kernel
theorem dX1_room_4 : decode cX1_room 4 = .ok (.i2l, 1) := by decide +kernel
theorem dX1_room_5 : decode cX1_room 5 = .ok (.aload_n 0, 1) := by decide +kernel
theorem dX1_room_6 : decode cX1_room 6 = .ok (.invokevirtual 96, 3) := by decide +kernel
theorem dX1_room_9 : decode cX1_room 9 = .ok (.lmul, 1) := by decide +kernel
theorem dX1_room_10 : decode cX1_room 10 = .ok (.lload_n 1, 1) := by decide +kernel
theorem dX1_room_11 : decode cX1_room 11 = .ok (.lsub, 1) := by decide +kernel
theorem dX1_room_12 : decode cX1_room 12 = .ok (.lreturn, 1) := by decide +kernel
theorem dX1_lastFirmSecond_0 : decode cX1_lastFirmSecond 0 = .ok (.bipush 10, 2) := by decide +kernel
theorem dX1_lastFirmSecond_2 : decode cX1_lastFirmSecond 2 = .ok (.aload_n 0, 1) := by decide +kernel
theorem dX1_lastFirmSecond_3 : decode cX1_lastFirmSecond 3 = .ok (.getfield 18, 3) := by decide +kernel
theorem dX1_lastFirmSecond_6 : decode cX1_lastFirmSecond 6 = .ok (.imul, 1) := by decide +kernel
theorem dX1_lastFirmSecond_7 : decode cX1_lastFirmSecond 7 = .ok (.iconst 5, 1) := by decide +kernel
theorem dX1_lastFirmSecond_8 : decode cX1_lastFirmSecond 8 = .ok (.iload_n 1, 1) := by decide +kernel
theorem dX1_lastFirmSecond_9 : decode cX1_lastFirmSecond 9 = .ok (.imul, 1) := by decide +kernel
theorem dX1_lastFirmSecond_10 : decode cX1_lastFirmSecond 10 = .ok (.iadd, 1) := by decide +kernel
theorem dX1_lastFirmSecond_11 : decode cX1_lastFirmSecond 11 = .ok (.ireturn, 1) := by decide +kernel
set_option maxRecDepth 20000 in
theorem ggX1_lastSecond_X1_cornerAt : GoodIn wsX1_lastSecond wsX1_cornerAt := goodIn_r _ [11, 12, 13, 14, 10, 15, 2, 16, 17, 18, 19, 20, 21, 22, 23, 24, 25, 26, 27, 28, 29, 30, 31, 32, 33, 34, 35, 36, 37, 38, 39, 40, 41, 42, 43, 44, 45, 46, 47, 48, 49, 50, 51, 52, 53, 54, 55, 56, 57, 58, 59, 60, 61, 62, 5, 63, 64, 65, 66, 67, 81, 82, 83, 84, 85, 86, 87, 88, 89, 90] (by decide +kernel) (by decide +kernel)
set_option maxRecDepth 20000 in
theorem gX1_lastSecond_X1_cornerAt : GoodIn wsX1_lastSecond (wsV RX1 100 RX1 yX1_cornerAt wsX1_cornerAt) := goodIn_app (goodIn_of _ (by decide +kernel)) ggX1_lastSecond_X1_cornerAt
set_option maxRecDepth 20000 in
theorem ggX1_lastSecond_X1_room : GoodIn wsX1_lastSecond wsX1_room := goodIn_r _ [71, 42, 72, 73, 74, 10, 75, 76, 64, 65, 66, 67, 38, 39, 40, 41, 21, 52, 53, 54, 55, 22, 81, 82, 83, 84, 85, 86, 87, 88, 89, 90] (by decide +kernel) (by decide +kernel)
set_option maxRecDepth 20000 in
theorem gX1_lastSecond_X1_room : GoodIn wsX1_lastSecond (wsV RX1 104 RX1 yX1_room wsX1_room) := goodIn_app (goodIn_of _ (by decide +kernel)) ggX1_lastSecond_X1_room
set_option maxRecDepth 20000 in
theorem ggX1_lastSecond_X1_lastFirmSecond : GoodIn wsX1_lastSecond wsX1_lastFirmSecond := goodIn_r _ [80, 23, 81, 82, 83, 84, 85, 86, 87, 88, 89, 90] (by decide +kernel) (by decide +kernel)
set_option maxRecDepth 20000 in
theorem gX1_lastSecond_X1_lastFirmSecond : GoodIn wsX1_lastSecond (wsV RX1 108 RX1 yX1_lastFirmSecond wsX1_lastFirmSecond) := goodIn_app (goodIn_of _ (by decide +kernel)) ggX1_lastSecond_X1_lastFirmSecond
set_option maxRecDepth 20000 in
theorem ggX1_lastSecond_X1_cells : GoodIn wsX1_lastSecond wsX1_cells := goodIn_r _ [67, 38, 39, 40, 10, 41, 21, 42, 52, 53, 54, 55, 22, 81, 82, 83, 84, 85, 86, 87, 88, 89, 90] (by decide +kernel) (by decide +kernel)
set_option maxRecDepth 20000 in
theorem gX1_lastSecond_X1_cells : GoodIn wsX1_lastSecond (wsV RX1 71 RX1 yX1_cells wsX1_cells) := goodIn_app (goodIn_of _ (by decide +kernel)) ggX1_lastSecond_X1_cells
theorem dX1_lastSecond_0 : decode cX1_lastSecond 0 = .ok (.aload_n 0, 1) := by decide +kernel
theorem dX1_lastSecond_1 : decode cX1_lastSecond 1 = .ok (.aload_n 0, 1) := by decide +kernel
theorem dX1_lastSecond_2 : decode cX1_lastSecond 2 = .ok (.iconst 0, 1) := by decide +kernel
theorem dX1_lastSecond_3 : decode cX1_lastSecond 3 = .ok (.invokevirtual 100, 3) := by decide +kernel
theorem dX1_lastSecond_6 : decode cX1_lastSecond 6 = .ok (.invokevirtual 104, 3) := by decide +kernel
theorem dX1_lastSecond_9 : decode cX1_lastSecond 9 = .ok (.lstore_n 1, 1) := by decide +kernel
theorem dX1_lastSecond_10 : decode cX1_lastSecond 10 = .ok (.lload_n 1, 1) := by decide +kernel
theorem dX1_lastSecond_11 : decode cX1_lastSecond 11 = .ok (.lconst 0, 1) := by decide +kernel
theorem dX1_lastSecond_12 : decode cX1_lastSecond 12 = .ok (.lcmp, 1) := by decide +kernel
theorem dX1_lastSecond_13 : decode cX1_lastSecond 13 = .ok (.ifCond .ge 6, 3) := by decide +kernel
theorem dX1_lastSecond_16 : decode cX1_lastSecond 16 = .ok (.bipush (-9), 2) := by decide +kernel
theorem dX1_lastSecond_18 : decode cX1_lastSecond 18 = .ok (.ireturn, 1) := by decide +kernel
theorem dX1_lastSecond_19 : decode cX1_lastSecond 19 = .ok (.aload_n 0, 1) := by decide +kernel
theorem dX1_lastSecond_20 : decode cX1_lastSecond 20 = .ok (.aload_n 0, 1) := by decide +kernel
theorem dX1_lastSecond_21 : decode cX1_lastSecond 21 = .ok (.getfield 27, 3) := by decide +kernel
theorem dX1_lastSecond_24 : decode cX1_lastSecond 24 = .ok (.invokevirtual 108, 3) := by decide +kernel
theorem dX1_lastSecond_27 : decode cX1_lastSecond 27 = .ok (.istore_n 3, 1) := by decide +kernel
theorem dX1_lastSecond_28 : decode cX1_lastSecond 28 = .ok (.aload_n 0, 1) := by decide +kernel
theorem dX1_lastSecond_29 : decode cX1_lastSecond 29 = .ok (.getfield 24, 3) := by decide +kernel
theorem dX1_lastSecond_32 : decode cX1_lastSecond 32 = .ok (.i2l, 1) := by decide +kernel
theorem dX1_lastSecond_33 : decode cX1_lastSecond 33 = .ok (.aload_n 0, 1) := by decide +kernel
theorem dX1_lastSecond_34 : decode cX1_lastSecond 34 = .ok (.invokevirtual 71, 3) := by decide +kernel
theorem dX1_lastSecond_37 : decode cX1_lastSecond 37 = .ok (.i2l, 1) := by decide +kernel
theorem dX1_lastSecond_38 : decode cX1_lastSecond 38 = .ok (.lmul, 1) := by decide +kernel
theorem dX1_lastSecond_39 : decode cX1_lastSecond 39 = .ok (.lstore 4, 2) := by decide +kernel
theorem dX1_lastSecond_41 : decode cX1_lastSecond 41 = .ok (.lload 4, 2) := by decide +kernel
theorem dX1_lastSecond_43 : decode cX1_lastSecond 43 = .ok (.lconst 1, 1) := by decide +kernel
theorem dX1_lastSecond_44 : decode cX1_lastSecond 44 = .ok (.lcmp, 1) := by decide +kernel
theorem dX1_lastSecond_45 : decode cX1_lastSecond 45 = .ok (.ifCond .ge 5, 3) := by decide +kernel
theorem dX1_lastSecond_48 : decode cX1_lastSecond 48 = .ok (.iload_n 3, 1) := by decide +kernel
theorem dX1_lastSecond_49 : decode cX1_lastSecond 49 = .ok (.ireturn, 1) := by decide +kernel
theorem dX1_lastSecond_50 : decode cX1_lastSecond 50 = .ok (.iload_n 3, 1) := by decide +kernel
theorem dX1_lastSecond_51 : decode cX1_lastSecond 51 = .ok (.i2l, 1) := by decide +kernel
theorem dX1_lastSecond_52 : decode cX1_lastSecond 52 = .ok (.lload_n 1, 1) := by decide +kernel
theorem dX1_lastSecond_53 : decode cX1_lastSecond 53 = .ok (.lload 4, 2) := by decide +kernel
theorem dX1_lastSecond_55 : decode cX1_lastSecond 55 = .ok (.ldiv, 1) := by decide +kernel
theorem dX1_lastSecond_56 : decode cX1_lastSecond 56 = .ok (.invokestatic 111, 3) := by decide +kernel
theorem dX1_lastSecond_59 : decode cX1_lastSecond 59 = .ok (.l2i, 1) := by decide +kernel
theorem dX1_lastSecond_60 : decode cX1_lastSecond 60 = .ok (.ireturn, 1) := by decide +kernel
set_option maxRecDepth 20000 in
theorem ggX1_leastWax_X1_lastFirmSecond : GoodIn wsX1_leastWax wsX1_lastFirmSecond := goodIn_r _ [5, 6, 7, 8, 9, 10, 11, 12, 13, 14, 15, 16] (by decide +kernel) (by decide +kernel)
set_option maxRecDepth 20000 in
theorem gX1_leastWax_X1_lastFirmSecond : GoodIn wsX1_leastWax (wsV RX1 108 RX1 yX1_lastFirmSecond wsX1_lastFirmSecond) := goodIn_app (goodIn_of _ (by decide +kernel)) ggX1_leastWax_X1_lastFirmSecond
theorem dX1_leastWax_0 : decode cX1_leastWax 0 = .ok (.iconst 0, 1) := by decide +kernel
theorem dX1_leastWax_1 : decode cX1_leastWax 1 = .ok (.istore_n 2, 1) := by decide +kernel
theorem dX1_leastWax_2 : decode cX1_leastWax 2 = .ok (.iload_n 2, 1) := by decide +kernel
theorem dX1_leastWax_3 : decode cX1_leastWax 3 = .ok (.bipush 9, 2) := by decide +kernel
theorem dX1_leastWax_5 : decode cX1_leastWax 5 = .ok (.if_icmp .gt 20, 3) := by decide +kernel
theorem dX1_leastWax_8 : decode cX1_leastWax 8 = .ok (.iload_n 1, 1) := by decide +kernel
theorem dX1_leastWax_9 : decode cX1_leastWax 9 = .ok (.aload_n 0, 1) := by decide +kernel
theorem dX1_leastWax_10 : decode cX1_leastWax 10 = .ok (.iload_n 2, 1) := by decide +kernel
theorem dX1_leastWax_11 : decode cX1_leastWax 11 = .ok (.invokevirtual 108, 3) := by decide +kernel
theorem dX1_leastWax_14 : decode cX1_leastWax 14 = .ok (.if_icmp .gt 5, 3) := by decide +kernel
theorem dX1_leastWax_17 : decode cX1_leastWax 17 = .ok (.iload_n 2, 1) := by decide +kernel
theorem dX1_leastWax_18 : decode cX1_leastWax 18 = .ok (.ireturn, 1) := by decide +kernel
theorem dX1_leastWax_19 : decode cX1_leastWax 19 = .ok (.iinc 2 1, 3) := by decide +kernel
theorem dX1_leastWax_22 : decode cX1_leastWax 22 = .ok (.goto (-20), 3) := by decide +kernel
theorem dX1_leastWax_25 : decode cX1_leastWax 25 = .ok (.bipush (-9), 2) := by decide +kernel
theorem dX1_leastWax_27 : decode cX1_leastWax 27 = .ok (.ireturn, 1) := by decide +kernel
set_option maxRecDepth 20000 in
theorem ggX1_load_X1_weightEmpty : GoodIn wsX1_load wsX1_weightEmpty := goodIn_r _ [7, 1, 2, 8, 9, 10, 11, 12, 13, 14, 15, 16, 17, 18] (by decide +kernel) (by decide +kernel)
set_option maxRecDepth 20000 in
theorem gX1_load_X1_weightEmpty : GoodIn wsX1_load (wsV RX1 65 RX1 yX1_weightEmpty wsX1_weightEmpty) := goodIn_app (goodIn_of _ (by decide +kernel)) ggX1_load_X1_weightEmpty
theorem dX1_load_0 : decode cX1_load 0 = .ok (.aload_n 0, 1) := by decide +kernel
theorem dX1_load_1 : decode cX1_load 1 = .ok (.getfield 9, 3) := by decide +kernel
theorem dX1_load_4 : decode cX1_load 4 = .ok (.iconst 2, 1) := by decide +kernel
theorem dX1_load_5 : decode cX1_load 5 = .ok (.iload_n 1, 1) := by decide +kernel
theorem dX1_load_6 : decode cX1_load 6 = .ok (.imul, 1) := by decide +kernel
theorem dX1_load_7 : decode cX1_load 7 = .ok (.isub, 1) := by decide +kernel
theorem dX1_load_8 : decode cX1_load 8 = .ok (.aload_n 0, 1) := by decide +kernel
theorem dX1_load_9 : decode cX1_load 9 = .ok (.getfield 15, 3) := by decide +kernel
theorem dX1_load_12 : decode cX1_load 12 = .ok (.iconst 2, 1) := by decide +kernel
theorem dX1_load_13 : decode cX1_load 13 = .ok (.iload_n 1, 1) := by decide +kernel
theorem dX1_load_14 : decode cX1_load 14 = .ok (.imul, 1) := by decide +kernel
theorem dX1_load_15 : decode cX1_load 15 = .ok (.isub, 1) := by decide +kernel
theorem dX1_load_16 : decode cX1_load 16 = .ok (.imul, 1) := by decide +kernel
theorem dX1_load_17 : decode cX1_load 17 = .ok (.istore_n 3, 1) := by decide +kernel
theorem dX1_load_18 : decode cX1_load 18 = .ok (.bipush 100, 2) := by decide +kernel
theorem dX1_load_20 : decode cX1_load 20 = .ok (.iload_n 3, 1) := by decide +kernel
theorem dX1_load_21 : decode cX1_load 21 = .ok (.imul, 1) := by decide +kernel
theorem dX1_load_22 : decode cX1_load 22 = .ok (.iload_n 1, 1) := by decide +kernel
theorem dX1_load_23 : decode cX1_load 23 = .ok (.imul, 1) := by decide +kernel
theorem dX1_load_24 : decode cX1_load 24 = .ok (.aload_n 0, 1) := by decide +kernel
theorem dX1_load_25 : decode cX1_load 25 = .ok (.invokevirtual 65, 3) := by decide +kernel
theorem dX1_load_28 : decode cX1_load 28 = .ok (.isub, 1) := by decide +kernel
theorem dX1_load_29 : decode cX1_load 29 = .ok (.istore 4, 2) := by decide +kernel
theorem dX1_load_31 : decode cX1_load 31 = .ok (.iload 4, 2) := by decide +kernel
theorem dX1_load_33 : decode cX1_load 33 = .ok (.ifCond .lt 8, 3) := by decide +kernel
theorem dX1_load_36 : decode cX1_load 36 = .ok (.iload_n 2, 1) := by decide +kernel
theorem dX1_load_37 : decode cX1_load 37 = .ok (.iconst 1, 1) := by decide +kernel
theorem dX1_load_38 : decode cX1_load 38 = .ok (.if_icmp .ge 5, 3) := by decide +kernel
theorem dX1_load_41 : decode cX1_load 41 = .ok (.iconst 0, 1) := by decide +kernel
theorem dX1_load_42 : decode cX1_load 42 = .ok (.ireturn, 1) := by decide +kernel
theorem dX1_load_43 : decode cX1_load 43 = .ok (.iload 4, 2) := by decide +kernel
theorem dX1_load_45 : decode cX1_load 45 = .ok (.iload_n 2, 1) := by decide +kernel
theorem dX1_load_46 : decode cX1_load 46 = .ok (.idiv, 1) := by decide +kernel
theorem dX1_load_47 : decode cX1_load 47 = .ok (.ireturn, 1) := by decide +kernel
set_option maxRecDepth 20000 in
theorem ggX1_strongestRim_X11_canFold : GoodIn wsX1_strongestRim wsX11_canFold := goodIn_r _ [5, 6, 7, 4, 8] (by decide +kernel) (by decide +kernel)
set_option maxRecDepth 20000 in
theorem gX1_strongestRim_X11_canFold_n115 : GoodIn wsX1_strongestRim (wsX11_canFold) := ggX1_strongestRim_X11_canFold
set_option maxRecDepth 20000 in
theorem ggX1_strongestRim_X1_load : GoodIn wsX1_strongestRim wsX1_load := goodIn_r _ [13, 1, 2, 14, 15, 16, 12, 17, 18, 19, 20, 21, 22, 23, 24, 25, 26, 27, 28] (by decide +kernel) (by decide +kernel)
set_option maxRecDepth 20000 in
theorem gX1_strongestRim_X1_load : GoodIn wsX1_strongestRim (wsV RX1 119 RX1 yX1_load wsX1_load) := goodIn_app (goodIn_of _ (by decide +kernel)) ggX1_strongestRim_X1_load
theorem dX1_strongestRim_0 : decode cX1_strongestRim 0 = .ok (.iconst 1, 1) := by decide +kernel
theorem dX1_strongestRim_1 : decode cX1_strongestRim 1 = .ok (.istore_n 2, 1) := by decide +kernel
theorem dX1_strongestRim_2 : decode cX1_strongestRim 2 = .ok (.iconst 2, 1) := by decide +kernel
theorem dX1_strongestRim_3 : decode cX1_strongestRim 3 = .ok (.istore_n 3, 1) := by decide +kernel
theorem dX1_strongestRim_4 : decode cX1_strongestRim 4 = .ok (.iload_n 3, 1) := by decide +kernel
theorem dX1_strongestRim_5 : decode cX1_strongestRim 5 = .ok (.bipush 9, 2) := by decide +kernel
theorem dX1_strongestRim_7 : decode cX1_strongestRim 7 = .ok (.if_icmp .gt 41, 3) := by decide +kernel
theorem dX1_strongestRim_10 : decode cX1_strongestRim 10 = .ok (.aload_n 0, 1) := by decide +kernel
theorem dX1_strongestRim_11 : decode cX1_strongestRim 11 = .ok (.getfield 9, 3) := by decide +kernel
theorem dX1_strongestRim_14 : decode cX1_strongestRim 14 = .ok (.aload_n 0, 1) := by decide +kernel
theorem dX1_strongestRim_15 : decode cX1_strongestRim 15 = .ok (.getfield 15, 3) := by decide +kernel
theorem dX1_strongestRim_18 : decode cX1_strongestRim 18 = .ok (.iload_n 3, 1) := by decide +kernel
theorem dX1_strongestRim_19 : decode cX1_strongestRim 19 = .ok (.invokestatic 115, 3) := by decide +kernel
theorem dX1_strongestRim_22 : decode cX1_strongestRim 22 = .ok (.ifCond .eq 26, 3) := by decide +kernel
theorem dX1_strongestRim_25 : decode cX1_strongestRim 25 = .ok (.aload_n 0, 1) := by decide +kernel
theorem dX1_strongestRim_26 : decode cX1_strongestRim 26 = .ok (.iload_n 3, 1) := by decide +kernel
theorem dX1_strongestRim_27 : decode cX1_strongestRim 27 = .ok (.iload_n 1, 1) := by decide +kernel
theorem dX1_strongestRim_28 : decode cX1_strongestRim 28 = .ok (.invokevirtual 119, 3) := by decide +kernel
theorem dX1_strongestRim_31 : decode cX1_strongestRim 31 = .ok (.aload_n 0, 1) := by decide +kernel
theorem dX1_strongestRim_32 : decode cX1_strongestRim 32 = .ok (.iload_n 2, 1) := by decide +kernel
theorem dX1_strongestRim_33 : decode cX1_strongestRim 33 = .ok (.iload_n 1, 1) := by decide +kernel
theorem dX1_strongestRim_34 : decode cX1_strongestRim 34 = .ok (.invokevirtual 119, 3) := by decide +kernel
theorem dX1_strongestRim_37 : decode cX1_strongestRim 37 = .ok (.if_icmp .le 5, 3) := by decide +kernel
theorem dX1_strongestRim_40 : decode cX1_strongestRim 40 = .ok (.iload_n 3, 1) := by decide +kernel
theorem dX1_strongestRim_41 : decode cX1_strongestRim 41 = .ok (.istore_n 2, 1) := by decide +kernel
theorem dX1_strongestRim_42 : decode cX1_strongestRim 42 = .ok (.iinc 3 1, 3) := by decide +kernel
theorem dX1_strongestRim_45 : decode cX1_strongestRim 45 = .ok (.goto (-41), 3) := by decide +kernel
theorem dX1_strongestRim_48 : decode cX1_strongestRim 48 = .ok (.iload_n 2, 1) := by decide +kernel
theorem dX1_strongestRim_49 : decode cX1_strongestRim 49 = .ok (.ireturn, 1) := by decide +kernel
theorem dX2_init_0 : decode cX2_init 0 = .ok (.aload_n 0, 1) := by decide +kernel
theorem dX2_init_1 : decode cX2_init 1 = .ok (.invokespecial 3, 3) := by decide +kernel
theorem dX2_init_4 : decode cX2_init 4 = .ok (.aload_n 0, 1) := by decide +kernel
theorem dX2_init_5 : decode cX2_init 5 = .ok (.iconst 3, 1) := by decide +kernel
theorem dX2_init_6 : decode cX2_init 6 = .ok (.newarray .boolean, 2) := by decide +kernel
theorem dX2_init_8 : decode cX2_init 8 = .ok (.putfield 9, 3) := by decide +kernel
theorem dX2_init_11 : decode cX2_init 11 = .ok (.aload_n 0, 1) := by decide +kernel
theorem dX2_init_12 : decode cX2_init 12 = .ok (.iconst 3, 1) := by decide +kernel
theorem dX2_init_13 : decode cX2_init 13 = .ok (.newarray .int, 2) := by decide +kernel
theorem dX2_init_15 : decode cX2_init 15 = .ok (.putfield 15, 3) := by decide +kernel
theorem dX2_init_18 : decode cX2_init 18 = .ok (.aload_n 0, 1) := by decide +kernel
theorem dX2_init_19 : decode cX2_init 19 = .ok (.iconst 3, 1) := by decide +kernel
theorem dX2_init_20 : decode cX2_init 20 = .ok (.newarray .int, 2) := by decide +kernel
theorem dX2_init_22 : decode cX2_init 22 = .ok (.putfield 19, 3) := by decide +kernel
theorem dX2_init_25 : decode cX2_init 25 = .ok (.aload_n 0, 1) := by decide +kernel
theorem dX2_init_26 : decode cX2_init 26 = .ok (.iconst 0, 1) := by decide +kernel
theorem dX2_init_27 : decode cX2_init 27 = .ok (.putfield 22, 3) := by decide +kernel
theorem dX2_init_30 : decode cX2_init 30 = .ok (.aload_n 0, 1) := by decide +kernel
theorem dX2_init_31 : decode cX2_init 31 = .ok (.bipush (-9), 2) := by decide +kernel
theorem dX2_init_33 : decode cX2_init 33 = .ok (.putfield 26, 3) := by decide +kernel
theorem dX2_init_36 : decode cX2_init 36 = .ok (.return_, 1) := by decide +kernel
set_option maxRecDepth 20000 in
theorem ggX2_look_X6_hasLane : GoodIn wsX2_look wsX6_hasLane := goodIn_r _ [7, 8, 37, 38, 39, 40, 41] (by decide +kernel) (by decide +kernel)
set_option maxRecDepth 20000 in
theorem gX2_look_X6_hasLane : GoodIn wsX2_look (wsV RX2 29 RX6 yX6_hasLane wsX6_hasLane) := goodIn_app (goodIn_of _ (by decide +kernel)) ggX2_look_X6_hasLane
set_option maxRecDepth 20000 in
theorem ggX2_look_X6_hasWall : GoodIn wsX2_look wsX6_hasWall := goodIn_r _ [12, 13, 14, 15, 16, 6, 17, 18, 19, 20, 21, 22, 23, 4, 5, 7, 8, 37, 38, 39, 40, 41] (by decide +kernel) (by decide +kernel)
set_option maxRecDepth 20000 in
theorem gX2_look_X6_hasWall : GoodIn wsX2_look (wsV RX2 35 RX6 yX6_hasWall wsX6_hasWall) := goodIn_app (goodIn_of _ (by decide +kernel)) ggX2_look_X6_hasWall
set_option maxRecDepth 20000 in
theorem ggX2_look_X6_laneSeconds : GoodIn wsX2_look wsX6_laneSeconds := goodIn_r _ [27, 13, 28, 29, 30, 6, 31, 14, 15, 16, 17, 18, 19, 20, 21, 22, 23, 4, 5, 7, 8, 37, 38, 39, 40, 41] (by decide +kernel) (by decide +kernel)
set_option maxRecDepth 20000 in
theorem gX2_look_X6_laneSeconds : GoodIn wsX2_look (wsV RX2 38 RX6 yX6_laneSeconds wsX6_laneSeconds) := goodIn_app (goodIn_of _ (by decide +kernel)) ggX2_look_X6_laneSeconds
theorem dX2_look_0 : decode cX2_look 0 = .ok (.iconst 0, 1) := by decide +kernel
theorem dX2_look_1 : decode cX2_look 1 = .ok (.istore_n 2, 1) := by decide +kernel
theorem dX2_look_2 : decode cX2_look 2 = .ok (.iconst 0, 1) := by decide +kernel
theorem dX2_look_3 : decode cX2_look 3 = .ok (.istore_n 3, 1) := by decide +kernel
theorem dX2_look_4 : decode cX2_look 4 = .ok (.iload_n 3, 1) := by decide +kernel
theorem dX2_look_5 : decode cX2_look 5 = .ok (.iconst 3, 1) := by decide +kernel
theorem dX2_look_6 : decode cX2_look 6 = .ok (.if_icmp .ge 66, 3) := by decide +kernel
theorem dX2_look_9 : decode cX2_look 9 = .ok (.aload_n 0, 1) := by decide +kernel
theorem dX2_look_10 : decode cX2_look 10 = .ok (.getfield 9, 3) := by decide +kernel
theorem dX2_look_13 : decode cX2_look 13 = .ok (.iload_n 3, 1) := by decide +kernel
theorem dX2_look_14 : decode cX2_look 14 = .ok (.aload_n 1, 1) := by decide +kernel
theorem dX2_look_15 : decode cX2_look 15 = .ok (.iload_n 3, 1) := by decide +kernel
theorem dX2_look_16 : decode cX2_look 16 = .ok (.invokevirtual 29, 3) := by decide +kernel
theorem dX2_look_19 : decode cX2_look 19 = .ok (.ifCond .eq 15, 3) := by decide +kernel
theorem dX2_look_22 : decode cX2_look 22 = .ok (.aload_n 1, 1) := by decide +kernel
theorem dX2_look_23 : decode cX2_look 23 = .ok (.iload_n 3, 1) := by decide +kernel
theorem dX2_look_24 : decode cX2_look 24 = .ok (.invokevirtual 35, 3) := by decide +kernel
theorem dX2_look_27 : decode cX2_look 27 = .ok (.ifCond .ne 7, 3) := by decide +kernel
theorem dX2_look_30 : decode cX2_look 30 = .ok (.iconst 1, 1) := by decide +kernel
theorem dX2_look_31 : decode cX2_look 31 = .ok (.goto 4, 3) := by decide +kernel
theorem dX2_look_34 : decode cX2_look 34 = .ok (.iconst 0, 1) := by decide +kernel
theorem dX2_look_35 : decode cX2_look 35 = .ok (.bastore, 1) := by decide +kernel
theorem dX2_look_36 : decode cX2_look 36 = .ok (.aload_n 0, 1) := by decide +kernel
theorem dX2_look_37 : decode cX2_look 37 = .ok (.getfield 15, 3) := by decide +kernel
theorem dX2_look_40 : decode cX2_look 40 = .ok (.iload_n 3, 1) := by decide +kernel
theorem dX2_look_41 : decode cX2_look 41 = .ok (.aload_n 1, 1) := by decide +kernel
theorem dX2_look_42 : decode cX2_look 42 = .ok (.iload_n 3, 1) := by decide +kernel
theorem dX2_look_43 : decode cX2_look 43 = .ok (.invokevirtual 38, 3) := by decide +kernel
theorem dX2_look_46 : decode cX2_look 46 = .ok (.iastore, 1) := by decide +kernel
theorem dX2_look_47 : decode cX2_look 47 = .ok (.iload_n 2, 1) := by decide +kernel
theorem dX2_look_48 : decode cX2_look 48 = .ok (.ifCond .ne 12, 3) := by decide +kernel
theorem dX2_look_51 : decode cX2_look 51 = .ok (.aload_n 0, 1) := by decide +kernel
theorem dX2_look_52 : decode cX2_look 52 = .ok (.getfield 9, 3) := by decide +kernel
theorem dX2_look_55 : decode cX2_look 55 = .ok (.iload_n 3, 1) := by decide +kernel
theorem dX2_look_56 : decode cX2_look 56 = .ok (.baload, 1) := by decide +kernel
theorem dX2_look_57 : decode cX2_look 57 = .ok (.ifCond .eq 7, 3) := by decide +kernel
theorem dX2_look_60 : decode cX2_look 60 = .ok (.iconst 1, 1) := by decide +kernel
theorem dX2_look_61 : decode cX2_look 61 = .ok (.goto 4, 3) := by decide +kernel
theorem dX2_look_64 : decode cX2_look 64 = .ok (.iconst 0, 1) := by decide +kernel
theorem dX2_look_65 : decode cX2_look 65 = .ok (.istore_n 2, 1) := by decide +kernel
theorem dX2_look_66 : decode cX2_look 66 = .ok (.iinc 3 1, 3) := by decide +kernel
theorem dX2_look_69 : decode cX2_look 69 = .ok (.goto (-65), 3) := by decide +kernel
theorem dX2_look_72 : decode cX2_look 72 = .ok (.iload_n 2, 1) := by decide +kernel
theorem dX2_look_73 : decode cX2_look 73 = .ok (.ireturn, 1) := by decide +kernel
set_option maxRecDepth 20000 in
theorem ggX2_splitAll_X2_countIfAtRest : GoodIn wsX2_splitAll wsX2_countIfAtRest := goodIn_r _ [8, 3, 9, 1, 2, 10, 11, 12, 7, 13, 14, 15, 16, 17, 18, 19] (by decide +kernel) (by decide +kernel)
set_option maxRecDepth 20000 in
theorem gX2_splitAll_X2_countIfAtRest : GoodIn wsX2_splitAll (wsV RX2 42 RX2 yX2_countIfAtRest wsX2_countIfAtRest) := goodIn_app (goodIn_of _ (by decide +kernel)) ggX2_splitAll_X2_countIfAtRest
theorem dX2_splitAll_0 : decode cX2_splitAll 0 = .ok (.aload_n 0, 1) := by decide +kernel
theorem dX2_splitAll_1 : decode cX2_splitAll 1 = .ok (.iconst 0, 1) := by decide +kernel
theorem dX2_splitAll_2 : decode cX2_splitAll 2 = .ok (.putfield 22, 3) := by decide +kernel
theorem dX2_splitAll_5 : decode cX2_splitAll 5 = .ok (.aload_n 0, 1) := by decide +kernel
theorem dX2_splitAll_6 : decode cX2_splitAll 6 = .ok (.bipush (-9), 2) := by decide +kernel
theorem dX2_splitAll_8 : decode cX2_splitAll 8 = .ok (.putfield 26, 3) := by decide +kernel
theorem dX2_splitAll_11 : decode cX2_splitAll 11 = .ok (.iload_n 1, 1) := by decide +kernel
theorem dX2_splitAll_12 : decode cX2_splitAll 12 = .ok (.istore_n 3, 1) := by decide +kernel
theorem dX2_splitAll_13 : decode cX2_splitAll 13 = .ok (.iload_n 3, 1) := by decide +kernel
theorem dX2_splitAll_14 : decode cX2_splitAll 14 = .ok (.ifCond .lt 57, 3) := by decide +kernel
theorem dX2_splitAll_17 : decode cX2_splitAll 17 = .ok (.iload_n 1, 1) := by decide +kernel
theorem dX2_splitAll_18 : decode cX2_splitAll 18 = .ok (.iload_n 3, 1) := by decide +kernel
theorem dX2_splitAll_19 : decode cX2_splitAll 19 = .ok (.isub, 1) := by decide +kernel
theorem dX2_splitAll_20 : decode cX2_splitAll 20 = .ok (.istore 4, 2) := by decide +kernel
theorem dX2_splitAll_22 : decode cX2_splitAll 22 = .ok (.iload 4, 2) := by decide +kernel
theorem dX2_splitAll_24 : decode cX2_splitAll 24 = .ok (.ifCond .lt 41, 3) := by decide +kernel
theorem dX2_splitAll_27 : decode cX2_splitAll 27 = .ok (.aload_n 0, 1) := by decide +kernel
theorem dX2_splitAll_28 : decode cX2_splitAll 28 = .ok (.getfield 19, 3) := by decide +kernel
theorem dX2_splitAll_31 : decode cX2_splitAll 31 = .ok (.iconst 0, 1) := by decide +kernel
theorem dX2_splitAll_32 : decode cX2_splitAll 32 = .ok (.iload_n 3, 1) := by decide +kernel
theorem dX2_splitAll_33 : decode cX2_splitAll 33 = .ok (.iastore, 1) := by decide +kernel
theorem dX2_splitAll_34 : decode cX2_splitAll 34 = .ok (.aload_n 0, 1) := by decide +kernel
theorem dX2_splitAll_35 : decode cX2_splitAll 35 = .ok (.getfield 19, 3) := by decide +kernel
theorem dX2_splitAll_38 : decode cX2_splitAll 38 = .ok (.iconst 1, 1) := by decide +kernel
theorem dX2_splitAll_39 : decode cX2_splitAll 39 = .ok (.iload 4, 2) := by decide +kernel
theorem dX2_splitAll_41 : decode cX2_splitAll 41 = .ok (.iastore, 1) := by decide +kernel
theorem dX2_splitAll_42 : decode cX2_splitAll 42 = .ok (.aload_n 0, 1) := by decide +kernel
theorem dX2_splitAll_43 : decode cX2_splitAll 43 = .ok (.getfield 19, 3) := by decide +kernel
theorem dX2_splitAll_46 : decode cX2_splitAll 46 = .ok (.iconst 2, 1) := by decide +kernel
theorem dX2_splitAll_47 : decode cX2_splitAll 47 = .ok (.iload_n 1, 1) := by decide +kernel
theorem dX2_splitAll_48 : decode cX2_splitAll 48 = .ok (.iload_n 3, 1) := by decide +kernel
theorem dX2_splitAll_49 : decode cX2_splitAll 49 = .ok (.isub, 1) := by decide +kernel
theorem dX2_splitAll_50 : decode cX2_splitAll 50 = .ok (.iload 4, 2) := by decide +kernel
theorem dX2_splitAll_52 : decode cX2_splitAll 52 = .ok (.isub, 1) := by decide +kernel
theorem dX2_splitAll_53 : decode cX2_splitAll 53 = .ok (.iastore, 1) := by decide +kernel
theorem dX2_splitAll_54 : decode cX2_splitAll 54 = .ok (.aload_n 0, 1) := by decide +kernel
theorem dX2_splitAll_55 : decode cX2_splitAll 55 = .ok (.iload_n 2, 1) := by decide +kernel
theorem dX2_splitAll_56 : decode cX2_splitAll 56 = .ok (.invokevirtual 42, 3) := by decide +kernel
theorem dX2_splitAll_59 : decode cX2_splitAll 59 = .ok (.iinc 4 (-1), 3) := by decide +kernel
theorem dX2_splitAll_62 : decode cX2_splitAll 62 = .ok (.goto (-40), 3) := by decide +kernel
theorem dX2_splitAll_65 : decode cX2_splitAll 65 = .ok (.iinc 3 (-1), 3) := by decide +kernel
theorem dX2_splitAll_68 : decode cX2_splitAll 68 = .ok (.goto (-55), 3) := by decide +kernel
theorem dX2_splitAll_71 : decode cX2_splitAll 71 = .ok (.return_, 1) := by decide +kernel
set_option maxRecDepth 20000 in
theorem ggX2_countIfAtRest_X2_wouldLeave : GoodIn wsX2_countIfAtRest wsX2_wouldLeave := goodIn_r _ [9, 10, 1, 2, 11, 12, 13, 14, 15] (by decide +kernel) (by decide +kernel)
set_option maxRecDepth 20000 in
theorem gX2_countIfAtRest_X2_wouldLeave : GoodIn wsX2_countIfAtRest (wsV RX2 46 RX2 yX2_wouldLeave wsX2_wouldLeave) := goodIn_app (goodIn_of _ (by decide +kernel)) ggX2_countIfAtRest_X2_wouldLeave
theorem dX2_countIfAtRest_0 : decode cX2_countIfAtRest 0 = .ok (.iconst 0, 1) := by decide +kernel
theorem dX2_countIfAtRest_1 : decode cX2_countIfAtRest 1 = .ok (.istore_n 2, 1) := by decide +kernel
theorem dX2_countIfAtRest_2 : decode cX2_countIfAtRest 2 = .ok (.iload_n 2, 1) := by decide +kernel
theorem dX2_countIfAtRest_3 : decode cX2_countIfAtRest 3 = .ok (.iconst 3, 1) := by decide +kernel
theorem dX2_countIfAtRest_4 : decode cX2_countIfAtRest 4 = .ok (.if_icmp .ge 37, 3) := by decide +kernel
theorem dX2_countIfAtRest_7 : decode cX2_countIfAtRest 7 = .ok (.aload_n 0, 1) := by decide +kernel
theorem dX2_countIfAtRest_8 : decode cX2_countIfAtRest 8 = .ok (.getfield 19, 3) := by decide +kernel
theorem dX2_countIfAtRest_11 : decode cX2_countIfAtRest 11 = .ok (.iload_n 2, 1) := by decide +kernel
theorem dX2_countIfAtRest_12 : decode cX2_countIfAtRest 12 = .ok (.iaload, 1) := by decide +kernel
theorem dX2_countIfAtRest_13 : decode cX2_countIfAtRest 13 = .ok (.ifCond .le 22, 3) := by decide +kernel
theorem dX2_countIfAtRest_16 : decode cX2_countIfAtRest 16 = .ok (.aload_n 0, 1) := by decide +kernel
theorem dX2_countIfAtRest_17 : decode cX2_countIfAtRest 17 = .ok (.getfield 9, 3) := by decide +kernel
theorem dX2_countIfAtRest_20 : decode cX2_countIfAtRest 20 = .ok (.iload_n 2, 1) := by decide +kernel
theorem dX2_countIfAtRest_21 : decode cX2_countIfAtRest 21 = .ok (.baload, 1) := by decide +kernel
theorem dX2_countIfAtRest_22 : decode cX2_countIfAtRest 22 = .ok (.ifCond .eq 12, 3) := by decide +kernel
theorem dX2_countIfAtRest_25 : decode cX2_countIfAtRest 25 = .ok (.aload_n 0, 1) := by decide +kernel
theorem dX2_countIfAtRest_26 : decode cX2_countIfAtRest 26 = .ok (.iload_n 2, 1) := by decide +kernel
theorem dX2_countIfAtRest_27 : decode cX2_countIfAtRest 27 = .ok (.iload_n 1, 1) := by decide +kernel
theorem dX2_countIfAtRest_28 : decode cX2_countIfAtRest 28 = .ok (.invokevirtual 46, 3) := by decide +kernel
theorem dX2_countIfAtRest_31 : decode cX2_countIfAtRest 31 = .ok (.ifCond .eq 4, 3) := by decide +kernel
theorem dX2_countIfAtRest_34 : decode cX2_countIfAtRest 34 = .ok (.return_, 1) := by decide +kernel
theorem dX2_countIfAtRest_35 : decode cX2_countIfAtRest 35 = .ok (.iinc 2 1, 3) := by decide +kernel
theorem dX2_countIfAtRest_38 : decode cX2_countIfAtRest 38 = .ok (.goto (-36), 3) := by decide +kernel
theorem dX2_countIfAtRest_41 : decode cX2_countIfAtRest 41 = .ok (.aload_n 0, 1) := by decide +kernel
theorem dX2_countIfAtRest_42 : decode cX2_countIfAtRest 42 = .ok (.dup, 1) := by decide +kernel
theorem dX2_countIfAtRest_43 : decode cX2_countIfAtRest 43 = .ok (.getfield 22, 3) := by decide +kernel
theorem dX2_countIfAtRest_46 : decode cX2_countIfAtRest 46 = .ok (.iconst 1, 1) := by decide +kernel
theorem dX2_countIfAtRest_47 : decode cX2_countIfAtRest 47 = .ok (.iadd, 1) := by decide +kernel
theorem dX2_countIfAtRest_48 : decode cX2_countIfAtRest 48 = .ok (.putfield 22, 3) := by decide +kernel
theorem dX2_countIfAtRest_51 : decode cX2_countIfAtRest 51 = .ok (.aload_n 0, 1) := by decide +kernel
theorem dX2_countIfAtRest_52 : decode cX2_countIfAtRest 52 = .ok (.getfield 26, 3) := by decide +kernel
theorem dX2_countIfAtRest_55 : decode cX2_countIfAtRest 55 = .ok (.bipush (-9), 2) := by decide +kernel
theorem dX2_countIfAtRest_57 : decode cX2_countIfAtRest 57 = .ok (.if_icmp .ne 33, 3) := by decide +kernel
theorem dX2_countIfAtRest_60 : decode cX2_countIfAtRest 60 = .ok (.aload_n 0, 1) := by decide +kernel
theorem dX2_countIfAtRest_61 : decode cX2_countIfAtRest 61 = .ok (.bipush 100, 2) := by decide +kernel
theorem dX2_countIfAtRest_63 : decode cX2_countIfAtRest 63 = .ok (.aload_n 0, 1) := by decide +kernel
theorem dX2_countIfAtRest_64 : decode cX2_countIfAtRest 64 = .ok (.getfield 19, 3) := by decide +kernel
theorem dX2_countIfAtRest_67 : decode cX2_countIfAtRest 67 = .ok (.iconst 0, 1) := by decide +kernel
theorem dX2_countIfAtRest_68 : decode cX2_countIfAtRest 68 = .ok (.iaload, 1) := by decide +kernel
theorem dX2_countIfAtRest_69 : decode cX2_countIfAtRest 69 = .ok (.imul, 1) := by decide +kernel
theorem dX2_countIfAtRest_70 : decode cX2_countIfAtRest 70 = .ok (.bipush 10, 2) := by decide +kernel
theorem dX2_countIfAtRest_72 : decode cX2_countIfAtRest 72 = .ok (.aload_n 0, 1) := by decide +kernel
theorem dX2_countIfAtRest_73 : decode cX2_countIfAtRest 73 = .ok (.getfield 19, 3) := by decide +kernel
theorem dX2_countIfAtRest_76 : decode cX2_countIfAtRest 76 = .ok (.iconst 1, 1) := by decide +kernel
theorem dX2_countIfAtRest_77 : decode cX2_countIfAtRest 77 = .ok (.iaload, 1) := by decide +kernel
theorem dX2_countIfAtRest_78 : decode cX2_countIfAtRest 78 = .ok (.imul, 1) := by decide +kernel
theorem dX2_countIfAtRest_79 : decode cX2_countIfAtRest 79 = .ok (.iadd, 1) := by decide +kernel
theorem dX2_countIfAtRest_80 : decode cX2_countIfAtRest 80 = .ok (.aload_n 0, 1) := by decide +kernel
theorem dX2_countIfAtRest_81 : decode cX2_countIfAtRest 81 = .ok (.getfield 19, 3) := by decide +kernel
theorem dX2_countIfAtRest_84 : decode cX2_countIfAtRest 84 = .ok (.iconst 2, 1) := by decide +kernel
theorem dX2_countIfAtRest_85 : decode cX2_countIfAtRest 85 = .ok (.iaload, 1) := by decide +kernel
theorem dX2_countIfAtRest_86 : decode cX2_countIfAtRest 86 = .ok (.iadd, 1) := by decide +kernel
theorem dX2_countIfAtRest_87 : decode cX2_countIfAtRest 87 = .ok (.putfield 26, 3) := by decide +kernel
theorem dX2_countIfAtRest_90 : decode cX2_countIfAtRest 90 = .ok (.return_, 1) := by decide +kernel
theorem dX2_wouldLeave_0 : decode cX2_wouldLeave 0 = .ok (.aload_n 0, 1) := by decide +kernel
theorem dX2_wouldLeave_1 : decode cX2_wouldLeave 1 = .ok (.getfield 15, 3) := by decide +kernel
theorem dX2_wouldLeave_4 : decode cX2_wouldLeave 4 = .ok (.iload_n 1, 1) := by decide +kernel
theorem dX2_wouldLeave_5 : decode cX2_wouldLeave 5 = .ok (.iaload, 1) := by decide +kernel
theorem dX2_wouldLeave_6 : decode cX2_wouldLeave 6 = .ok (.iload_n 2, 1) := by decide +kernel
theorem dX2_wouldLeave_7 : decode cX2_wouldLeave 7 = .ok (.aload_n 0, 1) := by decide +kernel
theorem dX2_wouldLeave_8 : decode cX2_wouldLeave 8 = .ok (.getfield 19, 3) := by decide +kernel
theorem dX2_wouldLeave_11 : decode cX2_wouldLeave 11 = .ok (.iload_n 1, 1) := by decide +kernel
theorem dX2_wouldLeave_12 : decode cX2_wouldLeave 12 = .ok (.iaload, 1) := by decide +kernel
theorem dX2_wouldLeave_13 : decode cX2_wouldLeave 13 = .ok (.iconst 1, 1) := by decide +kernel
theorem dX2_wouldLeave_14 : decode cX2_wouldLeave 14 = .ok (.isub, 1) := by decide +kernel
theorem dX2_wouldLeave_15 : decode cX2_wouldLeave 15 = .ok (.imul, 1) := by decide +kernel
theorem dX2_wouldLeave_16 : decode cX2_wouldLeave 16 = .ok (.iadd, 1) := by decide +kernel
theorem dX2_wouldLeave_17 : decode cX2_wouldLeave 17 = .ok (.istore_n 3, 1) := by decide +kernel
theorem dX2_wouldLeave_18 : decode cX2_wouldLeave 18 = .ok (.iconst 0, 1) := by decide +kernel
theorem dX2_wouldLeave_19 : decode cX2_wouldLeave 19 = .ok (.istore 4, 2) := by decide +kernel
theorem dX2_wouldLeave_21 : decode cX2_wouldLeave 21 = .ok (.iload 4, 2) := by decide +kernel
theorem dX2_wouldLeave_23 : decode cX2_wouldLeave 23 = .ok (.iconst 3, 1) := by decide +kernel
theorem dX2_wouldLeave_24 : decode cX2_wouldLeave 24 = .ok (.if_icmp .ge 48, 3) := by decide +kernel
theorem dX2_wouldLeave_27 : decode cX2_wouldLeave 27 = .ok (.iload 4, 2) := by decide +kernel
theorem dX2_wouldLeave_29 : decode cX2_wouldLeave 29 = .ok (.iload_n 1, 1) := by decide +kernel
theorem dX2_wouldLeave_30 : decode cX2_wouldLeave 30 = .ok (.if_icmp .eq 36, 3) := by decide +kernel
theorem dX2_wouldLeave_33 : decode cX2_wouldLeave 33 = .ok (.aload_n 0, 1) := by decide +kernel
theorem dX2_wouldLeave_34 : decode cX2_wouldLeave 34 = .ok (.getfield 9, 3) := by decide +kernel
theorem dX2_wouldLeave_37 : decode cX2_wouldLeave 37 = .ok (.iload 4, 2) := by decide +kernel
theorem dX2_wouldLeave_39 : decode cX2_wouldLeave 39 = .ok (.baload, 1) := by decide +kernel
theorem dX2_wouldLeave_40 : decode cX2_wouldLeave 40 = .ok (.ifCond .eq 26, 3) := by decide +kernel
theorem dX2_wouldLeave_43 : decode cX2_wouldLeave 43 = .ok (.aload_n 0, 1) := by decide +kernel
theorem dX2_wouldLeave_44 : decode cX2_wouldLeave 44 = .ok (.getfield 15, 3) := by decide +kernel
theorem dX2_wouldLeave_47 : decode cX2_wouldLeave 47 = .ok (.iload 4, 2) := by decide +kernel
theorem dX2_wouldLeave_49 : decode cX2_wouldLeave 49 = .ok (.iaload, 1) := by decide +kernel
theorem dX2_wouldLeave_50 : decode cX2_wouldLeave 50 = .ok (.iload_n 2, 1) := by decide +kernel
theorem dX2_wouldLeave_51 : decode cX2_wouldLeave 51 = .ok (.aload_n 0, 1) := by decide +kernel
theorem dX2_wouldLeave_52 : decode cX2_wouldLeave 52 = .ok (.getfield 19, 3) := by decide +kernel
theorem dX2_wouldLeave_55 : decode cX2_wouldLeave 55 = .ok (.iload 4, 2) := by decide +kernel
theorem dX2_wouldLeave_57 : decode cX2_wouldLeave 57 = .ok (.iaload, 1) := by decide +kernel
theorem dX2_wouldLeave_58 : decode cX2_wouldLeave 58 = .ok (.imul, 1) := by decide +kernel
theorem dX2_wouldLeave_59 : decode cX2_wouldLeave 59 = .ok (.iadd, 1) := by decide +kernel
theorem dX2_wouldLeave_60 : decode cX2_wouldLeave 60 = .ok (.iload_n 3, 1) := by decide +kernel
theorem dX2_wouldLeave_61 : decode cX2_wouldLeave 61 = .ok (.if_icmp .ge 5, 3) := by decide +kernel
theorem dX2_wouldLeave_64 : decode cX2_wouldLeave 64 = .ok (.iconst 1, 1) := by decide +kernel
theorem dX2_wouldLeave_65 : decode cX2_wouldLeave 65 = .ok (.ireturn, 1) := by decide +kernel
theorem dX2_wouldLeave_66 : decode cX2_wouldLeave 66 = .ok (.iinc 4 1, 3) := by decide +kernel
theorem dX2_wouldLeave_69 : decode cX2_wouldLeave 69 = .ok (.goto (-48), 3) := by decide +kernel
theorem dX2_wouldLeave_72 : decode cX2_wouldLeave 72 = .ok (.iconst 0, 1) := by decide +kernel
theorem dX2_wouldLeave_73 : decode cX2_wouldLeave 73 = .ok (.ireturn, 1) := by decide +kernel
theorem dX3_init_0 : decode cX3_init 0 = .ok (.aload_n 0, 1) := by decide +kernel
theorem dX3_init_1 : decode cX3_init 1 = .ok (.invokespecial 3, 3) := by decide +kernel
theorem dX3_init_4 : decode cX3_init 4 = .ok (.aload_n 0, 1) := by decide +kernel
theorem dX3_init_5 : decode cX3_init 5 = .ok (.bipush 12, 2) := by decide +kernel
theorem dX3_init_7 : decode cX3_init 7 = .ok (.newarray .long, 2) := by decide +kernel
theorem dX3_init_9 : decode cX3_init 9 = .ok (.putfield 9, 3) := by decide +kernel
theorem dX3_init_12 : decode cX3_init 12 = .ok (.aload_n 0, 1) := by decide +kernel
theorem dX3_init_13 : decode cX3_init 13 = .ok (.lconst 0, 1) := by decide +kernel
theorem dX3_init_14 : decode cX3_init 14 = .ok (.putfield 15, 3) := by decide +kernel
theorem dX3_init_17 : decode cX3_init 17 = .ok (.return_, 1) := by decide +kernel
set_option maxRecDepth 20000 in
theorem ggX3_follow_X6_secondsAt : GoodIn wsX3_follow wsX6_secondsAt := goodIn_r _ [9, 10, 11, 12, 8, 13, 14, 15, 16, 17, 18, 19, 20, 21, 22, 23, 24, 33, 34, 35, 36, 37] (by decide +kernel) (by decide +kernel)
set_option maxRecDepth 20000 in
theorem gX3_follow_X6_secondsAt : GoodIn wsX3_follow (wsV RX3 25 RX6 yX6_secondsAt wsX6_secondsAt) := goodIn_app (goodIn_of _ (by decide +kernel)) ggX3_follow_X6_secondsAt
set_option maxRecDepth 20000 in
theorem ggX3_follow_X6_tenthsAcross : GoodIn wsX3_follow wsX6_tenthsAcross := goodIn_r _ [28, 29, 30, 10, 11, 12, 8, 13, 14, 15, 16, 17, 18, 19, 20, 21, 22, 23, 24, 33, 34, 35, 36, 37] (by decide +kernel) (by decide +kernel)
set_option maxRecDepth 20000 in
theorem gX3_follow_X6_tenthsAcross : GoodIn wsX3_follow (wsV RX3 29 RX6 yX6_tenthsAcross wsX6_tenthsAcross) := goodIn_app (goodIn_of _ (by decide +kernel)) ggX3_follow_X6_tenthsAcross
theorem dX3_follow_0 : decode cX3_follow 0 = .ok (.lconst 1, 1) := by decide +kernel
theorem dX3_follow_1 : decode cX3_follow 1 = .ok (.lstore 4, 2) := by decide +kernel
theorem dX3_follow_3 : decode cX3_follow 3 = .ok (.iconst 0, 1) := by decide +kernel
theorem dX3_follow_4 : decode cX3_follow 4 = .ok (.istore 6, 2) := by decide +kernel
theorem dX3_follow_6 : decode cX3_follow 6 = .ok (.aload_n 0, 1) := by decide +kernel
theorem dX3_follow_7 : decode cX3_follow 7 = .ok (.lconst 0, 1) := by decide +kernel
theorem dX3_follow_8 : decode cX3_follow 8 = .ok (.putfield 15, 3) := by decide +kernel
theorem dX3_follow_11 : decode cX3_follow 11 = .ok (.iconst 0, 1) := by decide +kernel
theorem dX3_follow_12 : decode cX3_follow 12 = .ok (.istore 7, 2) := by decide +kernel
theorem dX3_follow_14 : decode cX3_follow 14 = .ok (.iload 7, 2) := by decide +kernel
theorem dX3_follow_16 : decode cX3_follow 16 = .ok (.aload_n 1, 1) := by decide +kernel
theorem dX3_follow_17 : decode cX3_follow 17 = .ok (.getfield 19, 3) := by decide +kernel
theorem dX3_follow_20 : decode cX3_follow 20 = .ok (.if_icmp .ge 89, 3) := by decide +kernel
theorem dX3_follow_23 : decode cX3_follow 23 = .ok (.iload 7, 2) := by decide +kernel
theorem dX3_follow_25 : decode cX3_follow 25 = .ok (.aload_n 0, 1) := by decide +kernel
theorem dX3_follow_26 : decode cX3_follow 26 = .ok (.getfield 9, 3) := by decide +kernel
theorem dX3_follow_29 : decode cX3_follow 29 = .ok (.arraylength, 1) := by decide +kernel
theorem dX3_follow_30 : decode cX3_follow 30 = .ok (.if_icmp .ge 79, 3) := by decide +kernel
theorem dX3_follow_33 : decode cX3_follow 33 = .ok (.iload 6, 2) := by decide +kernel
theorem dX3_follow_35 : decode cX3_follow 35 = .ok (.aload_n 1, 1) := by decide +kernel
theorem dX3_follow_36 : decode cX3_follow 36 = .ok (.iload_n 2, 1) := by decide +kernel
theorem dX3_follow_37 : decode cX3_follow 37 = .ok (.iload 7, 2) := by decide +kernel
theorem dX3_follow_39 : decode cX3_follow 39 = .ok (.invokevirtual 25, 3) := by decide +kernel
theorem dX3_follow_42 : decode cX3_follow 42 = .ok (.iadd, 1) := by decide +kernel
theorem dX3_follow_43 : decode cX3_follow 43 = .ok (.istore 6, 2) := by decide +kernel
theorem dX3_follow_45 : decode cX3_follow 45 = .ok (.iload 6, 2) := by decide +kernel
theorem dX3_follow_47 : decode cX3_follow 47 = .ok (.iload_n 3, 1) := by decide +kernel
theorem dX3_follow_48 : decode cX3_follow 48 = .ok (.if_icmp .le 7, 3) := by decide +kernel
theorem dX3_follow_51 : decode cX3_follow 51 = .ok (.iconst 0, 1) := by decide +kernel
theorem dX3_follow_52 : decode cX3_follow 52 = .ok (.goto 10, 3) := by decide +kernel
theorem dX3_follow_55 : decode cX3_follow 55 = .ok (.aload_n 1, 1) := by decide +kernel
theorem dX3_follow_56 : decode cX3_follow 56 = .ok (.iload_n 2, 1) := by decide +kernel
theorem dX3_follow_57 : decode cX3_follow 57 = .ok (.iload 7, 2) := by decide +kernel
theorem dX3_follow_59 : decode cX3_follow 59 = .ok (.invokevirtual 29, 3) := by decide +kernel
theorem dX3_follow_62 : decode cX3_follow 62 = .ok (.istore 8, 2) := by decide +kernel
theorem dX3_follow_64 : decode cX3_follow 64 = .ok (.aload_n 0, 1) := by decide +kernel
theorem dX3_follow_65 : decode cX3_follow 65 = .ok (.getfield 9, 3) := by decide +kernel
theorem dX3_follow_68 : decode cX3_follow 68 = .ok (.iload 7, 2) := by decide +kernel
theorem dX3_follow_70 : decode cX3_follow 70 = .ok (.lload 4, 2) := by decide +kernel
theorem dX3_follow_72 : decode cX3_follow 72 = .ok (.bipush 10, 2) := by decide +kernel
theorem dX3_follow_74 : decode cX3_follow 74 = .ok (.iload 8, 2) := by decide +kernel
theorem dX3_follow_76 : decode cX3_follow 76 = .ok (.isub, 1) := by decide +kernel
theorem dX3_follow_77 : decode cX3_follow 77 = .ok (.i2l, 1) := by decide +kernel
theorem dX3_follow_78 : decode cX3_follow 78 = .ok (.lmul, 1) := by decide +kernel
theorem dX3_follow_79 : decode cX3_follow 79 = .ok (.lastore, 1) := by decide +kernel
theorem dX3_follow_80 : decode cX3_follow 80 = .ok (.lload 4, 2) := by decide +kernel
theorem dX3_follow_82 : decode cX3_follow 82 = .ok (.iload 8, 2) := by decide +kernel
theorem dX3_follow_84 : decode cX3_follow 84 = .ok (.i2l, 1) := by decide +kernel
theorem dX3_follow_85 : decode cX3_follow 85 = .ok (.lmul, 1) := by decide +kernel
theorem dX3_follow_86 : decode cX3_follow 86 = .ok (.lstore 4, 2) := by decide +kernel
theorem dX3_follow_88 : decode cX3_follow 88 = .ok (.aload_n 0, 1) := by decide +kernel
theorem dX3_follow_89 : decode cX3_follow 89 = .ok (.ldc2_w 32, 3) := by decide +kernel
theorem dX3_follow_92 : decode cX3_follow 92 = .ok (.aload_n 0, 1) := by decide +kernel
theorem dX3_follow_93 : decode cX3_follow 93 = .ok (.getfield 15, 3) := by decide +kernel
theorem dX3_follow_96 : decode cX3_follow 96 = .ok (.lmul, 1) := by decide +kernel
theorem dX3_follow_97 : decode cX3_follow 97 = .ok (.lload 4, 2) := by decide +kernel
theorem dX3_follow_99 : decode cX3_follow 99 = .ok (.ladd, 1) := by decide +kernel
theorem dX3_follow_100 : decode cX3_follow 100 = .ok (.putfield 15, 3) := by decide +kernel
theorem dX3_follow_103 : decode cX3_follow 103 = .ok (.iinc 7 1, 3) := by decide +kernel
theorem dX3_follow_106 : decode cX3_follow 106 = .ok (.goto (-92), 3) := by decide +kernel
theorem dX3_follow_109 : decode cX3_follow 109 = .ok (.return_, 1) := by decide +kernel
theorem dX3_endedAt_0 : decode cX3_endedAt 0 = .ok (.iload_n 1, 1) := by decide +kernel
theorem dX3_endedAt_1 : decode cX3_endedAt 1 = .ok (.ifCond .lt 12, 3) := by decide +kernel
theorem dX3_endedAt_4 : decode cX3_endedAt 4 = .ok (.iload_n 1, 1) := by decide +kernel
theorem dX3_endedAt_5 : decode cX3_endedAt 5 = .ok (.aload_n 0, 1) := by decide +kernel
theorem dX3_endedAt_6 : decode cX3_endedAt 6 = .ok (.getfield 9, 3) := by decide +kernel
theorem dX3_endedAt_9 : decode cX3_endedAt 9 = .ok (.arraylength, 1) := by decide +kernel
theorem dX3_endedAt_10 : decode cX3_endedAt 10 = .ok (.if_icmp .lt 5, 3) := by decide +kernel
theorem dX3_endedAt_13 : decode cX3_endedAt 13 = .ok (.lconst 0, 1) := by decide +kernel
theorem dX3_endedAt_14 : decode cX3_endedAt 14 = .ok (.lreturn, 1) := by decide +kernel
theorem dX3_endedAt_15 : decode cX3_endedAt 15 = .ok (.aload_n 0, 1) := by decide +kernel
theorem dX3_endedAt_16 : decode cX3_endedAt 16 = .ok (.getfield 9, 3) := by decide +kernel
theorem dX3_endedAt_19 : decode cX3_endedAt 19 = .ok (.iload_n 1, 1) := by decide +kernel
theorem dX3_endedAt_20 : decode cX3_endedAt 20 = .ok (.laload, 1) := by decide +kernel
theorem dX3_endedAt_21 : decode cX3_endedAt 21 = .ok (.lreturn, 1) := by decide +kernel
set_option maxRecDepth 20000 in
theorem ggX4_init_X1_init : GoodIn wsX4_init wsX1_init := goodIn_r _ [10, 11, 2, 3, 12, 13, 14, 15, 16, 17, 18, 19, 20, 21, 22, 25, 26, 27, 28, 29, 30, 31, 32, 33, 34] (by decide +kernel) (by decide +kernel)
set_option maxRecDepth 20000 in
theorem gX4_init_X1_init_n21 : GoodIn wsX4_init (wsX1_init) := ggX4_init_X1_init
theorem dX4_init_0 : decode cX4_init 0 = .ok (.aload_n 0, 1) := by decide +kernel
theorem dX4_init_1 : decode cX4_init 1 = .ok (.invokespecial 3, 3) := by decide +kernel
theorem dX4_init_4 : decode cX4_init 4 = .ok (.aload_n 0, 1) := by decide +kernel
theorem dX4_init_5 : decode cX4_init 5 = .ok (.bipush 6, 2) := by decide +kernel
theorem dX4_init_7 : decode cX4_init 7 = .ok (.anewarray 9, 3) := by decide +kernel
theorem dX4_init_10 : decode cX4_init 10 = .ok (.putfield 11, 3) := by decide +kernel
theorem dX4_init_13 : decode cX4_init 13 = .ok (.aload_n 0, 1) := by decide +kernel
theorem dX4_init_14 : decode cX4_init 14 = .ok (.iconst 0, 1) := by decide +kernel
theorem dX4_init_15 : decode cX4_init 15 = .ok (.putfield 17, 3) := by decide +kernel
theorem dX4_init_18 : decode cX4_init 18 = .ok (.iconst 0, 1) := by decide +kernel
theorem dX4_init_19 : decode cX4_init 19 = .ok (.istore_n 1, 1) := by decide +kernel
theorem dX4_init_20 : decode cX4_init 20 = .ok (.iload_n 1, 1) := by decide +kernel
theorem dX4_init_21 : decode cX4_init 21 = .ok (.aload_n 0, 1) := by decide +kernel
theorem dX4_init_22 : decode cX4_init 22 = .ok (.getfield 11, 3) := by decide +kernel
theorem dX4_init_25 : decode cX4_init 25 = .ok (.arraylength, 1) := by decide +kernel
theorem dX4_init_26 : decode cX4_init 26 = .ok (.if_icmp .ge 22, 3) := by decide +kernel
theorem dX4_init_29 : decode cX4_init 29 = .ok (.aload_n 0, 1) := by decide +kernel
theorem dX4_init_30 : decode cX4_init 30 = .ok (.getfield 11, 3) := by decide +kernel
theorem dX4_init_33 : decode cX4_init 33 = .ok (.iload_n 1, 1) := by decide +kernel
theorem dX4_init_34 : decode cX4_init 34 = .ok (.new 9, 3) := by decide +kernel
theorem dX4_init_37 : decode cX4_init 37 = .ok (.dup, 1) := by decide +kernel
theorem dX4_init_38 : decode cX4_init 38 = .ok (.invokespecial 21, 3) := by decide +kernel
theorem dX4_init_41 : decode cX4_init 41 = .ok (.aastore, 1) := by decide +kernel
theorem dX4_init_42 : decode cX4_init 42 = .ok (.iinc 1 1, 3) := by decide +kernel
theorem dX4_init_45 : decode cX4_init 45 = .ok (.goto (-25), 3) := by decide +kernel
theorem dX4_init_48 : decode cX4_init 48 = .ok (.return_, 1) := by decide +kernel
theorem dX4_find_0 : decode cX4_find 0 = .ok (.iload_n 1, 1) := by decide +kernel
theorem dX4_find_1 : decode cX4_find 1 = .ok (.ifCond .lt 20, 3) := by decide +kernel
theorem dX4_find_4 : decode cX4_find 4 = .ok (.iload_n 1, 1) := by decide +kernel
theorem dX4_find_5 : decode cX4_find 5 = .ok (.aload_n 0, 1) := by decide +kernel
theorem dX4_find_6 : decode cX4_find 6 = .ok (.getfield 17, 3) := by decide +kernel
theorem dX4_find_9 : decode cX4_find 9 = .ok (.if_icmp .ge 12, 3) := by decide +kernel
theorem dX4_find_12 : decode cX4_find 12 = .ok (.iload_n 1, 1) := by decide +kernel
theorem dX4_find_13 : decode cX4_find 13 = .ok (.aload_n 0, 1) := by decide +kernel
theorem dX4_find_14 : decode cX4_find 14 = .ok (.getfield 11, 3) := by decide +kernel
theorem dX4_find_17 : decode cX4_find 17 = .ok (.arraylength, 1) := by decide +kernel
theorem dX4_find_18 : decode cX4_find 18 = .ok (.if_icmp .lt 5, 3) := by decide +kernel
theorem dX4_find_21 : decode cX4_find 21 = .ok (.aconst_null, 1) := by decide +kernel
theorem dX4_find_22 : decode cX4_find 22 = .ok (.areturn, 1) := by decide +kernel
theorem dX4_find_23 : decode cX4_find 23 = .ok (.aload_n 0, 1) := by decide +kernel
theorem dX4_find_24 : decode cX4_find 24 = .ok (.getfield 11, 3) := by decide +kernel
theorem dX4_find_27 : decode cX4_find 27 = .ok (.iload_n 1, 1) := by decide +kernel
theorem dX4_find_28 : decode cX4_find 28 = .ok (.aaload, 1) := by decide +kernel
theorem dX4_find_29 : decode cX4_find 29 = .ok (.areturn, 1) := by decide +kernel
set_option maxRecDepth 20000 in
theorem ggX4_launch_X1_fold : GoodIn wsX4_launch wsX1_fold := goodIn_r _ [7, 8, 9, 10, 11, 12, 13, 14, 17, 18, 19, 20, 21, 22, 23, 24, 25, 26] (by decide +kernel) (by decide +kernel)
set_option maxRecDepth 20000 in
theorem gX4_launch_X1_fold : GoodIn wsX4_launch (wsV RX4 22 RX1 yX1_fold wsX1_fold) := goodIn_app (goodIn_of _ (by decide +kernel)) ggX4_launch_X1_fold
theorem dX4_launch_0 : decode cX4_launch 0 = .ok (.aload_n 0, 1) := by decide +kernel
theorem dX4_launch_1 : decode cX4_launch 1 = .ok (.getfield 17, 3) := by decide +kernel
theorem dX4_launch_4 : decode cX4_launch 4 = .ok (.aload_n 0, 1) := by decide +kernel
theorem dX4_launch_5 : decode cX4_launch 5 = .ok (.getfield 11, 3) := by decide +kernel
theorem dX4_launch_8 : decode cX4_launch 8 = .ok (.arraylength, 1) := by decide +kernel
theorem dX4_launch_9 : decode cX4_launch 9 = .ok (.if_icmp .lt 6, 3) := by decide +kernel
theorem dX4_launch_12 : decode cX4_launch 12 = .ok (.bipush (-4), 2) := by decide +kernel
theorem dX4_launch_14 : decode cX4_launch 14 = .ok (.ireturn, 1) := by decide +kernel
theorem dX4_launch_15 : decode cX4_launch 15 = .ok (.aload_n 0, 1) := by decide +kernel
theorem dX4_launch_16 : decode cX4_launch 16 = .ok (.getfield 11, 3) := by decide +kernel
theorem dX4_launch_19 : decode cX4_launch 19 = .ok (.aload_n 0, 1) := by decide +kernel
theorem dX4_launch_20 : decode cX4_launch 20 = .ok (.getfield 17, 3) := by decide +kernel
theorem dX4_launch_23 : decode cX4_launch 23 = .ok (.aaload, 1) := by decide +kernel
theorem dX4_launch_24 : decode cX4_launch 24 = .ok (.iload_n 1, 1) := by decide +kernel
theorem dX4_launch_25 : decode cX4_launch 25 = .ok (.iload_n 2, 1) := by decide +kernel
theorem dX4_launch_26 : decode cX4_launch 26 = .ok (.iload_n 3, 1) := by decide +kernel
theorem dX4_launch_27 : decode cX4_launch 27 = .ok (.iload 4, 2) := by decide +kernel
theorem dX4_launch_29 : decode cX4_launch 29 = .ok (.invokevirtual 22, 3) := by decide +kernel
theorem dX4_launch_32 : decode cX4_launch 32 = .ok (.aload_n 0, 1) := by decide +kernel
theorem dX4_launch_33 : decode cX4_launch 33 = .ok (.dup, 1) := by decide +kernel
theorem dX4_launch_34 : decode cX4_launch 34 = .ok (.getfield 17, 3) := by decide +kernel
theorem dX4_launch_37 : decode cX4_launch 37 = .ok (.iconst 1, 1) := by decide +kernel
theorem dX4_launch_38 : decode cX4_launch 38 = .ok (.iadd, 1) := by decide +kernel
theorem dX4_launch_39 : decode cX4_launch 39 = .ok (.putfield 17, 3) := by decide +kernel
theorem dX4_launch_42 : decode cX4_launch 42 = .ok (.aload_n 0, 1) := by decide +kernel
theorem dX4_launch_43 : decode cX4_launch 43 = .ok (.getfield 17, 3) := by decide +kernel
theorem dX4_launch_46 : decode cX4_launch 46 = .ok (.iconst 1, 1) := by decide +kernel
theorem dX4_launch_47 : decode cX4_launch 47 = .ok (.isub, 1) := by decide +kernel
theorem dX4_launch_48 : decode cX4_launch 48 = .ok (.ireturn, 1) := by decide +kernel
theorem dX4_allCoins_0 : decode cX4_allCoins 0 = .ok (.iconst 0, 1) := by decide +kernel
theorem dX4_allCoins_1 : decode cX4_allCoins 1 = .ok (.istore_n 1, 1) := by decide +kernel
theorem dX4_allCoins_2 : decode cX4_allCoins 2 = .ok (.iconst 0, 1) := by decide +kernel
theorem dX4_allCoins_3 : decode cX4_allCoins 3 = .ok (.istore_n 2, 1) := by decide +kernel
theorem dX4_allCoins_4 : decode cX4_allCoins 4 = .ok (.iload_n 2, 1) := by decide +kernel
theorem dX4_allCoins_5 : decode cX4_allCoins 5 = .ok (.aload_n 0, 1) := by decide +kernel
theorem dX4_allCoins_6 : decode cX4_allCoins 6 = .ok (.getfield 17, 3) := by decide +kernel
theorem dX4_allCoins_9 : decode cX4_allCoins 9 = .ok (.if_icmp .ge 21, 3) := by decide +kernel
theorem dX4_allCoins_12 : decode cX4_allCoins 12 = .ok (.iload_n 1, 1) := by decide +kernel
theorem dX4_allCoins_13 : decode cX4_allCoins 13 = .ok (.aload_n 0, 1) := by decide +kernel
theorem dX4_allCoins_14 : decode cX4_allCoins 14 = .ok (.getfield 11, 3) := by decide +kernel
theorem dX4_allCoins_17 : decode cX4_allCoins 17 = .ok (.iload_n 2, 1) := by decide +kernel
theorem dX4_allCoins_18 : decode cX4_allCoins 18 = .ok (.aaload, 1) := by decide +kernel
theorem dX4_allCoins_19 : decode cX4_allCoins 19 = .ok (.getfield 26, 3) := by decide +kernel
theorem dX4_allCoins_22 : decode cX4_allCoins 22 = .ok (.iadd, 1) := by decide +kernel
theorem dX4_allCoins_23 : decode cX4_allCoins 23 = .ok (.istore_n 1, 1) := by decide +kernel
theorem dX4_allCoins_24 : decode cX4_allCoins 24 = .ok (.iinc 2 1, 3) := by decide +kernel
theorem dX4_allCoins_27 : decode cX4_allCoins 27 = .ok (.goto (-23), 3) := by decide +kernel
theorem dX4_allCoins_30 : decode cX4_allCoins 30 = .ok (.iload_n 1, 1) := by decide +kernel
theorem dX4_allCoins_31 : decode cX4_allCoins 31 = .ok (.ireturn, 1) := by decide +kernel
set_option maxRecDepth 20000 in
theorem ggX4_copyFrom_X1_copyFrom : GoodIn wsX4_copyFrom wsX1_copyFrom := goodIn_r _ [7, 8, 9, 10, 11, 12, 13, 14, 15, 16, 17, 18, 19, 20, 6, 21, 22, 23, 24, 25, 28, 29, 30, 31, 32, 33, 34, 35, 36, 37] (by decide +kernel) (by decide +kernel)
set_option maxRecDepth 20000 in
theorem gX4_copyFrom_X1_copyFrom : GoodIn wsX4_copyFrom (wsV RX4 29 RX1 yX1_copyFrom wsX1_copyFrom) := goodIn_app (goodIn_of _ (by decide +kernel)) ggX4_copyFrom_X1_copyFrom
theorem dX4_copyFrom_0 : decode cX4_copyFrom 0 = .ok (.aload_n 0, 1) := by decide +kernel
theorem dX4_copyFrom_1 : decode cX4_copyFrom 1 = .ok (.aload_n 1, 1) := by decide +kernel
theorem dX4_copyFrom_2 : decode cX4_copyFrom 2 = .ok (.getfield 17, 3) := by decide +kernel
theorem dX4_copyFrom_5 : decode cX4_copyFrom 5 = .ok (.putfield 17, 3) := by decide +kernel
theorem dX4_copyFrom_8 : decode cX4_copyFrom 8 = .ok (.iconst 0, 1) := by decide +kernel
theorem dX4_copyFrom_9 : decode cX4_copyFrom 9 = .ok (.istore_n 2, 1) := by decide +kernel
theorem dX4_copyFrom_10 : decode cX4_copyFrom 10 = .ok (.iload_n 2, 1) := by decide +kernel
theorem dX4_copyFrom_11 : decode cX4_copyFrom 11 = .ok (.aload_n 0, 1) := by decide +kernel
theorem dX4_copyFrom_12 : decode cX4_copyFrom 12 = .ok (.getfield 17, 3) := by decide +kernel
theorem dX4_copyFrom_15 : decode cX4_copyFrom 15 = .ok (.if_icmp .ge 24, 3) := by decide +kernel
theorem dX4_copyFrom_18 : decode cX4_copyFrom 18 = .ok (.aload_n 0, 1) := by decide +kernel
theorem dX4_copyFrom_19 : decode cX4_copyFrom 19 = .ok (.getfield 11, 3) := by decide +kernel
theorem dX4_copyFrom_22 : decode cX4_copyFrom 22 = .ok (.iload_n 2, 1) := by decide +kernel
theorem dX4_copyFrom_23 : decode cX4_copyFrom 23 = .ok (.aaload, 1) := by decide +kernel
theorem dX4_copyFrom_24 : decode cX4_copyFrom 24 = .ok (.aload_n 1, 1) := by decide +kernel
theorem dX4_copyFrom_25 : decode cX4_copyFrom 25 = .ok (.getfield 11, 3) := by decide +kernel
theorem dX4_copyFrom_28 : decode cX4_copyFrom 28 = .ok (.iload_n 2, 1) := by decide +kernel
theorem dX4_copyFrom_29 : decode cX4_copyFrom 29 = .ok (.aaload, 1) := by decide +kernel
theorem dX4_copyFrom_30 : decode cX4_copyFrom 30 = .ok (.invokevirtual 29, 3) := by decide +kernel
theorem dX4_copyFrom_33 : decode cX4_copyFrom 33 = .ok (.iinc 2 1, 3) := by decide +kernel
theorem dX4_copyFrom_36 : decode cX4_copyFrom 36 = .ok (.goto (-26), 3) := by decide +kernel
theorem dX4_copyFrom_39 : decode cX4_copyFrom 39 = .ok (.return_, 1) := by decide +kernel
set_option maxRecDepth 20000 in
theorem ggX5_tell_X5_commonDivisor : GoodIn wsX5_tell wsX5_commonDivisor := goodIn_r _ [4] (by decide +kernel) (by decide +kernel)
set_option maxRecDepth 20000 in
theorem gX5_tell_X5_commonDivisor : GoodIn wsX5_tell (va_wsS RX5 7 yX5_commonDivisor wsX5_commonDivisor) := goodIn_app (goodIn_of _ (by decide +kernel)) ggX5_tell_X5_commonDivisor
theorem dX5_tell_0 : decode cX5_tell 0 = .ok (.lload_n 0, 1) := by decide +kernel
theorem dX5_tell_1 : decode cX5_tell 1 = .ok (.lload_n 2, 1) := by decide +kernel
theorem dX5_tell_2 : decode cX5_tell 2 = .ok (.invokestatic 7, 3) := by decide +kernel
theorem dX5_tell_5 : decode cX5_tell 5 = .ok (.lstore 5, 2) := by decide +kernel
theorem dX5_tell_7 : decode cX5_tell 7 = .ok (.lload 5, 2) := by decide +kernel
theorem dX5_tell_9 : decode cX5_tell 9 = .ok (.lconst 1, 1) := by decide +kernel
theorem dX5_tell_10 : decode cX5_tell 10 = .ok (.lcmp, 1) := by decide +kernel
theorem dX5_tell_11 : decode cX5_tell 11 = .ok (.ifCond .ge 14, 3) := by decide +kernel
theorem dX5_tell_14 : decode cX5_tell 14 = .ok (.iload 4, 2) := by decide +kernel
theorem dX5_tell_16 : decode cX5_tell 16 = .ok (.ifCond .eq 7, 3) := by decide +kernel
theorem dX5_tell_19 : decode cX5_tell 19 = .ok (.lload_n 0, 1) := by decide +kernel
theorem dX5_tell_20 : decode cX5_tell 20 = .ok (.goto 4, 3) := by decide +kernel
theorem dX5_tell_23 : decode cX5_tell 23 = .ok (.lload_n 2, 1) := by decide +kernel
theorem dX5_tell_24 : decode cX5_tell 24 = .ok (.lreturn, 1) := by decide +kernel
theorem dX5_tell_25 : decode cX5_tell 25 = .ok (.iload 4, 2) := by decide +kernel
theorem dX5_tell_27 : decode cX5_tell 27 = .ok (.ifCond .eq 7, 3) := by decide +kernel
theorem dX5_tell_30 : decode cX5_tell 30 = .ok (.lload_n 0, 1) := by decide +kernel
theorem dX5_tell_31 : decode cX5_tell 31 = .ok (.goto 4, 3) := by decide +kernel
theorem dX5_tell_34 : decode cX5_tell 34 = .ok (.lload_n 2, 1) := by decide +kernel
theorem dX5_tell_35 : decode cX5_tell 35 = .ok (.lload 5, 2) := by decide +kernel
theorem dX5_tell_37 : decode cX5_tell 37 = .ok (.ldiv, 1) := by decide +kernel
theorem dX5_tell_38 : decode cX5_tell 38 = .ok (.lreturn, 1) := by decide +kernel
theorem dX5_commonDivisor_0 : decode cX5_commonDivisor 0 = .ok (.lload_n 0, 1) := by decide +kernel
theorem dX5_commonDivisor_1 : decode cX5_commonDivisor 1 = .ok (.lstore 4, 2) := by decide +kernel
theorem dX5_commonDivisor_3 : decode cX5_commonDivisor 3 = .ok (.lload_n 2, 1) := by decide +kernel
theorem dX5_commonDivisor_4 : decode cX5_commonDivisor 4 = .ok (.lstore 6, 2) := by decide +kernel
theorem dX5_commonDivisor_6 : decode cX5_commonDivisor 6 = .ok (.iconst 0, 1) := by decide +kernel
theorem dX5_commonDivisor_7 : decode cX5_commonDivisor 7 = .ok (.istore 8, 2) := by decide +kernel
theorem dX5_commonDivisor_9 : decode cX5_commonDivisor 9 = .ok (.iload 8, 2) := by decide +kernel
theorem dX5_commonDivisor_11 : decode cX5_commonDivisor 11 = .ok (.bipush 100, 2) := by decide +kernel
theorem dX5_commonDivisor_13 : decode cX5_commonDivisor 13 = .ok (.if_icmp .ge 31, 3) := by decide +kernel
theorem dX5_commonDivisor_16 : decode cX5_commonDivisor 16 = .ok (.lload 6, 2) := by decide +kernel
theorem dX5_commonDivisor_18 : decode cX5_commonDivisor 18 = .ok (.lconst 0, 1) := by decide +kernel
theorem dX5_commonDivisor_19 : decode cX5_commonDivisor 19 = .ok (.lcmp, 1) := by decide +kernel
theorem dX5_commonDivisor_20 : decode cX5_commonDivisor 20 = .ok (.ifCond .eq 24, 3) := by decide +kernel
theorem dX5_commonDivisor_23 : decode cX5_commonDivisor 23 = .ok (.lload 4, 2) := by decide +kernel
theorem dX5_commonDivisor_25 : decode cX5_commonDivisor 25 = .ok (.lload 6, 2) := by decide +kernel
theorem dX5_commonDivisor_27 : decode cX5_commonDivisor 27 = .ok (.lrem, 1) := by decide +kernel
theorem dX5_commonDivisor_28 : decode cX5_commonDivisor 28 = .ok (.lstore 9, 2) := by decide +kernel
theorem dX5_commonDivisor_30 : decode cX5_commonDivisor 30 = .ok (.lload 6, 2) := by decide +kernel
theorem dX5_commonDivisor_32 : decode cX5_commonDivisor 32 = .ok (.lstore 4, 2) := by decide +kernel
theorem dX5_commonDivisor_34 : decode cX5_commonDivisor 34 = .ok (.lload 9, 2) := by decide +kernel
theorem dX5_commonDivisor_36 : decode cX5_commonDivisor 36 = .ok (.lstore 6, 2) := by decide +kernel
theorem dX5_commonDivisor_38 : decode cX5_commonDivisor 38 = .ok (.iinc 8 1, 3) := by decide +kernel
theorem dX5_commonDivisor_41 : decode cX5_commonDivisor 41 = .ok (.goto (-32), 3) := by decide +kernel
theorem dX5_commonDivisor_44 : decode cX5_commonDivisor 44 = .ok (.lload 4, 2) := by decide +kernel
theorem dX5_commonDivisor_46 : decode cX5_commonDivisor 46 = .ok (.lreturn, 1) := by decide +kernel
theorem dX5_powerOfTen_0 : decode cX5_powerOfTen 0 = .ok (.lconst 1, 1) := by decide +kernel
theorem dX5_powerOfTen_1 : decode cX5_powerOfTen 1 = .ok (.lstore_n 1, 1) := by decide +kernel
theorem dX5_powerOfTen_2 : decode cX5_powerOfTen 2 = .ok (.iconst 0, 1) := by decide +kernel
theorem dX5_powerOfTen_3 : decode cX5_powerOfTen 3 = .ok (.istore_n 3, 1) := by decide +kernel
theorem dX5_powerOfTen_4 : decode cX5_powerOfTen 4 = .ok (.iload_n 3, 1) := by decide +kernel
theorem dX5_powerOfTen_5 : decode cX5_powerOfTen 5 = .ok (.iload_n 0, 1) := by decide +kernel
theorem dX5_powerOfTen_6 : decode cX5_powerOfTen 6 = .ok (.if_icmp .ge 21, 3) := by decide +kernel
theorem dX5_powerOfTen_9 : decode cX5_powerOfTen 9 = .ok (.iload_n 3, 1) := by decide +kernel
theorem dX5_powerOfTen_10 : decode cX5_powerOfTen 10 = .ok (.bipush 18, 2) := by decide +kernel
theorem dX5_powerOfTen_12 : decode cX5_powerOfTen 12 = .ok (.if_icmp .ge 15, 3) := by decide +kernel
theorem dX5_powerOfTen_15 : decode cX5_powerOfTen 15 = .ok (.lload_n 1, 1) := by decide +kernel
theorem dX5_powerOfTen_16 : decode cX5_powerOfTen 16 = .ok (.ldc2_w 13, 3) := by decide +kernel
theorem dX5_powerOfTen_19 : decode cX5_powerOfTen 19 = .ok (.lmul, 1) := by decide +kernel
theorem dX5_powerOfTen_20 : decode cX5_powerOfTen 20 = .ok (.lstore_n 1, 1) := by decide +kernel
theorem dX5_powerOfTen_21 : decode cX5_powerOfTen 21 = .ok (.iinc 3 1, 3) := by decide +kernel
theorem dX5_powerOfTen_24 : decode cX5_powerOfTen 24 = .ok (.goto (-20), 3) := by decide +kernel
theorem dX5_powerOfTen_27 : decode cX5_powerOfTen 27 = .ok (.lload_n 1, 1) := by decide +kernel
theorem dX5_powerOfTen_28 : decode cX5_powerOfTen 28 = .ok (.lreturn, 1) := by decide +kernel
theorem dX6_init_0 : decode cX6_init 0 = .ok (.aload_n 0, 1) := by decide +kernel
theorem dX6_init_1 : decode cX6_init 1 = .ok (.invokespecial 3, 3) := by decide +kernel
theorem dX6_init_4 : decode cX6_init 4 = .ok (.aload_n 0, 1) := by decide +kernel
theorem dX6_init_5 : decode cX6_init 5 = .ok (.bipush 36, 2) := by decide +kernel
theorem dX6_init_7 : decode cX6_init 7 = .ok (.newarray .int, 2) := by decide +kernel
theorem dX6_init_9 : decode cX6_init 9 = .ok (.putfield 9, 3) := by decide +kernel
theorem dX6_init_12 : decode cX6_init 12 = .ok (.aload_n 0, 1) := by decide +kernel
theorem dX6_init_13 : decode cX6_init 13 = .ok (.iconst 1, 1) := by decide +kernel
theorem dX6_init_14 : decode cX6_init 14 = .ok (.putfield 15, 3) := by decide +kernel
theorem dX6_init_17 : decode cX6_init 17 = .ok (.aload_n 0, 1) := by decide +kernel
theorem dX6_init_18 : decode cX6_init 18 = .ok (.iconst 1, 1) := by decide +kernel
theorem dX6_init_19 : decode cX6_init 19 = .ok (.putfield 19, 3) := by decide +kernel
theorem dX6_init_22 : decode cX6_init 22 = .ok (.aload_n 0, 1) := by decide +kernel
theorem dX6_init_23 : decode cX6_init 23 = .ok (.iconst 3, 1) := by decide +kernel
theorem dX6_init_24 : decode cX6_init 24 = .ok (.putfield 22, 3) := by decide +kernel
theorem dX6_init_27 : decode cX6_init 27 = .ok (.aload_n 0, 1) := by decide +kernel
theorem dX6_init_28 : decode cX6_init 28 = .ok (.iconst 2, 1) := by decide +kernel
theorem dX6_init_29 : decode cX6_init 29 = .ok (.putfield 25, 3) := by decide +kernel
theorem dX6_init_32 : decode cX6_init 32 = .ok (.aload_n 0, 1) := by decide +kernel
theorem dX6_init_33 : decode cX6_init 33 = .ok (.getfield 9, 3) := by decide +kernel
theorem dX6_init_36 : decode cX6_init 36 = .ok (.iconst 0, 1) := by decide +kernel
theorem dX6_init_37 : decode cX6_init 37 = .ok (.iconst 1, 1) := by decide +kernel
theorem dX6_init_38 : decode cX6_init 38 = .ok (.iastore, 1) := by decide +kernel
theorem dX6_init_39 : decode cX6_init 39 = .ok (.return_, 1) := by decide +kernel
theorem dX6_kindOf_0 : decode cX6_kindOf 0 = .ok (.iload_n 0, 1) := by decide +kernel
theorem dX6_kindOf_1 : decode cX6_kindOf 1 = .ok (.bipush 49, 2) := by decide +kernel
theorem dX6_kindOf_3 : decode cX6_kindOf 3 = .ok (.if_icmp .lt 14, 3) := by decide +kernel
theorem dX6_kindOf_6 : decode cX6_kindOf 6 = .ok (.iload_n 0, 1) := by decide +kernel
theorem dX6_kindOf_7 : decode cX6_kindOf 7 = .ok (.bipush 57, 2) := by decide +kernel
theorem dX6_kindOf_9 : decode cX6_kindOf 9 = .ok (.if_icmp .gt 8, 3) := by decide +kernel
theorem dX6_kindOf_12 : decode cX6_kindOf 12 = .ok (.iload_n 0, 1) := by decide +kernel
theorem dX6_kindOf_13 : decode cX6_kindOf 13 = .ok (.bipush 48, 2) := by decide +kernel
theorem dX6_kindOf_15 : decode cX6_kindOf 15 = .ok (.isub, 1) := by decide +kernel
theorem dX6_kindOf_16 : decode cX6_kindOf 16 = .ok (.ireturn, 1) := by decide +kernel
theorem dX6_kindOf_17 : decode cX6_kindOf 17 = .ok (.iload_n 0, 1) := by decide +kernel
theorem dX6_kindOf_18 : decode cX6_kindOf 18 = .ok (.lookupswitch 43 #[(68, 37), (76, 34), (87, 40)], 34) := by decide +kernel
theorem dX6_kindOf_52 : decode cX6_kindOf 52 = .ok (.bipush 10, 2) := by decide +kernel
theorem dX6_kindOf_54 : decode cX6_kindOf 54 = .ok (.ireturn, 1) := by decide +kernel
theorem dX6_kindOf_55 : decode cX6_kindOf 55 = .ok (.bipush 11, 2) := by decide +kernel
theorem dX6_kindOf_57 : decode cX6_kindOf 57 = .ok (.ireturn, 1) := by decide +kernel
theorem dX6_kindOf_58 : decode cX6_kindOf 58 = .ok (.bipush 12, 2) := by decide +kernel
theorem dX6_kindOf_60 : decode cX6_kindOf 60 = .ok (.ireturn, 1) := by decide +kernel
theorem dX6_kindOf_61 : decode cX6_kindOf 61 = .ok (.iconst 0, 1) := by decide +kernel
theorem dX6_kindOf_62 : decode cX6_kindOf 62 = .ok (.ireturn, 1) := by decide +kernel
set_option maxRecDepth 20000 in
theorem ggX6_readFrom_X6_kindOf : GoodIn wsX6_readFrom wsX6_kindOf := goodIn_r _ [9] (by decide +kernel) (by decide +kernel)
set_option maxRecDepth 20000 in
theorem gX6_readFrom_X6_kindOf : GoodIn wsX6_readFrom (va_wsS RX6 36 yX6_kindOf wsX6_kindOf) := goodIn_app (goodIn_of _ (by decide +kernel)) ggX6_readFrom_X6_kindOf
theorem dX6_readFrom_0 : decode cX6_readFrom 0 = .ok (.iconst 0, 1) := by decide +kernel
theorem dX6_readFrom_1 : decode cX6_readFrom 1 = .ok (.istore_n 2, 1) := by decide +kernel
theorem dX6_readFrom_2 : decode cX6_readFrom 2 = .ok (.iconst 0, 1) := by decide +kernel
theorem dX6_readFrom_3 : decode cX6_readFrom 3 = .ok (.istore_n 3, 1) := by decide +kernel
theorem dX6_readFrom_4 : decode cX6_readFrom 4 = .ok (.iconst 0, 1) := by decide +kernel
theorem dX6_readFrom_5 : decode cX6_readFrom 5 = .ok (.istore 4, 2) := by decide +kernel
theorem dX6_readFrom_7 : decode cX6_readFrom 7 = .ok (.iload 4, 2) := by decide +kernel
theorem dX6_readFrom_9 : decode cX6_readFrom 9 = .ok (.aload_n 1, 1) := by decide +kernel
theorem dX6_readFrom_10 : decode cX6_readFrom 10 = .ok (.getfield 28, 3) := by decide +kernel
theorem dX6_readFrom_13 : decode cX6_readFrom 13 = .ok (.if_icmp .ge 64, 3) := by decide +kernel
theorem dX6_readFrom_16 : decode cX6_readFrom 16 = .ok (.aload_n 1, 1) := by decide +kernel
theorem dX6_readFrom_17 : decode cX6_readFrom 17 = .ok (.getfield 33, 3) := by decide +kernel
theorem dX6_readFrom_20 : decode cX6_readFrom 20 = .ok (.iload 4, 2) := by decide +kernel
theorem dX6_readFrom_22 : decode cX6_readFrom 22 = .ok (.iaload, 1) := by decide +kernel
theorem dX6_readFrom_23 : decode cX6_readFrom 23 = .ok (.bipush 47, 2) := by decide +kernel
theorem dX6_readFrom_25 : decode cX6_readFrom 25 = .ok (.if_icmp .ne 11, 3) := by decide +kernel
theorem dX6_readFrom_28 : decode cX6_readFrom 28 = .ok (.iinc 2 1, 3) := by decide +kernel
theorem dX6_readFrom_31 : decode cX6_readFrom 31 = .ok (.iconst 0, 1) := by decide +kernel
theorem dX6_readFrom_32 : decode cX6_readFrom 32 = .ok (.istore_n 3, 1) := by decide +kernel
theorem dX6_readFrom_33 : decode cX6_readFrom 33 = .ok (.goto 38, 3) := by decide +kernel
theorem dX6_readFrom_36 : decode cX6_readFrom 36 = .ok (.iload_n 2, 1) := by decide +kernel
theorem dX6_readFrom_37 : decode cX6_readFrom 37 = .ok (.iconst 3, 1) := by decide +kernel
theorem dX6_readFrom_38 : decode cX6_readFrom 38 = .ok (.if_icmp .ge 33, 3) := by decide +kernel
theorem dX6_readFrom_41 : decode cX6_readFrom 41 = .ok (.iload_n 3, 1) := by decide +kernel
theorem dX6_readFrom_42 : decode cX6_readFrom 42 = .ok (.bipush 12, 2) := by decide +kernel
theorem dX6_readFrom_44 : decode cX6_readFrom 44 = .ok (.if_icmp .ge 27, 3) := by decide +kernel
theorem dX6_readFrom_47 : decode cX6_readFrom 47 = .ok (.aload_n 0, 1) := by decide +kernel
theorem dX6_readFrom_48 : decode cX6_readFrom 48 = .ok (.getfield 9, 3) := by decide +kernel
theorem dX6_readFrom_51 : decode cX6_readFrom 51 = .ok (.iload_n 2, 1) := by decide +kernel
theorem dX6_readFrom_52 : decode cX6_readFrom 52 = .ok (.bipush 12, 2) := by decide +kernel
theorem dX6_readFrom_54 : decode cX6_readFrom 54 = .ok (.imul, 1) := by decide +kernel
theorem dX6_readFrom_55 : decode cX6_readFrom 55 = .ok (.iload_n 3, 1) := by decide +kernel
theorem dX6_readFrom_56 : decode cX6_readFrom 56 = .ok (.iadd, 1) := by decide +kernel
theorem dX6_readFrom_57 : decode cX6_readFrom 57 = .ok (.aload_n 1, 1) := by decide +kernel
theorem dX6_readFrom_58 : decode cX6_readFrom 58 = .ok (.getfield 33, 3) := by decide +kernel
theorem dX6_readFrom_61 : decode cX6_readFrom 61 = .ok (.iload 4, 2) := by decide +kernel
theorem dX6_readFrom_63 : decode cX6_readFrom 63 = .ok (.iaload, 1) := by decide +kernel
theorem dX6_readFrom_64 : decode cX6_readFrom 64 = .ok (.invokestatic 36, 3) := by decide +kernel
theorem dX6_readFrom_67 : decode cX6_readFrom 67 = .ok (.iastore, 1) := by decide +kernel
theorem dX6_readFrom_68 : decode cX6_readFrom 68 = .ok (.iinc 3 1, 3) := by decide +kernel
theorem dX6_readFrom_71 : decode cX6_readFrom 71 = .ok (.iinc 4 1, 3) := by decide +kernel
theorem dX6_readFrom_74 : decode cX6_readFrom 74 = .ok (.goto (-67), 3) := by decide +kernel
theorem dX6_readFrom_77 : decode cX6_readFrom 77 = .ok (.aload_n 0, 1) := by decide +kernel
theorem dX6_readFrom_78 : decode cX6_readFrom 78 = .ok (.iload_n 2, 1) := by decide +kernel
theorem dX6_readFrom_79 : decode cX6_readFrom 79 = .ok (.iconst 1, 1) := by decide +kernel
theorem dX6_readFrom_80 : decode cX6_readFrom 80 = .ok (.iadd, 1) := by decide +kernel
theorem dX6_readFrom_81 : decode cX6_readFrom 81 = .ok (.putfield 15, 3) := by decide +kernel
theorem dX6_readFrom_84 : decode cX6_readFrom 84 = .ok (.aload_n 0, 1) := by decide +kernel
theorem dX6_readFrom_85 : decode cX6_readFrom 85 = .ok (.iload_n 3, 1) := by decide +kernel
theorem dX6_readFrom_86 : decode cX6_readFrom 86 = .ok (.putfield 19, 3) := by decide +kernel
theorem dX6_readFrom_89 : decode cX6_readFrom 89 = .ok (.return_, 1) := by decide +kernel
theorem dX6_hasLane_0 : decode cX6_hasLane 0 = .ok (.iload_n 1, 1) := by decide +kernel
theorem dX6_hasLane_1 : decode cX6_hasLane 1 = .ok (.ifCond .lt 15, 3) := by decide +kernel
theorem dX6_hasLane_4 : decode cX6_hasLane 4 = .ok (.iload_n 1, 1) := by decide +kernel
theorem dX6_hasLane_5 : decode cX6_hasLane 5 = .ok (.aload_n 0, 1) := by decide +kernel
theorem dX6_hasLane_6 : decode cX6_hasLane 6 = .ok (.getfield 15, 3) := by decide +kernel
theorem dX6_hasLane_9 : decode cX6_hasLane 9 = .ok (.if_icmp .ge 7, 3) := by decide +kernel
theorem dX6_hasLane_12 : decode cX6_hasLane 12 = .ok (.iconst 1, 1) := by decide +kernel
theorem dX6_hasLane_13 : decode cX6_hasLane 13 = .ok (.goto 4, 3) := by decide +kernel
theorem dX6_hasLane_16 : decode cX6_hasLane 16 = .ok (.iconst 0, 1) := by decide +kernel
theorem dX6_hasLane_17 : decode cX6_hasLane 17 = .ok (.ireturn, 1) := by decide +kernel
set_option maxRecDepth 20000 in
theorem ggX6_has_X6_hasLane : GoodIn wsX6_has wsX6_hasLane := goodIn_r _ [6, 7, 8, 9, 10, 11, 12] (by decide +kernel) (by decide +kernel)
set_option maxRecDepth 20000 in
theorem gX6_has_X6_hasLane : GoodIn wsX6_has (wsV RX6 40 RX6 yX6_hasLane wsX6_hasLane) := goodIn_app (goodIn_of _ (by decide +kernel)) ggX6_has_X6_hasLane
theorem dX6_has_0 : decode cX6_has 0 = .ok (.aload_n 0, 1) := by decide +kernel
theorem dX6_has_1 : decode cX6_has 1 = .ok (.iload_n 1, 1) := by decide +kernel
theorem dX6_has_2 : decode cX6_has 2 = .ok (.invokevirtual 40, 3) := by decide +kernel
theorem dX6_has_5 : decode cX6_has 5 = .ok (.ifCond .eq 19, 3) := by decide +kernel
theorem dX6_has_8 : decode cX6_has 8 = .ok (.iload_n 2, 1) := by decide +kernel
theorem dX6_has_9 : decode cX6_has 9 = .ok (.ifCond .lt 15, 3) := by decide +kernel
theorem dX6_has_12 : decode cX6_has 12 = .ok (.iload_n 2, 1) := by decide +kernel
theorem dX6_has_13 : decode cX6_has 13 = .ok (.aload_n 0, 1) := by decide +kernel
theorem dX6_has_14 : decode cX6_has 14 = .ok (.getfield 19, 3) := by decide +kernel
theorem dX6_has_17 : decode cX6_has 17 = .ok (.if_icmp .ge 7, 3) := by decide +kernel
theorem dX6_has_20 : decode cX6_has 20 = .ok (.iconst 1, 1) := by decide +kernel
theorem dX6_has_21 : decode cX6_has 21 = .ok (.goto 4, 3) := by decide +kernel
theorem dX6_has_24 : decode cX6_has 24 = .ok (.iconst 0, 1) := by decide +kernel
theorem dX6_has_25 : decode cX6_has 25 = .ok (.ireturn, 1) := by decide +kernel
set_option maxRecDepth 20000 in
theorem ggX6_kindAt_X6_has : GoodIn wsX6_kindAt wsX6_has := goodIn_r _ [6, 7, 8, 9, 10, 5, 11, 12, 13, 14, 15, 16, 17] (by decide +kernel) (by decide +kernel)
set_option maxRecDepth 20000 in
theorem gX6_kindAt_X6_has : GoodIn wsX6_kindAt (wsV RX6 44 RX6 yX6_has wsX6_has) := goodIn_app (goodIn_of _ (by decide +kernel)) ggX6_kindAt_X6_has
theorem dX6_kindAt_0 : decode cX6_kindAt 0 = .ok (.aload_n 0, 1) := by decide +kernel
theorem dX6_kindAt_1 : decode cX6_kindAt 1 = .ok (.iload_n 1, 1) := by decide +kernel
theorem dX6_kindAt_2 : decode cX6_kindAt 2 = .ok (.iload_n 2, 1) := by decide +kernel
theorem dX6_kindAt_3 : decode cX6_kindAt 3 = .ok (.invokevirtual 44, 3) := by decide +kernel
theorem dX6_kindAt_6 : decode cX6_kindAt 6 = .ok (.ifCond .ne 6, 3) := by decide +kernel
theorem dX6_kindAt_9 : decode cX6_kindAt 9 = .ok (.bipush 12, 2) := by decide +kernel
theorem dX6_kindAt_11 : decode cX6_kindAt 11 = .ok (.ireturn, 1) := by decide +kernel
theorem dX6_kindAt_12 : decode cX6_kindAt 12 = .ok (.aload_n 0, 1) := by decide +kernel
theorem dX6_kindAt_13 : decode cX6_kindAt 13 = .ok (.getfield 9, 3) := by decide +kernel
theorem dX6_kindAt_16 : decode cX6_kindAt 16 = .ok (.iload_n 1, 1) := by decide +kernel
theorem dX6_kindAt_17 : decode cX6_kindAt 17 = .ok (.bipush 12, 2) := by decide +kernel
theorem dX6_kindAt_19 : decode cX6_kindAt 19 = .ok (.imul, 1) := by decide +kernel
theorem dX6_kindAt_20 : decode cX6_kindAt 20 = .ok (.iload_n 2, 1) := by decide +kernel
theorem dX6_kindAt_21 : decode cX6_kindAt 21 = .ok (.iadd, 1) := by decide +kernel
theorem dX6_kindAt_22 : decode cX6_kindAt 22 = .ok (.iaload, 1) := by decide +kernel
theorem dX6_kindAt_23 : decode cX6_kindAt 23 = .ok (.ireturn, 1) := by decide +kernel
set_option maxRecDepth 20000 in
theorem ggX6_secondsAt_X6_kindAt : GoodIn wsX6_secondsAt wsX6_kindAt := goodIn_r _ [5, 6, 7, 8, 9, 4, 10, 11, 12, 13, 14, 15, 16, 17, 18, 19, 20, 21] (by decide +kernel) (by decide +kernel)
set_option maxRecDepth 20000 in
theorem gX6_secondsAt_X6_kindAt : GoodIn wsX6_secondsAt (wsV RX6 48 RX6 yX6_kindAt wsX6_kindAt) := goodIn_app (goodIn_of _ (by decide +kernel)) ggX6_secondsAt_X6_kindAt
theorem dX6_secondsAt_0 : decode cX6_secondsAt 0 = .ok (.aload_n 0, 1) := by decide +kernel
theorem dX6_secondsAt_1 : decode cX6_secondsAt 1 = .ok (.iload_n 1, 1) := by decide +kernel
theorem dX6_secondsAt_2 : decode cX6_secondsAt 2 = .ok (.iload_n 2, 1) := by decide +kernel
theorem dX6_secondsAt_3 : decode cX6_secondsAt 3 = .ok (.invokevirtual 48, 3) := by decide +kernel
theorem dX6_secondsAt_6 : decode cX6_secondsAt 6 = .ok (.istore_n 3, 1) := by decide +kernel
theorem dX6_secondsAt_7 : decode cX6_secondsAt 7 = .ok (.iload_n 3, 1) := by decide +kernel
theorem dX6_secondsAt_8 : decode cX6_secondsAt 8 = .ok (.tableswitch 34 10 12 #[28, 30, 32], 28) := by decide +kernel
theorem dX6_secondsAt_36 : decode cX6_secondsAt 36 = .ok (.iconst 2, 1) := by decide +kernel
theorem dX6_secondsAt_37 : decode cX6_secondsAt 37 = .ok (.ireturn, 1) := by decide +kernel
theorem dX6_secondsAt_38 : decode cX6_secondsAt 38 = .ok (.iconst 1, 1) := by decide +kernel
theorem dX6_secondsAt_39 : decode cX6_secondsAt 39 = .ok (.ireturn, 1) := by decide +kernel
theorem dX6_secondsAt_40 : decode cX6_secondsAt 40 = .ok (.iconst 0, 1) := by decide +kernel
theorem dX6_secondsAt_41 : decode cX6_secondsAt 41 = .ok (.ireturn, 1) := by decide +kernel
theorem dX6_secondsAt_42 : decode cX6_secondsAt 42 = .ok (.iload_n 3, 1) := by decide +kernel
theorem dX6_secondsAt_43 : decode cX6_secondsAt 43 = .ok (.ireturn, 1) := by decide +kernel
set_option maxRecDepth 20000 in
theorem ggX6_tenthsAcross_X6_kindAt : GoodIn wsX6_tenthsAcross wsX6_kindAt := goodIn_r _ [7, 8, 9, 10, 11, 6, 12, 13, 14, 15, 16, 17, 18, 19, 20, 21, 22, 23] (by decide +kernel) (by decide +kernel)
set_option maxRecDepth 20000 in
theorem gX6_tenthsAcross_X6_kindAt : GoodIn wsX6_tenthsAcross (wsV RX6 48 RX6 yX6_kindAt wsX6_kindAt) := goodIn_app (goodIn_of _ (by decide +kernel)) ggX6_tenthsAcross_X6_kindAt
theorem dX6_tenthsAcross_0 : decode cX6_tenthsAcross 0 = .ok (.aload_n 0, 1) := by decide +kernel
theorem dX6_tenthsAcross_1 : decode cX6_tenthsAcross 1 = .ok (.iload_n 1, 1) := by decide +kernel
theorem dX6_tenthsAcross_2 : decode cX6_tenthsAcross 2 = .ok (.iload_n 2, 1) := by decide +kernel
theorem dX6_tenthsAcross_3 : decode cX6_tenthsAcross 3 = .ok (.invokevirtual 48, 3) := by decide +kernel
theorem dX6_tenthsAcross_6 : decode cX6_tenthsAcross 6 = .ok (.tableswitch 44 10 12 #[26, 34, 42], 26) := by decide +kernel
theorem dX6_tenthsAcross_32 : decode cX6_tenthsAcross 32 = .ok (.bipush 10, 2) := by decide +kernel
theorem dX6_tenthsAcross_34 : decode cX6_tenthsAcross 34 = .ok (.aload_n 0, 1) := by decide +kernel
theorem dX6_tenthsAcross_35 : decode cX6_tenthsAcross 35 = .ok (.getfield 22, 3) := by decide +kernel
theorem dX6_tenthsAcross_38 : decode cX6_tenthsAcross 38 = .ok (.isub, 1) := by decide +kernel
theorem dX6_tenthsAcross_39 : decode cX6_tenthsAcross 39 = .ok (.ireturn, 1) := by decide +kernel
theorem dX6_tenthsAcross_40 : decode cX6_tenthsAcross 40 = .ok (.bipush 10, 2) := by decide +kernel
theorem dX6_tenthsAcross_42 : decode cX6_tenthsAcross 42 = .ok (.aload_n 0, 1) := by decide +kernel
theorem dX6_tenthsAcross_43 : decode cX6_tenthsAcross 43 = .ok (.getfield 25, 3) := by decide +kernel
theorem dX6_tenthsAcross_46 : decode cX6_tenthsAcross 46 = .ok (.isub, 1) := by decide +kernel
theorem dX6_tenthsAcross_47 : decode cX6_tenthsAcross 47 = .ok (.ireturn, 1) := by decide +kernel
theorem dX6_tenthsAcross_48 : decode cX6_tenthsAcross 48 = .ok (.iconst 0, 1) := by decide +kernel
theorem dX6_tenthsAcross_49 : decode cX6_tenthsAcross 49 = .ok (.ireturn, 1) := by decide +kernel
theorem dX6_tenthsAcross_50 : decode cX6_tenthsAcross 50 = .ok (.bipush 10, 2) := by decide +kernel
theorem dX6_tenthsAcross_52 : decode cX6_tenthsAcross 52 = .ok (.ireturn, 1) := by decide +kernel
set_option maxRecDepth 20000 in
theorem ggX6_hasWall_X6_kindAt : GoodIn wsX6_hasWall wsX6_kindAt := goodIn_r _ [6, 7, 8, 9, 10, 5, 11, 1, 12, 13, 14, 15, 16, 17, 18, 19, 20, 21] (by decide +kernel) (by decide +kernel)
set_option maxRecDepth 20000 in
theorem gX6_hasWall_X6_kindAt : GoodIn wsX6_hasWall (wsV RX6 48 RX6 yX6_kindAt wsX6_kindAt) := goodIn_app (goodIn_of _ (by decide +kernel)) ggX6_hasWall_X6_kindAt
theorem dX6_hasWall_0 : decode cX6_hasWall 0 = .ok (.iconst 0, 1) := by decide +kernel
theorem dX6_hasWall_1 : decode cX6_hasWall 1 = .ok (.istore_n 2, 1) := by decide +kernel
theorem dX6_hasWall_2 : decode cX6_hasWall 2 = .ok (.iload_n 2, 1) := by decide +kernel
theorem dX6_hasWall_3 : decode cX6_hasWall 3 = .ok (.aload_n 0, 1) := by decide +kernel
theorem dX6_hasWall_4 : decode cX6_hasWall 4 = .ok (.getfield 19, 3) := by decide +kernel
theorem dX6_hasWall_7 : decode cX6_hasWall 7 = .ok (.if_icmp .ge 22, 3) := by decide +kernel
theorem dX6_hasWall_10 : decode cX6_hasWall 10 = .ok (.aload_n 0, 1) := by decide +kernel
theorem dX6_hasWall_11 : decode cX6_hasWall 11 = .ok (.iload_n 1, 1) := by decide +kernel
theorem dX6_hasWall_12 : decode cX6_hasWall 12 = .ok (.iload_n 2, 1) := by decide +kernel
theorem dX6_hasWall_13 : decode cX6_hasWall 13 = .ok (.invokevirtual 48, 3) := by decide +kernel
theorem dX6_hasWall_16 : decode cX6_hasWall 16 = .ok (.bipush 12, 2) := by decide +kernel
theorem dX6_hasWall_18 : decode cX6_hasWall 18 = .ok (.if_icmp .ne 5, 3) := by decide +kernel
theorem dX6_hasWall_21 : decode cX6_hasWall 21 = .ok (.iconst 1, 1) := by decide +kernel
theorem dX6_hasWall_22 : decode cX6_hasWall 22 = .ok (.ireturn, 1) := by decide +kernel
theorem dX6_hasWall_23 : decode cX6_hasWall 23 = .ok (.iinc 2 1, 3) := by decide +kernel
theorem dX6_hasWall_26 : decode cX6_hasWall 26 = .ok (.goto (-24), 3) := by decide +kernel
theorem dX6_hasWall_29 : decode cX6_hasWall 29 = .ok (.iconst 0, 1) := by decide +kernel
theorem dX6_hasWall_30 : decode cX6_hasWall 30 = .ok (.ireturn, 1) := by decide +kernel
set_option maxRecDepth 20000 in
theorem ggX6_laneSeconds_X6_secondsAt : GoodIn wsX6_laneSeconds wsX6_secondsAt := goodIn_r _ [6, 7, 8, 9, 5, 10, 11, 12, 13, 14, 15, 1, 16, 17, 18, 19, 20, 21, 22, 23, 24, 25] (by decide +kernel) (by decide +kernel)
set_option maxRecDepth 20000 in
theorem gX6_laneSeconds_X6_secondsAt : GoodIn wsX6_laneSeconds (wsV RX6 52 RX6 yX6_secondsAt wsX6_secondsAt) := goodIn_app (goodIn_of _ (by decide +kernel)) ggX6_laneSeconds_X6_secondsAt
theorem dX6_laneSeconds_0 : decode cX6_laneSeconds 0 = .ok (.iconst 0, 1) := by decide +kernel
theorem dX6_laneSeconds_1 : decode cX6_laneSeconds 1 = .ok (.istore_n 2, 1) := by decide +kernel
theorem dX6_laneSeconds_2 : decode cX6_laneSeconds 2 = .ok (.iconst 0, 1) := by decide +kernel
theorem dX6_laneSeconds_3 : decode cX6_laneSeconds 3 = .ok (.istore_n 3, 1) := by decide +kernel
theorem dX6_laneSeconds_4 : decode cX6_laneSeconds 4 = .ok (.iload_n 3, 1) := by decide +kernel
theorem dX6_laneSeconds_5 : decode cX6_laneSeconds 5 = .ok (.aload_n 0, 1) := by decide +kernel
theorem dX6_laneSeconds_6 : decode cX6_laneSeconds 6 = .ok (.getfield 19, 3) := by decide +kernel
theorem dX6_laneSeconds_9 : decode cX6_laneSeconds 9 = .ok (.if_icmp .ge 18, 3) := by decide +kernel
theorem dX6_laneSeconds_12 : decode cX6_laneSeconds 12 = .ok (.iload_n 2, 1) := by decide +kernel
theorem dX6_laneSeconds_13 : decode cX6_laneSeconds 13 = .ok (.aload_n 0, 1) := by decide +kernel
theorem dX6_laneSeconds_14 : decode cX6_laneSeconds 14 = .ok (.iload_n 1, 1) := by decide +kernel
theorem dX6_laneSeconds_15 : decode cX6_laneSeconds 15 = .ok (.iload_n 3, 1) := by decide +kernel
theorem dX6_laneSeconds_16 : decode cX6_laneSeconds 16 = .ok (.invokevirtual 52, 3) := by decide +kernel
theorem dX6_laneSeconds_19 : decode cX6_laneSeconds 19 = .ok (.iadd, 1) := by decide +kernel
theorem dX6_laneSeconds_20 : decode cX6_laneSeconds 20 = .ok (.istore_n 2, 1) := by decide +kernel
theorem dX6_laneSeconds_21 : decode cX6_laneSeconds 21 = .ok (.iinc 3 1, 3) := by decide +kernel
theorem dX6_laneSeconds_24 : decode cX6_laneSeconds 24 = .ok (.goto (-20), 3) := by decide +kernel
theorem dX6_laneSeconds_27 : decode cX6_laneSeconds 27 = .ok (.iload_n 2, 1) := by decide +kernel
theorem dX6_laneSeconds_28 : decode cX6_laneSeconds 28 = .ok (.ireturn, 1) := by decide +kernel
theorem dX7_init_0 : decode cX7_init 0 = .ok (.aload_n 0, 1) := by decide +kernel
theorem dX7_init_1 : decode cX7_init 1 = .ok (.invokespecial 3, 3) := by decide +kernel
theorem dX7_init_4 : decode cX7_init 4 = .ok (.aload_n 0, 1) := by decide +kernel
theorem dX7_init_5 : decode cX7_init 5 = .ok (.sipush 256, 3) := by decide +kernel
theorem dX7_init_8 : decode cX7_init 8 = .ok (.newarray .int, 2) := by decide +kernel
theorem dX7_init_10 : decode cX7_init 10 = .ok (.putfield 11, 3) := by decide +kernel
theorem dX7_init_13 : decode cX7_init 13 = .ok (.aload_n 0, 1) := by decide +kernel
theorem dX7_init_14 : decode cX7_init 14 = .ok (.sipush 256, 3) := by decide +kernel
theorem dX7_init_17 : decode cX7_init 17 = .ok (.newarray .int, 2) := by decide +kernel
theorem dX7_init_19 : decode cX7_init 19 = .ok (.putfield 15, 3) := by decide +kernel
theorem dX7_init_22 : decode cX7_init 22 = .ok (.aload_n 0, 1) := by decide +kernel
theorem dX7_init_23 : decode cX7_init 23 = .ok (.sipush 256, 3) := by decide +kernel
theorem dX7_init_26 : decode cX7_init 26 = .ok (.newarray .int, 2) := by decide +kernel
theorem dX7_init_28 : decode cX7_init 28 = .ok (.putfield 18, 3) := by decide +kernel
theorem dX7_init_31 : decode cX7_init 31 = .ok (.aload_n 0, 1) := by decide +kernel
theorem dX7_init_32 : decode cX7_init 32 = .ok (.sipush 256, 3) := by decide +kernel
theorem dX7_init_35 : decode cX7_init 35 = .ok (.newarray .int, 2) := by decide +kernel
theorem dX7_init_37 : decode cX7_init 37 = .ok (.putfield 21, 3) := by decide +kernel
theorem dX7_init_40 : decode cX7_init 40 = .ok (.return_, 1) := by decide +kernel
set_option maxRecDepth 20000 in
theorem ggX7_countAll_X7_weighSets : GoodIn wsX7_countAll wsX7_weighSets := goodIn_r _ [7, 8, 9, 10, 1, 11, 12, 13, 14, 15, 16, 17, 18, 19, 20, 21, 22, 23, 24, 25, 26, 27, 28, 29, 30, 31, 32, 33, 34, 35, 36, 37, 38, 39, 40, 41, 42, 43, 80, 81, 82, 83, 70, 71, 72, 73, 74, 75, 76, 77, 78, 79] (by decide +kernel) (by decide +kernel)
set_option maxRecDepth 20000 in
theorem gX7_countAll_X7_weighSets : GoodIn wsX7_countAll (wsV RX7 30 RX7 yX7_weighSets wsX7_weighSets) := goodIn_app (goodIn_of _ (by decide +kernel)) ggX7_countAll_X7_weighSets
set_option maxRecDepth 20000 in
theorem ggX7_countAll_X7_waysOn : GoodIn wsX7_countAll wsX7_waysOn := goodIn_r _ [47, 8, 9, 10, 1, 2, 48, 49, 50, 14, 51, 52, 53, 54, 55, 56, 57, 58, 59, 60, 30, 31, 32, 33, 16, 34, 40, 41, 42, 43, 17, 61, 62, 63, 64, 65, 66, 67, 68, 69, 80, 81, 82, 83, 70, 71, 72, 73, 74, 75, 76, 77, 78, 79] (by decide +kernel) (by decide +kernel)
set_option maxRecDepth 20000 in
theorem gX7_countAll_X7_waysOn : GoodIn wsX7_countAll (wsV RX7 34 RX7 yX7_waysOn wsX7_waysOn) := goodIn_app (goodIn_of _ (by decide +kernel)) ggX7_countAll_X7_waysOn
theorem dX7_countAll_0 : decode cX7_countAll 0 = .ok (.iconst 1, 1) := by decide +kernel
theorem dX7_countAll_1 : decode cX7_countAll 1 = .ok (.aload_n 1, 1) := by decide +kernel
theorem dX7_countAll_2 : decode cX7_countAll 2 = .ok (.getfield 24, 3) := by decide +kernel
theorem dX7_countAll_5 : decode cX7_countAll 5 = .ok (.ishl, 1) := by decide +kernel
theorem dX7_countAll_6 : decode cX7_countAll 6 = .ok (.iconst 1, 1) := by decide +kernel
theorem dX7_countAll_7 : decode cX7_countAll 7 = .ok (.isub, 1) := by decide +kernel
theorem dX7_countAll_8 : decode cX7_countAll 8 = .ok (.istore_n 2, 1) := by decide +kernel
theorem dX7_countAll_9 : decode cX7_countAll 9 = .ok (.aload_n 0, 1) := by decide +kernel
theorem dX7_countAll_10 : decode cX7_countAll 10 = .ok (.aload_n 1, 1) := by decide +kernel
theorem dX7_countAll_11 : decode cX7_countAll 11 = .ok (.invokevirtual 30, 3) := by decide +kernel
theorem dX7_countAll_14 : decode cX7_countAll 14 = .ok (.iload_n 2, 1) := by decide +kernel
theorem dX7_countAll_15 : decode cX7_countAll 15 = .ok (.istore_n 3, 1) := by decide +kernel
theorem dX7_countAll_16 : decode cX7_countAll 16 = .ok (.iload_n 3, 1) := by decide +kernel
theorem dX7_countAll_17 : decode cX7_countAll 17 = .ok (.ifCond .lt 22, 3) := by decide +kernel
theorem dX7_countAll_20 : decode cX7_countAll 20 = .ok (.aload_n 0, 1) := by decide +kernel
theorem dX7_countAll_21 : decode cX7_countAll 21 = .ok (.getfield 21, 3) := by decide +kernel
theorem dX7_countAll_24 : decode cX7_countAll 24 = .ok (.iload_n 3, 1) := by decide +kernel
theorem dX7_countAll_25 : decode cX7_countAll 25 = .ok (.aload_n 0, 1) := by decide +kernel
theorem dX7_countAll_26 : decode cX7_countAll 26 = .ok (.aload_n 1, 1) := by decide +kernel
theorem dX7_countAll_27 : decode cX7_countAll 27 = .ok (.iload_n 3, 1) := by decide +kernel
theorem dX7_countAll_28 : decode cX7_countAll 28 = .ok (.iload_n 2, 1) := by decide +kernel
theorem dX7_countAll_29 : decode cX7_countAll 29 = .ok (.invokevirtual 34, 3) := by decide +kernel
theorem dX7_countAll_32 : decode cX7_countAll 32 = .ok (.iastore, 1) := by decide +kernel
theorem dX7_countAll_33 : decode cX7_countAll 33 = .ok (.iinc 3 (-1), 3) := by decide +kernel
theorem dX7_countAll_36 : decode cX7_countAll 36 = .ok (.goto (-20), 3) := by decide +kernel
theorem dX7_countAll_39 : decode cX7_countAll 39 = .ok (.aload_n 0, 1) := by decide +kernel
theorem dX7_countAll_40 : decode cX7_countAll 40 = .ok (.getfield 21, 3) := by decide +kernel
theorem dX7_countAll_43 : decode cX7_countAll 43 = .ok (.iconst 0, 1) := by decide +kernel
theorem dX7_countAll_44 : decode cX7_countAll 44 = .ok (.iaload, 1) := by decide +kernel
theorem dX7_countAll_45 : decode cX7_countAll 45 = .ok (.ireturn, 1) := by decide +kernel
set_option maxRecDepth 20000 in
theorem ggX7_weighSets_X1_weightEmpty : GoodIn wsX7_weighSets wsX1_weightEmpty := goodIn_r _ [9, 10, 11, 12, 42, 43, 44, 45, 46, 47, 48, 49, 50, 51] (by decide +kernel) (by decide +kernel)
set_option maxRecDepth 20000 in
theorem gX7_weighSets_X1_weightEmpty : GoodIn wsX7_weighSets (wsV RX7 38 RX1 yX1_weightEmpty wsX1_weightEmpty) := goodIn_app (goodIn_of _ (by decide +kernel)) ggX7_weighSets_X1_weightEmpty
set_option maxRecDepth 20000 in
theorem ggX7_weighSets_X1_weightOf : GoodIn wsX7_weighSets wsX1_weightOf := goodIn_r _ [16, 17, 18, 42, 43, 44, 45, 46, 47, 48, 49, 50, 51] (by decide +kernel) (by decide +kernel)
set_option maxRecDepth 20000 in
theorem gX7_weighSets_X1_weightOf : GoodIn wsX7_weighSets (wsV RX7 42 RX1 yX1_weightOf wsX1_weightOf) := goodIn_app (goodIn_of _ (by decide +kernel)) ggX7_weighSets_X1_weightOf
set_option maxRecDepth 20000 in
theorem ggX7_weighSets_X1_pullM : GoodIn wsX7_weighSets wsX1_pullM := goodIn_r _ [22, 17, 18, 23, 24, 25, 26, 8, 27, 10, 28, 42, 43, 44, 45, 46, 47, 48, 49, 50, 51] (by decide +kernel) (by decide +kernel)
set_option maxRecDepth 20000 in
theorem gX7_weighSets_X1_pullM : GoodIn wsX7_weighSets (wsV RX7 46 RX1 yX1_pullM wsX1_pullM) := goodIn_app (goodIn_of _ (by decide +kernel)) ggX7_weighSets_X1_pullM
set_option maxRecDepth 20000 in
theorem ggX7_weighSets_X1_pullN : GoodIn wsX7_weighSets wsX1_pullN := goodIn_r _ [32, 17, 18, 33, 34, 35, 36, 8, 37, 11, 28, 42, 43, 44, 45, 46, 47, 48, 49, 50, 51] (by decide +kernel) (by decide +kernel)
set_option maxRecDepth 20000 in
theorem gX7_weighSets_X1_pullN : GoodIn wsX7_weighSets (wsV RX7 49 RX1 yX1_pullN wsX1_pullN) := goodIn_app (goodIn_of _ (by decide +kernel)) ggX7_weighSets_X1_pullN
theorem dX7_weighSets_0 : decode cX7_weighSets 0 = .ok (.aload_n 0, 1) := by decide +kernel
theorem dX7_weighSets_1 : decode cX7_weighSets 1 = .ok (.getfield 11, 3) := by decide +kernel
theorem dX7_weighSets_4 : decode cX7_weighSets 4 = .ok (.iconst 0, 1) := by decide +kernel
theorem dX7_weighSets_5 : decode cX7_weighSets 5 = .ok (.aload_n 1, 1) := by decide +kernel
theorem dX7_weighSets_6 : decode cX7_weighSets 6 = .ok (.invokevirtual 38, 3) := by decide +kernel
theorem dX7_weighSets_9 : decode cX7_weighSets 9 = .ok (.iastore, 1) := by decide +kernel
theorem dX7_weighSets_10 : decode cX7_weighSets 10 = .ok (.aload_n 0, 1) := by decide +kernel
theorem dX7_weighSets_11 : decode cX7_weighSets 11 = .ok (.getfield 15, 3) := by decide +kernel
theorem dX7_weighSets_14 : decode cX7_weighSets 14 = .ok (.iconst 0, 1) := by decide +kernel
theorem dX7_weighSets_15 : decode cX7_weighSets 15 = .ok (.iconst 0, 1) := by decide +kernel
theorem dX7_weighSets_16 : decode cX7_weighSets 16 = .ok (.iastore, 1) := by decide +kernel
theorem dX7_weighSets_17 : decode cX7_weighSets 17 = .ok (.aload_n 0, 1) := by decide +kernel
theorem dX7_weighSets_18 : decode cX7_weighSets 18 = .ok (.getfield 18, 3) := by decide +kernel
theorem dX7_weighSets_21 : decode cX7_weighSets 21 = .ok (.iconst 0, 1) := by decide +kernel
theorem dX7_weighSets_22 : decode cX7_weighSets 22 = .ok (.iconst 0, 1) := by decide +kernel
theorem dX7_weighSets_23 : decode cX7_weighSets 23 = .ok (.iastore, 1) := by decide +kernel
theorem dX7_weighSets_24 : decode cX7_weighSets 24 = .ok (.iconst 0, 1) := by decide +kernel
theorem dX7_weighSets_25 : decode cX7_weighSets 25 = .ok (.istore_n 2, 1) := by decide +kernel
theorem dX7_weighSets_26 : decode cX7_weighSets 26 = .ok (.iload_n 2, 1) := by decide +kernel
theorem dX7_weighSets_27 : decode cX7_weighSets 27 = .ok (.aload_n 1, 1) := by decide +kernel
theorem dX7_weighSets_28 : decode cX7_weighSets 28 = .ok (.getfield 24, 3) := by decide +kernel
theorem dX7_weighSets_31 : decode cX7_weighSets 31 = .ok (.if_icmp .ge 100, 3) := by decide +kernel
theorem dX7_weighSets_34 : decode cX7_weighSets 34 = .ok (.iload_n 2, 1) := by decide +kernel
theorem dX7_weighSets_35 : decode cX7_weighSets 35 = .ok (.bipush 8, 2) := by decide +kernel
theorem dX7_weighSets_37 : decode cX7_weighSets 37 = .ok (.if_icmp .ge 94, 3) := by decide +kernel
theorem dX7_weighSets_40 : decode cX7_weighSets 40 = .ok (.iconst 1, 1) := by decide +kernel
theorem dX7_weighSets_41 : decode cX7_weighSets 41 = .ok (.iload_n 2, 1) := by decide +kernel
theorem dX7_weighSets_42 : decode cX7_weighSets 42 = .ok (.ishl, 1) := by decide +kernel
theorem dX7_weighSets_43 : decode cX7_weighSets 43 = .ok (.istore_n 3, 1) := by decide +kernel
theorem dX7_weighSets_44 : decode cX7_weighSets 44 = .ok (.iconst 0, 1) := by decide +kernel
theorem dX7_weighSets_45 : decode cX7_weighSets 45 = .ok (.istore 4, 2) := by decide +kernel
theorem dX7_weighSets_47 : decode cX7_weighSets 47 = .ok (.iload 4, 2) := by decide +kernel
theorem dX7_weighSets_49 : decode cX7_weighSets 49 = .ok (.iload_n 3, 1) := by decide +kernel
theorem dX7_weighSets_50 : decode cX7_weighSets 50 = .ok (.if_icmp .ge 75, 3) := by decide +kernel
theorem dX7_weighSets_53 : decode cX7_weighSets 53 = .ok (.aload_n 0, 1) := by decide +kernel
theorem dX7_weighSets_54 : decode cX7_weighSets 54 = .ok (.getfield 11, 3) := by decide +kernel
theorem dX7_weighSets_57 : decode cX7_weighSets 57 = .ok (.iload_n 3, 1) := by decide +kernel
theorem dX7_weighSets_58 : decode cX7_weighSets 58 = .ok (.iload 4, 2) := by decide +kernel
theorem dX7_weighSets_60 : decode cX7_weighSets 60 = .ok (.ior, 1) := by decide +kernel
theorem dX7_weighSets_61 : decode cX7_weighSets 61 = .ok (.aload_n 0, 1) := by decide +kernel
theorem dX7_weighSets_62 : decode cX7_weighSets 62 = .ok (.getfield 11, 3) := by decide +kernel
theorem dX7_weighSets_65 : decode cX7_weighSets 65 = .ok (.iload 4, 2) := by decide +kernel
theorem dX7_weighSets_67 : decode cX7_weighSets 67 = .ok (.iaload, 1) := by decide +kernel
theorem dX7_weighSets_68 : decode cX7_weighSets 68 = .ok (.aload_n 1, 1) := by decide +kernel
theorem dX7_weighSets_69 : decode cX7_weighSets 69 = .ok (.iload_n 2, 1) := by decide +kernel
theorem dX7_weighSets_70 : decode cX7_weighSets 70 = .ok (.invokevirtual 42, 3) := by decide +kernel
theorem dX7_weighSets_73 : decode cX7_weighSets 73 = .ok (.iadd, 1) := by decide +kernel
theorem dX7_weighSets_74 : decode cX7_weighSets 74 = .ok (.iastore, 1) := by decide +kernel
theorem dX7_weighSets_75 : decode cX7_weighSets 75 = .ok (.aload_n 0, 1) := by decide +kernel
theorem dX7_weighSets_76 : decode cX7_weighSets 76 = .ok (.getfield 15, 3) := by decide +kernel
theorem dX7_weighSets_79 : decode cX7_weighSets 79 = .ok (.iload_n 3, 1) := by decide +kernel
theorem dX7_weighSets_80 : decode cX7_weighSets 80 = .ok (.iload 4, 2) := by decide +kernel
theorem dX7_weighSets_82 : decode cX7_weighSets 82 = .ok (.ior, 1) := by decide +kernel
theorem dX7_weighSets_83 : decode cX7_weighSets 83 = .ok (.aload_n 0, 1) := by decide +kernel
theorem dX7_weighSets_84 : decode cX7_weighSets 84 = .ok (.getfield 15, 3) := by decide +kernel
theorem dX7_weighSets_87 : decode cX7_weighSets 87 = .ok (.iload 4, 2) := by decide +kernel
theorem dX7_weighSets_89 : decode cX7_weighSets 89 = .ok (.iaload, 1) := by decide +kernel
theorem dX7_weighSets_90 : decode cX7_weighSets 90 = .ok (.aload_n 1, 1) := by decide +kernel
theorem dX7_weighSets_91 : decode cX7_weighSets 91 = .ok (.iload_n 2, 1) := by decide +kernel
theorem dX7_weighSets_92 : decode cX7_weighSets 92 = .ok (.invokevirtual 46, 3) := by decide +kernel
theorem dX7_weighSets_95 : decode cX7_weighSets 95 = .ok (.iadd, 1) := by decide +kernel
theorem dX7_weighSets_96 : decode cX7_weighSets 96 = .ok (.iastore, 1) := by decide +kernel
theorem dX7_weighSets_97 : decode cX7_weighSets 97 = .ok (.aload_n 0, 1) := by decide +kernel
theorem dX7_weighSets_98 : decode cX7_weighSets 98 = .ok (.getfield 18, 3) := by decide +kernel
theorem dX7_weighSets_101 : decode cX7_weighSets 101 = .ok (.iload_n 3, 1) := by decide +kernel
theorem dX7_weighSets_102 : decode cX7_weighSets 102 = .ok (.iload 4, 2) := by decide +kernel
theorem dX7_weighSets_104 : decode cX7_weighSets 104 = .ok (.ior, 1) := by decide +kernel
theorem dX7_weighSets_105 : decode cX7_weighSets 105 = .ok (.aload_n 0, 1) := by decide +kernel
theorem dX7_weighSets_106 : decode cX7_weighSets 106 = .ok (.getfield 18, 3) := by decide +kernel
theorem dX7_weighSets_109 : decode cX7_weighSets 109 = .ok (.iload 4, 2) := by decide +kernel
theorem dX7_weighSets_111 : decode cX7_weighSets 111 = .ok (.iaload, 1) := by decide +kernel
theorem dX7_weighSets_112 : decode cX7_weighSets 112 = .ok (.aload_n 1, 1) := by decide +kernel
theorem dX7_weighSets_113 : decode cX7_weighSets 113 = .ok (.iload_n 2, 1) := by decide +kernel
theorem dX7_weighSets_114 : decode cX7_weighSets 114 = .ok (.invokevirtual 49, 3) := by decide +kernel
theorem dX7_weighSets_117 : decode cX7_weighSets 117 = .ok (.iadd, 1) := by decide +kernel
theorem dX7_weighSets_118 : decode cX7_weighSets 118 = .ok (.iastore, 1) := by decide +kernel
theorem dX7_weighSets_119 : decode cX7_weighSets 119 = .ok (.iinc 4 1, 3) := by decide +kernel
theorem dX7_weighSets_122 : decode cX7_weighSets 122 = .ok (.goto (-75), 3) := by decide +kernel
theorem dX7_weighSets_125 : decode cX7_weighSets 125 = .ok (.iinc 2 1, 3) := by decide +kernel
theorem dX7_weighSets_128 : decode cX7_weighSets 128 = .ok (.goto (-102), 3) := by decide +kernel
theorem dX7_weighSets_131 : decode cX7_weighSets 131 = .ok (.return_, 1) := by decide +kernel
set_option maxRecDepth 20000 in
theorem ggX7_waysOn_X1_cornerOf : GoodIn wsX7_waysOn wsX1_cornerOf := goodIn_r _ [10, 11, 12, 13, 14, 15, 16, 17, 18, 9, 19, 20, 21, 22, 23, 24, 25, 26, 27, 28, 29, 30, 44, 45, 46, 47, 48, 49, 50, 51, 52, 53] (by decide +kernel) (by decide +kernel)
set_option maxRecDepth 20000 in
theorem gX7_waysOn_X1_cornerOf : GoodIn wsX7_waysOn (wsV RX7 52 RX1 yX1_cornerOf wsX1_cornerOf) := goodIn_app (goodIn_of _ (by decide +kernel)) ggX7_waysOn_X1_cornerOf
set_option maxRecDepth 20000 in
theorem ggX7_waysOn_X1_room : GoodIn wsX7_waysOn wsX1_room := goodIn_r _ [34, 25, 35, 36, 37, 9, 38, 39, 16, 17, 18, 19, 20, 21, 22, 23, 24, 26, 27, 28, 29, 30, 44, 45, 46, 47, 48, 49, 50, 51, 52, 53] (by decide +kernel) (by decide +kernel)
set_option maxRecDepth 20000 in
theorem gX7_waysOn_X1_room : GoodIn wsX7_waysOn (wsV RX7 56 RX1 yX1_room wsX1_room) := goodIn_app (goodIn_of _ (by decide +kernel)) ggX7_waysOn_X1_room
theorem dX7_waysOn_0 : decode cX7_waysOn 0 = .ok (.aload_n 1, 1) := by decide +kernel
theorem dX7_waysOn_1 : decode cX7_waysOn 1 = .ok (.aload_n 1, 1) := by decide +kernel
theorem dX7_waysOn_2 : decode cX7_waysOn 2 = .ok (.aload_n 0, 1) := by decide +kernel
theorem dX7_waysOn_3 : decode cX7_waysOn 3 = .ok (.getfield 11, 3) := by decide +kernel
theorem dX7_waysOn_6 : decode cX7_waysOn 6 = .ok (.iload_n 2, 1) := by decide +kernel
theorem dX7_waysOn_7 : decode cX7_waysOn 7 = .ok (.iaload, 1) := by decide +kernel
theorem dX7_waysOn_8 : decode cX7_waysOn 8 = .ok (.aload_n 0, 1) := by decide +kernel
theorem dX7_waysOn_9 : decode cX7_waysOn 9 = .ok (.getfield 15, 3) := by decide +kernel
theorem dX7_waysOn_12 : decode cX7_waysOn 12 = .ok (.iload_n 2, 1) := by decide +kernel
theorem dX7_waysOn_13 : decode cX7_waysOn 13 = .ok (.iaload, 1) := by decide +kernel
theorem dX7_waysOn_14 : decode cX7_waysOn 14 = .ok (.aload_n 0, 1) := by decide +kernel
theorem dX7_waysOn_15 : decode cX7_waysOn 15 = .ok (.getfield 18, 3) := by decide +kernel
theorem dX7_waysOn_18 : decode cX7_waysOn 18 = .ok (.iload_n 2, 1) := by decide +kernel
theorem dX7_waysOn_19 : decode cX7_waysOn 19 = .ok (.iaload, 1) := by decide +kernel
theorem dX7_waysOn_20 : decode cX7_waysOn 20 = .ok (.invokevirtual 52, 3) := by decide +kernel
theorem dX7_waysOn_23 : decode cX7_waysOn 23 = .ok (.invokevirtual 56, 3) := by decide +kernel
theorem dX7_waysOn_26 : decode cX7_waysOn 26 = .ok (.lconst 0, 1) := by decide +kernel
theorem dX7_waysOn_27 : decode cX7_waysOn 27 = .ok (.lcmp, 1) := by decide +kernel
theorem dX7_waysOn_28 : decode cX7_waysOn 28 = .ok (.ifCond .ge 5, 3) := by decide +kernel
theorem dX7_waysOn_31 : decode cX7_waysOn 31 = .ok (.iconst 0, 1) := by decide +kernel
theorem dX7_waysOn_32 : decode cX7_waysOn 32 = .ok (.ireturn, 1) := by decide +kernel
theorem dX7_waysOn_33 : decode cX7_waysOn 33 = .ok (.iload_n 2, 1) := by decide +kernel
theorem dX7_waysOn_34 : decode cX7_waysOn 34 = .ok (.iload_n 3, 1) := by decide +kernel
theorem dX7_waysOn_35 : decode cX7_waysOn 35 = .ok (.if_icmp .ne 5, 3) := by decide +kernel
theorem dX7_waysOn_38 : decode cX7_waysOn 38 = .ok (.iconst 1, 1) := by decide +kernel
theorem dX7_waysOn_39 : decode cX7_waysOn 39 = .ok (.ireturn, 1) := by decide +kernel
theorem dX7_waysOn_40 : decode cX7_waysOn 40 = .ok (.iconst 0, 1) := by decide +kernel
theorem dX7_waysOn_41 : decode cX7_waysOn 41 = .ok (.istore 4, 2) := by decide +kernel
theorem dX7_waysOn_43 : decode cX7_waysOn 43 = .ok (.iconst 0, 1) := by decide +kernel
theorem dX7_waysOn_44 : decode cX7_waysOn 44 = .ok (.istore 5, 2) := by decide +kernel
theorem dX7_waysOn_46 : decode cX7_waysOn 46 = .ok (.iload 5, 2) := by decide +kernel
theorem dX7_waysOn_48 : decode cX7_waysOn 48 = .ok (.aload_n 1, 1) := by decide +kernel
theorem dX7_waysOn_49 : decode cX7_waysOn 49 = .ok (.getfield 24, 3) := by decide +kernel
theorem dX7_waysOn_52 : decode cX7_waysOn 52 = .ok (.if_icmp .ge 35, 3) := by decide +kernel
theorem dX7_waysOn_55 : decode cX7_waysOn 55 = .ok (.iload_n 2, 1) := by decide +kernel
theorem dX7_waysOn_56 : decode cX7_waysOn 56 = .ok (.iconst 1, 1) := by decide +kernel
theorem dX7_waysOn_57 : decode cX7_waysOn 57 = .ok (.iload 5, 2) := by decide +kernel
theorem dX7_waysOn_59 : decode cX7_waysOn 59 = .ok (.ishl, 1) := by decide +kernel
theorem dX7_waysOn_60 : decode cX7_waysOn 60 = .ok (.ior, 1) := by decide +kernel
theorem dX7_waysOn_61 : decode cX7_waysOn 61 = .ok (.istore 6, 2) := by decide +kernel
theorem dX7_waysOn_63 : decode cX7_waysOn 63 = .ok (.iload 6, 2) := by decide +kernel
theorem dX7_waysOn_65 : decode cX7_waysOn 65 = .ok (.iload_n 2, 1) := by decide +kernel
theorem dX7_waysOn_66 : decode cX7_waysOn 66 = .ok (.if_icmp .eq 15, 3) := by decide +kernel
theorem dX7_waysOn_69 : decode cX7_waysOn 69 = .ok (.iload 4, 2) := by decide +kernel
theorem dX7_waysOn_71 : decode cX7_waysOn 71 = .ok (.aload_n 0, 1) := by decide +kernel
theorem dX7_waysOn_72 : decode cX7_waysOn 72 = .ok (.getfield 21, 3) := by decide +kernel
theorem dX7_waysOn_75 : decode cX7_waysOn 75 = .ok (.iload 6, 2) := by decide +kernel
theorem dX7_waysOn_77 : decode cX7_waysOn 77 = .ok (.iaload, 1) := by decide +kernel
theorem dX7_waysOn_78 : decode cX7_waysOn 78 = .ok (.iadd, 1) := by decide +kernel
theorem dX7_waysOn_79 : decode cX7_waysOn 79 = .ok (.istore 4, 2) := by decide +kernel
theorem dX7_waysOn_81 : decode cX7_waysOn 81 = .ok (.iinc 5 1, 3) := by decide +kernel
theorem dX7_waysOn_84 : decode cX7_waysOn 84 = .ok (.goto (-38), 3) := by decide +kernel
theorem dX7_waysOn_87 : decode cX7_waysOn 87 = .ok (.iload 4, 2) := by decide +kernel
theorem dX7_waysOn_89 : decode cX7_waysOn 89 = .ok (.ireturn, 1) := by decide +kernel
set_option maxRecDepth 20000 in
theorem ggX7_coinAt_X7_countAll : GoodIn wsX7_coinAt wsX7_countAll := goodIn_r _ [6, 1, 7, 8, 9, 10, 5, 11, 12, 13, 14, 15, 16, 17, 18, 19, 20, 21, 22, 23, 24, 25, 26, 27, 28, 29, 30, 31, 32, 33, 34, 35, 36, 37, 38, 39, 40, 41, 42, 43, 44, 45, 46, 47, 48, 49, 50, 51, 52, 53, 54, 55, 56, 57, 58, 59, 60, 61, 62, 63, 64, 65, 66, 67, 68, 69, 70, 71, 72, 73, 78, 79, 80, 81, 82, 83, 84, 85, 86, 87, 88, 89, 90, 91] (by decide +kernel) (by decide +kernel)
set_option maxRecDepth 20000 in
theorem gX7_coinAt_X7_countAll : GoodIn wsX7_coinAt (wsV RX7 60 RX7 yX7_countAll wsX7_countAll) := goodIn_app (goodIn_of _ (by decide +kernel)) ggX7_coinAt_X7_countAll
set_option maxRecDepth 20000 in
theorem ggX7_coinAt_X7_nextCoin : GoodIn wsX7_coinAt wsX7_nextCoin := goodIn_r _ [77, 1, 7, 78, 79, 80, 81, 82, 83, 84, 85, 86, 87, 88, 89, 90, 91] (by decide +kernel) (by decide +kernel)
set_option maxRecDepth 20000 in
theorem gX7_coinAt_X7_nextCoin : GoodIn wsX7_coinAt (wsV RX7 64 RX7 yX7_nextCoin wsX7_nextCoin) := goodIn_app (goodIn_of _ (by decide +kernel)) ggX7_coinAt_X7_nextCoin
theorem dX7_coinAt_0 : decode cX7_coinAt 0 = .ok (.iload_n 2, 1) := by decide +kernel
theorem dX7_coinAt_1 : decode cX7_coinAt 1 = .ok (.ifCond .lt 19, 3) := by decide +kernel
theorem dX7_coinAt_4 : decode cX7_coinAt 4 = .ok (.iload_n 2, 1) := by decide +kernel
theorem dX7_coinAt_5 : decode cX7_coinAt 5 = .ok (.aload_n 1, 1) := by decide +kernel
theorem dX7_coinAt_6 : decode cX7_coinAt 6 = .ok (.getfield 24, 3) := by decide +kernel
theorem dX7_coinAt_9 : decode cX7_coinAt 9 = .ok (.if_icmp .ge 11, 3) := by decide +kernel
theorem dX7_coinAt_12 : decode cX7_coinAt 12 = .ok (.aload_n 0, 1) := by decide +kernel
theorem dX7_coinAt_13 : decode cX7_coinAt 13 = .ok (.aload_n 1, 1) := by decide +kernel
theorem dX7_coinAt_14 : decode cX7_coinAt 14 = .ok (.invokevirtual 60, 3) := by decide +kernel
theorem dX7_coinAt_17 : decode cX7_coinAt 17 = .ok (.ifCond .ne 6, 3) := by decide +kernel
theorem dX7_coinAt_20 : decode cX7_coinAt 20 = .ok (.bipush (-9), 2) := by decide +kernel
theorem dX7_coinAt_22 : decode cX7_coinAt 22 = .ok (.ireturn, 1) := by decide +kernel
theorem dX7_coinAt_23 : decode cX7_coinAt 23 = .ok (.iconst 0, 1) := by decide +kernel
theorem dX7_coinAt_24 : decode cX7_coinAt 24 = .ok (.istore_n 3, 1) := by decide +kernel
theorem dX7_coinAt_25 : decode cX7_coinAt 25 = .ok (.aload_n 0, 1) := by decide +kernel
theorem dX7_coinAt_26 : decode cX7_coinAt 26 = .ok (.aload_n 1, 1) := by decide +kernel
theorem dX7_coinAt_27 : decode cX7_coinAt 27 = .ok (.iload_n 3, 1) := by decide +kernel
theorem dX7_coinAt_28 : decode cX7_coinAt 28 = .ok (.invokevirtual 64, 3) := by decide +kernel
theorem dX7_coinAt_31 : decode cX7_coinAt 31 = .ok (.istore 4, 2) := by decide +kernel
theorem dX7_coinAt_33 : decode cX7_coinAt 33 = .ok (.iconst 0, 1) := by decide +kernel
theorem dX7_coinAt_34 : decode cX7_coinAt 34 = .ok (.istore 5, 2) := by decide +kernel
theorem dX7_coinAt_36 : decode cX7_coinAt 36 = .ok (.iload 5, 2) := by decide +kernel
theorem dX7_coinAt_38 : decode cX7_coinAt 38 = .ok (.iload_n 2, 1) := by decide +kernel
theorem dX7_coinAt_39 : decode cX7_coinAt 39 = .ok (.if_icmp .ge 29, 3) := by decide +kernel
theorem dX7_coinAt_42 : decode cX7_coinAt 42 = .ok (.iload 4, 2) := by decide +kernel
theorem dX7_coinAt_44 : decode cX7_coinAt 44 = .ok (.ifCond .lt 24, 3) := by decide +kernel
theorem dX7_coinAt_47 : decode cX7_coinAt 47 = .ok (.iload_n 3, 1) := by decide +kernel
theorem dX7_coinAt_48 : decode cX7_coinAt 48 = .ok (.iconst 1, 1) := by decide +kernel
theorem dX7_coinAt_49 : decode cX7_coinAt 49 = .ok (.iload 4, 2) := by decide +kernel
theorem dX7_coinAt_51 : decode cX7_coinAt 51 = .ok (.ishl, 1) := by decide +kernel
theorem dX7_coinAt_52 : decode cX7_coinAt 52 = .ok (.ior, 1) := by decide +kernel
theorem dX7_coinAt_53 : decode cX7_coinAt 53 = .ok (.istore_n 3, 1) := by decide +kernel
theorem dX7_coinAt_54 : decode cX7_coinAt 54 = .ok (.aload_n 0, 1) := by decide +kernel
theorem dX7_coinAt_55 : decode cX7_coinAt 55 = .ok (.aload_n 1, 1) := by decide +kernel
theorem dX7_coinAt_56 : decode cX7_coinAt 56 = .ok (.iload_n 3, 1) := by decide +kernel
theorem dX7_coinAt_57 : decode cX7_coinAt 57 = .ok (.invokevirtual 64, 3) := by decide +kernel
theorem dX7_coinAt_60 : decode cX7_coinAt 60 = .ok (.istore 4, 2) := by decide +kernel
theorem dX7_coinAt_62 : decode cX7_coinAt 62 = .ok (.iinc 5 1, 3) := by decide +kernel
theorem dX7_coinAt_65 : decode cX7_coinAt 65 = .ok (.goto (-29), 3) := by decide +kernel
theorem dX7_coinAt_68 : decode cX7_coinAt 68 = .ok (.iload 4, 2) := by decide +kernel
theorem dX7_coinAt_70 : decode cX7_coinAt 70 = .ok (.ireturn, 1) := by decide +kernel
theorem dX7_nextCoin_0 : decode cX7_nextCoin 0 = .ok (.iconst 0, 1) := by decide +kernel
theorem dX7_nextCoin_1 : decode cX7_nextCoin 1 = .ok (.istore_n 3, 1) := by decide +kernel
theorem dX7_nextCoin_2 : decode cX7_nextCoin 2 = .ok (.iload_n 3, 1) := by decide +kernel
theorem dX7_nextCoin_3 : decode cX7_nextCoin 3 = .ok (.aload_n 1, 1) := by decide +kernel
theorem dX7_nextCoin_4 : decode cX7_nextCoin 4 = .ok (.getfield 24, 3) := by decide +kernel
theorem dX7_nextCoin_7 : decode cX7_nextCoin 7 = .ok (.if_icmp .ge 34, 3) := by decide +kernel
theorem dX7_nextCoin_10 : decode cX7_nextCoin 10 = .ok (.iload_n 2, 1) := by decide +kernel
theorem dX7_nextCoin_11 : decode cX7_nextCoin 11 = .ok (.iconst 1, 1) := by decide +kernel
theorem dX7_nextCoin_12 : decode cX7_nextCoin 12 = .ok (.iload_n 3, 1) := by decide +kernel
theorem dX7_nextCoin_13 : decode cX7_nextCoin 13 = .ok (.ishl, 1) := by decide +kernel
theorem dX7_nextCoin_14 : decode cX7_nextCoin 14 = .ok (.ior, 1) := by decide +kernel
theorem dX7_nextCoin_15 : decode cX7_nextCoin 15 = .ok (.istore 4, 2) := by decide +kernel
theorem dX7_nextCoin_17 : decode cX7_nextCoin 17 = .ok (.iload 4, 2) := by decide +kernel
theorem dX7_nextCoin_19 : decode cX7_nextCoin 19 = .ok (.iload_n 2, 1) := by decide +kernel
theorem dX7_nextCoin_20 : decode cX7_nextCoin 20 = .ok (.if_icmp .eq 15, 3) := by decide +kernel
theorem dX7_nextCoin_23 : decode cX7_nextCoin 23 = .ok (.aload_n 0, 1) := by decide +kernel
theorem dX7_nextCoin_24 : decode cX7_nextCoin 24 = .ok (.getfield 21, 3) := by decide +kernel
theorem dX7_nextCoin_27 : decode cX7_nextCoin 27 = .ok (.iload 4, 2) := by decide +kernel
theorem dX7_nextCoin_29 : decode cX7_nextCoin 29 = .ok (.iaload, 1) := by decide +kernel
theorem dX7_nextCoin_30 : decode cX7_nextCoin 30 = .ok (.ifCond .le 5, 3) := by decide +kernel
theorem dX7_nextCoin_33 : decode cX7_nextCoin 33 = .ok (.iload_n 3, 1) := by decide +kernel
theorem dX7_nextCoin_34 : decode cX7_nextCoin 34 = .ok (.ireturn, 1) := by decide +kernel
theorem dX7_nextCoin_35 : decode cX7_nextCoin 35 = .ok (.iinc 3 1, 3) := by decide +kernel
theorem dX7_nextCoin_38 : decode cX7_nextCoin 38 = .ok (.goto (-36), 3) := by decide +kernel
theorem dX7_nextCoin_41 : decode cX7_nextCoin 41 = .ok (.bipush (-9), 2) := by decide +kernel
theorem dX7_nextCoin_43 : decode cX7_nextCoin 43 = .ok (.ireturn, 1) := by decide +kernel
theorem dX8_init_0 : decode cX8_init 0 = .ok (.aload_n 0, 1) := by decide +kernel
theorem dX8_init_1 : decode cX8_init 1 = .ok (.invokespecial 3, 3) := by decide +kernel
theorem dX8_init_4 : decode cX8_init 4 = .ok (.aload_n 0, 1) := by decide +kernel
theorem dX8_init_5 : decode cX8_init 5 = .ok (.bipush 12, 2) := by decide +kernel
theorem dX8_init_7 : decode cX8_init 7 = .ok (.newarray .int, 2) := by decide +kernel
theorem dX8_init_9 : decode cX8_init 9 = .ok (.putfield 9, 3) := by decide +kernel
theorem dX8_init_12 : decode cX8_init 12 = .ok (.aload_n 0, 1) := by decide +kernel
theorem dX8_init_13 : decode cX8_init 13 = .ok (.bipush 12, 2) := by decide +kernel
theorem dX8_init_15 : decode cX8_init 15 = .ok (.newarray .boolean, 2) := by decide +kernel
theorem dX8_init_17 : decode cX8_init 17 = .ok (.putfield 15, 3) := by decide +kernel
theorem dX8_init_20 : decode cX8_init 20 = .ok (.aload_n 0, 1) := by decide +kernel
theorem dX8_init_21 : decode cX8_init 21 = .ok (.iconst 0, 1) := by decide +kernel
theorem dX8_init_22 : decode cX8_init 22 = .ok (.putfield 19, 3) := by decide +kernel
theorem dX8_init_25 : decode cX8_init 25 = .ok (.aload_n 0, 1) := by decide +kernel
theorem dX8_init_26 : decode cX8_init 26 = .ok (.iconst 0, 1) := by decide +kernel
theorem dX8_init_27 : decode cX8_init 27 = .ok (.putfield 23, 3) := by decide +kernel
theorem dX8_init_30 : decode cX8_init 30 = .ok (.aload_n 0, 1) := by decide +kernel
theorem dX8_init_31 : decode cX8_init 31 = .ok (.iconst 0, 1) := by decide +kernel
theorem dX8_init_32 : decode cX8_init 32 = .ok (.putfield 26, 3) := by decide +kernel
theorem dX8_init_35 : decode cX8_init 35 = .ok (.return_, 1) := by decide +kernel
theorem dX8_add_0 : decode cX8_add 0 = .ok (.aload_n 0, 1) := by decide +kernel
theorem dX8_add_1 : decode cX8_add 1 = .ok (.getfield 19, 3) := by decide +kernel
theorem dX8_add_4 : decode cX8_add 4 = .ok (.bipush 12, 2) := by decide +kernel
theorem dX8_add_6 : decode cX8_add 6 = .ok (.if_icmp .lt 6, 3) := by decide +kernel
theorem dX8_add_9 : decode cX8_add 9 = .ok (.bipush (-4), 2) := by decide +kernel
theorem dX8_add_11 : decode cX8_add 11 = .ok (.ireturn, 1) := by decide +kernel
theorem dX8_add_12 : decode cX8_add 12 = .ok (.aload_n 0, 1) := by decide +kernel
theorem dX8_add_13 : decode cX8_add 13 = .ok (.getfield 9, 3) := by decide +kernel
theorem dX8_add_16 : decode cX8_add 16 = .ok (.aload_n 0, 1) := by decide +kernel
theorem dX8_add_17 : decode cX8_add 17 = .ok (.getfield 19, 3) := by decide +kernel
theorem dX8_add_20 : decode cX8_add 20 = .ok (.iload_n 1, 1) := by decide +kernel
theorem dX8_add_21 : decode cX8_add 21 = .ok (.iastore, 1) := by decide +kernel
theorem dX8_add_22 : decode cX8_add 22 = .ok (.aload_n 0, 1) := by decide +kernel
theorem dX8_add_23 : decode cX8_add 23 = .ok (.getfield 15, 3) := by decide +kernel
theorem dX8_add_26 : decode cX8_add 26 = .ok (.aload_n 0, 1) := by decide +kernel
theorem dX8_add_27 : decode cX8_add 27 = .ok (.getfield 19, 3) := by decide +kernel
theorem dX8_add_30 : decode cX8_add 30 = .ok (.iload_n 2, 1) := by decide +kernel
theorem dX8_add_31 : decode cX8_add 31 = .ok (.bastore, 1) := by decide +kernel
theorem dX8_add_32 : decode cX8_add 32 = .ok (.aload_n 0, 1) := by decide +kernel
theorem dX8_add_33 : decode cX8_add 33 = .ok (.dup, 1) := by decide +kernel
theorem dX8_add_34 : decode cX8_add 34 = .ok (.getfield 19, 3) := by decide +kernel
theorem dX8_add_37 : decode cX8_add 37 = .ok (.iconst 1, 1) := by decide +kernel
theorem dX8_add_38 : decode cX8_add 38 = .ok (.iadd, 1) := by decide +kernel
theorem dX8_add_39 : decode cX8_add 39 = .ok (.putfield 19, 3) := by decide +kernel
theorem dX8_add_42 : decode cX8_add 42 = .ok (.aload_n 0, 1) := by decide +kernel
theorem dX8_add_43 : decode cX8_add 43 = .ok (.getfield 19, 3) := by decide +kernel
theorem dX8_add_46 : decode cX8_add 46 = .ok (.ireturn, 1) := by decide +kernel
set_option maxRecDepth 20000 in
theorem ggX8_reds_X8_redSet : GoodIn wsX8_reds wsX8_redSet := goodIn_r _ [5, 6, 7, 15, 16, 17, 18, 19] (by decide +kernel) (by decide +kernel)
set_option maxRecDepth 20000 in
theorem gX8_reds_X8_redSet : GoodIn wsX8_reds (wsV RX8 29 RX8 yX8_redSet wsX8_redSet) := goodIn_app (goodIn_of _ (by decide +kernel)) ggX8_reds_X8_redSet
set_option maxRecDepth 20000 in
theorem ggX8_reds_J6_bitCount_0f7a4 : GoodIn wsX8_reds wsJ6_bitCount_0f7a4 := goodIn_r _ [11, 12, 13, 14] (by decide +kernel) (by decide +kernel)
set_option maxRecDepth 20000 in
theorem gX8_reds_J6_bitCount_0f7a4 : GoodIn wsX8_reds (va_wsS RX8 33 yJ6_bitCount_0f7a4 wsJ6_bitCount_0f7a4) := goodIn_app (goodIn_of _ (by decide +kernel)) ggX8_reds_J6_bitCount_0f7a4
theorem dX8_reds_0 : decode cX8_reds 0 = .ok (.aload_n 0, 1) := by decide +kernel
theorem dX8_reds_1 : decode cX8_reds 1 = .ok (.invokevirtual 29, 3) := by decide +kernel
theorem dX8_reds_4 : decode cX8_reds 4 = .ok (.invokestatic 33, 3) := by decide +kernel
theorem dX8_reds_7 : decode cX8_reds 7 = .ok (.ireturn, 1) := by decide +kernel
set_option maxRecDepth 20000 in
theorem ggX8_copyFrom_X8_add : GoodIn wsX8_copyFrom wsX8_add := goodIn_r _ [8, 1, 2, 3, 9, 10, 11, 12, 13] (by decide +kernel) (by decide +kernel)
set_option maxRecDepth 20000 in
theorem gX8_copyFrom_X8_add : GoodIn wsX8_copyFrom (wsV RX8 39 RX8 yX8_add wsX8_add) := goodIn_app (goodIn_of _ (by decide +kernel)) ggX8_copyFrom_X8_add
theorem dX8_copyFrom_0 : decode cX8_copyFrom 0 = .ok (.aload_n 0, 1) := by decide +kernel
theorem dX8_copyFrom_1 : decode cX8_copyFrom 1 = .ok (.iconst 0, 1) := by decide +kernel
theorem dX8_copyFrom_2 : decode cX8_copyFrom 2 = .ok (.putfield 19, 3) := by decide +kernel
theorem dX8_copyFrom_5 : decode cX8_copyFrom 5 = .ok (.iconst 0, 1) := by decide +kernel
theorem dX8_copyFrom_6 : decode cX8_copyFrom 6 = .ok (.istore_n 2, 1) := by decide +kernel
theorem dX8_copyFrom_7 : decode cX8_copyFrom 7 = .ok (.iload_n 2, 1) := by decide +kernel
theorem dX8_copyFrom_8 : decode cX8_copyFrom 8 = .ok (.aload_n 1, 1) := by decide +kernel
theorem dX8_copyFrom_9 : decode cX8_copyFrom 9 = .ok (.getfield 19, 3) := by decide +kernel
theorem dX8_copyFrom_12 : decode cX8_copyFrom 12 = .ok (.if_icmp .ge 32, 3) := by decide +kernel
theorem dX8_copyFrom_15 : decode cX8_copyFrom 15 = .ok (.iload_n 2, 1) := by decide +kernel
theorem dX8_copyFrom_16 : decode cX8_copyFrom 16 = .ok (.bipush 12, 2) := by decide +kernel
theorem dX8_copyFrom_18 : decode cX8_copyFrom 18 = .ok (.if_icmp .ge 26, 3) := by decide +kernel
theorem dX8_copyFrom_21 : decode cX8_copyFrom 21 = .ok (.aload_n 0, 1) := by decide +kernel
theorem dX8_copyFrom_22 : decode cX8_copyFrom 22 = .ok (.aload_n 1, 1) := by decide +kernel
theorem dX8_copyFrom_23 : decode cX8_copyFrom 23 = .ok (.getfield 9, 3) := by decide +kernel
theorem dX8_copyFrom_26 : decode cX8_copyFrom 26 = .ok (.iload_n 2, 1) := by decide +kernel
theorem dX8_copyFrom_27 : decode cX8_copyFrom 27 = .ok (.iaload, 1) := by decide +kernel
theorem dX8_copyFrom_28 : decode cX8_copyFrom 28 = .ok (.aload_n 1, 1) := by decide +kernel
theorem dX8_copyFrom_29 : decode cX8_copyFrom 29 = .ok (.getfield 15, 3) := by decide +kernel
theorem dX8_copyFrom_32 : decode cX8_copyFrom 32 = .ok (.iload_n 2, 1) := by decide +kernel
theorem dX8_copyFrom_33 : decode cX8_copyFrom 33 = .ok (.baload, 1) := by decide +kernel
theorem dX8_copyFrom_34 : decode cX8_copyFrom 34 = .ok (.invokevirtual 39, 3) := by decide +kernel
theorem dX8_copyFrom_37 : decode cX8_copyFrom 37 = .ok (.pop, 1) := by decide +kernel
theorem dX8_copyFrom_38 : decode cX8_copyFrom 38 = .ok (.iinc 2 1, 3) := by decide +kernel
theorem dX8_copyFrom_41 : decode cX8_copyFrom 41 = .ok (.goto (-34), 3) := by decide +kernel
theorem dX8_copyFrom_44 : decode cX8_copyFrom 44 = .ok (.return_, 1) := by decide +kernel
set_option maxRecDepth 20000 in
theorem ggX8_dealAll_X8_redSet : GoodIn wsX8_dealAll wsX8_redSet := goodIn_r _ [8, 3, 9, 22, 23, 24, 25, 26] (by decide +kernel) (by decide +kernel)
set_option maxRecDepth 20000 in
theorem gX8_dealAll_X8_redSet : GoodIn wsX8_dealAll (wsV RX8 29 RX8 yX8_redSet wsX8_redSet) := goodIn_app (goodIn_of _ (by decide +kernel)) ggX8_dealAll_X8_redSet
set_option maxRecDepth 20000 in
theorem ggX8_dealAll_X8_sumOf : GoodIn wsX8_dealAll wsX8_sumOf := goodIn_r _ [13, 3, 14, 22, 23, 24, 25, 26] (by decide +kernel) (by decide +kernel)
set_option maxRecDepth 20000 in
theorem gX8_dealAll_X8_sumOf : GoodIn wsX8_dealAll (wsV RX8 43 RX8 yX8_sumOf wsX8_sumOf) := goodIn_app (goodIn_of _ (by decide +kernel)) ggX8_dealAll_X8_sumOf
set_option maxRecDepth 20000 in
theorem ggX8_dealAll_J6_bitCount_0f7a4 : GoodIn wsX8_dealAll wsJ6_bitCount_0f7a4 := goodIn_r _ [18, 19, 20, 21] (by decide +kernel) (by decide +kernel)
set_option maxRecDepth 20000 in
theorem gX8_dealAll_J6_bitCount_0f7a4 : GoodIn wsX8_dealAll (va_wsS RX8 33 yJ6_bitCount_0f7a4 wsJ6_bitCount_0f7a4) := goodIn_app (goodIn_of _ (by decide +kernel)) ggX8_dealAll_J6_bitCount_0f7a4
theorem dX8_dealAll_0 : decode cX8_dealAll 0 = .ok (.aload_n 0, 1) := by decide +kernel
theorem dX8_dealAll_1 : decode cX8_dealAll 1 = .ok (.invokevirtual 29, 3) := by decide +kernel
theorem dX8_dealAll_4 : decode cX8_dealAll 4 = .ok (.istore_n 1, 1) := by decide +kernel
theorem dX8_dealAll_5 : decode cX8_dealAll 5 = .ok (.aload_n 0, 1) := by decide +kernel
theorem dX8_dealAll_6 : decode cX8_dealAll 6 = .ok (.iload_n 1, 1) := by decide +kernel
theorem dX8_dealAll_7 : decode cX8_dealAll 7 = .ok (.invokevirtual 43, 3) := by decide +kernel
theorem dX8_dealAll_10 : decode cX8_dealAll 10 = .ok (.istore_n 2, 1) := by decide +kernel
theorem dX8_dealAll_11 : decode cX8_dealAll 11 = .ok (.iload_n 1, 1) := by decide +kernel
theorem dX8_dealAll_12 : decode cX8_dealAll 12 = .ok (.invokestatic 33, 3) := by decide +kernel
theorem dX8_dealAll_15 : decode cX8_dealAll 15 = .ok (.istore_n 3, 1) := by decide +kernel
theorem dX8_dealAll_16 : decode cX8_dealAll 16 = .ok (.aload_n 0, 1) := by decide +kernel
theorem dX8_dealAll_17 : decode cX8_dealAll 17 = .ok (.iconst 0, 1) := by decide +kernel
theorem dX8_dealAll_18 : decode cX8_dealAll 18 = .ok (.putfield 23, 3) := by decide +kernel
theorem dX8_dealAll_21 : decode cX8_dealAll 21 = .ok (.aload_n 0, 1) := by decide +kernel
theorem dX8_dealAll_22 : decode cX8_dealAll 22 = .ok (.iconst 0, 1) := by decide +kernel
theorem dX8_dealAll_23 : decode cX8_dealAll 23 = .ok (.putfield 26, 3) := by decide +kernel
theorem dX8_dealAll_26 : decode cX8_dealAll 26 = .ok (.iconst 0, 1) := by decide +kernel
theorem dX8_dealAll_27 : decode cX8_dealAll 27 = .ok (.istore 4, 2) := by decide +kernel
theorem dX8_dealAll_29 : decode cX8_dealAll 29 = .ok (.iload 4, 2) := by decide +kernel
theorem dX8_dealAll_31 : decode cX8_dealAll 31 = .ok (.iconst 1, 1) := by decide +kernel
theorem dX8_dealAll_32 : decode cX8_dealAll 32 = .ok (.aload_n 0, 1) := by decide +kernel
theorem dX8_dealAll_33 : decode cX8_dealAll 33 = .ok (.getfield 19, 3) := by decide +kernel
theorem dX8_dealAll_36 : decode cX8_dealAll 36 = .ok (.ishl, 1) := by decide +kernel
theorem dX8_dealAll_37 : decode cX8_dealAll 37 = .ok (.if_icmp .ge 52, 3) := by decide +kernel
theorem dX8_dealAll_40 : decode cX8_dealAll 40 = .ok (.iload 4, 2) := by decide +kernel
theorem dX8_dealAll_42 : decode cX8_dealAll 42 = .ok (.invokestatic 33, 3) := by decide +kernel
theorem dX8_dealAll_45 : decode cX8_dealAll 45 = .ok (.iload_n 3, 1) := by decide +kernel
theorem dX8_dealAll_46 : decode cX8_dealAll 46 = .ok (.if_icmp .ne 37, 3) := by decide +kernel
theorem dX8_dealAll_49 : decode cX8_dealAll 49 = .ok (.aload_n 0, 1) := by decide +kernel
theorem dX8_dealAll_50 : decode cX8_dealAll 50 = .ok (.dup, 1) := by decide +kernel
theorem dX8_dealAll_51 : decode cX8_dealAll 51 = .ok (.getfield 26, 3) := by decide +kernel
theorem dX8_dealAll_54 : decode cX8_dealAll 54 = .ok (.iconst 1, 1) := by decide +kernel
theorem dX8_dealAll_55 : decode cX8_dealAll 55 = .ok (.iadd, 1) := by decide +kernel
theorem dX8_dealAll_56 : decode cX8_dealAll 56 = .ok (.putfield 26, 3) := by decide +kernel
theorem dX8_dealAll_59 : decode cX8_dealAll 59 = .ok (.aload_n 0, 1) := by decide +kernel
theorem dX8_dealAll_60 : decode cX8_dealAll 60 = .ok (.dup, 1) := by decide +kernel
theorem dX8_dealAll_61 : decode cX8_dealAll 61 = .ok (.getfield 23, 3) := by decide +kernel
theorem dX8_dealAll_64 : decode cX8_dealAll 64 = .ok (.aload_n 0, 1) := by decide +kernel
theorem dX8_dealAll_65 : decode cX8_dealAll 65 = .ok (.iload 4, 2) := by decide +kernel
theorem dX8_dealAll_67 : decode cX8_dealAll 67 = .ok (.invokevirtual 43, 3) := by decide +kernel
theorem dX8_dealAll_70 : decode cX8_dealAll 70 = .ok (.iload_n 2, 1) := by decide +kernel
theorem dX8_dealAll_71 : decode cX8_dealAll 71 = .ok (.if_icmp .lt 7, 3) := by decide +kernel
theorem dX8_dealAll_74 : decode cX8_dealAll 74 = .ok (.iconst 1, 1) := by decide +kernel
theorem dX8_dealAll_75 : decode cX8_dealAll 75 = .ok (.goto 4, 3) := by decide +kernel
theorem dX8_dealAll_78 : decode cX8_dealAll 78 = .ok (.iconst 0, 1) := by decide +kernel
theorem dX8_dealAll_79 : decode cX8_dealAll 79 = .ok (.iadd, 1) := by decide +kernel
theorem dX8_dealAll_80 : decode cX8_dealAll 80 = .ok (.putfield 23, 3) := by decide +kernel
theorem dX8_dealAll_83 : decode cX8_dealAll 83 = .ok (.iinc 4 1, 3) := by decide +kernel
theorem dX8_dealAll_86 : decode cX8_dealAll 86 = .ok (.goto (-57), 3) := by decide +kernel
theorem dX8_dealAll_89 : decode cX8_dealAll 89 = .ok (.return_, 1) := by decide +kernel
theorem dX8_redSet_0 : decode cX8_redSet 0 = .ok (.iconst 0, 1) := by decide +kernel
theorem dX8_redSet_1 : decode cX8_redSet 1 = .ok (.istore_n 1, 1) := by decide +kernel
theorem dX8_redSet_2 : decode cX8_redSet 2 = .ok (.iconst 0, 1) := by decide +kernel
theorem dX8_redSet_3 : decode cX8_redSet 3 = .ok (.istore_n 2, 1) := by decide +kernel
theorem dX8_redSet_4 : decode cX8_redSet 4 = .ok (.iload_n 2, 1) := by decide +kernel
theorem dX8_redSet_5 : decode cX8_redSet 5 = .ok (.aload_n 0, 1) := by decide +kernel
theorem dX8_redSet_6 : decode cX8_redSet 6 = .ok (.getfield 19, 3) := by decide +kernel
theorem dX8_redSet_9 : decode cX8_redSet 9 = .ok (.if_icmp .ge 28, 3) := by decide +kernel
theorem dX8_redSet_12 : decode cX8_redSet 12 = .ok (.iload_n 1, 1) := by decide +kernel
theorem dX8_redSet_13 : decode cX8_redSet 13 = .ok (.aload_n 0, 1) := by decide +kernel
theorem dX8_redSet_14 : decode cX8_redSet 14 = .ok (.getfield 15, 3) := by decide +kernel
theorem dX8_redSet_17 : decode cX8_redSet 17 = .ok (.iload_n 2, 1) := by decide +kernel
theorem dX8_redSet_18 : decode cX8_redSet 18 = .ok (.baload, 1) := by decide +kernel
theorem dX8_redSet_19 : decode cX8_redSet 19 = .ok (.ifCond .eq 9, 3) := by decide +kernel
theorem dX8_redSet_22 : decode cX8_redSet 22 = .ok (.iconst 1, 1) := by decide +kernel
theorem dX8_redSet_23 : decode cX8_redSet 23 = .ok (.iload_n 2, 1) := by decide +kernel
theorem dX8_redSet_24 : decode cX8_redSet 24 = .ok (.ishl, 1) := by decide +kernel
theorem dX8_redSet_25 : decode cX8_redSet 25 = .ok (.goto 4, 3) := by decide +kernel
theorem dX8_redSet_28 : decode cX8_redSet 28 = .ok (.iconst 0, 1) := by decide +kernel
theorem dX8_redSet_29 : decode cX8_redSet 29 = .ok (.ior, 1) := by decide +kernel
theorem dX8_redSet_30 : decode cX8_redSet 30 = .ok (.istore_n 1, 1) := by decide +kernel
theorem dX8_redSet_31 : decode cX8_redSet 31 = .ok (.iinc 2 1, 3) := by decide +kernel
theorem dX8_redSet_34 : decode cX8_redSet 34 = .ok (.goto (-30), 3) := by decide +kernel
theorem dX8_redSet_37 : decode cX8_redSet 37 = .ok (.iload_n 1, 1) := by decide +kernel
theorem dX8_redSet_38 : decode cX8_redSet 38 = .ok (.ireturn, 1) := by decide +kernel
theorem dX8_sumOf_0 : decode cX8_sumOf 0 = .ok (.iconst 0, 1) := by decide +kernel
theorem dX8_sumOf_1 : decode cX8_sumOf 1 = .ok (.istore_n 2, 1) := by decide +kernel
theorem dX8_sumOf_2 : decode cX8_sumOf 2 = .ok (.iconst 0, 1) := by decide +kernel
theorem dX8_sumOf_3 : decode cX8_sumOf 3 = .ok (.istore_n 3, 1) := by decide +kernel
theorem dX8_sumOf_4 : decode cX8_sumOf 4 = .ok (.iload_n 3, 1) := by decide +kernel
theorem dX8_sumOf_5 : decode cX8_sumOf 5 = .ok (.aload_n 0, 1) := by decide +kernel
theorem dX8_sumOf_6 : decode cX8_sumOf 6 = .ok (.getfield 19, 3) := by decide +kernel
theorem dX8_sumOf_9 : decode cX8_sumOf 9 = .ok (.if_icmp .ge 24, 3) := by decide +kernel
theorem dX8_sumOf_12 : decode cX8_sumOf 12 = .ok (.iload_n 2, 1) := by decide +kernel
theorem dX8_sumOf_13 : decode cX8_sumOf 13 = .ok (.iload_n 1, 1) := by decide +kernel
theorem dX8_sumOf_14 : decode cX8_sumOf 14 = .ok (.iload_n 3, 1) := by decide +kernel
theorem dX8_sumOf_15 : decode cX8_sumOf 15 = .ok (.ishr, 1) := by decide +kernel
theorem dX8_sumOf_16 : decode cX8_sumOf 16 = .ok (.iconst 1, 1) := by decide +kernel
theorem dX8_sumOf_17 : decode cX8_sumOf 17 = .ok (.iand, 1) := by decide +kernel
theorem dX8_sumOf_18 : decode cX8_sumOf 18 = .ok (.aload_n 0, 1) := by decide +kernel
theorem dX8_sumOf_19 : decode cX8_sumOf 19 = .ok (.getfield 9, 3) := by decide +kernel
theorem dX8_sumOf_22 : decode cX8_sumOf 22 = .ok (.iload_n 3, 1) := by decide +kernel
theorem dX8_sumOf_23 : decode cX8_sumOf 23 = .ok (.iaload, 1) := by decide +kernel
theorem dX8_sumOf_24 : decode cX8_sumOf 24 = .ok (.imul, 1) := by decide +kernel
theorem dX8_sumOf_25 : decode cX8_sumOf 25 = .ok (.iadd, 1) := by decide +kernel
theorem dX8_sumOf_26 : decode cX8_sumOf 26 = .ok (.istore_n 2, 1) := by decide +kernel
theorem dX8_sumOf_27 : decode cX8_sumOf 27 = .ok (.iinc 3 1, 3) := by decide +kernel
theorem dX8_sumOf_30 : decode cX8_sumOf 30 = .ok (.goto (-26), 3) := by decide +kernel
theorem dX8_sumOf_33 : decode cX8_sumOf 33 = .ok (.iload_n 2, 1) := by decide +kernel
theorem dX8_sumOf_34 : decode cX8_sumOf 34 = .ok (.ireturn, 1) := by decide +kernel
set_option maxRecDepth 20000 in
theorem ggX9_init_X4_init : GoodIn wsX9_init wsX4_init := goodIn_r _ [15, 16, 2, 3, 17, 18, 19, 20, 21, 22, 23, 24, 25, 26, 27, 28, 29, 30, 31, 32, 33, 34, 35, 45, 46, 55, 56, 57, 58, 59, 60, 61, 62, 63, 64] (by decide +kernel) (by decide +kernel)
set_option maxRecDepth 20000 in
theorem gX9_init_X4_init : GoodIn wsX9_init (wsX4_init) := ggX9_init_X4_init
set_option maxRecDepth 20000 in
theorem ggX9_init_X8_init : GoodIn wsX9_init wsX8_init := goodIn_r _ [37, 38, 2, 3, 32, 39, 40, 41, 42, 43, 44, 50, 51, 52, 53, 54] (by decide +kernel) (by decide +kernel)
set_option maxRecDepth 20000 in
theorem gX9_init_X8_init_n18 : GoodIn wsX9_init (wsX8_init) := ggX9_init_X8_init
theorem dX9_init_0 : decode cX9_init 0 = .ok (.aload_n 0, 1) := by decide +kernel
theorem dX9_init_1 : decode cX9_init 1 = .ok (.invokespecial 1, 3) := by decide +kernel
theorem dX9_init_4 : decode cX9_init 4 = .ok (.aload_n 0, 1) := by decide +kernel
theorem dX9_init_5 : decode cX9_init 5 = .ok (.new 7, 3) := by decide +kernel
theorem dX9_init_8 : decode cX9_init 8 = .ok (.dup, 1) := by decide +kernel
theorem dX9_init_9 : decode cX9_init 9 = .ok (.invokespecial 9, 3) := by decide +kernel
theorem dX9_init_12 : decode cX9_init 12 = .ok (.putfield 10, 3) := by decide +kernel
theorem dX9_init_15 : decode cX9_init 15 = .ok (.aload_n 0, 1) := by decide +kernel
theorem dX9_init_16 : decode cX9_init 16 = .ok (.new 16, 3) := by decide +kernel
theorem dX9_init_19 : decode cX9_init 19 = .ok (.dup, 1) := by decide +kernel
theorem dX9_init_20 : decode cX9_init 20 = .ok (.invokespecial 18, 3) := by decide +kernel
theorem dX9_init_23 : decode cX9_init 23 = .ok (.putfield 19, 3) := by decide +kernel
theorem dX9_init_26 : decode cX9_init 26 = .ok (.aload_n 0, 1) := by decide +kernel
theorem dX9_init_27 : decode cX9_init 27 = .ok (.iconst 0, 1) := by decide +kernel
theorem dX9_init_28 : decode cX9_init 28 = .ok (.putfield 23, 3) := by decide +kernel
theorem dX9_init_31 : decode cX9_init 31 = .ok (.return_, 1) := by decide +kernel
theorem dX10_init_0 : decode cX10_init 0 = .ok (.aload_n 0, 1) := by decide +kernel
theorem dX10_init_1 : decode cX10_init 1 = .ok (.invokespecial 3, 3) := by decide +kernel
theorem dX10_init_4 : decode cX10_init 4 = .ok (.aload_n 0, 1) := by decide +kernel
theorem dX10_init_5 : decode cX10_init 5 = .ok (.bipush 40, 2) := by decide +kernel
theorem dX10_init_7 : decode cX10_init 7 = .ok (.newarray .int, 2) := by decide +kernel
theorem dX10_init_9 : decode cX10_init 9 = .ok (.putfield 9, 3) := by decide +kernel
theorem dX10_init_12 : decode cX10_init 12 = .ok (.aload_n 0, 1) := by decide +kernel
theorem dX10_init_13 : decode cX10_init 13 = .ok (.iconst 0, 1) := by decide +kernel
theorem dX10_init_14 : decode cX10_init 14 = .ok (.putfield 15, 3) := by decide +kernel
theorem dX10_init_17 : decode cX10_init 17 = .ok (.return_, 1) := by decide +kernel
theorem dX10_append_0 : decode cX10_append 0 = .ok (.aload_n 0, 1) := by decide +kernel
theorem dX10_append_1 : decode cX10_append 1 = .ok (.getfield 15, 3) := by decide +kernel
theorem dX10_append_4 : decode cX10_append 4 = .ok (.iload_n 1, 1) := by decide +kernel
theorem dX10_append_5 : decode cX10_append 5 = .ok (.iadd, 1) := by decide +kernel
theorem dX10_append_6 : decode cX10_append 6 = .ok (.aload_n 0, 1) := by decide +kernel
theorem dX10_append_7 : decode cX10_append 7 = .ok (.getfield 9, 3) := by decide +kernel
theorem dX10_append_10 : decode cX10_append 10 = .ok (.arraylength, 1) := by decide +kernel
theorem dX10_append_11 : decode cX10_append 11 = .ok (.if_icmp .le 6, 3) := by decide +kernel
theorem dX10_append_14 : decode cX10_append 14 = .ok (.bipush (-4), 2) := by decide +kernel
theorem dX10_append_16 : decode cX10_append 16 = .ok (.ireturn, 1) := by decide +kernel
theorem dX10_append_17 : decode cX10_append 17 = .ok (.iload_n 1, 1) := by decide +kernel
theorem dX10_append_18 : decode cX10_append 18 = .ok (.iconst 1, 1) := by decide +kernel
theorem dX10_append_19 : decode cX10_append 19 = .ok (.isub, 1) := by decide +kernel
theorem dX10_append_20 : decode cX10_append 20 = .ok (.istore 4, 2) := by decide +kernel
theorem dX10_append_22 : decode cX10_append 22 = .ok (.iload 4, 2) := by decide +kernel
theorem dX10_append_24 : decode cX10_append 24 = .ok (.ifCond .lt 40, 3) := by decide +kernel
theorem dX10_append_27 : decode cX10_append 27 = .ok (.aload_n 0, 1) := by decide +kernel
theorem dX10_append_28 : decode cX10_append 28 = .ok (.getfield 9, 3) := by decide +kernel
theorem dX10_append_31 : decode cX10_append 31 = .ok (.aload_n 0, 1) := by decide +kernel
theorem dX10_append_32 : decode cX10_append 32 = .ok (.getfield 15, 3) := by decide +kernel
theorem dX10_append_35 : decode cX10_append 35 = .ok (.lload_n 2, 1) := by decide +kernel
theorem dX10_append_36 : decode cX10_append 36 = .ok (.bipush 8, 2) := by decide +kernel
theorem dX10_append_38 : decode cX10_append 38 = .ok (.iload 4, 2) := by decide +kernel
theorem dX10_append_40 : decode cX10_append 40 = .ok (.imul, 1) := by decide +kernel
theorem dX10_append_41 : decode cX10_append 41 = .ok (.lushr, 1) := by decide +kernel
theorem dX10_append_42 : decode cX10_append 42 = .ok (.ldc2_w 19, 3) := by decide +kernel
theorem dX10_append_45 : decode cX10_append 45 = .ok (.land, 1) := by decide +kernel
theorem dX10_append_46 : decode cX10_append 46 = .ok (.l2i, 1) := by decide +kernel
theorem dX10_append_47 : decode cX10_append 47 = .ok (.iastore, 1) := by decide +kernel
theorem dX10_append_48 : decode cX10_append 48 = .ok (.aload_n 0, 1) := by decide +kernel
theorem dX10_append_49 : decode cX10_append 49 = .ok (.dup, 1) := by decide +kernel
theorem dX10_append_50 : decode cX10_append 50 = .ok (.getfield 15, 3) := by decide +kernel
theorem dX10_append_53 : decode cX10_append 53 = .ok (.iconst 1, 1) := by decide +kernel
theorem dX10_append_54 : decode cX10_append 54 = .ok (.iadd, 1) := by decide +kernel
theorem dX10_append_55 : decode cX10_append 55 = .ok (.putfield 15, 3) := by decide +kernel
theorem dX10_append_58 : decode cX10_append 58 = .ok (.iinc 4 (-1), 3) := by decide +kernel
theorem dX10_append_61 : decode cX10_append 61 = .ok (.goto (-39), 3) := by decide +kernel
theorem dX10_append_64 : decode cX10_append 64 = .ok (.aload_n 0, 1) := by decide +kernel
theorem dX10_append_65 : decode cX10_append 65 = .ok (.getfield 15, 3) := by decide +kernel
theorem dX10_append_68 : decode cX10_append 68 = .ok (.ireturn, 1) := by decide +kernel
set_option maxRecDepth 20000 in
theorem ggX10_firstFault_X10_isWhole : GoodIn wsX10_firstFault wsX10_isWhole := goodIn_r _ [6] (by decide +kernel) (by decide +kernel)
set_option maxRecDepth 20000 in
theorem gX10_firstFault_X10_isWhole : GoodIn wsX10_firstFault (va_wsS RX10 21 yX10_isWhole wsX10_isWhole) := goodIn_app (goodIn_of _ (by decide +kernel)) ggX10_firstFault_X10_isWhole
set_option maxRecDepth 20000 in
theorem ggX10_firstFault_X6_kindOf : GoodIn wsX10_firstFault wsX6_kindOf := goodIn_r _ [10] (by decide +kernel) (by decide +kernel)
set_option maxRecDepth 20000 in
theorem gX10_firstFault_X6_kindOf : GoodIn wsX10_firstFault (va_wsS RX10 25 yX6_kindOf wsX6_kindOf) := goodIn_app (goodIn_of _ (by decide +kernel)) ggX10_firstFault_X6_kindOf
theorem dX10_firstFault_0 : decode cX10_firstFault 0 = .ok (.iconst 0, 1) := by decide +kernel
theorem dX10_firstFault_1 : decode cX10_firstFault 1 = .ok (.istore_n 1, 1) := by decide +kernel
theorem dX10_firstFault_2 : decode cX10_firstFault 2 = .ok (.iconst 0, 1) := by decide +kernel
theorem dX10_firstFault_3 : decode cX10_firstFault 3 = .ok (.istore_n 2, 1) := by decide +kernel
theorem dX10_firstFault_4 : decode cX10_firstFault 4 = .ok (.bipush 12, 2) := by decide +kernel
theorem dX10_firstFault_6 : decode cX10_firstFault 6 = .ok (.istore_n 3, 1) := by decide +kernel
theorem dX10_firstFault_7 : decode cX10_firstFault 7 = .ok (.iconst 0, 1) := by decide +kernel
theorem dX10_firstFault_8 : decode cX10_firstFault 8 = .ok (.istore 4, 2) := by decide +kernel
theorem dX10_firstFault_10 : decode cX10_firstFault 10 = .ok (.iload 4, 2) := by decide +kernel
theorem dX10_firstFault_12 : decode cX10_firstFault 12 = .ok (.aload_n 0, 1) := by decide +kernel
theorem dX10_firstFault_13 : decode cX10_firstFault 13 = .ok (.getfield 15, 3) := by decide +kernel
theorem dX10_firstFault_16 : decode cX10_firstFault 16 = .ok (.if_icmp .ge 72, 3) := by decide +kernel
theorem dX10_firstFault_19 : decode cX10_firstFault 19 = .ok (.aload_n 0, 1) := by decide +kernel
theorem dX10_firstFault_20 : decode cX10_firstFault 20 = .ok (.getfield 9, 3) := by decide +kernel
theorem dX10_firstFault_23 : decode cX10_firstFault 23 = .ok (.iload 4, 2) := by decide +kernel
theorem dX10_firstFault_25 : decode cX10_firstFault 25 = .ok (.iaload, 1) := by decide +kernel
theorem dX10_firstFault_26 : decode cX10_firstFault 26 = .ok (.bipush 47, 2) := by decide +kernel
theorem dX10_firstFault_28 : decode cX10_firstFault 28 = .ok (.if_icmp .ne 30, 3) := by decide +kernel
theorem dX10_firstFault_31 : decode cX10_firstFault 31 = .ok (.iload_n 1, 1) := by decide +kernel
theorem dX10_firstFault_32 : decode cX10_firstFault 32 = .ok (.iconst 2, 1) := by decide +kernel
theorem dX10_firstFault_33 : decode cX10_firstFault 33 = .ok (.if_icmp .eq 12, 3) := by decide +kernel
theorem dX10_firstFault_36 : decode cX10_firstFault 36 = .ok (.iload_n 1, 1) := by decide +kernel
theorem dX10_firstFault_37 : decode cX10_firstFault 37 = .ok (.iload_n 2, 1) := by decide +kernel
theorem dX10_firstFault_38 : decode cX10_firstFault 38 = .ok (.iload_n 3, 1) := by decide +kernel
theorem dX10_firstFault_39 : decode cX10_firstFault 39 = .ok (.invokestatic 21, 3) := by decide +kernel
theorem dX10_firstFault_42 : decode cX10_firstFault 42 = .ok (.ifCond .ne 6, 3) := by decide +kernel
theorem dX10_firstFault_45 : decode cX10_firstFault 45 = .ok (.iload 4, 2) := by decide +kernel
theorem dX10_firstFault_47 : decode cX10_firstFault 47 = .ok (.ireturn, 1) := by decide +kernel
theorem dX10_firstFault_48 : decode cX10_firstFault 48 = .ok (.iload_n 2, 1) := by decide +kernel
theorem dX10_firstFault_49 : decode cX10_firstFault 49 = .ok (.istore_n 3, 1) := by decide +kernel
theorem dX10_firstFault_50 : decode cX10_firstFault 50 = .ok (.iinc 1 1, 3) := by decide +kernel
theorem dX10_firstFault_53 : decode cX10_firstFault 53 = .ok (.iconst 0, 1) := by decide +kernel
theorem dX10_firstFault_54 : decode cX10_firstFault 54 = .ok (.istore_n 2, 1) := by decide +kernel
theorem dX10_firstFault_55 : decode cX10_firstFault 55 = .ok (.goto 27, 3) := by decide +kernel
theorem dX10_firstFault_58 : decode cX10_firstFault 58 = .ok (.iload_n 2, 1) := by decide +kernel
theorem dX10_firstFault_59 : decode cX10_firstFault 59 = .ok (.iload_n 3, 1) := by decide +kernel
theorem dX10_firstFault_60 : decode cX10_firstFault 60 = .ok (.if_icmp .eq 16, 3) := by decide +kernel
theorem dX10_firstFault_63 : decode cX10_firstFault 63 = .ok (.aload_n 0, 1) := by decide +kernel
theorem dX10_firstFault_64 : decode cX10_firstFault 64 = .ok (.getfield 9, 3) := by decide +kernel
theorem dX10_firstFault_67 : decode cX10_firstFault 67 = .ok (.iload 4, 2) := by decide +kernel
theorem dX10_firstFault_69 : decode cX10_firstFault 69 = .ok (.iaload, 1) := by decide +kernel
theorem dX10_firstFault_70 : decode cX10_firstFault 70 = .ok (.invokestatic 25, 3) := by decide +kernel
theorem dX10_firstFault_73 : decode cX10_firstFault 73 = .ok (.ifCond .ne 6, 3) := by decide +kernel
theorem dX10_firstFault_76 : decode cX10_firstFault 76 = .ok (.iload 4, 2) := by decide +kernel
theorem dX10_firstFault_78 : decode cX10_firstFault 78 = .ok (.ireturn, 1) := by decide +kernel
theorem dX10_firstFault_79 : decode cX10_firstFault 79 = .ok (.iinc 2 1, 3) := by decide +kernel
theorem dX10_firstFault_82 : decode cX10_firstFault 82 = .ok (.iinc 4 1, 3) := by decide +kernel
theorem dX10_firstFault_85 : decode cX10_firstFault 85 = .ok (.goto (-75), 3) := by decide +kernel
theorem dX10_firstFault_88 : decode cX10_firstFault 88 = .ok (.iload_n 1, 1) := by decide +kernel
theorem dX10_firstFault_89 : decode cX10_firstFault 89 = .ok (.iload_n 2, 1) := by decide +kernel
theorem dX10_firstFault_90 : decode cX10_firstFault 90 = .ok (.iload_n 3, 1) := by decide +kernel
theorem dX10_firstFault_91 : decode cX10_firstFault 91 = .ok (.invokestatic 21, 3) := by decide +kernel
theorem dX10_firstFault_94 : decode cX10_firstFault 94 = .ok (.ifCond .eq 8, 3) := by decide +kernel
theorem dX10_firstFault_97 : decode cX10_firstFault 97 = .ok (.bipush (-9), 2) := by decide +kernel
theorem dX10_firstFault_99 : decode cX10_firstFault 99 = .ok (.goto 7, 3) := by decide +kernel
theorem dX10_firstFault_102 : decode cX10_firstFault 102 = .ok (.aload_n 0, 1) := by decide +kernel
theorem dX10_firstFault_103 : decode cX10_firstFault 103 = .ok (.getfield 15, 3) := by decide +kernel
theorem dX10_firstFault_106 : decode cX10_firstFault 106 = .ok (.ireturn, 1) := by decide +kernel
theorem dX10_isWhole_0 : decode cX10_isWhole 0 = .ok (.iload_n 0, 1) := by decide +kernel
theorem dX10_isWhole_1 : decode cX10_isWhole 1 = .ok (.ifCond .ne 15, 3) := by decide +kernel
theorem dX10_isWhole_4 : decode cX10_isWhole 4 = .ok (.iload_n 1, 1) := by decide +kernel
theorem dX10_isWhole_5 : decode cX10_isWhole 5 = .ok (.ifCond .le 7, 3) := by decide +kernel
theorem dX10_isWhole_8 : decode cX10_isWhole 8 = .ok (.iconst 1, 1) := by decide +kernel
theorem dX10_isWhole_9 : decode cX10_isWhole 9 = .ok (.goto 17, 3) := by decide +kernel
theorem dX10_isWhole_12 : decode cX10_isWhole 12 = .ok (.iconst 0, 1) := by decide +kernel
theorem dX10_isWhole_13 : decode cX10_isWhole 13 = .ok (.goto 13, 3) := by decide +kernel
theorem dX10_isWhole_16 : decode cX10_isWhole 16 = .ok (.iload_n 1, 1) := by decide +kernel
theorem dX10_isWhole_17 : decode cX10_isWhole 17 = .ok (.iload_n 2, 1) := by decide +kernel
theorem dX10_isWhole_18 : decode cX10_isWhole 18 = .ok (.if_icmp .ne 7, 3) := by decide +kernel
theorem dX10_isWhole_21 : decode cX10_isWhole 21 = .ok (.iconst 1, 1) := by decide +kernel
theorem dX10_isWhole_22 : decode cX10_isWhole 22 = .ok (.goto 4, 3) := by decide +kernel
theorem dX10_isWhole_25 : decode cX10_isWhole 25 = .ok (.iconst 0, 1) := by decide +kernel
theorem dX10_isWhole_26 : decode cX10_isWhole 26 = .ok (.ireturn, 1) := by decide +kernel
theorem dX11_isWithin_0 : decode cX11_isWithin 0 = .ok (.iload_n 0, 1) := by decide +kernel
theorem dX11_isWithin_1 : decode cX11_isWithin 1 = .ok (.iload_n 1, 1) := by decide +kernel
theorem dX11_isWithin_2 : decode cX11_isWithin 2 = .ok (.if_icmp .lt 12, 3) := by decide +kernel
theorem dX11_isWithin_5 : decode cX11_isWithin 5 = .ok (.iload_n 0, 1) := by decide +kernel
theorem dX11_isWithin_6 : decode cX11_isWithin 6 = .ok (.iload_n 2, 1) := by decide +kernel
theorem dX11_isWithin_7 : decode cX11_isWithin 7 = .ok (.if_icmp .gt 7, 3) := by decide +kernel
theorem dX11_isWithin_10 : decode cX11_isWithin 10 = .ok (.iconst 1, 1) := by decide +kernel
theorem dX11_isWithin_11 : decode cX11_isWithin 11 = .ok (.goto 4, 3) := by decide +kernel
theorem dX11_isWithin_14 : decode cX11_isWithin 14 = .ok (.iconst 0, 1) := by decide +kernel
theorem dX11_isWithin_15 : decode cX11_isWithin 15 = .ok (.ireturn, 1) := by decide +kernel
set_option maxRecDepth 20000 in
theorem ggX11_canFold_X11_isWithin : GoodIn wsX11_canFold wsX11_isWithin := goodIn_r _ [4] (by decide +kernel) (by decide +kernel)
set_option maxRecDepth 20000 in
theorem gX11_canFold_X11_isWithin : GoodIn wsX11_canFold (va_wsS RX11 102 yX11_isWithin wsX11_isWithin) := goodIn_app (goodIn_of _ (by decide +kernel)) ggX11_canFold_X11_isWithin
theorem dX11_canFold_0 : decode cX11_canFold 0 = .ok (.iload_n 2, 1) := by decide +kernel
theorem dX11_canFold_1 : decode cX11_canFold 1 = .ok (.iconst 1, 1) := by decide +kernel
theorem dX11_canFold_2 : decode cX11_canFold 2 = .ok (.bipush 9, 2) := by decide +kernel
theorem dX11_canFold_4 : decode cX11_canFold 4 = .ok (.invokestatic 102, 3) := by decide +kernel
theorem dX11_canFold_7 : decode cX11_canFold 7 = .ok (.ifCond .eq 25, 3) := by decide +kernel
theorem dX11_canFold_10 : decode cX11_canFold 10 = .ok (.iload_n 0, 1) := by decide +kernel
theorem dX11_canFold_11 : decode cX11_canFold 11 = .ok (.iconst 2, 1) := by decide +kernel
theorem dX11_canFold_12 : decode cX11_canFold 12 = .ok (.iload_n 2, 1) := by decide +kernel
theorem dX11_canFold_13 : decode cX11_canFold 13 = .ok (.imul, 1) := by decide +kernel
theorem dX11_canFold_14 : decode cX11_canFold 14 = .ok (.isub, 1) := by decide +kernel
theorem dX11_canFold_15 : decode cX11_canFold 15 = .ok (.iconst 1, 1) := by decide +kernel
theorem dX11_canFold_16 : decode cX11_canFold 16 = .ok (.if_icmp .lt 16, 3) := by decide +kernel
theorem dX11_canFold_19 : decode cX11_canFold 19 = .ok (.iload_n 1, 1) := by decide +kernel
theorem dX11_canFold_20 : decode cX11_canFold 20 = .ok (.iconst 2, 1) := by decide +kernel
theorem dX11_canFold_21 : decode cX11_canFold 21 = .ok (.iload_n 2, 1) := by decide +kernel
theorem dX11_canFold_22 : decode cX11_canFold 22 = .ok (.imul, 1) := by decide +kernel
theorem dX11_canFold_23 : decode cX11_canFold 23 = .ok (.isub, 1) := by decide +kernel
theorem dX11_canFold_24 : decode cX11_canFold 24 = .ok (.iconst 1, 1) := by decide +kernel
theorem dX11_canFold_25 : decode cX11_canFold 25 = .ok (.if_icmp .lt 7, 3) := by decide +kernel
theorem dX11_canFold_28 : decode cX11_canFold 28 = .ok (.iconst 1, 1) := by decide +kernel
theorem dX11_canFold_29 : decode cX11_canFold 29 = .ok (.goto 4, 3) := by decide +kernel
theorem dX11_canFold_32 : decode cX11_canFold 32 = .ok (.iconst 0, 1) := by decide +kernel
theorem dX11_canFold_33 : decode cX11_canFold 33 = .ok (.ireturn, 1) := by decide +kernel
theorem dJ6_bitCount_0f7a4_0 : decode cJ6_bitCount_0f7a4 0 = .ok (.iload_n 0, 1) := by decide +kernel
theorem dJ6_bitCount_0f7a4_1 : decode cJ6_bitCount_0f7a4 1 = .ok (.iload_n 0, 1) := by decide +kernel
theorem dJ6_bitCount_0f7a4_2 : decode cJ6_bitCount_0f7a4 2 = .ok (.iconst 1, 1) := by decide +kernel
theorem dJ6_bitCount_0f7a4_3 : decode cJ6_bitCount_0f7a4 3 = .ok (.iushr, 1) := by decide +kernel
theorem dJ6_bitCount_0f7a4_4 : decode cJ6_bitCount_0f7a4 4 = .ok (.ldc_w 265, 3) := by decide +kernel
theorem dJ6_bitCount_0f7a4_7 : decode cJ6_bitCount_0f7a4 7 = .ok (.iand, 1) := by decide +kernel
theorem dJ6_bitCount_0f7a4_8 : decode cJ6_bitCount_0f7a4 8 = .ok (.isub, 1) := by decide +kernel
theorem dJ6_bitCount_0f7a4_9 : decode cJ6_bitCount_0f7a4 9 = .ok (.istore_n 0, 1) := by decide +kernel
theorem dJ6_bitCount_0f7a4_10 : decode cJ6_bitCount_0f7a4 10 = .ok (.iload_n 0, 1) := by decide +kernel
theorem dJ6_bitCount_0f7a4_11 : decode cJ6_bitCount_0f7a4 11 = .ok (.ldc_w 266, 3) := by decide +kernel
theorem dJ6_bitCount_0f7a4_14 : decode cJ6_bitCount_0f7a4 14 = .ok (.iand, 1) := by decide +kernel
theorem dJ6_bitCount_0f7a4_15 : decode cJ6_bitCount_0f7a4 15 = .ok (.iload_n 0, 1) := by decide +kernel
theorem dJ6_bitCount_0f7a4_16 : decode cJ6_bitCount_0f7a4 16 = .ok (.iconst 2, 1) := by decide +kernel
theorem dJ6_bitCount_0f7a4_17 : decode cJ6_bitCount_0f7a4 17 = .ok (.iushr, 1) := by decide +kernel
theorem dJ6_bitCount_0f7a4_18 : decode cJ6_bitCount_0f7a4 18 = .ok (.ldc_w 266, 3) := by decide +kernel
theorem dJ6_bitCount_0f7a4_21 : decode cJ6_bitCount_0f7a4 21 = .ok (.iand, 1) := by decide +kernel
theorem dJ6_bitCount_0f7a4_22 : decode cJ6_bitCount_0f7a4 22 = .ok (.iadd, 1) := by decide +kernel
theorem dJ6_bitCount_0f7a4_23 : decode cJ6_bitCount_0f7a4 23 = .ok (.istore_n 0, 1) := by decide +kernel
theorem dJ6_bitCount_0f7a4_24 : decode cJ6_bitCount_0f7a4 24 = .ok (.iload_n 0, 1) := by decide +kernel
theorem dJ6_bitCount_0f7a4_25 : decode cJ6_bitCount_0f7a4 25 = .ok (.iload_n 0, 1) := by decide +kernel
theorem dJ6_bitCount_0f7a4_26 : decode cJ6_bitCount_0f7a4 26 = .ok (.iconst 4, 1) := by decide +kernel
theorem dJ6_bitCount_0f7a4_27 : decode cJ6_bitCount_0f7a4 27 = .ok (.iushr, 1) := by decide +kernel
theorem dJ6_bitCount_0f7a4_28 : decode cJ6_bitCount_0f7a4 28 = .ok (.iadd, 1) := by decide +kernel
theorem dJ6_bitCount_0f7a4_29 : decode cJ6_bitCount_0f7a4 29 = .ok (.ldc_w 267, 3) := by decide +kernel
theorem dJ6_bitCount_0f7a4_32 : decode cJ6_bitCount_0f7a4 32 = .ok (.iand, 1) := by decide +kernel
theorem dJ6_bitCount_0f7a4_33 : decode cJ6_bitCount_0f7a4 33 = .ok (.istore_n 0, 1) := by decide +kernel
theorem dJ6_bitCount_0f7a4_34 : decode cJ6_bitCount_0f7a4 34 = .ok (.iload_n 0, 1) := by decide +kernel
theorem dJ6_bitCount_0f7a4_35 : decode cJ6_bitCount_0f7a4 35 = .ok (.iload_n 0, 1) := by decide +kernel
theorem dJ6_bitCount_0f7a4_36 : decode cJ6_bitCount_0f7a4 36 = .ok (.bipush 8, 2) := by decide +kernel
theorem dJ6_bitCount_0f7a4_38 : decode cJ6_bitCount_0f7a4 38 = .ok (.iushr, 1) := by decide +kernel
theorem dJ6_bitCount_0f7a4_39 : decode cJ6_bitCount_0f7a4 39 = .ok (.iadd, 1) := by decide +kernel
theorem dJ6_bitCount_0f7a4_40 : decode cJ6_bitCount_0f7a4 40 = .ok (.istore_n 0, 1) := by decide +kernel
theorem dJ6_bitCount_0f7a4_41 : decode cJ6_bitCount_0f7a4 41 = .ok (.iload_n 0, 1) := by decide +kernel
theorem dJ6_bitCount_0f7a4_42 : decode cJ6_bitCount_0f7a4 42 = .ok (.iload_n 0, 1) := by decide +kernel
theorem dJ6_bitCount_0f7a4_43 : decode cJ6_bitCount_0f7a4 43 = .ok (.bipush 16, 2) := by decide +kernel
theorem dJ6_bitCount_0f7a4_45 : decode cJ6_bitCount_0f7a4 45 = .ok (.iushr, 1) := by decide +kernel
theorem dJ6_bitCount_0f7a4_46 : decode cJ6_bitCount_0f7a4 46 = .ok (.iadd, 1) := by decide +kernel
theorem dJ6_bitCount_0f7a4_47 : decode cJ6_bitCount_0f7a4 47 = .ok (.istore_n 0, 1) := by decide +kernel
theorem dJ6_bitCount_0f7a4_48 : decode cJ6_bitCount_0f7a4 48 = .ok (.iload_n 0, 1) := by decide +kernel
theorem dJ6_bitCount_0f7a4_49 : decode cJ6_bitCount_0f7a4 49 = .ok (.bipush 63, 2) := by decide +kernel
theorem dJ6_bitCount_0f7a4_51 : decode cJ6_bitCount_0f7a4 51 = .ok (.iand, 1) := by decide +kernel
theorem dJ6_bitCount_0f7a4_52 : decode cJ6_bitCount_0f7a4 52 = .ok (.ireturn, 1) := by decide +kernel
theorem dJ9_abs_0f7a4_0 : decode cJ9_abs_0f7a4 0 = .ok (.iload_n 0, 1) := by decide +kernel
theorem dJ9_abs_0f7a4_1 : decode cJ9_abs_0f7a4 1 = .ok (.ifCond .ge 8, 3) := by decide +kernel
theorem dJ9_abs_0f7a4_4 : decode cJ9_abs_0f7a4 4 = .ok (.iload_n 0, 1) := by decide +kernel
theorem dJ9_abs_0f7a4_5 : decode cJ9_abs_0f7a4 5 = .ok (.ineg, 1) := by decide +kernel
theorem dJ9_abs_0f7a4_6 : decode cJ9_abs_0f7a4 6 = .ok (.goto 4, 3) := by decide +kernel
theorem dJ9_abs_0f7a4_9 : decode cJ9_abs_0f7a4 9 = .ok (.iload_n 0, 1) := by decide +kernel
theorem dJ9_abs_0f7a4_10 : decode cJ9_abs_0f7a4 10 = .ok (.ireturn, 1) := by decide +kernel
theorem dJ9_max_f86c9_0 : decode cJ9_max_f86c9 0 = .ok (.lload_n 0, 1) := by decide +kernel
theorem dJ9_max_f86c9_1 : decode cJ9_max_f86c9 1 = .ok (.lload_n 2, 1) := by decide +kernel
theorem dJ9_max_f86c9_2 : decode cJ9_max_f86c9 2 = .ok (.lcmp, 1) := by decide +kernel
theorem dJ9_max_f86c9_3 : decode cJ9_max_f86c9 3 = .ok (.ifCond .lt 7, 3) := by decide +kernel
theorem dJ9_max_f86c9_6 : decode cJ9_max_f86c9 6 = .ok (.lload_n 0, 1) := by decide +kernel
theorem dJ9_max_f86c9_7 : decode cJ9_max_f86c9 7 = .ok (.goto 4, 3) := by decide +kernel
theorem dJ9_max_f86c9_10 : decode cJ9_max_f86c9 10 = .ok (.lload_n 2, 1) := by decide +kernel
theorem dJ9_max_f86c9_11 : decode cJ9_max_f86c9 11 = .ok (.lreturn, 1) := by decide +kernel
theorem dJ9_min_7cf53_0 : decode cJ9_min_7cf53 0 = .ok (.iload_n 0, 1) := by decide +kernel
theorem dJ9_min_7cf53_1 : decode cJ9_min_7cf53 1 = .ok (.iload_n 1, 1) := by decide +kernel
theorem dJ9_min_7cf53_2 : decode cJ9_min_7cf53 2 = .ok (.if_icmp .gt 7, 3) := by decide +kernel
theorem dJ9_min_7cf53_5 : decode cJ9_min_7cf53 5 = .ok (.iload_n 0, 1) := by decide +kernel
theorem dJ9_min_7cf53_6 : decode cJ9_min_7cf53 6 = .ok (.goto 4, 3) := by decide +kernel
theorem dJ9_min_7cf53_9 : decode cJ9_min_7cf53 9 = .ok (.iload_n 1, 1) := by decide +kernel
theorem dJ9_min_7cf53_10 : decode cJ9_min_7cf53 10 = .ok (.ireturn, 1) := by decide +kernel
theorem dJ9_min_f86c9_0 : decode cJ9_min_f86c9 0 = .ok (.lload_n 0, 1) := by decide +kernel
theorem dJ9_min_f86c9_1 : decode cJ9_min_f86c9 1 = .ok (.lload_n 2, 1) := by decide +kernel
theorem dJ9_min_f86c9_2 : decode cJ9_min_f86c9 2 = .ok (.lcmp, 1) := by decide +kernel
theorem dJ9_min_f86c9_3 : decode cJ9_min_f86c9 3 = .ok (.ifCond .gt 7, 3) := by decide +kernel
theorem dJ9_min_f86c9_6 : decode cJ9_min_f86c9 6 = .ok (.lload_n 0, 1) := by decide +kernel
theorem dJ9_min_f86c9_7 : decode cJ9_min_f86c9 7 = .ok (.goto 4, 3) := by decide +kernel
theorem dJ9_min_f86c9_10 : decode cJ9_min_f86c9 10 = .ok (.lload_n 2, 1) := by decide +kernel
theorem dJ9_min_f86c9_11 : decode cJ9_min_f86c9 11 = .ok (.lreturn, 1) := by decide +kernel
abbrev vwCl : List vw_C := [(RX0, TX0, 3), (RX1, TX1, 10), (RX2, TX2, 5), (RX3, TX3, 2), (RX4, TX4, 2), (RX6, TX6, 5), (RX7, TX7, 4), (RX8, TX8, 5), (RX9, TX9, 3), (RX10, TX10, 2), (RX11, TX11, 9), (RX12, TX12, 31)]
