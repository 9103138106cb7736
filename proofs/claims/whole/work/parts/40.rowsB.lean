set_option maxRecDepth 20000 in
theorem ggX11_init_X10_init : GoodIn wsX11_init wsX10_init := goodIn_r _ [41, 42, 2, 3, 43, 44, 45, 122, 123] (by decide +kernel) (by decide +kernel)
set_option maxRecDepth 20000 in
theorem gX11_init_X10_init_n9 : GoodIn wsX11_init (wsX10_init) := ggX11_init_X10_init
set_option maxRecDepth 20000 in
theorem ggX11_init_X6_init : GoodIn wsX11_init wsX6_init := goodIn_r _ [48, 49, 2, 3, 43, 50, 51, 52, 53, 54, 133, 134, 135, 136, 137] (by decide +kernel) (by decide +kernel)
set_option maxRecDepth 20000 in
theorem gX11_init_X6_init : GoodIn wsX11_init (wsX6_init) := ggX11_init_X6_init
set_option maxRecDepth 20000 in
theorem ggX11_init_X4_init : GoodIn wsX11_init wsX4_init := goodIn_r _ [57, 58, 2, 3, 59, 60, 61, 62, 63, 64, 65, 66, 67, 68, 69, 70, 71, 72, 73, 43, 74, 75, 76, 138, 139, 162, 163, 164, 165, 166, 167, 168, 169, 170, 171] (by decide +kernel) (by decide +kernel)
set_option maxRecDepth 20000 in
theorem gX11_init_X4_init : GoodIn wsX11_init (wsX4_init) := ggX11_init_X4_init
set_option maxRecDepth 20000 in
theorem ggX11_init_X8_init : GoodIn wsX11_init wsX8_init := goodIn_r _ [78, 79, 2, 3, 43, 80, 81, 82, 83, 84, 85, 140, 141, 142, 143, 144] (by decide +kernel) (by decide +kernel)
set_option maxRecDepth 20000 in
theorem gX11_init_X8_init_n32 : GoodIn wsX11_init (wsX8_init) := ggX11_init_X8_init
set_option maxRecDepth 20000 in
theorem ggX11_init_X7_init : GoodIn wsX11_init wsX7_init := goodIn_r _ [87, 88, 2, 3, 43, 89, 90, 91, 92, 145, 146, 147, 148] (by decide +kernel) (by decide +kernel)
set_option maxRecDepth 20000 in
theorem gX11_init_X7_init_n45 : GoodIn wsX11_init (wsX7_init) := ggX11_init_X7_init
set_option maxRecDepth 20000 in
theorem ggX11_init_X3_init : GoodIn wsX11_init wsX3_init := goodIn_r _ [94, 95, 2, 3, 96, 97, 98, 149, 150] (by decide +kernel) (by decide +kernel)
set_option maxRecDepth 20000 in
theorem gX11_init_X3_init_n52 : GoodIn wsX11_init (wsX3_init) := ggX11_init_X3_init
set_option maxRecDepth 20000 in
theorem ggX11_init_X0_init : GoodIn wsX11_init wsX0_init := goodIn_r _ [100, 101, 2, 3, 96, 102, 103, 104, 151, 152, 153] (by decide +kernel) (by decide +kernel)
set_option maxRecDepth 20000 in
theorem gX11_init_X0_init_n59 : GoodIn wsX11_init (wsX0_init) := ggX11_init_X0_init
set_option maxRecDepth 20000 in
theorem ggX11_init_X2_init : GoodIn wsX11_init wsX2_init := goodIn_r _ [106, 107, 2, 3, 81, 108, 43, 109, 110, 111, 112, 154, 155, 156, 157, 158] (by decide +kernel) (by decide +kernel)
set_option maxRecDepth 20000 in
theorem gX11_init_X2_init_n66 : GoodIn wsX11_init (wsX2_init) := ggX11_init_X2_init
set_option maxRecDepth 20000 in
theorem ggX11_init_X9_init : GoodIn wsX11_init wsX9_init := goodIn_r _ [114, 115, 2, 3, 116, 13, 14, 117, 118, 17, 18, 119, 120, 121, 56, 57, 58, 59, 60, 61, 62, 63, 64, 65, 66, 67, 68, 69, 70, 71, 72, 73, 43, 74, 75, 76, 77, 78, 79, 80, 81, 82, 83, 84, 85, 138, 139, 159, 160, 161, 140, 141, 142, 143, 144, 162, 163, 164, 165, 166, 167, 168, 169, 170, 171] (by decide +kernel) (by decide +kernel)
set_option maxRecDepth 20000 in
theorem gX11_init_X9_init_n71 : GoodIn wsX11_init (wsX9_init) := ggX11_init_X9_init
theorem dX11_init_0 : decode cX11_init 0 = .ok (.aload_n 0, 1) := by decide +kernel
theorem dX11_init_1 : decode cX11_init 1 = .ok (.invokespecial 1, 3) := by decide +kernel
theorem dX11_init_4 : decode cX11_init 4 = .ok (.aload_n 0, 1) := by decide +kernel
theorem dX11_init_5 : decode cX11_init 5 = .ok (.new 7, 3) := by decide +kernel
theorem dX11_init_8 : decode cX11_init 8 = .ok (.dup, 1) := by decide +kernel
theorem dX11_init_9 : decode cX11_init 9 = .ok (.invokespecial 9, 3) := by decide +kernel
theorem dX11_init_12 : decode cX11_init 12 = .ok (.putfield 10, 3) := by decide +kernel
theorem dX11_init_15 : decode cX11_init 15 = .ok (.aload_n 0, 1) := by decide +kernel
theorem dX11_init_16 : decode cX11_init 16 = .ok (.new 16, 3) := by decide +kernel
theorem dX11_init_19 : decode cX11_init 19 = .ok (.dup, 1) := by decide +kernel
theorem dX11_init_20 : decode cX11_init 20 = .ok (.invokespecial 18, 3) := by decide +kernel
theorem dX11_init_23 : decode cX11_init 23 = .ok (.putfield 19, 3) := by decide +kernel
theorem dX11_init_26 : decode cX11_init 26 = .ok (.aload_n 0, 1) := by decide +kernel
theorem dX11_init_27 : decode cX11_init 27 = .ok (.new 23, 3) := by decide +kernel
theorem dX11_init_30 : decode cX11_init 30 = .ok (.dup, 1) := by decide +kernel
theorem dX11_init_31 : decode cX11_init 31 = .ok (.invokespecial 25, 3) := by decide +kernel
theorem dX11_init_34 : decode cX11_init 34 = .ok (.putfield 26, 3) := by decide +kernel
theorem dX11_init_37 : decode cX11_init 37 = .ok (.aload_n 0, 1) := by decide +kernel
theorem dX11_init_38 : decode cX11_init 38 = .ok (.new 30, 3) := by decide +kernel
theorem dX11_init_41 : decode cX11_init 41 = .ok (.dup, 1) := by decide +kernel
theorem dX11_init_42 : decode cX11_init 42 = .ok (.invokespecial 32, 3) := by decide +kernel
theorem dX11_init_45 : decode cX11_init 45 = .ok (.putfield 33, 3) := by decide +kernel
theorem dX11_init_48 : decode cX11_init 48 = .ok (.aload_n 0, 1) := by decide +kernel
theorem dX11_init_49 : decode cX11_init 49 = .ok (.iconst 2, 1) := by decide +kernel
theorem dX11_init_50 : decode cX11_init 50 = .ok (.anewarray 37, 3) := by decide +kernel
theorem dX11_init_53 : decode cX11_init 53 = .ok (.putfield 39, 3) := by decide +kernel
theorem dX11_init_56 : decode cX11_init 56 = .ok (.aload_n 0, 1) := by decide +kernel
theorem dX11_init_57 : decode cX11_init 57 = .ok (.new 43, 3) := by decide +kernel
theorem dX11_init_60 : decode cX11_init 60 = .ok (.dup, 1) := by decide +kernel
theorem dX11_init_61 : decode cX11_init 61 = .ok (.invokespecial 45, 3) := by decide +kernel
theorem dX11_init_64 : decode cX11_init 64 = .ok (.putfield 46, 3) := by decide +kernel
theorem dX11_init_67 : decode cX11_init 67 = .ok (.aload_n 0, 1) := by decide +kernel
theorem dX11_init_68 : decode cX11_init 68 = .ok (.new 50, 3) := by decide +kernel
theorem dX11_init_71 : decode cX11_init 71 = .ok (.dup, 1) := by decide +kernel
theorem dX11_init_72 : decode cX11_init 72 = .ok (.invokespecial 52, 3) := by decide +kernel
theorem dX11_init_75 : decode cX11_init 75 = .ok (.putfield 53, 3) := by decide +kernel
theorem dX11_init_78 : decode cX11_init 78 = .ok (.aload_n 0, 1) := by decide +kernel
theorem dX11_init_79 : decode cX11_init 79 = .ok (.new 57, 3) := by decide +kernel
theorem dX11_init_82 : decode cX11_init 82 = .ok (.dup, 1) := by decide +kernel
theorem dX11_init_83 : decode cX11_init 83 = .ok (.invokespecial 59, 3) := by decide +kernel
theorem dX11_init_86 : decode cX11_init 86 = .ok (.putfield 60, 3) := by decide +kernel
theorem dX11_init_89 : decode cX11_init 89 = .ok (.aload_n 0, 1) := by decide +kernel
theorem dX11_init_90 : decode cX11_init 90 = .ok (.new 64, 3) := by decide +kernel
theorem dX11_init_93 : decode cX11_init 93 = .ok (.dup, 1) := by decide +kernel
theorem dX11_init_94 : decode cX11_init 94 = .ok (.invokespecial 66, 3) := by decide +kernel
theorem dX11_init_97 : decode cX11_init 97 = .ok (.putfield 67, 3) := by decide +kernel
theorem dX11_init_100 : decode cX11_init 100 = .ok (.iconst 0, 1) := by decide +kernel
theorem dX11_init_101 : decode cX11_init 101 = .ok (.istore_n 1, 1) := by decide +kernel
theorem dX11_init_102 : decode cX11_init 102 = .ok (.iload_n 1, 1) := by decide +kernel
theorem dX11_init_103 : decode cX11_init 103 = .ok (.aload_n 0, 1) := by decide +kernel
theorem dX11_init_104 : decode cX11_init 104 = .ok (.getfield 39, 3) := by decide +kernel
theorem dX11_init_107 : decode cX11_init 107 = .ok (.arraylength, 1) := by decide +kernel
theorem dX11_init_108 : decode cX11_init 108 = .ok (.if_icmp .ge 22, 3) := by decide +kernel
theorem dX11_init_111 : decode cX11_init 111 = .ok (.aload_n 0, 1) := by decide +kernel
theorem dX11_init_112 : decode cX11_init 112 = .ok (.getfield 39, 3) := by decide +kernel
theorem dX11_init_115 : decode cX11_init 115 = .ok (.iload_n 1, 1) := by decide +kernel
theorem dX11_init_116 : decode cX11_init 116 = .ok (.new 37, 3) := by decide +kernel
theorem dX11_init_119 : decode cX11_init 119 = .ok (.dup, 1) := by decide +kernel
theorem dX11_init_120 : decode cX11_init 120 = .ok (.invokespecial 71, 3) := by decide +kernel
theorem dX11_init_123 : decode cX11_init 123 = .ok (.aastore, 1) := by decide +kernel
theorem dX11_init_124 : decode cX11_init 124 = .ok (.iinc 1 1, 3) := by decide +kernel
theorem dX11_init_127 : decode cX11_init 127 = .ok (.goto (-25), 3) := by decide +kernel
theorem dX11_init_130 : decode cX11_init 130 = .ok (.return_, 1) := by decide +kernel
set_option maxRecDepth 20000 in
theorem ggX11_write_X10_append : GoodIn wsX11_write wsX10_append := goodIn_r _ [6, 7, 8, 9, 19, 20] (by decide +kernel) (by decide +kernel)
set_option maxRecDepth 20000 in
theorem gX11_write_X10_append : GoodIn wsX11_write (wsV RX11 72 RX10 yX10_append wsX10_append) := goodIn_app (goodIn_of _ (by decide +kernel)) ggX11_write_X10_append
theorem dX11_write_0 : decode cX11_write 0 = .ok (.iload_n 1, 1) := by decide +kernel
theorem dX11_write_1 : decode cX11_write 1 = .ok (.iconst 1, 1) := by decide +kernel
theorem dX11_write_2 : decode cX11_write 2 = .ok (.if_icmp .lt 9, 3) := by decide +kernel
theorem dX11_write_5 : decode cX11_write 5 = .ok (.iload_n 1, 1) := by decide +kernel
theorem dX11_write_6 : decode cX11_write 6 = .ok (.bipush 8, 2) := by decide +kernel
theorem dX11_write_8 : decode cX11_write 8 = .ok (.if_icmp .le 6, 3) := by decide +kernel
theorem dX11_write_11 : decode cX11_write 11 = .ok (.bipush (-2), 2) := by decide +kernel
theorem dX11_write_13 : decode cX11_write 13 = .ok (.ireturn, 1) := by decide +kernel
theorem dX11_write_14 : decode cX11_write 14 = .ok (.aload_n 0, 1) := by decide +kernel
theorem dX11_write_15 : decode cX11_write 15 = .ok (.getfield 10, 3) := by decide +kernel
theorem dX11_write_18 : decode cX11_write 18 = .ok (.iload_n 1, 1) := by decide +kernel
theorem dX11_write_19 : decode cX11_write 19 = .ok (.lload_n 2, 1) := by decide +kernel
theorem dX11_write_20 : decode cX11_write 20 = .ok (.invokevirtual 72, 3) := by decide +kernel
theorem dX11_write_23 : decode cX11_write 23 = .ok (.ireturn, 1) := by decide +kernel
theorem dX11_wipe_0 : decode cX11_wipe 0 = .ok (.aload_n 0, 1) := by decide +kernel
theorem dX11_wipe_1 : decode cX11_wipe 1 = .ok (.getfield 10, 3) := by decide +kernel
theorem dX11_wipe_4 : decode cX11_wipe 4 = .ok (.getfield 76, 3) := by decide +kernel
theorem dX11_wipe_7 : decode cX11_wipe 7 = .ok (.istore_n 1, 1) := by decide +kernel
theorem dX11_wipe_8 : decode cX11_wipe 8 = .ok (.aload_n 0, 1) := by decide +kernel
theorem dX11_wipe_9 : decode cX11_wipe 9 = .ok (.getfield 10, 3) := by decide +kernel
theorem dX11_wipe_12 : decode cX11_wipe 12 = .ok (.iconst 0, 1) := by decide +kernel
theorem dX11_wipe_13 : decode cX11_wipe 13 = .ok (.putfield 76, 3) := by decide +kernel
theorem dX11_wipe_16 : decode cX11_wipe 16 = .ok (.iload_n 1, 1) := by decide +kernel
theorem dX11_wipe_17 : decode cX11_wipe 17 = .ok (.ireturn, 1) := by decide +kernel
set_option maxRecDepth 20000 in
theorem ggX11_fault_X10_firstFault : GoodIn wsX11_fault wsX10_firstFault := goodIn_r _ [6, 7, 8, 9, 10, 5, 11, 12, 13, 14, 15, 25, 26] (by decide +kernel) (by decide +kernel)
set_option maxRecDepth 20000 in
theorem gX11_fault_X10_firstFault : GoodIn wsX11_fault (wsV RX11 80 RX10 yX10_firstFault wsX10_firstFault) := goodIn_app (goodIn_of _ (by decide +kernel)) ggX11_fault_X10_firstFault
theorem dX11_fault_0 : decode cX11_fault 0 = .ok (.aload_n 0, 1) := by decide +kernel
theorem dX11_fault_1 : decode cX11_fault 1 = .ok (.getfield 10, 3) := by decide +kernel
theorem dX11_fault_4 : decode cX11_fault 4 = .ok (.invokevirtual 80, 3) := by decide +kernel
theorem dX11_fault_7 : decode cX11_fault 7 = .ok (.ireturn, 1) := by decide +kernel
set_option maxRecDepth 20000 in
theorem ggX11_gutter_X10_firstFault : GoodIn wsX11_gutter wsX10_firstFault := goodIn_r _ [9, 10, 11, 12, 13, 8, 14, 15, 16, 17, 18, 43, 44] (by decide +kernel) (by decide +kernel)
set_option maxRecDepth 20000 in
theorem gX11_gutter_X10_firstFault : GoodIn wsX11_gutter (wsV RX11 80 RX10 yX10_firstFault wsX10_firstFault) := goodIn_app (goodIn_of _ (by decide +kernel)) ggX11_gutter_X10_firstFault
set_option maxRecDepth 20000 in
theorem ggX11_gutter_X6_readFrom : GoodIn wsX11_gutter wsX6_readFrom := goodIn_r _ [22, 23, 24, 25, 26, 27, 28, 16, 17, 18, 43, 44, 38, 39, 40, 41, 42] (by decide +kernel) (by decide +kernel)
set_option maxRecDepth 20000 in
theorem gX11_gutter_X6_readFrom : GoodIn wsX11_gutter (wsV RX11 84 RX6 yX6_readFrom wsX6_readFrom) := goodIn_app (goodIn_of _ (by decide +kernel)) ggX11_gutter_X6_readFrom
theorem dX11_gutter_0 : decode cX11_gutter 0 = .ok (.aload_n 0, 1) := by decide +kernel
theorem dX11_gutter_1 : decode cX11_gutter 1 = .ok (.getfield 10, 3) := by decide +kernel
theorem dX11_gutter_4 : decode cX11_gutter 4 = .ok (.invokevirtual 80, 3) := by decide +kernel
theorem dX11_gutter_7 : decode cX11_gutter 7 = .ok (.bipush (-9), 2) := by decide +kernel
theorem dX11_gutter_9 : decode cX11_gutter 9 = .ok (.if_icmp .eq 6, 3) := by decide +kernel
theorem dX11_gutter_12 : decode cX11_gutter 12 = .ok (.bipush (-3), 2) := by decide +kernel
theorem dX11_gutter_14 : decode cX11_gutter 14 = .ok (.ireturn, 1) := by decide +kernel
theorem dX11_gutter_15 : decode cX11_gutter 15 = .ok (.aload_n 0, 1) := by decide +kernel
theorem dX11_gutter_16 : decode cX11_gutter 16 = .ok (.getfield 19, 3) := by decide +kernel
theorem dX11_gutter_19 : decode cX11_gutter 19 = .ok (.aload_n 0, 1) := by decide +kernel
theorem dX11_gutter_20 : decode cX11_gutter 20 = .ok (.getfield 10, 3) := by decide +kernel
theorem dX11_gutter_23 : decode cX11_gutter 23 = .ok (.invokevirtual 84, 3) := by decide +kernel
theorem dX11_gutter_26 : decode cX11_gutter 26 = .ok (.bipush 100, 2) := by decide +kernel
theorem dX11_gutter_28 : decode cX11_gutter 28 = .ok (.aload_n 0, 1) := by decide +kernel
theorem dX11_gutter_29 : decode cX11_gutter 29 = .ok (.getfield 19, 3) := by decide +kernel
theorem dX11_gutter_32 : decode cX11_gutter 32 = .ok (.getfield 88, 3) := by decide +kernel
theorem dX11_gutter_35 : decode cX11_gutter 35 = .ok (.imul, 1) := by decide +kernel
theorem dX11_gutter_36 : decode cX11_gutter 36 = .ok (.aload_n 0, 1) := by decide +kernel
theorem dX11_gutter_37 : decode cX11_gutter 37 = .ok (.getfield 19, 3) := by decide +kernel
theorem dX11_gutter_40 : decode cX11_gutter 40 = .ok (.getfield 91, 3) := by decide +kernel
theorem dX11_gutter_43 : decode cX11_gutter 43 = .ok (.iadd, 1) := by decide +kernel
theorem dX11_gutter_44 : decode cX11_gutter 44 = .ok (.ireturn, 1) := by decide +kernel
set_option maxRecDepth 20000 in
theorem ggX11_place_X6_has : GoodIn wsX11_place wsX6_has := goodIn_r _ [6, 7, 8, 9, 10, 5, 11, 12, 28, 29, 30, 31, 32] (by decide +kernel) (by decide +kernel)
set_option maxRecDepth 20000 in
theorem gX11_place_X6_has : GoodIn wsX11_place (wsV RX11 94 RX6 yX6_has wsX6_has) := goodIn_app (goodIn_of _ (by decide +kernel)) ggX11_place_X6_has
set_option maxRecDepth 20000 in
theorem ggX11_place_X6_kindAt : GoodIn wsX11_place wsX6_kindAt := goodIn_r _ [16, 17, 18, 3, 4, 5, 6, 7, 8, 9, 10, 11, 12, 28, 29, 30, 31, 32] (by decide +kernel) (by decide +kernel)
set_option maxRecDepth 20000 in
theorem gX11_place_X6_kindAt : GoodIn wsX11_place (wsV RX11 98 RX6 yX6_kindAt wsX6_kindAt) := goodIn_app (goodIn_of _ (by decide +kernel)) ggX11_place_X6_kindAt
theorem dX11_place_0 : decode cX11_place 0 = .ok (.aload_n 0, 1) := by decide +kernel
theorem dX11_place_1 : decode cX11_place 1 = .ok (.getfield 19, 3) := by decide +kernel
theorem dX11_place_4 : decode cX11_place 4 = .ok (.iload_n 1, 1) := by decide +kernel
theorem dX11_place_5 : decode cX11_place 5 = .ok (.iload_n 2, 1) := by decide +kernel
theorem dX11_place_6 : decode cX11_place 6 = .ok (.invokevirtual 94, 3) := by decide +kernel
theorem dX11_place_9 : decode cX11_place 9 = .ok (.ifCond .ne 5, 3) := by decide +kernel
theorem dX11_place_12 : decode cX11_place 12 = .ok (.iconst (-1), 1) := by decide +kernel
theorem dX11_place_13 : decode cX11_place 13 = .ok (.ireturn, 1) := by decide +kernel
theorem dX11_place_14 : decode cX11_place 14 = .ok (.aload_n 0, 1) := by decide +kernel
theorem dX11_place_15 : decode cX11_place 15 = .ok (.getfield 19, 3) := by decide +kernel
theorem dX11_place_18 : decode cX11_place 18 = .ok (.iload_n 1, 1) := by decide +kernel
theorem dX11_place_19 : decode cX11_place 19 = .ok (.iload_n 2, 1) := by decide +kernel
theorem dX11_place_20 : decode cX11_place 20 = .ok (.invokevirtual 98, 3) := by decide +kernel
theorem dX11_place_23 : decode cX11_place 23 = .ok (.ireturn, 1) := by decide +kernel
set_option maxRecDepth 20000 in
theorem ggX11_mishap_X11_isWithin : GoodIn wsX11_mishap wsX11_isWithin := goodIn_r _ [7] (by decide +kernel) (by decide +kernel)
set_option maxRecDepth 20000 in
theorem gX11_mishap_X11_isWithin : GoodIn wsX11_mishap (va_wsS RX11 102 yX11_isWithin wsX11_isWithin) := goodIn_app (goodIn_of _ (by decide +kernel)) ggX11_mishap_X11_isWithin
theorem dX11_mishap_0 : decode cX11_mishap 0 = .ok (.iload_n 1, 1) := by decide +kernel
theorem dX11_mishap_1 : decode cX11_mishap 1 = .ok (.iconst 0, 1) := by decide +kernel
theorem dX11_mishap_2 : decode cX11_mishap 2 = .ok (.bipush 9, 2) := by decide +kernel
theorem dX11_mishap_4 : decode cX11_mishap 4 = .ok (.invokestatic 102, 3) := by decide +kernel
theorem dX11_mishap_7 : decode cX11_mishap 7 = .ok (.ifCond .eq 13, 3) := by decide +kernel
theorem dX11_mishap_10 : decode cX11_mishap 10 = .ok (.iload_n 2, 1) := by decide +kernel
theorem dX11_mishap_11 : decode cX11_mishap 11 = .ok (.iconst 0, 1) := by decide +kernel
theorem dX11_mishap_12 : decode cX11_mishap 12 = .ok (.bipush 9, 2) := by decide +kernel
theorem dX11_mishap_14 : decode cX11_mishap 14 = .ok (.invokestatic 102, 3) := by decide +kernel
theorem dX11_mishap_17 : decode cX11_mishap 17 = .ok (.ifCond .ne 6, 3) := by decide +kernel
theorem dX11_mishap_20 : decode cX11_mishap 20 = .ok (.bipush (-2), 2) := by decide +kernel
theorem dX11_mishap_22 : decode cX11_mishap 22 = .ok (.ireturn, 1) := by decide +kernel
theorem dX11_mishap_23 : decode cX11_mishap 23 = .ok (.bipush 10, 2) := by decide +kernel
theorem dX11_mishap_25 : decode cX11_mishap 25 = .ok (.aload_n 0, 1) := by decide +kernel
theorem dX11_mishap_26 : decode cX11_mishap 26 = .ok (.getfield 19, 3) := by decide +kernel
theorem dX11_mishap_29 : decode cX11_mishap 29 = .ok (.getfield 106, 3) := by decide +kernel
theorem dX11_mishap_32 : decode cX11_mishap 32 = .ok (.imul, 1) := by decide +kernel
theorem dX11_mishap_33 : decode cX11_mishap 33 = .ok (.aload_n 0, 1) := by decide +kernel
theorem dX11_mishap_34 : decode cX11_mishap 34 = .ok (.getfield 19, 3) := by decide +kernel
theorem dX11_mishap_37 : decode cX11_mishap 37 = .ok (.getfield 109, 3) := by decide +kernel
theorem dX11_mishap_40 : decode cX11_mishap 40 = .ok (.iadd, 1) := by decide +kernel
theorem dX11_mishap_41 : decode cX11_mishap 41 = .ok (.istore_n 3, 1) := by decide +kernel
theorem dX11_mishap_42 : decode cX11_mishap 42 = .ok (.aload_n 0, 1) := by decide +kernel
theorem dX11_mishap_43 : decode cX11_mishap 43 = .ok (.getfield 19, 3) := by decide +kernel
theorem dX11_mishap_46 : decode cX11_mishap 46 = .ok (.iload_n 1, 1) := by decide +kernel
theorem dX11_mishap_47 : decode cX11_mishap 47 = .ok (.putfield 106, 3) := by decide +kernel
theorem dX11_mishap_50 : decode cX11_mishap 50 = .ok (.aload_n 0, 1) := by decide +kernel
theorem dX11_mishap_51 : decode cX11_mishap 51 = .ok (.getfield 19, 3) := by decide +kernel
theorem dX11_mishap_54 : decode cX11_mishap 54 = .ok (.iload_n 2, 1) := by decide +kernel
theorem dX11_mishap_55 : decode cX11_mishap 55 = .ok (.putfield 109, 3) := by decide +kernel
theorem dX11_mishap_58 : decode cX11_mishap 58 = .ok (.iload_n 3, 1) := by decide +kernel
theorem dX11_mishap_59 : decode cX11_mishap 59 = .ok (.ireturn, 1) := by decide +kernel
set_option maxRecDepth 20000 in
theorem ggX11_boat_X11_isWithin : GoodIn wsX11_boat wsX11_isWithin := goodIn_r _ [5] (by decide +kernel) (by decide +kernel)
set_option maxRecDepth 20000 in
theorem gX11_boat_X11_isWithin : GoodIn wsX11_boat (va_wsS RX11 102 yX11_isWithin wsX11_isWithin) := goodIn_app (goodIn_of _ (by decide +kernel)) ggX11_boat_X11_isWithin
set_option maxRecDepth 20000 in
theorem ggX11_boat_X11_canFold : GoodIn wsX11_boat wsX11_canFold := goodIn_r _ [8, 2, 3, 4, 5] (by decide +kernel) (by decide +kernel)
set_option maxRecDepth 20000 in
theorem gX11_boat_X11_canFold : GoodIn wsX11_boat (va_wsS RX11 112 yX11_canFold wsX11_canFold) := goodIn_app (goodIn_of _ (by decide +kernel)) ggX11_boat_X11_canFold
set_option maxRecDepth 20000 in
theorem ggX11_boat_X4_launch : GoodIn wsX11_boat wsX4_launch := goodIn_r _ [13, 14, 15, 16, 17, 18, 19, 20, 21, 22, 23, 24, 25, 26, 27, 37, 38, 39, 40, 41, 42, 43, 44, 45, 46, 47, 48] (by decide +kernel) (by decide +kernel)
set_option maxRecDepth 20000 in
theorem gX11_boat_X4_launch : GoodIn wsX11_boat (wsV RX11 115 RX4 yX4_launch wsX4_launch) := goodIn_app (goodIn_of _ (by decide +kernel)) ggX11_boat_X4_launch
theorem dX11_boat_0 : decode cX11_boat 0 = .ok (.iload_n 1, 1) := by decide +kernel
theorem dX11_boat_1 : decode cX11_boat 1 = .ok (.iconst 3, 1) := by decide +kernel
theorem dX11_boat_2 : decode cX11_boat 2 = .ok (.bipush 20, 2) := by decide +kernel
theorem dX11_boat_4 : decode cX11_boat 4 = .ok (.invokestatic 102, 3) := by decide +kernel
theorem dX11_boat_7 : decode cX11_boat 7 = .ok (.ifCond .eq 33, 3) := by decide +kernel
theorem dX11_boat_10 : decode cX11_boat 10 = .ok (.iload_n 2, 1) := by decide +kernel
theorem dX11_boat_11 : decode cX11_boat 11 = .ok (.iconst 3, 1) := by decide +kernel
theorem dX11_boat_12 : decode cX11_boat 12 = .ok (.bipush 20, 2) := by decide +kernel
theorem dX11_boat_14 : decode cX11_boat 14 = .ok (.invokestatic 102, 3) := by decide +kernel
theorem dX11_boat_17 : decode cX11_boat 17 = .ok (.ifCond .eq 23, 3) := by decide +kernel
theorem dX11_boat_20 : decode cX11_boat 20 = .ok (.iload_n 3, 1) := by decide +kernel
theorem dX11_boat_21 : decode cX11_boat 21 = .ok (.iconst 1, 1) := by decide +kernel
theorem dX11_boat_22 : decode cX11_boat 22 = .ok (.bipush 9, 2) := by decide +kernel
theorem dX11_boat_24 : decode cX11_boat 24 = .ok (.invokestatic 102, 3) := by decide +kernel
theorem dX11_boat_27 : decode cX11_boat 27 = .ok (.ifCond .eq 13, 3) := by decide +kernel
theorem dX11_boat_30 : decode cX11_boat 30 = .ok (.iload_n 1, 1) := by decide +kernel
theorem dX11_boat_31 : decode cX11_boat 31 = .ok (.iload_n 2, 1) := by decide +kernel
theorem dX11_boat_32 : decode cX11_boat 32 = .ok (.iload 4, 2) := by decide +kernel
theorem dX11_boat_34 : decode cX11_boat 34 = .ok (.invokestatic 112, 3) := by decide +kernel
theorem dX11_boat_37 : decode cX11_boat 37 = .ok (.ifCond .ne 6, 3) := by decide +kernel
theorem dX11_boat_40 : decode cX11_boat 40 = .ok (.bipush (-2), 2) := by decide +kernel
theorem dX11_boat_42 : decode cX11_boat 42 = .ok (.ireturn, 1) := by decide +kernel
theorem dX11_boat_43 : decode cX11_boat 43 = .ok (.aload_n 0, 1) := by decide +kernel
theorem dX11_boat_44 : decode cX11_boat 44 = .ok (.getfield 26, 3) := by decide +kernel
theorem dX11_boat_47 : decode cX11_boat 47 = .ok (.iload_n 1, 1) := by decide +kernel
theorem dX11_boat_48 : decode cX11_boat 48 = .ok (.iload_n 2, 1) := by decide +kernel
theorem dX11_boat_49 : decode cX11_boat 49 = .ok (.iload_n 3, 1) := by decide +kernel
theorem dX11_boat_50 : decode cX11_boat 50 = .ok (.iload 4, 2) := by decide +kernel
theorem dX11_boat_52 : decode cX11_boat 52 = .ok (.invokevirtual 115, 3) := by decide +kernel
theorem dX11_boat_55 : decode cX11_boat 55 = .ok (.ireturn, 1) := by decide +kernel
set_option maxRecDepth 20000 in
theorem ggX11_wax_X4_find : GoodIn wsX11_wax wsX4_find := goodIn_r _ [8, 9, 10, 34, 35] (by decide +kernel) (by decide +kernel)
set_option maxRecDepth 20000 in
theorem gX11_wax_X4_find : GoodIn wsX11_wax (wsV RX11 119 RX4 yX4_find wsX4_find) := goodIn_app (goodIn_of _ (by decide +kernel)) ggX11_wax_X4_find
set_option maxRecDepth 20000 in
theorem ggX11_wax_X11_isWithin : GoodIn wsX11_wax wsX11_isWithin := goodIn_r _ [14] (by decide +kernel) (by decide +kernel)
set_option maxRecDepth 20000 in
theorem gX11_wax_X11_isWithin : GoodIn wsX11_wax (va_wsS RX11 102 yX11_isWithin wsX11_isWithin) := goodIn_app (goodIn_of _ (by decide +kernel)) ggX11_wax_X11_isWithin
theorem dX11_wax_0 : decode cX11_wax 0 = .ok (.aload_n 0, 1) := by decide +kernel
theorem dX11_wax_1 : decode cX11_wax 1 = .ok (.getfield 26, 3) := by decide +kernel
theorem dX11_wax_4 : decode cX11_wax 4 = .ok (.iload_n 1, 1) := by decide +kernel
theorem dX11_wax_5 : decode cX11_wax 5 = .ok (.invokevirtual 119, 3) := by decide +kernel
theorem dX11_wax_8 : decode cX11_wax 8 = .ok (.astore 4, 2) := by decide +kernel
theorem dX11_wax_10 : decode cX11_wax 10 = .ok (.aload 4, 2) := by decide +kernel
theorem dX11_wax_12 : decode cX11_wax 12 = .ok (.ifnonnull 5, 3) := by decide +kernel
theorem dX11_wax_15 : decode cX11_wax 15 = .ok (.iconst (-1), 1) := by decide +kernel
theorem dX11_wax_16 : decode cX11_wax 16 = .ok (.ireturn, 1) := by decide +kernel
theorem dX11_wax_17 : decode cX11_wax 17 = .ok (.iload_n 2, 1) := by decide +kernel
theorem dX11_wax_18 : decode cX11_wax 18 = .ok (.iconst 0, 1) := by decide +kernel
theorem dX11_wax_19 : decode cX11_wax 19 = .ok (.bipush 99, 2) := by decide +kernel
theorem dX11_wax_21 : decode cX11_wax 21 = .ok (.invokestatic 102, 3) := by decide +kernel
theorem dX11_wax_24 : decode cX11_wax 24 = .ok (.ifCond .eq 13, 3) := by decide +kernel
theorem dX11_wax_27 : decode cX11_wax 27 = .ok (.iload_n 3, 1) := by decide +kernel
theorem dX11_wax_28 : decode cX11_wax 28 = .ok (.iconst 0, 1) := by decide +kernel
theorem dX11_wax_29 : decode cX11_wax 29 = .ok (.bipush 9, 2) := by decide +kernel
theorem dX11_wax_31 : decode cX11_wax 31 = .ok (.invokestatic 102, 3) := by decide +kernel
theorem dX11_wax_34 : decode cX11_wax 34 = .ok (.ifCond .ne 6, 3) := by decide +kernel
theorem dX11_wax_37 : decode cX11_wax 37 = .ok (.bipush (-2), 2) := by decide +kernel
theorem dX11_wax_39 : decode cX11_wax 39 = .ok (.ireturn, 1) := by decide +kernel
theorem dX11_wax_40 : decode cX11_wax 40 = .ok (.aload 4, 2) := by decide +kernel
theorem dX11_wax_42 : decode cX11_wax 42 = .ok (.getfield 123, 3) := by decide +kernel
theorem dX11_wax_45 : decode cX11_wax 45 = .ok (.istore 5, 2) := by decide +kernel
theorem dX11_wax_47 : decode cX11_wax 47 = .ok (.aload 4, 2) := by decide +kernel
theorem dX11_wax_49 : decode cX11_wax 49 = .ok (.iload_n 2, 1) := by decide +kernel
theorem dX11_wax_50 : decode cX11_wax 50 = .ok (.putfield 128, 3) := by decide +kernel
theorem dX11_wax_53 : decode cX11_wax 53 = .ok (.aload 4, 2) := by decide +kernel
theorem dX11_wax_55 : decode cX11_wax 55 = .ok (.iload_n 3, 1) := by decide +kernel
theorem dX11_wax_56 : decode cX11_wax 56 = .ok (.putfield 123, 3) := by decide +kernel
theorem dX11_wax_59 : decode cX11_wax 59 = .ok (.iload 5, 2) := by decide +kernel
theorem dX11_wax_61 : decode cX11_wax 61 = .ok (.ireturn, 1) := by decide +kernel
set_option maxRecDepth 20000 in
theorem ggX11_coin_X4_find : GoodIn wsX11_coin wsX4_find := goodIn_r _ [6, 7, 8, 42, 43] (by decide +kernel) (by decide +kernel)
set_option maxRecDepth 20000 in
theorem gX11_coin_X4_find : GoodIn wsX11_coin (wsV RX11 119 RX4 yX4_find wsX4_find) := goodIn_app (goodIn_of _ (by decide +kernel)) ggX11_coin_X4_find
set_option maxRecDepth 20000 in
theorem ggX11_coin_X1_a : GoodIn wsX11_coin wsX1_a := goodIn_r _ [13, 14, 15, 44, 45, 46, 47, 48, 49, 50, 51, 52, 53] (by decide +kernel) (by decide +kernel)
set_option maxRecDepth 20000 in
theorem gX11_coin_X1_a : GoodIn wsX11_coin (wsV RX11 131 RX1 yX1_a wsX1_a) := goodIn_app (goodIn_of _ (by decide +kernel)) ggX11_coin_X1_a
set_option maxRecDepth 20000 in
theorem ggX11_coin_X11_isWithin : GoodIn wsX11_coin wsX11_isWithin := goodIn_r _ [19] (by decide +kernel) (by decide +kernel)
set_option maxRecDepth 20000 in
theorem gX11_coin_X11_isWithin : GoodIn wsX11_coin (va_wsS RX11 102 yX11_isWithin wsX11_isWithin) := goodIn_app (goodIn_of _ (by decide +kernel)) ggX11_coin_X11_isWithin
set_option maxRecDepth 20000 in
theorem ggX11_coin_X1_b : GoodIn wsX11_coin wsX1_b := goodIn_r _ [23, 24, 15, 44, 45, 46, 47, 48, 49, 50, 51, 52, 53] (by decide +kernel) (by decide +kernel)
set_option maxRecDepth 20000 in
theorem gX11_coin_X1_b : GoodIn wsX11_coin (wsV RX11 134 RX1 yX1_b wsX1_b) := goodIn_app (goodIn_of _ (by decide +kernel)) ggX11_coin_X1_b
set_option maxRecDepth 20000 in
theorem ggX11_coin_X1_lay : GoodIn wsX11_coin wsX1_lay := goodIn_r _ [28, 29, 30, 31, 32, 44, 45, 46, 47, 48, 49, 50, 51, 52, 53] (by decide +kernel) (by decide +kernel)
set_option maxRecDepth 20000 in
theorem gX11_coin_X1_lay : GoodIn wsX11_coin (wsV RX11 137 RX1 yX1_lay wsX1_lay) := goodIn_app (goodIn_of _ (by decide +kernel)) ggX11_coin_X1_lay
theorem dX11_coin_0 : decode cX11_coin 0 = .ok (.aload_n 0, 1) := by decide +kernel
theorem dX11_coin_1 : decode cX11_coin 1 = .ok (.getfield 26, 3) := by decide +kernel
theorem dX11_coin_4 : decode cX11_coin 4 = .ok (.iload_n 1, 1) := by decide +kernel
theorem dX11_coin_5 : decode cX11_coin 5 = .ok (.invokevirtual 119, 3) := by decide +kernel
theorem dX11_coin_8 : decode cX11_coin 8 = .ok (.astore 5, 2) := by decide +kernel
theorem dX11_coin_10 : decode cX11_coin 10 = .ok (.aload 5, 2) := by decide +kernel
theorem dX11_coin_12 : decode cX11_coin 12 = .ok (.ifnonnull 5, 3) := by decide +kernel
theorem dX11_coin_15 : decode cX11_coin 15 = .ok (.iconst (-1), 1) := by decide +kernel
theorem dX11_coin_16 : decode cX11_coin 16 = .ok (.ireturn, 1) := by decide +kernel
theorem dX11_coin_17 : decode cX11_coin 17 = .ok (.iload_n 2, 1) := by decide +kernel
theorem dX11_coin_18 : decode cX11_coin 18 = .ok (.iconst 0, 1) := by decide +kernel
theorem dX11_coin_19 : decode cX11_coin 19 = .ok (.aload 5, 2) := by decide +kernel
theorem dX11_coin_21 : decode cX11_coin 21 = .ok (.invokevirtual 131, 3) := by decide +kernel
theorem dX11_coin_24 : decode cX11_coin 24 = .ok (.iconst 1, 1) := by decide +kernel
theorem dX11_coin_25 : decode cX11_coin 25 = .ok (.isub, 1) := by decide +kernel
theorem dX11_coin_26 : decode cX11_coin 26 = .ok (.invokestatic 102, 3) := by decide +kernel
theorem dX11_coin_29 : decode cX11_coin 29 = .ok (.ifCond .eq 29, 3) := by decide +kernel
theorem dX11_coin_32 : decode cX11_coin 32 = .ok (.iload_n 3, 1) := by decide +kernel
theorem dX11_coin_33 : decode cX11_coin 33 = .ok (.iconst 0, 1) := by decide +kernel
theorem dX11_coin_34 : decode cX11_coin 34 = .ok (.aload 5, 2) := by decide +kernel
theorem dX11_coin_36 : decode cX11_coin 36 = .ok (.invokevirtual 134, 3) := by decide +kernel
theorem dX11_coin_39 : decode cX11_coin 39 = .ok (.iconst 1, 1) := by decide +kernel
theorem dX11_coin_40 : decode cX11_coin 40 = .ok (.isub, 1) := by decide +kernel
theorem dX11_coin_41 : decode cX11_coin 41 = .ok (.invokestatic 102, 3) := by decide +kernel
theorem dX11_coin_44 : decode cX11_coin 44 = .ok (.ifCond .eq 14, 3) := by decide +kernel
theorem dX11_coin_47 : decode cX11_coin 47 = .ok (.iload 4, 2) := by decide +kernel
theorem dX11_coin_49 : decode cX11_coin 49 = .ok (.iconst 1, 1) := by decide +kernel
theorem dX11_coin_50 : decode cX11_coin 50 = .ok (.bipush 99, 2) := by decide +kernel
theorem dX11_coin_52 : decode cX11_coin 52 = .ok (.invokestatic 102, 3) := by decide +kernel
theorem dX11_coin_55 : decode cX11_coin 55 = .ok (.ifCond .ne 6, 3) := by decide +kernel
theorem dX11_coin_58 : decode cX11_coin 58 = .ok (.bipush (-2), 2) := by decide +kernel
theorem dX11_coin_60 : decode cX11_coin 60 = .ok (.ireturn, 1) := by decide +kernel
theorem dX11_coin_61 : decode cX11_coin 61 = .ok (.aload 5, 2) := by decide +kernel
theorem dX11_coin_63 : decode cX11_coin 63 = .ok (.iload_n 2, 1) := by decide +kernel
theorem dX11_coin_64 : decode cX11_coin 64 = .ok (.iload_n 3, 1) := by decide +kernel
theorem dX11_coin_65 : decode cX11_coin 65 = .ok (.iload 4, 2) := by decide +kernel
theorem dX11_coin_67 : decode cX11_coin 67 = .ok (.invokevirtual 137, 3) := by decide +kernel
theorem dX11_coin_70 : decode cX11_coin 70 = .ok (.ireturn, 1) := by decide +kernel
set_option maxRecDepth 20000 in
theorem ggX11_empty_X4_find : GoodIn wsX11_empty wsX4_find := goodIn_r _ [7, 8, 9, 29, 30] (by decide +kernel) (by decide +kernel)
set_option maxRecDepth 20000 in
theorem gX11_empty_X4_find : GoodIn wsX11_empty (wsV RX11 119 RX4 yX4_find wsX4_find) := goodIn_app (goodIn_of _ (by decide +kernel)) ggX11_empty_X4_find
theorem dX11_empty_0 : decode cX11_empty 0 = .ok (.aload_n 0, 1) := by decide +kernel
theorem dX11_empty_1 : decode cX11_empty 1 = .ok (.getfield 26, 3) := by decide +kernel
theorem dX11_empty_4 : decode cX11_empty 4 = .ok (.iload_n 1, 1) := by decide +kernel
theorem dX11_empty_5 : decode cX11_empty 5 = .ok (.invokevirtual 119, 3) := by decide +kernel
theorem dX11_empty_8 : decode cX11_empty 8 = .ok (.astore_n 2, 1) := by decide +kernel
theorem dX11_empty_9 : decode cX11_empty 9 = .ok (.aload_n 2, 1) := by decide +kernel
theorem dX11_empty_10 : decode cX11_empty 10 = .ok (.ifnonnull 5, 3) := by decide +kernel
theorem dX11_empty_13 : decode cX11_empty 13 = .ok (.iconst (-1), 1) := by decide +kernel
theorem dX11_empty_14 : decode cX11_empty 14 = .ok (.ireturn, 1) := by decide +kernel
theorem dX11_empty_15 : decode cX11_empty 15 = .ok (.aload_n 2, 1) := by decide +kernel
theorem dX11_empty_16 : decode cX11_empty 16 = .ok (.getfield 141, 3) := by decide +kernel
theorem dX11_empty_19 : decode cX11_empty 19 = .ok (.istore_n 3, 1) := by decide +kernel
theorem dX11_empty_20 : decode cX11_empty 20 = .ok (.aload_n 2, 1) := by decide +kernel
theorem dX11_empty_21 : decode cX11_empty 21 = .ok (.iconst 0, 1) := by decide +kernel
theorem dX11_empty_22 : decode cX11_empty 22 = .ok (.putfield 141, 3) := by decide +kernel
theorem dX11_empty_25 : decode cX11_empty 25 = .ok (.iload_n 3, 1) := by decide +kernel
theorem dX11_empty_26 : decode cX11_empty 26 = .ok (.ireturn, 1) := by decide +kernel
set_option maxRecDepth 20000 in
theorem ggX11_about_X4_find : GoodIn wsX11_about wsX4_find := goodIn_r _ [14, 15, 16, 70, 71] (by decide +kernel) (by decide +kernel)
set_option maxRecDepth 20000 in
theorem gX11_about_X4_find : GoodIn wsX11_about (wsV RX11 119 RX4 yX4_find wsX4_find) := goodIn_app (goodIn_of _ (by decide +kernel)) ggX11_about_X4_find
set_option maxRecDepth 20000 in
theorem ggX11_about_X1_a : GoodIn wsX11_about wsX1_a := goodIn_r _ [21, 22, 23, 60, 61, 62, 63, 64, 65, 66, 67, 68, 69] (by decide +kernel) (by decide +kernel)
set_option maxRecDepth 20000 in
theorem gX11_about_X1_a : GoodIn wsX11_about (wsV RX11 131 RX1 yX1_a wsX1_a) := goodIn_app (goodIn_of _ (by decide +kernel)) ggX11_about_X1_a
set_option maxRecDepth 20000 in
theorem ggX11_about_X1_b : GoodIn wsX11_about wsX1_b := goodIn_r _ [27, 28, 23, 60, 61, 62, 63, 64, 65, 66, 67, 68, 69] (by decide +kernel) (by decide +kernel)
set_option maxRecDepth 20000 in
theorem gX11_about_X1_b : GoodIn wsX11_about (wsV RX11 134 RX1 yX1_b wsX1_b) := goodIn_app (goodIn_of _ (by decide +kernel)) ggX11_about_X1_b
set_option maxRecDepth 20000 in
theorem ggX11_about_X1_momentM : GoodIn wsX11_about wsX1_momentM := goodIn_r _ [32, 33, 34, 35, 36, 20, 37, 38, 39, 40, 18, 19, 21, 22, 23, 60, 61, 62, 63, 64, 65, 66, 67, 68, 69] (by decide +kernel) (by decide +kernel)
set_option maxRecDepth 20000 in
theorem gX11_about_X1_momentM : GoodIn wsX11_about (wsV RX11 157 RX1 yX1_momentM wsX1_momentM) := goodIn_app (goodIn_of _ (by decide +kernel)) ggX11_about_X1_momentM
set_option maxRecDepth 20000 in
theorem ggX11_about_X1_momentN : GoodIn wsX11_about wsX1_momentN := goodIn_r _ [44, 33, 45, 46, 47, 20, 48, 38, 49, 50, 25, 26, 27, 28, 23, 60, 61, 62, 63, 64, 65, 66, 67, 68, 69] (by decide +kernel) (by decide +kernel)
set_option maxRecDepth 20000 in
theorem gX11_about_X1_momentN : GoodIn wsX11_about (wsV RX11 160 RX1 yX1_momentN wsX1_momentN) := goodIn_app (goodIn_of _ (by decide +kernel)) ggX11_about_X1_momentN
theorem dX11_about_0 : decode cX11_about 0 = .ok (.aload_n 0, 1) := by decide +kernel
theorem dX11_about_1 : decode cX11_about 1 = .ok (.getfield 26, 3) := by decide +kernel
theorem dX11_about_4 : decode cX11_about 4 = .ok (.iload_n 1, 1) := by decide +kernel
theorem dX11_about_5 : decode cX11_about 5 = .ok (.invokevirtual 119, 3) := by decide +kernel
theorem dX11_about_8 : decode cX11_about 8 = .ok (.astore_n 3, 1) := by decide +kernel
theorem dX11_about_9 : decode cX11_about 9 = .ok (.aload_n 3, 1) := by decide +kernel
theorem dX11_about_10 : decode cX11_about 10 = .ok (.ifnonnull 5, 3) := by decide +kernel
theorem dX11_about_13 : decode cX11_about 13 = .ok (.iconst (-1), 1) := by decide +kernel
theorem dX11_about_14 : decode cX11_about 14 = .ok (.ireturn, 1) := by decide +kernel
theorem dX11_about_15 : decode cX11_about 15 = .ok (.iload_n 2, 1) := by decide +kernel
theorem dX11_about_16 : decode cX11_about 16 = .ok (.tableswitch 121 0 10 #[60, 65, 70, 75, 80, 85, 90, 95, 100, 105, 113], 60) := by decide +kernel
theorem dX11_about_76 : decode cX11_about 76 = .ok (.aload_n 3, 1) := by decide +kernel
theorem dX11_about_77 : decode cX11_about 77 = .ok (.getfield 144, 3) := by decide +kernel
theorem dX11_about_80 : decode cX11_about 80 = .ok (.ireturn, 1) := by decide +kernel
theorem dX11_about_81 : decode cX11_about 81 = .ok (.aload_n 3, 1) := by decide +kernel
theorem dX11_about_82 : decode cX11_about 82 = .ok (.getfield 147, 3) := by decide +kernel
theorem dX11_about_85 : decode cX11_about 85 = .ok (.ireturn, 1) := by decide +kernel
theorem dX11_about_86 : decode cX11_about 86 = .ok (.aload_n 3, 1) := by decide +kernel
theorem dX11_about_87 : decode cX11_about 87 = .ok (.getfield 150, 3) := by decide +kernel
theorem dX11_about_90 : decode cX11_about 90 = .ok (.ireturn, 1) := by decide +kernel
theorem dX11_about_91 : decode cX11_about 91 = .ok (.aload_n 3, 1) := by decide +kernel
theorem dX11_about_92 : decode cX11_about 92 = .ok (.getfield 153, 3) := by decide +kernel
theorem dX11_about_95 : decode cX11_about 95 = .ok (.ireturn, 1) := by decide +kernel
theorem dX11_about_96 : decode cX11_about 96 = .ok (.aload_n 3, 1) := by decide +kernel
theorem dX11_about_97 : decode cX11_about 97 = .ok (.invokevirtual 131, 3) := by decide +kernel
theorem dX11_about_100 : decode cX11_about 100 = .ok (.ireturn, 1) := by decide +kernel
theorem dX11_about_101 : decode cX11_about 101 = .ok (.aload_n 3, 1) := by decide +kernel
theorem dX11_about_102 : decode cX11_about 102 = .ok (.invokevirtual 134, 3) := by decide +kernel
theorem dX11_about_105 : decode cX11_about 105 = .ok (.ireturn, 1) := by decide +kernel
theorem dX11_about_106 : decode cX11_about 106 = .ok (.aload_n 3, 1) := by decide +kernel
theorem dX11_about_107 : decode cX11_about 107 = .ok (.getfield 128, 3) := by decide +kernel
theorem dX11_about_110 : decode cX11_about 110 = .ok (.ireturn, 1) := by decide +kernel
theorem dX11_about_111 : decode cX11_about 111 = .ok (.aload_n 3, 1) := by decide +kernel
theorem dX11_about_112 : decode cX11_about 112 = .ok (.getfield 123, 3) := by decide +kernel
theorem dX11_about_115 : decode cX11_about 115 = .ok (.ireturn, 1) := by decide +kernel
theorem dX11_about_116 : decode cX11_about 116 = .ok (.aload_n 3, 1) := by decide +kernel
theorem dX11_about_117 : decode cX11_about 117 = .ok (.getfield 141, 3) := by decide +kernel
theorem dX11_about_120 : decode cX11_about 120 = .ok (.ireturn, 1) := by decide +kernel
theorem dX11_about_121 : decode cX11_about 121 = .ok (.ldc 156, 2) := by decide +kernel
theorem dX11_about_123 : decode cX11_about 123 = .ok (.aload_n 3, 1) := by decide +kernel
theorem dX11_about_124 : decode cX11_about 124 = .ok (.invokevirtual 157, 3) := by decide +kernel
theorem dX11_about_127 : decode cX11_about 127 = .ok (.iadd, 1) := by decide +kernel
theorem dX11_about_128 : decode cX11_about 128 = .ok (.ireturn, 1) := by decide +kernel
theorem dX11_about_129 : decode cX11_about 129 = .ok (.ldc 156, 2) := by decide +kernel
theorem dX11_about_131 : decode cX11_about 131 = .ok (.aload_n 3, 1) := by decide +kernel
theorem dX11_about_132 : decode cX11_about 132 = .ok (.invokevirtual 160, 3) := by decide +kernel
theorem dX11_about_135 : decode cX11_about 135 = .ok (.iadd, 1) := by decide +kernel
theorem dX11_about_136 : decode cX11_about 136 = .ok (.ireturn, 1) := by decide +kernel
theorem dX11_about_137 : decode cX11_about 137 = .ok (.bipush (-2), 2) := by decide +kernel
theorem dX11_about_139 : decode cX11_about 139 = .ok (.ireturn, 1) := by decide +kernel
set_option maxRecDepth 20000 in
theorem ggX11_deep_X4_find : GoodIn wsX11_deep wsX4_find := goodIn_r _ [9, 10, 11, 64, 65] (by decide +kernel) (by decide +kernel)
set_option maxRecDepth 20000 in
theorem gX11_deep_X4_find : GoodIn wsX11_deep (wsV RX11 119 RX4 yX4_find wsX4_find) := goodIn_app (goodIn_of _ (by decide +kernel)) ggX11_deep_X4_find
set_option maxRecDepth 20000 in
theorem ggX11_deep_X11_isWithin : GoodIn wsX11_deep wsX11_isWithin := goodIn_r _ [15] (by decide +kernel) (by decide +kernel)
set_option maxRecDepth 20000 in
theorem gX11_deep_X11_isWithin : GoodIn wsX11_deep (va_wsS RX11 102 yX11_isWithin wsX11_isWithin) := goodIn_app (goodIn_of _ (by decide +kernel)) ggX11_deep_X11_isWithin
set_option maxRecDepth 20000 in
theorem ggX11_deep_X1_weightAt : GoodIn wsX11_deep wsX1_weightAt := goodIn_r _ [20, 21, 22, 23, 24, 25, 19, 26, 27, 28, 29, 30, 31, 32, 33, 34, 66, 67, 68, 69, 70, 71, 72, 73, 74, 75] (by decide +kernel) (by decide +kernel)
set_option maxRecDepth 20000 in
theorem gX11_deep_X1_weightAt : GoodIn wsX11_deep (wsV RX11 167 RX1 yX1_weightAt wsX1_weightAt) := goodIn_app (goodIn_of _ (by decide +kernel)) ggX11_deep_X1_weightAt
set_option maxRecDepth 20000 in
theorem ggX11_deep_X1_cells : GoodIn wsX11_deep wsX1_cells := goodIn_r _ [38, 39, 40, 41, 19, 42, 27, 43, 44, 45, 46, 47, 28, 66, 67, 68, 69, 70, 71, 72, 73, 74, 75] (by decide +kernel) (by decide +kernel)
set_option maxRecDepth 20000 in
theorem gX11_deep_X1_cells : GoodIn wsX11_deep (wsV RX11 173 RX1 yX1_cells wsX1_cells) := goodIn_app (goodIn_of _ (by decide +kernel)) ggX11_deep_X1_cells
set_option maxRecDepth 20000 in
theorem ggX11_deep_X5_tell : GoodIn wsX11_deep wsX5_tell := goodIn_r _ [51, 52, 53, 50, 54] (by decide +kernel) (by decide +kernel)
set_option maxRecDepth 20000 in
theorem gX11_deep_X5_tell : GoodIn wsX11_deep (va_wsS RX11 176 yX5_tell wsX5_tell) := goodIn_app (goodIn_of _ (by decide +kernel)) ggX11_deep_X5_tell
theorem dX11_deep_0 : decode cX11_deep 0 = .ok (.aload_n 0, 1) := by decide +kernel
theorem dX11_deep_1 : decode cX11_deep 1 = .ok (.getfield 26, 3) := by decide +kernel
theorem dX11_deep_4 : decode cX11_deep 4 = .ok (.iload_n 1, 1) := by decide +kernel
theorem dX11_deep_5 : decode cX11_deep 5 = .ok (.invokevirtual 119, 3) := by decide +kernel
theorem dX11_deep_8 : decode cX11_deep 8 = .ok (.astore 4, 2) := by decide +kernel
theorem dX11_deep_10 : decode cX11_deep 10 = .ok (.aload 4, 2) := by decide +kernel
theorem dX11_deep_12 : decode cX11_deep 12 = .ok (.ifnonnull 7, 3) := by decide +kernel
theorem dX11_deep_15 : decode cX11_deep 15 = .ok (.ldc2_w 163, 3) := by decide +kernel
theorem dX11_deep_18 : decode cX11_deep 18 = .ok (.lreturn, 1) := by decide +kernel
theorem dX11_deep_19 : decode cX11_deep 19 = .ok (.iload_n 2, 1) := by decide +kernel
theorem dX11_deep_20 : decode cX11_deep 20 = .ok (.iconst 0, 1) := by decide +kernel
theorem dX11_deep_21 : decode cX11_deep 21 = .ok (.sipush 999, 3) := by decide +kernel
theorem dX11_deep_24 : decode cX11_deep 24 = .ok (.invokestatic 102, 3) := by decide +kernel
theorem dX11_deep_27 : decode cX11_deep 27 = .ok (.ifCond .ne 7, 3) := by decide +kernel
theorem dX11_deep_30 : decode cX11_deep 30 = .ok (.ldc2_w 165, 3) := by decide +kernel
theorem dX11_deep_33 : decode cX11_deep 33 = .ok (.lreturn, 1) := by decide +kernel
theorem dX11_deep_34 : decode cX11_deep 34 = .ok (.aload 4, 2) := by decide +kernel
theorem dX11_deep_36 : decode cX11_deep 36 = .ok (.iload_n 2, 1) := by decide +kernel
theorem dX11_deep_37 : decode cX11_deep 37 = .ok (.invokevirtual 167, 3) := by decide +kernel
theorem dX11_deep_40 : decode cX11_deep 40 = .ok (.i2l, 1) := by decide +kernel
theorem dX11_deep_41 : decode cX11_deep 41 = .ok (.ldc2_w 171, 3) := by decide +kernel
theorem dX11_deep_44 : decode cX11_deep 44 = .ok (.aload 4, 2) := by decide +kernel
theorem dX11_deep_46 : decode cX11_deep 46 = .ok (.invokevirtual 173, 3) := by decide +kernel
theorem dX11_deep_49 : decode cX11_deep 49 = .ok (.i2l, 1) := by decide +kernel
theorem dX11_deep_50 : decode cX11_deep 50 = .ok (.lmul, 1) := by decide +kernel
theorem dX11_deep_51 : decode cX11_deep 51 = .ok (.iload_n 3, 1) := by decide +kernel
theorem dX11_deep_52 : decode cX11_deep 52 = .ok (.invokestatic 176, 3) := by decide +kernel
theorem dX11_deep_55 : decode cX11_deep 55 = .ok (.lreturn, 1) := by decide +kernel
set_option maxRecDepth 20000 in
theorem ggX11_corner_X4_find : GoodIn wsX11_corner wsX4_find := goodIn_r _ [8, 9, 10, 99, 100] (by decide +kernel) (by decide +kernel)
set_option maxRecDepth 20000 in
theorem gX11_corner_X4_find : GoodIn wsX11_corner (wsV RX11 119 RX4 yX4_find wsX4_find) := goodIn_app (goodIn_of _ (by decide +kernel)) ggX11_corner_X4_find
set_option maxRecDepth 20000 in
theorem ggX11_corner_X11_isWithin : GoodIn wsX11_corner wsX11_isWithin := goodIn_r _ [14] (by decide +kernel) (by decide +kernel)
set_option maxRecDepth 20000 in
theorem gX11_corner_X11_isWithin : GoodIn wsX11_corner (va_wsS RX11 102 yX11_isWithin wsX11_isWithin) := goodIn_app (goodIn_of _ (by decide +kernel)) ggX11_corner_X11_isWithin
set_option maxRecDepth 20000 in
theorem ggX11_corner_X1_cornerAt : GoodIn wsX11_corner wsX1_cornerAt := goodIn_r _ [19, 20, 21, 22, 18, 23, 24, 25, 26, 27, 28, 29, 30, 31, 32, 33, 34, 35, 36, 37, 38, 39, 40, 41, 42, 43, 44, 45, 46, 47, 48, 49, 50, 51, 52, 53, 54, 55, 56, 57, 58, 59, 60, 61, 62, 63, 64, 65, 66, 67, 68, 69, 70, 71, 72, 73, 74, 75, 76, 77, 101, 102, 103, 104, 105, 106, 107, 108, 109, 110] (by decide +kernel) (by decide +kernel)
set_option maxRecDepth 20000 in
theorem gX11_corner_X1_cornerAt : GoodIn wsX11_corner (wsV RX11 182 RX1 yX1_cornerAt wsX1_cornerAt) := goodIn_app (goodIn_of _ (by decide +kernel)) ggX11_corner_X1_cornerAt
set_option maxRecDepth 20000 in
theorem ggX11_corner_X1_cornerUnit : GoodIn wsX11_corner wsX1_cornerUnit := goodIn_r _ [81, 82, 74, 75, 76, 18, 77, 47, 48, 49, 50, 30, 51, 61, 62, 63, 64, 31, 101, 102, 103, 104, 105, 106, 107, 108, 109, 110] (by decide +kernel) (by decide +kernel)
set_option maxRecDepth 20000 in
theorem gX11_corner_X1_cornerUnit : GoodIn wsX11_corner (wsV RX11 186 RX1 yX1_cornerUnit wsX1_cornerUnit) := goodIn_app (goodIn_of _ (by decide +kernel)) ggX11_corner_X1_cornerUnit
set_option maxRecDepth 20000 in
theorem ggX11_corner_X5_tell : GoodIn wsX11_corner wsX5_tell := goodIn_r _ [86, 87, 88, 85, 89] (by decide +kernel) (by decide +kernel)
set_option maxRecDepth 20000 in
theorem gX11_corner_X5_tell : GoodIn wsX11_corner (va_wsS RX11 176 yX5_tell wsX5_tell) := goodIn_app (goodIn_of _ (by decide +kernel)) ggX11_corner_X5_tell
theorem dX11_corner_0 : decode cX11_corner 0 = .ok (.aload_n 0, 1) := by decide +kernel
theorem dX11_corner_1 : decode cX11_corner 1 = .ok (.getfield 26, 3) := by decide +kernel
theorem dX11_corner_4 : decode cX11_corner 4 = .ok (.iload_n 1, 1) := by decide +kernel
theorem dX11_corner_5 : decode cX11_corner 5 = .ok (.invokevirtual 119, 3) := by decide +kernel
theorem dX11_corner_8 : decode cX11_corner 8 = .ok (.astore 4, 2) := by decide +kernel
theorem dX11_corner_10 : decode cX11_corner 10 = .ok (.aload 4, 2) := by decide +kernel
theorem dX11_corner_12 : decode cX11_corner 12 = .ok (.ifnonnull 7, 3) := by decide +kernel
theorem dX11_corner_15 : decode cX11_corner 15 = .ok (.ldc2_w 163, 3) := by decide +kernel
theorem dX11_corner_18 : decode cX11_corner 18 = .ok (.lreturn, 1) := by decide +kernel
theorem dX11_corner_19 : decode cX11_corner 19 = .ok (.iload_n 2, 1) := by decide +kernel
theorem dX11_corner_20 : decode cX11_corner 20 = .ok (.iconst 0, 1) := by decide +kernel
theorem dX11_corner_21 : decode cX11_corner 21 = .ok (.sipush 999, 3) := by decide +kernel
theorem dX11_corner_24 : decode cX11_corner 24 = .ok (.invokestatic 102, 3) := by decide +kernel
theorem dX11_corner_27 : decode cX11_corner 27 = .ok (.ifCond .ne 7, 3) := by decide +kernel
theorem dX11_corner_30 : decode cX11_corner 30 = .ok (.ldc2_w 165, 3) := by decide +kernel
theorem dX11_corner_33 : decode cX11_corner 33 = .ok (.lreturn, 1) := by decide +kernel
theorem dX11_corner_34 : decode cX11_corner 34 = .ok (.aload 4, 2) := by decide +kernel
theorem dX11_corner_36 : decode cX11_corner 36 = .ok (.iload_n 2, 1) := by decide +kernel
theorem dX11_corner_37 : decode cX11_corner 37 = .ok (.invokevirtual 182, 3) := by decide +kernel
theorem dX11_corner_40 : decode cX11_corner 40 = .ok (.aload 4, 2) := by decide +kernel
theorem dX11_corner_42 : decode cX11_corner 42 = .ok (.invokevirtual 186, 3) := by decide +kernel
theorem dX11_corner_45 : decode cX11_corner 45 = .ok (.iload_n 3, 1) := by decide +kernel
theorem dX11_corner_46 : decode cX11_corner 46 = .ok (.invokestatic 176, 3) := by decide +kernel
theorem dX11_corner_49 : decode cX11_corner 49 = .ok (.lreturn, 1) := by decide +kernel
set_option maxRecDepth 20000 in
theorem ggX11_under_X4_find : GoodIn wsX11_under wsX4_find := goodIn_r _ [6, 7, 8, 94, 95] (by decide +kernel) (by decide +kernel)
set_option maxRecDepth 20000 in
theorem gX11_under_X4_find : GoodIn wsX11_under (wsV RX11 119 RX4 yX4_find wsX4_find) := goodIn_app (goodIn_of _ (by decide +kernel)) ggX11_under_X4_find
set_option maxRecDepth 20000 in
theorem ggX11_under_X11_isWithin : GoodIn wsX11_under wsX11_isWithin := goodIn_r _ [12] (by decide +kernel) (by decide +kernel)
set_option maxRecDepth 20000 in
theorem gX11_under_X11_isWithin : GoodIn wsX11_under (va_wsS RX11 102 yX11_isWithin wsX11_isWithin) := goodIn_app (goodIn_of _ (by decide +kernel)) ggX11_under_X11_isWithin
set_option maxRecDepth 20000 in
theorem ggX11_under_X1_cornerAt : GoodIn wsX11_under wsX1_cornerAt := goodIn_r _ [17, 18, 19, 20, 16, 21, 22, 23, 24, 25, 26, 27, 28, 29, 30, 31, 32, 33, 34, 35, 36, 37, 38, 39, 40, 41, 42, 43, 44, 45, 46, 47, 48, 49, 50, 51, 52, 53, 54, 55, 56, 57, 58, 59, 60, 61, 62, 63, 64, 65, 66, 67, 68, 69, 70, 71, 72, 73, 74, 75, 96, 97, 98, 99, 100, 101, 102, 103, 104, 105] (by decide +kernel) (by decide +kernel)
set_option maxRecDepth 20000 in
theorem gX11_under_X1_cornerAt : GoodIn wsX11_under (wsV RX11 182 RX1 yX1_cornerAt wsX1_cornerAt) := goodIn_app (goodIn_of _ (by decide +kernel)) ggX11_under_X1_cornerAt
set_option maxRecDepth 20000 in
theorem ggX11_under_X1_room : GoodIn wsX11_under wsX1_room := goodIn_r _ [79, 49, 80, 81, 82, 16, 83, 84, 72, 73, 74, 75, 45, 46, 47, 48, 28, 59, 60, 61, 62, 29, 96, 97, 98, 99, 100, 101, 102, 103, 104, 105] (by decide +kernel) (by decide +kernel)
set_option maxRecDepth 20000 in
theorem gX11_under_X1_room : GoodIn wsX11_under (wsV RX11 190 RX1 yX1_room wsX1_room) := goodIn_app (goodIn_of _ (by decide +kernel)) ggX11_under_X1_room
theorem dX11_under_0 : decode cX11_under 0 = .ok (.aload_n 0, 1) := by decide +kernel
theorem dX11_under_1 : decode cX11_under 1 = .ok (.getfield 26, 3) := by decide +kernel
theorem dX11_under_4 : decode cX11_under 4 = .ok (.iload_n 1, 1) := by decide +kernel
theorem dX11_under_5 : decode cX11_under 5 = .ok (.invokevirtual 119, 3) := by decide +kernel
theorem dX11_under_8 : decode cX11_under 8 = .ok (.astore_n 3, 1) := by decide +kernel
theorem dX11_under_9 : decode cX11_under 9 = .ok (.aload_n 3, 1) := by decide +kernel
theorem dX11_under_10 : decode cX11_under 10 = .ok (.ifnonnull 5, 3) := by decide +kernel
theorem dX11_under_13 : decode cX11_under 13 = .ok (.iconst (-1), 1) := by decide +kernel
theorem dX11_under_14 : decode cX11_under 14 = .ok (.ireturn, 1) := by decide +kernel
theorem dX11_under_15 : decode cX11_under 15 = .ok (.iload_n 2, 1) := by decide +kernel
theorem dX11_under_16 : decode cX11_under 16 = .ok (.iconst 0, 1) := by decide +kernel
theorem dX11_under_17 : decode cX11_under 17 = .ok (.sipush 999, 3) := by decide +kernel
theorem dX11_under_20 : decode cX11_under 20 = .ok (.invokestatic 102, 3) := by decide +kernel
theorem dX11_under_23 : decode cX11_under 23 = .ok (.ifCond .ne 6, 3) := by decide +kernel
theorem dX11_under_26 : decode cX11_under 26 = .ok (.bipush (-2), 2) := by decide +kernel
theorem dX11_under_28 : decode cX11_under 28 = .ok (.ireturn, 1) := by decide +kernel
theorem dX11_under_29 : decode cX11_under 29 = .ok (.aload_n 3, 1) := by decide +kernel
theorem dX11_under_30 : decode cX11_under 30 = .ok (.aload_n 3, 1) := by decide +kernel
theorem dX11_under_31 : decode cX11_under 31 = .ok (.iload_n 2, 1) := by decide +kernel
theorem dX11_under_32 : decode cX11_under 32 = .ok (.invokevirtual 182, 3) := by decide +kernel
theorem dX11_under_35 : decode cX11_under 35 = .ok (.invokevirtual 190, 3) := by decide +kernel
theorem dX11_under_38 : decode cX11_under 38 = .ok (.lconst 0, 1) := by decide +kernel
theorem dX11_under_39 : decode cX11_under 39 = .ok (.lcmp, 1) := by decide +kernel
theorem dX11_under_40 : decode cX11_under 40 = .ok (.ifCond .ge 7, 3) := by decide +kernel
theorem dX11_under_43 : decode cX11_under 43 = .ok (.iconst 1, 1) := by decide +kernel
theorem dX11_under_44 : decode cX11_under 44 = .ok (.goto 4, 3) := by decide +kernel
theorem dX11_under_47 : decode cX11_under 47 = .ok (.iconst 0, 1) := by decide +kernel
theorem dX11_under_48 : decode cX11_under 48 = .ok (.ireturn, 1) := by decide +kernel
set_option maxRecDepth 20000 in
theorem ggX11_life_X4_find : GoodIn wsX11_life wsX4_find := goodIn_r _ [6, 7, 8, 102, 103] (by decide +kernel) (by decide +kernel)
set_option maxRecDepth 20000 in
theorem gX11_life_X4_find : GoodIn wsX11_life (wsV RX11 119 RX4 yX4_find wsX4_find) := goodIn_app (goodIn_of _ (by decide +kernel)) ggX11_life_X4_find
set_option maxRecDepth 20000 in
theorem ggX11_life_X1_lastSecond : GoodIn wsX11_life wsX1_lastSecond := goodIn_r _ [13, 14, 15, 16, 17, 18, 19, 20, 21, 22, 12, 23, 24, 25, 26, 27, 28, 29, 30, 31, 32, 33, 34, 35, 36, 37, 38, 39, 40, 41, 42, 43, 44, 45, 46, 47, 48, 49, 50, 51, 52, 53, 54, 55, 56, 57, 58, 59, 60, 61, 62, 63, 64, 65, 66, 67, 68, 69, 70, 71, 72, 73, 74, 75, 76, 77, 78, 79, 80, 81, 82, 83, 84, 85, 86, 87, 88, 89, 90, 91, 92, 104, 105, 106, 107, 108, 109, 110, 111, 112, 113] (by decide +kernel) (by decide +kernel)
set_option maxRecDepth 20000 in
theorem gX11_life_X1_lastSecond : GoodIn wsX11_life (wsV RX11 194 RX1 yX1_lastSecond wsX1_lastSecond) := goodIn_app (goodIn_of _ (by decide +kernel)) ggX11_life_X1_lastSecond
theorem dX11_life_0 : decode cX11_life 0 = .ok (.aload_n 0, 1) := by decide +kernel
theorem dX11_life_1 : decode cX11_life 1 = .ok (.getfield 26, 3) := by decide +kernel
theorem dX11_life_4 : decode cX11_life 4 = .ok (.iload_n 1, 1) := by decide +kernel
theorem dX11_life_5 : decode cX11_life 5 = .ok (.invokevirtual 119, 3) := by decide +kernel
theorem dX11_life_8 : decode cX11_life 8 = .ok (.astore_n 2, 1) := by decide +kernel
theorem dX11_life_9 : decode cX11_life 9 = .ok (.aload_n 2, 1) := by decide +kernel
theorem dX11_life_10 : decode cX11_life 10 = .ok (.ifnonnull 5, 3) := by decide +kernel
theorem dX11_life_13 : decode cX11_life 13 = .ok (.iconst (-1), 1) := by decide +kernel
theorem dX11_life_14 : decode cX11_life 14 = .ok (.ireturn, 1) := by decide +kernel
theorem dX11_life_15 : decode cX11_life 15 = .ok (.aload_n 2, 1) := by decide +kernel
theorem dX11_life_16 : decode cX11_life 16 = .ok (.invokevirtual 194, 3) := by decide +kernel
theorem dX11_life_19 : decode cX11_life 19 = .ok (.ireturn, 1) := by decide +kernel
set_option maxRecDepth 20000 in
theorem ggX11_bears_X4_find : GoodIn wsX11_bears wsX4_find := goodIn_r _ [8, 9, 10, 49, 50] (by decide +kernel) (by decide +kernel)
set_option maxRecDepth 20000 in
theorem gX11_bears_X4_find : GoodIn wsX11_bears (wsV RX11 119 RX4 yX4_find wsX4_find) := goodIn_app (goodIn_of _ (by decide +kernel)) ggX11_bears_X4_find
set_option maxRecDepth 20000 in
theorem ggX11_bears_X11_canFold : GoodIn wsX11_bears wsX11_canFold := goodIn_r _ [14, 15, 16, 13, 17] (by decide +kernel) (by decide +kernel)
set_option maxRecDepth 20000 in
theorem gX11_bears_X11_canFold : GoodIn wsX11_bears (va_wsS RX11 112 yX11_canFold wsX11_canFold) := goodIn_app (goodIn_of _ (by decide +kernel)) ggX11_bears_X11_canFold
set_option maxRecDepth 20000 in
theorem ggX11_bears_X11_isWithin : GoodIn wsX11_bears wsX11_isWithin := goodIn_r _ [17] (by decide +kernel) (by decide +kernel)
set_option maxRecDepth 20000 in
theorem gX11_bears_X11_isWithin : GoodIn wsX11_bears (va_wsS RX11 102 yX11_isWithin wsX11_isWithin) := goodIn_app (goodIn_of _ (by decide +kernel)) ggX11_bears_X11_isWithin
set_option maxRecDepth 20000 in
theorem ggX11_bears_X1_load : GoodIn wsX11_bears wsX1_load := goodIn_r _ [22, 23, 24, 25, 26, 27, 21, 28, 29, 39, 40, 41, 42, 43, 44, 45, 46, 47, 48] (by decide +kernel) (by decide +kernel)
set_option maxRecDepth 20000 in
theorem gX11_bears_X1_load : GoodIn wsX11_bears (wsV RX11 197 RX1 yX1_load wsX1_load) := goodIn_app (goodIn_of _ (by decide +kernel)) ggX11_bears_X1_load
theorem dX11_bears_0 : decode cX11_bears 0 = .ok (.aload_n 0, 1) := by decide +kernel
theorem dX11_bears_1 : decode cX11_bears 1 = .ok (.getfield 26, 3) := by decide +kernel
theorem dX11_bears_4 : decode cX11_bears 4 = .ok (.iload_n 1, 1) := by decide +kernel
theorem dX11_bears_5 : decode cX11_bears 5 = .ok (.invokevirtual 119, 3) := by decide +kernel
theorem dX11_bears_8 : decode cX11_bears 8 = .ok (.astore 4, 2) := by decide +kernel
theorem dX11_bears_10 : decode cX11_bears 10 = .ok (.aload 4, 2) := by decide +kernel
theorem dX11_bears_12 : decode cX11_bears 12 = .ok (.ifnonnull 5, 3) := by decide +kernel
theorem dX11_bears_15 : decode cX11_bears 15 = .ok (.iconst (-1), 1) := by decide +kernel
theorem dX11_bears_16 : decode cX11_bears 16 = .ok (.ireturn, 1) := by decide +kernel
theorem dX11_bears_17 : decode cX11_bears 17 = .ok (.aload 4, 2) := by decide +kernel
theorem dX11_bears_19 : decode cX11_bears 19 = .ok (.getfield 144, 3) := by decide +kernel
theorem dX11_bears_22 : decode cX11_bears 22 = .ok (.aload 4, 2) := by decide +kernel
theorem dX11_bears_24 : decode cX11_bears 24 = .ok (.getfield 147, 3) := by decide +kernel
theorem dX11_bears_27 : decode cX11_bears 27 = .ok (.iload_n 2, 1) := by decide +kernel
theorem dX11_bears_28 : decode cX11_bears 28 = .ok (.invokestatic 112, 3) := by decide +kernel
theorem dX11_bears_31 : decode cX11_bears 31 = .ok (.ifCond .eq 13, 3) := by decide +kernel
theorem dX11_bears_34 : decode cX11_bears 34 = .ok (.iload_n 3, 1) := by decide +kernel
theorem dX11_bears_35 : decode cX11_bears 35 = .ok (.iconst 1, 1) := by decide +kernel
theorem dX11_bears_36 : decode cX11_bears 36 = .ok (.bipush 99, 2) := by decide +kernel
theorem dX11_bears_38 : decode cX11_bears 38 = .ok (.invokestatic 102, 3) := by decide +kernel
theorem dX11_bears_41 : decode cX11_bears 41 = .ok (.ifCond .ne 6, 3) := by decide +kernel
theorem dX11_bears_44 : decode cX11_bears 44 = .ok (.bipush (-2), 2) := by decide +kernel
theorem dX11_bears_46 : decode cX11_bears 46 = .ok (.ireturn, 1) := by decide +kernel
theorem dX11_bears_47 : decode cX11_bears 47 = .ok (.aload 4, 2) := by decide +kernel
theorem dX11_bears_49 : decode cX11_bears 49 = .ok (.iload_n 2, 1) := by decide +kernel
theorem dX11_bears_50 : decode cX11_bears 50 = .ok (.iload_n 3, 1) := by decide +kernel
theorem dX11_bears_51 : decode cX11_bears 51 = .ok (.invokevirtual 197, 3) := by decide +kernel
theorem dX11_bears_54 : decode cX11_bears 54 = .ok (.ireturn, 1) := by decide +kernel
set_option maxRecDepth 20000 in
theorem ggX11_rim_X4_find : GoodIn wsX11_rim wsX4_find := goodIn_r _ [6, 7, 8, 40, 41] (by decide +kernel) (by decide +kernel)
set_option maxRecDepth 20000 in
theorem gX11_rim_X4_find : GoodIn wsX11_rim (wsV RX11 119 RX4 yX4_find wsX4_find) := goodIn_app (goodIn_of _ (by decide +kernel)) ggX11_rim_X4_find
set_option maxRecDepth 20000 in
theorem ggX11_rim_X11_isWithin : GoodIn wsX11_rim wsX11_isWithin := goodIn_r _ [12] (by decide +kernel) (by decide +kernel)
set_option maxRecDepth 20000 in
theorem gX11_rim_X11_isWithin : GoodIn wsX11_rim (va_wsS RX11 102 yX11_isWithin wsX11_isWithin) := goodIn_app (goodIn_of _ (by decide +kernel)) ggX11_rim_X11_isWithin
set_option maxRecDepth 20000 in
theorem ggX11_rim_X1_strongestRim : GoodIn wsX11_rim wsX1_strongestRim := goodIn_r _ [17, 18, 19, 20, 11, 21, 9, 10, 12, 22, 23, 24, 16, 25, 26, 27, 28, 29, 30, 42, 43, 44, 45, 46, 47, 48, 49, 50, 51] (by decide +kernel) (by decide +kernel)
set_option maxRecDepth 20000 in
theorem gX11_rim_X1_strongestRim : GoodIn wsX11_rim (wsV RX11 200 RX1 yX1_strongestRim wsX1_strongestRim) := goodIn_app (goodIn_of _ (by decide +kernel)) ggX11_rim_X1_strongestRim
theorem dX11_rim_0 : decode cX11_rim 0 = .ok (.aload_n 0, 1) := by decide +kernel
theorem dX11_rim_1 : decode cX11_rim 1 = .ok (.getfield 26, 3) := by decide +kernel
theorem dX11_rim_4 : decode cX11_rim 4 = .ok (.iload_n 1, 1) := by decide +kernel
theorem dX11_rim_5 : decode cX11_rim 5 = .ok (.invokevirtual 119, 3) := by decide +kernel
theorem dX11_rim_8 : decode cX11_rim 8 = .ok (.astore_n 3, 1) := by decide +kernel
theorem dX11_rim_9 : decode cX11_rim 9 = .ok (.aload_n 3, 1) := by decide +kernel
theorem dX11_rim_10 : decode cX11_rim 10 = .ok (.ifnonnull 5, 3) := by decide +kernel
theorem dX11_rim_13 : decode cX11_rim 13 = .ok (.iconst (-1), 1) := by decide +kernel
theorem dX11_rim_14 : decode cX11_rim 14 = .ok (.ireturn, 1) := by decide +kernel
theorem dX11_rim_15 : decode cX11_rim 15 = .ok (.iload_n 2, 1) := by decide +kernel
theorem dX11_rim_16 : decode cX11_rim 16 = .ok (.iconst 1, 1) := by decide +kernel
theorem dX11_rim_17 : decode cX11_rim 17 = .ok (.bipush 99, 2) := by decide +kernel
theorem dX11_rim_19 : decode cX11_rim 19 = .ok (.invokestatic 102, 3) := by decide +kernel
theorem dX11_rim_22 : decode cX11_rim 22 = .ok (.ifCond .ne 6, 3) := by decide +kernel
theorem dX11_rim_25 : decode cX11_rim 25 = .ok (.bipush (-2), 2) := by decide +kernel
theorem dX11_rim_27 : decode cX11_rim 27 = .ok (.ireturn, 1) := by decide +kernel
theorem dX11_rim_28 : decode cX11_rim 28 = .ok (.aload_n 3, 1) := by decide +kernel
theorem dX11_rim_29 : decode cX11_rim 29 = .ok (.iload_n 2, 1) := by decide +kernel
theorem dX11_rim_30 : decode cX11_rim 30 = .ok (.invokevirtual 200, 3) := by decide +kernel
theorem dX11_rim_33 : decode cX11_rim 33 = .ok (.ireturn, 1) := by decide +kernel
set_option maxRecDepth 20000 in
theorem ggX11_orders_X4_find : GoodIn wsX11_orders wsX4_find := goodIn_r _ [7, 8, 9, 92, 93] (by decide +kernel) (by decide +kernel)
set_option maxRecDepth 20000 in
theorem gX11_orders_X4_find : GoodIn wsX11_orders (wsV RX11 119 RX4 yX4_find wsX4_find) := goodIn_app (goodIn_of _ (by decide +kernel)) ggX11_orders_X4_find
set_option maxRecDepth 20000 in
theorem ggX11_orders_X7_countAll : GoodIn wsX11_orders wsX7_countAll := goodIn_r _ [14, 15, 16, 17, 18, 19, 13, 20, 21, 22, 23, 24, 25, 26, 27, 28, 29, 30, 31, 32, 33, 34, 35, 36, 37, 38, 39, 40, 41, 42, 43, 44, 45, 46, 47, 48, 49, 50, 51, 52, 53, 54, 55, 56, 57, 58, 59, 60, 61, 62, 63, 64, 65, 66, 67, 68, 69, 70, 71, 72, 73, 74, 75, 76, 77, 78, 79, 80, 81, 82, 94, 95, 96, 97, 98, 99, 100, 101, 102, 103, 104, 105, 106, 107] (by decide +kernel) (by decide +kernel)
set_option maxRecDepth 20000 in
theorem gX11_orders_X7_countAll : GoodIn wsX11_orders (wsV RX11 203 RX7 yX7_countAll wsX7_countAll) := goodIn_app (goodIn_of _ (by decide +kernel)) ggX11_orders_X7_countAll
theorem dX11_orders_0 : decode cX11_orders 0 = .ok (.aload_n 0, 1) := by decide +kernel
theorem dX11_orders_1 : decode cX11_orders 1 = .ok (.getfield 26, 3) := by decide +kernel
theorem dX11_orders_4 : decode cX11_orders 4 = .ok (.iload_n 1, 1) := by decide +kernel
theorem dX11_orders_5 : decode cX11_orders 5 = .ok (.invokevirtual 119, 3) := by decide +kernel
theorem dX11_orders_8 : decode cX11_orders 8 = .ok (.astore_n 2, 1) := by decide +kernel
theorem dX11_orders_9 : decode cX11_orders 9 = .ok (.aload_n 2, 1) := by decide +kernel
theorem dX11_orders_10 : decode cX11_orders 10 = .ok (.ifnonnull 5, 3) := by decide +kernel
theorem dX11_orders_13 : decode cX11_orders 13 = .ok (.iconst (-1), 1) := by decide +kernel
theorem dX11_orders_14 : decode cX11_orders 14 = .ok (.ireturn, 1) := by decide +kernel
theorem dX11_orders_15 : decode cX11_orders 15 = .ok (.aload_n 0, 1) := by decide +kernel
theorem dX11_orders_16 : decode cX11_orders 16 = .ok (.getfield 46, 3) := by decide +kernel
theorem dX11_orders_19 : decode cX11_orders 19 = .ok (.aload_n 2, 1) := by decide +kernel
theorem dX11_orders_20 : decode cX11_orders 20 = .ok (.invokevirtual 203, 3) := by decide +kernel
theorem dX11_orders_23 : decode cX11_orders 23 = .ok (.ireturn, 1) := by decide +kernel
set_option maxRecDepth 20000 in
theorem ggX11_order_X4_find : GoodIn wsX11_order wsX4_find := goodIn_r _ [7, 8, 9, 100, 101] (by decide +kernel) (by decide +kernel)
set_option maxRecDepth 20000 in
theorem gX11_order_X4_find : GoodIn wsX11_order (wsV RX11 119 RX4 yX4_find wsX4_find) := goodIn_app (goodIn_of _ (by decide +kernel)) ggX11_order_X4_find
set_option maxRecDepth 20000 in
theorem ggX11_order_X7_coinAt : GoodIn wsX11_order wsX7_coinAt := goodIn_r _ [14, 15, 16, 17, 18, 13, 19, 20, 21, 22, 23, 24, 25, 26, 27, 28, 29, 30, 31, 32, 33, 34, 35, 36, 37, 38, 39, 40, 41, 42, 43, 44, 45, 46, 47, 48, 49, 50, 51, 52, 53, 54, 55, 56, 57, 58, 59, 60, 61, 62, 63, 64, 65, 66, 67, 68, 69, 70, 71, 72, 73, 74, 75, 76, 77, 78, 79, 80, 81, 82, 83, 84, 85, 86, 87, 88, 89, 90, 102, 103, 104, 105, 106, 107, 108, 109, 110, 111, 112, 113, 114, 115] (by decide +kernel) (by decide +kernel)
set_option maxRecDepth 20000 in
theorem gX11_order_X7_coinAt : GoodIn wsX11_order (wsV RX11 207 RX7 yX7_coinAt wsX7_coinAt) := goodIn_app (goodIn_of _ (by decide +kernel)) ggX11_order_X7_coinAt
theorem dX11_order_0 : decode cX11_order 0 = .ok (.aload_n 0, 1) := by decide +kernel
theorem dX11_order_1 : decode cX11_order 1 = .ok (.getfield 26, 3) := by decide +kernel
theorem dX11_order_4 : decode cX11_order 4 = .ok (.iload_n 1, 1) := by decide +kernel
theorem dX11_order_5 : decode cX11_order 5 = .ok (.invokevirtual 119, 3) := by decide +kernel
theorem dX11_order_8 : decode cX11_order 8 = .ok (.astore_n 3, 1) := by decide +kernel
theorem dX11_order_9 : decode cX11_order 9 = .ok (.aload_n 3, 1) := by decide +kernel
theorem dX11_order_10 : decode cX11_order 10 = .ok (.ifnonnull 5, 3) := by decide +kernel
theorem dX11_order_13 : decode cX11_order 13 = .ok (.iconst (-1), 1) := by decide +kernel
theorem dX11_order_14 : decode cX11_order 14 = .ok (.ireturn, 1) := by decide +kernel
theorem dX11_order_15 : decode cX11_order 15 = .ok (.aload_n 0, 1) := by decide +kernel
theorem dX11_order_16 : decode cX11_order 16 = .ok (.getfield 46, 3) := by decide +kernel
theorem dX11_order_19 : decode cX11_order 19 = .ok (.aload_n 3, 1) := by decide +kernel
theorem dX11_order_20 : decode cX11_order 20 = .ok (.iload_n 2, 1) := by decide +kernel
theorem dX11_order_21 : decode cX11_order 21 = .ok (.invokevirtual 207, 3) := by decide +kernel
theorem dX11_order_24 : decode cX11_order 24 = .ok (.ireturn, 1) := by decide +kernel
set_option maxRecDepth 20000 in
theorem ggX11_needs_X4_find : GoodIn wsX11_needs wsX4_find := goodIn_r _ [6, 7, 8, 32, 33] (by decide +kernel) (by decide +kernel)
set_option maxRecDepth 20000 in
theorem gX11_needs_X4_find : GoodIn wsX11_needs (wsV RX11 119 RX4 yX4_find wsX4_find) := goodIn_app (goodIn_of _ (by decide +kernel)) ggX11_needs_X4_find
set_option maxRecDepth 20000 in
theorem ggX11_needs_X11_isWithin : GoodIn wsX11_needs wsX11_isWithin := goodIn_r _ [12] (by decide +kernel) (by decide +kernel)
set_option maxRecDepth 20000 in
theorem gX11_needs_X11_isWithin : GoodIn wsX11_needs (va_wsS RX11 102 yX11_isWithin wsX11_isWithin) := goodIn_app (goodIn_of _ (by decide +kernel)) ggX11_needs_X11_isWithin
set_option maxRecDepth 20000 in
theorem ggX11_needs_X1_leastWax : GoodIn wsX11_needs wsX1_leastWax := goodIn_r _ [17, 18, 19, 20, 16, 21, 22, 34, 35, 36, 37, 38, 39, 40, 41, 42, 43] (by decide +kernel) (by decide +kernel)
set_option maxRecDepth 20000 in
theorem gX11_needs_X1_leastWax : GoodIn wsX11_needs (wsV RX11 211 RX1 yX1_leastWax wsX1_leastWax) := goodIn_app (goodIn_of _ (by decide +kernel)) ggX11_needs_X1_leastWax
theorem dX11_needs_0 : decode cX11_needs 0 = .ok (.aload_n 0, 1) := by decide +kernel
theorem dX11_needs_1 : decode cX11_needs 1 = .ok (.getfield 26, 3) := by decide +kernel
theorem dX11_needs_4 : decode cX11_needs 4 = .ok (.iload_n 1, 1) := by decide +kernel
theorem dX11_needs_5 : decode cX11_needs 5 = .ok (.invokevirtual 119, 3) := by decide +kernel
theorem dX11_needs_8 : decode cX11_needs 8 = .ok (.astore_n 3, 1) := by decide +kernel
theorem dX11_needs_9 : decode cX11_needs 9 = .ok (.aload_n 3, 1) := by decide +kernel
theorem dX11_needs_10 : decode cX11_needs 10 = .ok (.ifnonnull 5, 3) := by decide +kernel
theorem dX11_needs_13 : decode cX11_needs 13 = .ok (.iconst (-1), 1) := by decide +kernel
theorem dX11_needs_14 : decode cX11_needs 14 = .ok (.ireturn, 1) := by decide +kernel
theorem dX11_needs_15 : decode cX11_needs 15 = .ok (.iload_n 2, 1) := by decide +kernel
theorem dX11_needs_16 : decode cX11_needs 16 = .ok (.iconst 0, 1) := by decide +kernel
theorem dX11_needs_17 : decode cX11_needs 17 = .ok (.bipush 99, 2) := by decide +kernel
theorem dX11_needs_19 : decode cX11_needs 19 = .ok (.invokestatic 102, 3) := by decide +kernel
theorem dX11_needs_22 : decode cX11_needs 22 = .ok (.ifCond .ne 6, 3) := by decide +kernel
theorem dX11_needs_25 : decode cX11_needs 25 = .ok (.bipush (-2), 2) := by decide +kernel
theorem dX11_needs_27 : decode cX11_needs 27 = .ok (.ireturn, 1) := by decide +kernel
theorem dX11_needs_28 : decode cX11_needs 28 = .ok (.aload_n 3, 1) := by decide +kernel
theorem dX11_needs_29 : decode cX11_needs 29 = .ok (.iload_n 2, 1) := by decide +kernel
theorem dX11_needs_30 : decode cX11_needs 30 = .ok (.invokevirtual 211, 3) := by decide +kernel
theorem dX11_needs_33 : decode cX11_needs 33 = .ok (.ireturn, 1) := by decide +kernel
set_option maxRecDepth 20000 in
theorem ggX11_time_X4_find : GoodIn wsX11_time wsX4_find := goodIn_r _ [7, 8, 9, 132, 133] (by decide +kernel) (by decide +kernel)
set_option maxRecDepth 20000 in
theorem gX11_time_X4_find : GoodIn wsX11_time (wsV RX11 119 RX4 yX4_find wsX4_find) := goodIn_app (goodIn_of _ (by decide +kernel)) ggX11_time_X4_find
set_option maxRecDepth 20000 in
theorem ggX11_time_X6_hasLane : GoodIn wsX11_time wsX6_hasLane := goodIn_r _ [14, 15, 134, 135, 136, 137, 138] (by decide +kernel) (by decide +kernel)
set_option maxRecDepth 20000 in
theorem gX11_time_X6_hasLane : GoodIn wsX11_time (wsV RX11 214 RX6 yX6_hasLane wsX6_hasLane) := goodIn_app (goodIn_of _ (by decide +kernel)) ggX11_time_X6_hasLane
set_option maxRecDepth 20000 in
theorem ggX11_time_X6_laneSeconds : GoodIn wsX11_time wsX6_laneSeconds := goodIn_r _ [19, 20, 21, 22, 23, 13, 24, 25, 26, 27, 28, 29, 30, 31, 32, 33, 34, 11, 12, 14, 15, 134, 135, 136, 137, 138] (by decide +kernel) (by decide +kernel)
set_option maxRecDepth 20000 in
theorem gX11_time_X6_laneSeconds : GoodIn wsX11_time (wsV RX11 218 RX6 yX6_laneSeconds wsX6_laneSeconds) := goodIn_app (goodIn_of _ (by decide +kernel)) ggX11_time_X6_laneSeconds
set_option maxRecDepth 20000 in
theorem ggX11_time_X6_hasWall : GoodIn wsX11_time wsX6_hasWall := goodIn_r _ [38, 20, 25, 26, 27, 13, 28, 29, 30, 31, 32, 33, 34, 11, 12, 14, 15, 134, 135, 136, 137, 138] (by decide +kernel) (by decide +kernel)
set_option maxRecDepth 20000 in
theorem gX11_time_X6_hasWall : GoodIn wsX11_time (wsV RX11 221 RX6 yX6_hasWall wsX6_hasWall) := goodIn_app (goodIn_of _ (by decide +kernel)) ggX11_time_X6_hasWall
set_option maxRecDepth 20000 in
theorem ggX11_time_X1_lastSecond : GoodIn wsX11_time wsX1_lastSecond := goodIn_r _ [43, 44, 45, 46, 47, 48, 49, 50, 51, 52, 42, 53, 54, 55, 56, 57, 58, 59, 60, 61, 62, 63, 64, 65, 66, 67, 68, 69, 70, 71, 72, 73, 74, 75, 76, 77, 78, 79, 80, 81, 82, 83, 84, 85, 86, 87, 88, 89, 90, 91, 92, 93, 94, 95, 96, 97, 98, 99, 100, 101, 102, 103, 104, 105, 106, 107, 108, 109, 110, 111, 112, 113, 114, 115, 116, 117, 118, 119, 120, 121, 122, 139, 140, 141, 142, 143, 144, 145, 146, 147, 148] (by decide +kernel) (by decide +kernel)
set_option maxRecDepth 20000 in
theorem gX11_time_X1_lastSecond : GoodIn wsX11_time (wsV RX11 194 RX1 yX1_lastSecond wsX1_lastSecond) := goodIn_app (goodIn_of _ (by decide +kernel)) ggX11_time_X1_lastSecond
theorem dX11_time_0 : decode cX11_time 0 = .ok (.aload_n 0, 1) := by decide +kernel
theorem dX11_time_1 : decode cX11_time 1 = .ok (.getfield 26, 3) := by decide +kernel
theorem dX11_time_4 : decode cX11_time 4 = .ok (.iload_n 1, 1) := by decide +kernel
theorem dX11_time_5 : decode cX11_time 5 = .ok (.invokevirtual 119, 3) := by decide +kernel
theorem dX11_time_8 : decode cX11_time 8 = .ok (.astore_n 3, 1) := by decide +kernel
theorem dX11_time_9 : decode cX11_time 9 = .ok (.aload_n 3, 1) := by decide +kernel
theorem dX11_time_10 : decode cX11_time 10 = .ok (.ifnull 14, 3) := by decide +kernel
theorem dX11_time_13 : decode cX11_time 13 = .ok (.aload_n 0, 1) := by decide +kernel
theorem dX11_time_14 : decode cX11_time 14 = .ok (.getfield 19, 3) := by decide +kernel
theorem dX11_time_17 : decode cX11_time 17 = .ok (.iload_n 2, 1) := by decide +kernel
theorem dX11_time_18 : decode cX11_time 18 = .ok (.invokevirtual 214, 3) := by decide +kernel
theorem dX11_time_21 : decode cX11_time 21 = .ok (.ifCond .ne 5, 3) := by decide +kernel
theorem dX11_time_24 : decode cX11_time 24 = .ok (.iconst (-1), 1) := by decide +kernel
theorem dX11_time_25 : decode cX11_time 25 = .ok (.ireturn, 1) := by decide +kernel
theorem dX11_time_26 : decode cX11_time 26 = .ok (.aload_n 0, 1) := by decide +kernel
theorem dX11_time_27 : decode cX11_time 27 = .ok (.getfield 19, 3) := by decide +kernel
theorem dX11_time_30 : decode cX11_time 30 = .ok (.iload_n 2, 1) := by decide +kernel
theorem dX11_time_31 : decode cX11_time 31 = .ok (.invokevirtual 218, 3) := by decide +kernel
theorem dX11_time_34 : decode cX11_time 34 = .ok (.istore 4, 2) := by decide +kernel
theorem dX11_time_36 : decode cX11_time 36 = .ok (.aload_n 0, 1) := by decide +kernel
theorem dX11_time_37 : decode cX11_time 37 = .ok (.getfield 19, 3) := by decide +kernel
theorem dX11_time_40 : decode cX11_time 40 = .ok (.iload_n 2, 1) := by decide +kernel
theorem dX11_time_41 : decode cX11_time 41 = .ok (.invokevirtual 221, 3) := by decide +kernel
theorem dX11_time_44 : decode cX11_time 44 = .ok (.ifCond .ne 12, 3) := by decide +kernel
theorem dX11_time_47 : decode cX11_time 47 = .ok (.iload 4, 2) := by decide +kernel
theorem dX11_time_49 : decode cX11_time 49 = .ok (.aload_n 3, 1) := by decide +kernel
theorem dX11_time_50 : decode cX11_time 50 = .ok (.invokevirtual 194, 3) := by decide +kernel
theorem dX11_time_53 : decode cX11_time 53 = .ok (.if_icmp .le 6, 3) := by decide +kernel
theorem dX11_time_56 : decode cX11_time 56 = .ok (.bipush (-9), 2) := by decide +kernel
theorem dX11_time_58 : decode cX11_time 58 = .ok (.ireturn, 1) := by decide +kernel
theorem dX11_time_59 : decode cX11_time 59 = .ok (.iload 4, 2) := by decide +kernel
theorem dX11_time_61 : decode cX11_time 61 = .ok (.ireturn, 1) := by decide +kernel
set_option maxRecDepth 20000 in
theorem ggX11_far_X4_find : GoodIn wsX11_far wsX4_find := goodIn_r _ [11, 12, 13, 161, 162] (by decide +kernel) (by decide +kernel)
set_option maxRecDepth 20000 in
theorem gX11_far_X4_find : GoodIn wsX11_far (wsV RX11 119 RX4 yX4_find wsX4_find) := goodIn_app (goodIn_of _ (by decide +kernel)) ggX11_far_X4_find
set_option maxRecDepth 20000 in
theorem ggX11_far_X6_hasLane : GoodIn wsX11_far wsX6_hasLane := goodIn_r _ [18, 19, 156, 157, 158, 159, 160] (by decide +kernel) (by decide +kernel)
set_option maxRecDepth 20000 in
theorem gX11_far_X6_hasLane : GoodIn wsX11_far (wsV RX11 214 RX6 yX6_hasLane wsX6_hasLane) := goodIn_app (goodIn_of _ (by decide +kernel)) ggX11_far_X6_hasLane
set_option maxRecDepth 20000 in
theorem ggX11_far_X1_lastSecond : GoodIn wsX11_far wsX1_lastSecond := goodIn_r _ [24, 25, 26, 27, 28, 29, 30, 31, 32, 33, 23, 34, 35, 36, 37, 38, 39, 40, 41, 42, 43, 44, 45, 46, 47, 48, 49, 50, 51, 52, 53, 54, 55, 56, 57, 58, 59, 60, 61, 62, 63, 64, 65, 66, 67, 68, 69, 70, 71, 72, 73, 74, 75, 76, 77, 78, 79, 80, 81, 82, 83, 84, 85, 86, 87, 88, 89, 90, 91, 92, 93, 94, 95, 96, 97, 98, 99, 100, 101, 102, 103, 163, 164, 165, 166, 167, 168, 169, 170, 171, 172] (by decide +kernel) (by decide +kernel)
set_option maxRecDepth 20000 in
theorem gX11_far_X1_lastSecond : GoodIn wsX11_far (wsV RX11 194 RX1 yX1_lastSecond wsX1_lastSecond) := goodIn_app (goodIn_of _ (by decide +kernel)) ggX11_far_X1_lastSecond
set_option maxRecDepth 20000 in
theorem ggX11_far_X3_follow : GoodIn wsX11_far wsX3_follow := goodIn_r _ [108, 109, 110, 111, 112, 113, 114, 115, 17, 116, 117, 118, 119, 120, 121, 122, 123, 124, 125, 126, 127, 15, 16, 18, 19, 128, 129, 130, 131, 132, 133, 154, 155, 156, 157, 158, 159, 160] (by decide +kernel) (by decide +kernel)
set_option maxRecDepth 20000 in
theorem gX11_far_X3_follow : GoodIn wsX11_far (wsV RX11 224 RX3 yX3_follow wsX3_follow) := goodIn_app (goodIn_of _ (by decide +kernel)) ggX11_far_X3_follow
set_option maxRecDepth 20000 in
theorem ggX11_far_X5_powerOfTen : GoodIn wsX11_far wsX5_powerOfTen := goodIn_r _ [137, 138] (by decide +kernel) (by decide +kernel)
set_option maxRecDepth 20000 in
theorem gX11_far_X5_powerOfTen : GoodIn wsX11_far (va_wsS RX11 232 yX5_powerOfTen wsX5_powerOfTen) := goodIn_app (goodIn_of _ (by decide +kernel)) ggX11_far_X5_powerOfTen
set_option maxRecDepth 20000 in
theorem ggX11_far_X5_tell : GoodIn wsX11_far wsX5_tell := goodIn_r _ [141, 142, 143, 136, 144] (by decide +kernel) (by decide +kernel)
set_option maxRecDepth 20000 in
theorem gX11_far_X5_tell : GoodIn wsX11_far (va_wsS RX11 176 yX5_tell wsX5_tell) := goodIn_app (goodIn_of _ (by decide +kernel)) ggX11_far_X5_tell
theorem dX11_far_0 : decode cX11_far 0 = .ok (.aload_n 0, 1) := by decide +kernel
theorem dX11_far_1 : decode cX11_far 1 = .ok (.getfield 26, 3) := by decide +kernel
theorem dX11_far_4 : decode cX11_far 4 = .ok (.iload_n 1, 1) := by decide +kernel
theorem dX11_far_5 : decode cX11_far 5 = .ok (.invokevirtual 119, 3) := by decide +kernel
theorem dX11_far_8 : decode cX11_far 8 = .ok (.astore 4, 2) := by decide +kernel
theorem dX11_far_10 : decode cX11_far 10 = .ok (.aload 4, 2) := by decide +kernel
theorem dX11_far_12 : decode cX11_far 12 = .ok (.ifnull 14, 3) := by decide +kernel
theorem dX11_far_15 : decode cX11_far 15 = .ok (.aload_n 0, 1) := by decide +kernel
theorem dX11_far_16 : decode cX11_far 16 = .ok (.getfield 19, 3) := by decide +kernel
theorem dX11_far_19 : decode cX11_far 19 = .ok (.iload_n 2, 1) := by decide +kernel
theorem dX11_far_20 : decode cX11_far 20 = .ok (.invokevirtual 214, 3) := by decide +kernel
theorem dX11_far_23 : decode cX11_far 23 = .ok (.ifCond .ne 7, 3) := by decide +kernel
theorem dX11_far_26 : decode cX11_far 26 = .ok (.ldc2_w 163, 3) := by decide +kernel
theorem dX11_far_29 : decode cX11_far 29 = .ok (.lreturn, 1) := by decide +kernel
theorem dX11_far_30 : decode cX11_far 30 = .ok (.aload_n 0, 1) := by decide +kernel
theorem dX11_far_31 : decode cX11_far 31 = .ok (.getfield 53, 3) := by decide +kernel
theorem dX11_far_34 : decode cX11_far 34 = .ok (.aload_n 0, 1) := by decide +kernel
theorem dX11_far_35 : decode cX11_far 35 = .ok (.getfield 19, 3) := by decide +kernel
theorem dX11_far_38 : decode cX11_far 38 = .ok (.iload_n 2, 1) := by decide +kernel
theorem dX11_far_39 : decode cX11_far 39 = .ok (.aload 4, 2) := by decide +kernel
theorem dX11_far_41 : decode cX11_far 41 = .ok (.invokevirtual 194, 3) := by decide +kernel
theorem dX11_far_44 : decode cX11_far 44 = .ok (.invokevirtual 224, 3) := by decide +kernel
theorem dX11_far_47 : decode cX11_far 47 = .ok (.aload_n 0, 1) := by decide +kernel
theorem dX11_far_48 : decode cX11_far 48 = .ok (.getfield 53, 3) := by decide +kernel
theorem dX11_far_51 : decode cX11_far 51 = .ok (.getfield 228, 3) := by decide +kernel
theorem dX11_far_54 : decode cX11_far 54 = .ok (.aload_n 0, 1) := by decide +kernel
theorem dX11_far_55 : decode cX11_far 55 = .ok (.getfield 19, 3) := by decide +kernel
theorem dX11_far_58 : decode cX11_far 58 = .ok (.getfield 91, 3) := by decide +kernel
theorem dX11_far_61 : decode cX11_far 61 = .ok (.invokestatic 232, 3) := by decide +kernel
theorem dX11_far_64 : decode cX11_far 64 = .ok (.iload_n 3, 1) := by decide +kernel
theorem dX11_far_65 : decode cX11_far 65 = .ok (.invokestatic 176, 3) := by decide +kernel
theorem dX11_far_68 : decode cX11_far 68 = .ok (.lreturn, 1) := by decide +kernel
set_option maxRecDepth 20000 in
theorem ggX11_ended_X4_find : GoodIn wsX11_ended wsX4_find := goodIn_r _ [9, 10, 11, 156, 157] (by decide +kernel) (by decide +kernel)
set_option maxRecDepth 20000 in
theorem gX11_ended_X4_find : GoodIn wsX11_ended (wsV RX11 119 RX4 yX4_find wsX4_find) := goodIn_app (goodIn_of _ (by decide +kernel)) ggX11_ended_X4_find
set_option maxRecDepth 20000 in
theorem ggX11_ended_X6_has : GoodIn wsX11_ended wsX6_has := goodIn_r _ [16, 17, 18, 19, 20, 15, 21, 22, 158, 159, 160, 161, 162] (by decide +kernel) (by decide +kernel)
set_option maxRecDepth 20000 in
theorem gX11_ended_X6_has : GoodIn wsX11_ended (wsV RX11 94 RX6 yX6_has wsX6_has) := goodIn_app (goodIn_of _ (by decide +kernel)) ggX11_ended_X6_has
set_option maxRecDepth 20000 in
theorem ggX11_ended_X1_lastSecond : GoodIn wsX11_ended wsX1_lastSecond := goodIn_r _ [27, 28, 29, 30, 31, 32, 33, 34, 35, 36, 26, 37, 38, 39, 40, 41, 42, 43, 44, 45, 46, 47, 48, 49, 50, 51, 52, 53, 54, 55, 56, 57, 58, 59, 60, 61, 62, 63, 64, 65, 66, 67, 68, 69, 70, 71, 72, 73, 74, 75, 76, 77, 78, 79, 80, 81, 82, 83, 84, 85, 86, 87, 88, 89, 90, 91, 92, 93, 94, 95, 96, 97, 98, 99, 100, 101, 102, 103, 104, 105, 106, 163, 164, 165, 166, 167, 168, 169, 170, 171, 172] (by decide +kernel) (by decide +kernel)
set_option maxRecDepth 20000 in
theorem gX11_ended_X1_lastSecond : GoodIn wsX11_ended (wsV RX11 194 RX1 yX1_lastSecond wsX1_lastSecond) := goodIn_app (goodIn_of _ (by decide +kernel)) ggX11_ended_X1_lastSecond
set_option maxRecDepth 20000 in
theorem ggX11_ended_X3_follow : GoodIn wsX11_ended wsX3_follow := goodIn_r _ [111, 112, 113, 114, 115, 116, 117, 118, 15, 119, 120, 121, 122, 123, 124, 125, 13, 14, 16, 17, 18, 19, 20, 21, 22, 126, 127, 128, 129, 130, 131, 173, 174, 158, 159, 160, 161, 162] (by decide +kernel) (by decide +kernel)
set_option maxRecDepth 20000 in
theorem gX11_ended_X3_follow : GoodIn wsX11_ended (wsV RX11 224 RX3 yX3_follow wsX3_follow) := goodIn_app (goodIn_of _ (by decide +kernel)) ggX11_ended_X3_follow
set_option maxRecDepth 20000 in
theorem ggX11_ended_X3_endedAt : GoodIn wsX11_ended wsX3_endedAt := goodIn_r _ [135, 114, 173, 174] (by decide +kernel) (by decide +kernel)
set_option maxRecDepth 20000 in
theorem gX11_ended_X3_endedAt : GoodIn wsX11_ended (wsV RX11 235 RX3 yX3_endedAt wsX3_endedAt) := goodIn_app (goodIn_of _ (by decide +kernel)) ggX11_ended_X3_endedAt
set_option maxRecDepth 20000 in
theorem ggX11_ended_X5_powerOfTen : GoodIn wsX11_ended wsX5_powerOfTen := goodIn_r _ [139, 140] (by decide +kernel) (by decide +kernel)
set_option maxRecDepth 20000 in
theorem gX11_ended_X5_powerOfTen : GoodIn wsX11_ended (va_wsS RX11 232 yX5_powerOfTen wsX5_powerOfTen) := goodIn_app (goodIn_of _ (by decide +kernel)) ggX11_ended_X5_powerOfTen
set_option maxRecDepth 20000 in
theorem ggX11_ended_X5_tell : GoodIn wsX11_ended wsX5_tell := goodIn_r _ [143, 144, 145, 138, 146] (by decide +kernel) (by decide +kernel)
set_option maxRecDepth 20000 in
theorem gX11_ended_X5_tell : GoodIn wsX11_ended (va_wsS RX11 176 yX5_tell wsX5_tell) := goodIn_app (goodIn_of _ (by decide +kernel)) ggX11_ended_X5_tell
theorem dX11_ended_0 : decode cX11_ended 0 = .ok (.aload_n 0, 1) := by decide +kernel
theorem dX11_ended_1 : decode cX11_ended 1 = .ok (.getfield 26, 3) := by decide +kernel
theorem dX11_ended_4 : decode cX11_ended 4 = .ok (.iload_n 1, 1) := by decide +kernel
theorem dX11_ended_5 : decode cX11_ended 5 = .ok (.invokevirtual 119, 3) := by decide +kernel
theorem dX11_ended_8 : decode cX11_ended 8 = .ok (.astore 5, 2) := by decide +kernel
theorem dX11_ended_10 : decode cX11_ended 10 = .ok (.aload 5, 2) := by decide +kernel
theorem dX11_ended_12 : decode cX11_ended 12 = .ok (.ifnull 15, 3) := by decide +kernel
theorem dX11_ended_15 : decode cX11_ended 15 = .ok (.aload_n 0, 1) := by decide +kernel
theorem dX11_ended_16 : decode cX11_ended 16 = .ok (.getfield 19, 3) := by decide +kernel
theorem dX11_ended_19 : decode cX11_ended 19 = .ok (.iload_n 2, 1) := by decide +kernel
theorem dX11_ended_20 : decode cX11_ended 20 = .ok (.iload_n 3, 1) := by decide +kernel
theorem dX11_ended_21 : decode cX11_ended 21 = .ok (.invokevirtual 94, 3) := by decide +kernel
theorem dX11_ended_24 : decode cX11_ended 24 = .ok (.ifCond .ne 7, 3) := by decide +kernel
theorem dX11_ended_27 : decode cX11_ended 27 = .ok (.ldc2_w 163, 3) := by decide +kernel
theorem dX11_ended_30 : decode cX11_ended 30 = .ok (.lreturn, 1) := by decide +kernel
theorem dX11_ended_31 : decode cX11_ended 31 = .ok (.aload_n 0, 1) := by decide +kernel
theorem dX11_ended_32 : decode cX11_ended 32 = .ok (.getfield 53, 3) := by decide +kernel
theorem dX11_ended_35 : decode cX11_ended 35 = .ok (.aload_n 0, 1) := by decide +kernel
theorem dX11_ended_36 : decode cX11_ended 36 = .ok (.getfield 19, 3) := by decide +kernel
theorem dX11_ended_39 : decode cX11_ended 39 = .ok (.iload_n 2, 1) := by decide +kernel
theorem dX11_ended_40 : decode cX11_ended 40 = .ok (.aload 5, 2) := by decide +kernel
theorem dX11_ended_42 : decode cX11_ended 42 = .ok (.invokevirtual 194, 3) := by decide +kernel
theorem dX11_ended_45 : decode cX11_ended 45 = .ok (.invokevirtual 224, 3) := by decide +kernel
theorem dX11_ended_48 : decode cX11_ended 48 = .ok (.aload_n 0, 1) := by decide +kernel
theorem dX11_ended_49 : decode cX11_ended 49 = .ok (.getfield 53, 3) := by decide +kernel
theorem dX11_ended_52 : decode cX11_ended 52 = .ok (.iload_n 3, 1) := by decide +kernel
theorem dX11_ended_53 : decode cX11_ended 53 = .ok (.invokevirtual 235, 3) := by decide +kernel
theorem dX11_ended_56 : decode cX11_ended 56 = .ok (.iload_n 3, 1) := by decide +kernel
theorem dX11_ended_57 : decode cX11_ended 57 = .ok (.iconst 1, 1) := by decide +kernel
theorem dX11_ended_58 : decode cX11_ended 58 = .ok (.iadd, 1) := by decide +kernel
theorem dX11_ended_59 : decode cX11_ended 59 = .ok (.invokestatic 232, 3) := by decide +kernel
theorem dX11_ended_62 : decode cX11_ended 62 = .ok (.iload 4, 2) := by decide +kernel
theorem dX11_ended_64 : decode cX11_ended 64 = .ok (.invokestatic 176, 3) := by decide +kernel
theorem dX11_ended_67 : decode cX11_ended 67 = .ok (.lreturn, 1) := by decide +kernel
set_option maxRecDepth 20000 in
theorem ggX11_home_X4_find : GoodIn wsX11_home wsX4_find := goodIn_r _ [10, 11, 12, 182, 183] (by decide +kernel) (by decide +kernel)
set_option maxRecDepth 20000 in
theorem gX11_home_X4_find : GoodIn wsX11_home (wsV RX11 119 RX4 yX4_find wsX4_find) := goodIn_app (goodIn_of _ (by decide +kernel)) ggX11_home_X4_find
set_option maxRecDepth 20000 in
theorem ggX11_home_X6_hasLane : GoodIn wsX11_home wsX6_hasLane := goodIn_r _ [17, 18, 177, 178, 179, 180, 181] (by decide +kernel) (by decide +kernel)
set_option maxRecDepth 20000 in
theorem gX11_home_X6_hasLane : GoodIn wsX11_home (wsV RX11 214 RX6 yX6_hasLane wsX6_hasLane) := goodIn_app (goodIn_of _ (by decide +kernel)) ggX11_home_X6_hasLane
set_option maxRecDepth 20000 in
theorem ggX11_home_X1_lastSecond : GoodIn wsX11_home wsX1_lastSecond := goodIn_r _ [23, 24, 25, 26, 27, 28, 29, 30, 31, 32, 22, 33, 34, 35, 36, 37, 38, 39, 40, 41, 42, 43, 44, 45, 46, 47, 48, 49, 50, 51, 52, 53, 54, 55, 56, 57, 58, 59, 60, 61, 62, 63, 64, 65, 66, 67, 68, 69, 70, 71, 72, 73, 74, 75, 76, 77, 78, 79, 80, 81, 82, 83, 84, 85, 86, 87, 88, 89, 90, 91, 92, 93, 94, 95, 96, 97, 98, 99, 100, 101, 102, 184, 185, 186, 187, 188, 189, 190, 191, 192, 193] (by decide +kernel) (by decide +kernel)
set_option maxRecDepth 20000 in
theorem gX11_home_X1_lastSecond : GoodIn wsX11_home (wsV RX11 194 RX1 yX1_lastSecond wsX1_lastSecond) := goodIn_app (goodIn_of _ (by decide +kernel)) ggX11_home_X1_lastSecond
set_option maxRecDepth 20000 in
theorem ggX11_home_X0_lookAhead : GoodIn wsX11_home wsX0_lookAhead := goodIn_r _ [107, 108, 109, 28, 110, 111, 112, 113, 114, 115, 116, 117, 118, 106, 119, 120, 121, 122, 16, 123, 124, 125, 126, 127, 128, 129, 130, 131, 132, 133, 134, 14, 15, 17, 18, 135, 136, 137, 138, 139, 140, 141, 142, 143, 144, 145, 146, 147, 148, 149, 150, 151, 152, 194, 195, 196, 177, 178, 179, 180, 181] (by decide +kernel) (by decide +kernel)
set_option maxRecDepth 20000 in
theorem gX11_home_X0_lookAhead : GoodIn wsX11_home (wsV RX11 238 RX0 yX0_lookAhead wsX0_lookAhead) := goodIn_app (goodIn_of _ (by decide +kernel)) ggX11_home_X0_lookAhead
set_option maxRecDepth 20000 in
theorem ggX11_home_X0_homeFrom : GoodIn wsX11_home wsX0_homeFrom := goodIn_r _ [156, 135, 136, 137, 16, 138, 139, 140, 124, 125, 126, 127, 128, 129, 130, 131, 132, 133, 134, 14, 15, 17, 18, 120, 121, 122, 123, 141, 142, 143, 106, 144, 111, 112, 145, 146, 28, 147, 148, 149, 150, 151, 114, 152, 177, 178, 179, 180, 181, 194, 195, 196] (by decide +kernel) (by decide +kernel)
set_option maxRecDepth 20000 in
theorem gX11_home_X0_homeFrom : GoodIn wsX11_home (wsV RX11 242 RX0 yX0_homeFrom wsX0_homeFrom) := goodIn_app (goodIn_of _ (by decide +kernel)) ggX11_home_X0_homeFrom
set_option maxRecDepth 20000 in
theorem ggX11_home_X5_powerOfTen : GoodIn wsX11_home wsX5_powerOfTen := goodIn_r _ [160, 161] (by decide +kernel) (by decide +kernel)
set_option maxRecDepth 20000 in
theorem gX11_home_X5_powerOfTen : GoodIn wsX11_home (va_wsS RX11 232 yX5_powerOfTen wsX5_powerOfTen) := goodIn_app (goodIn_of _ (by decide +kernel)) ggX11_home_X5_powerOfTen
set_option maxRecDepth 20000 in
theorem ggX11_home_X5_tell : GoodIn wsX11_home wsX5_tell := goodIn_r _ [164, 165, 166, 159, 167] (by decide +kernel) (by decide +kernel)
set_option maxRecDepth 20000 in
theorem gX11_home_X5_tell : GoodIn wsX11_home (va_wsS RX11 176 yX5_tell wsX5_tell) := goodIn_app (goodIn_of _ (by decide +kernel)) ggX11_home_X5_tell
theorem dX11_home_0 : decode cX11_home 0 = .ok (.aload_n 0, 1) := by decide +kernel
theorem dX11_home_1 : decode cX11_home 1 = .ok (.getfield 26, 3) := by decide +kernel
theorem dX11_home_4 : decode cX11_home 4 = .ok (.iload_n 1, 1) := by decide +kernel
theorem dX11_home_5 : decode cX11_home 5 = .ok (.invokevirtual 119, 3) := by decide +kernel
theorem dX11_home_8 : decode cX11_home 8 = .ok (.astore 4, 2) := by decide +kernel
theorem dX11_home_10 : decode cX11_home 10 = .ok (.aload 4, 2) := by decide +kernel
theorem dX11_home_12 : decode cX11_home 12 = .ok (.ifnull 14, 3) := by decide +kernel
theorem dX11_home_15 : decode cX11_home 15 = .ok (.aload_n 0, 1) := by decide +kernel
theorem dX11_home_16 : decode cX11_home 16 = .ok (.getfield 19, 3) := by decide +kernel
theorem dX11_home_19 : decode cX11_home 19 = .ok (.iload_n 2, 1) := by decide +kernel
theorem dX11_home_20 : decode cX11_home 20 = .ok (.invokevirtual 214, 3) := by decide +kernel
theorem dX11_home_23 : decode cX11_home 23 = .ok (.ifCond .ne 7, 3) := by decide +kernel
theorem dX11_home_26 : decode cX11_home 26 = .ok (.ldc2_w 163, 3) := by decide +kernel
theorem dX11_home_29 : decode cX11_home 29 = .ok (.lreturn, 1) := by decide +kernel
theorem dX11_home_30 : decode cX11_home 30 = .ok (.aload_n 0, 1) := by decide +kernel
theorem dX11_home_31 : decode cX11_home 31 = .ok (.getfield 60, 3) := by decide +kernel
theorem dX11_home_34 : decode cX11_home 34 = .ok (.aload_n 0, 1) := by decide +kernel
theorem dX11_home_35 : decode cX11_home 35 = .ok (.getfield 19, 3) := by decide +kernel
theorem dX11_home_38 : decode cX11_home 38 = .ok (.aload 4, 2) := by decide +kernel
theorem dX11_home_40 : decode cX11_home 40 = .ok (.invokevirtual 194, 3) := by decide +kernel
theorem dX11_home_43 : decode cX11_home 43 = .ok (.invokevirtual 238, 3) := by decide +kernel
theorem dX11_home_46 : decode cX11_home 46 = .ok (.aload_n 0, 1) := by decide +kernel
theorem dX11_home_47 : decode cX11_home 47 = .ok (.getfield 60, 3) := by decide +kernel
theorem dX11_home_50 : decode cX11_home 50 = .ok (.aload_n 0, 1) := by decide +kernel
theorem dX11_home_51 : decode cX11_home 51 = .ok (.getfield 19, 3) := by decide +kernel
theorem dX11_home_54 : decode cX11_home 54 = .ok (.iload_n 2, 1) := by decide +kernel
theorem dX11_home_55 : decode cX11_home 55 = .ok (.invokevirtual 242, 3) := by decide +kernel
theorem dX11_home_58 : decode cX11_home 58 = .ok (.aload_n 0, 1) := by decide +kernel
theorem dX11_home_59 : decode cX11_home 59 = .ok (.getfield 19, 3) := by decide +kernel
theorem dX11_home_62 : decode cX11_home 62 = .ok (.getfield 91, 3) := by decide +kernel
theorem dX11_home_65 : decode cX11_home 65 = .ok (.invokestatic 232, 3) := by decide +kernel
theorem dX11_home_68 : decode cX11_home 68 = .ok (.iload_n 3, 1) := by decide +kernel
theorem dX11_home_69 : decode cX11_home 69 = .ok (.invokestatic 176, 3) := by decide +kernel
theorem dX11_home_72 : decode cX11_home 72 = .ok (.lreturn, 1) := by decide +kernel
set_option maxRecDepth 20000 in
theorem ggX11_first_X4_find : GoodIn wsX11_first wsX4_find := goodIn_r _ [9, 10, 11, 174, 175] (by decide +kernel) (by decide +kernel)
set_option maxRecDepth 20000 in
theorem gX11_first_X4_find : GoodIn wsX11_first (wsV RX11 119 RX4 yX4_find wsX4_find) := goodIn_app (goodIn_of _ (by decide +kernel)) ggX11_first_X4_find
set_option maxRecDepth 20000 in
theorem ggX11_first_X6_hasLane : GoodIn wsX11_first wsX6_hasLane := goodIn_r _ [16, 17, 169, 170, 171, 172, 173] (by decide +kernel) (by decide +kernel)
set_option maxRecDepth 20000 in
theorem gX11_first_X6_hasLane : GoodIn wsX11_first (wsV RX11 214 RX6 yX6_hasLane wsX6_hasLane) := goodIn_app (goodIn_of _ (by decide +kernel)) ggX11_first_X6_hasLane
set_option maxRecDepth 20000 in
theorem ggX11_first_X1_lastSecond : GoodIn wsX11_first wsX1_lastSecond := goodIn_r _ [22, 23, 24, 25, 26, 27, 28, 29, 30, 31, 21, 32, 33, 34, 35, 36, 37, 38, 39, 40, 41, 42, 43, 44, 45, 46, 47, 48, 49, 50, 51, 52, 53, 54, 55, 56, 57, 58, 59, 60, 61, 62, 63, 64, 65, 66, 67, 68, 69, 70, 71, 72, 73, 74, 75, 76, 77, 78, 79, 80, 81, 82, 83, 84, 85, 86, 87, 88, 89, 90, 91, 92, 93, 94, 95, 96, 97, 98, 99, 100, 101, 176, 177, 178, 179, 180, 181, 182, 183, 184, 185] (by decide +kernel) (by decide +kernel)
set_option maxRecDepth 20000 in
theorem gX11_first_X1_lastSecond : GoodIn wsX11_first (wsV RX11 194 RX1 yX1_lastSecond wsX1_lastSecond) := goodIn_app (goodIn_of _ (by decide +kernel)) ggX11_first_X1_lastSecond
set_option maxRecDepth 20000 in
theorem ggX11_first_X0_lookAhead : GoodIn wsX11_first wsX0_lookAhead := goodIn_r _ [106, 107, 108, 27, 109, 110, 111, 112, 113, 114, 115, 116, 117, 105, 118, 119, 120, 121, 15, 122, 123, 124, 125, 126, 127, 128, 129, 130, 131, 132, 133, 13, 14, 16, 17, 134, 135, 136, 137, 138, 139, 140, 141, 142, 143, 144, 145, 146, 147, 148, 149, 150, 151, 186, 187, 188, 169, 170, 171, 172, 173] (by decide +kernel) (by decide +kernel)
set_option maxRecDepth 20000 in
theorem gX11_first_X0_lookAhead : GoodIn wsX11_first (wsV RX11 238 RX0 yX0_lookAhead wsX0_lookAhead) := goodIn_app (goodIn_of _ (by decide +kernel)) ggX11_first_X0_lookAhead
set_option maxRecDepth 20000 in
theorem ggX11_first_X0_laneBehindFirst : GoodIn wsX11_first wsX0_laneBehindFirst := goodIn_r _ [155, 156, 157, 158, 105, 159, 134, 135, 136, 15, 137, 138, 139, 123, 124, 125, 126, 127, 128, 129, 130, 131, 132, 133, 13, 14, 16, 17, 119, 120, 121, 122, 140, 141, 142, 143, 110, 111, 144, 145, 27, 146, 147, 148, 149, 150, 113, 151, 169, 170, 171, 172, 173, 186, 187, 188] (by decide +kernel) (by decide +kernel)
set_option maxRecDepth 20000 in
theorem gX11_first_X0_laneBehindFirst : GoodIn wsX11_first (wsV RX11 246 RX0 yX0_laneBehindFirst wsX0_laneBehindFirst) := goodIn_app (goodIn_of _ (by decide +kernel)) ggX11_first_X0_laneBehindFirst
theorem dX11_first_0 : decode cX11_first 0 = .ok (.aload_n 0, 1) := by decide +kernel
theorem dX11_first_1 : decode cX11_first 1 = .ok (.getfield 26, 3) := by decide +kernel
theorem dX11_first_4 : decode cX11_first 4 = .ok (.iload_n 1, 1) := by decide +kernel
theorem dX11_first_5 : decode cX11_first 5 = .ok (.invokevirtual 119, 3) := by decide +kernel
theorem dX11_first_8 : decode cX11_first 8 = .ok (.astore_n 3, 1) := by decide +kernel
theorem dX11_first_9 : decode cX11_first 9 = .ok (.aload_n 3, 1) := by decide +kernel
theorem dX11_first_10 : decode cX11_first 10 = .ok (.ifnull 14, 3) := by decide +kernel
theorem dX11_first_13 : decode cX11_first 13 = .ok (.aload_n 0, 1) := by decide +kernel
theorem dX11_first_14 : decode cX11_first 14 = .ok (.getfield 19, 3) := by decide +kernel
theorem dX11_first_17 : decode cX11_first 17 = .ok (.iload_n 2, 1) := by decide +kernel
theorem dX11_first_18 : decode cX11_first 18 = .ok (.invokevirtual 214, 3) := by decide +kernel
theorem dX11_first_21 : decode cX11_first 21 = .ok (.ifCond .ne 5, 3) := by decide +kernel
theorem dX11_first_24 : decode cX11_first 24 = .ok (.iconst (-1), 1) := by decide +kernel
theorem dX11_first_25 : decode cX11_first 25 = .ok (.ireturn, 1) := by decide +kernel
theorem dX11_first_26 : decode cX11_first 26 = .ok (.aload_n 0, 1) := by decide +kernel
theorem dX11_first_27 : decode cX11_first 27 = .ok (.getfield 19, 3) := by decide +kernel
theorem dX11_first_30 : decode cX11_first 30 = .ok (.getfield 91, 3) := by decide +kernel
theorem dX11_first_33 : decode cX11_first 33 = .ok (.iconst 1, 1) := by decide +kernel
theorem dX11_first_34 : decode cX11_first 34 = .ok (.if_icmp .ne 6, 3) := by decide +kernel
theorem dX11_first_37 : decode cX11_first 37 = .ok (.bipush (-3), 2) := by decide +kernel
theorem dX11_first_39 : decode cX11_first 39 = .ok (.ireturn, 1) := by decide +kernel
theorem dX11_first_40 : decode cX11_first 40 = .ok (.aload_n 0, 1) := by decide +kernel
theorem dX11_first_41 : decode cX11_first 41 = .ok (.getfield 60, 3) := by decide +kernel
theorem dX11_first_44 : decode cX11_first 44 = .ok (.aload_n 0, 1) := by decide +kernel
theorem dX11_first_45 : decode cX11_first 45 = .ok (.getfield 19, 3) := by decide +kernel
theorem dX11_first_48 : decode cX11_first 48 = .ok (.aload_n 3, 1) := by decide +kernel
theorem dX11_first_49 : decode cX11_first 49 = .ok (.invokevirtual 194, 3) := by decide +kernel
theorem dX11_first_52 : decode cX11_first 52 = .ok (.invokevirtual 238, 3) := by decide +kernel
theorem dX11_first_55 : decode cX11_first 55 = .ok (.aload_n 0, 1) := by decide +kernel
theorem dX11_first_56 : decode cX11_first 56 = .ok (.getfield 60, 3) := by decide +kernel
theorem dX11_first_59 : decode cX11_first 59 = .ok (.aload_n 0, 1) := by decide +kernel
theorem dX11_first_60 : decode cX11_first 60 = .ok (.getfield 19, 3) := by decide +kernel
theorem dX11_first_63 : decode cX11_first 63 = .ok (.iload_n 2, 1) := by decide +kernel
theorem dX11_first_64 : decode cX11_first 64 = .ok (.invokevirtual 246, 3) := by decide +kernel
theorem dX11_first_67 : decode cX11_first 67 = .ok (.ireturn, 1) := by decide +kernel
set_option maxRecDepth 20000 in
theorem ggX11_best_X4_find : GoodIn wsX11_best wsX4_find := goodIn_r _ [8, 9, 10, 167, 168] (by decide +kernel) (by decide +kernel)
set_option maxRecDepth 20000 in
theorem gX11_best_X4_find : GoodIn wsX11_best (wsV RX11 119 RX4 yX4_find wsX4_find) := goodIn_app (goodIn_of _ (by decide +kernel)) ggX11_best_X4_find
set_option maxRecDepth 20000 in
theorem ggX11_best_X1_lastSecond : GoodIn wsX11_best wsX1_lastSecond := goodIn_r _ [15, 16, 17, 18, 19, 20, 21, 22, 23, 24, 14, 25, 26, 27, 28, 29, 30, 31, 32, 33, 34, 35, 36, 37, 38, 39, 40, 41, 42, 43, 44, 45, 46, 47, 48, 49, 50, 51, 52, 53, 54, 55, 56, 57, 58, 59, 60, 61, 62, 63, 64, 65, 66, 67, 68, 69, 70, 71, 72, 73, 74, 75, 76, 77, 78, 79, 80, 81, 82, 83, 84, 85, 86, 87, 88, 89, 90, 91, 92, 93, 94, 169, 170, 171, 172, 173, 174, 175, 176, 177, 178] (by decide +kernel) (by decide +kernel)
set_option maxRecDepth 20000 in
theorem gX11_best_X1_lastSecond : GoodIn wsX11_best (wsV RX11 194 RX1 yX1_lastSecond wsX1_lastSecond) := goodIn_app (goodIn_of _ (by decide +kernel)) ggX11_best_X1_lastSecond
set_option maxRecDepth 20000 in
theorem ggX11_best_X0_lookAhead : GoodIn wsX11_best wsX0_lookAhead := goodIn_r _ [99, 100, 101, 20, 102, 103, 104, 105, 106, 107, 108, 109, 110, 98, 111, 112, 113, 114, 115, 116, 117, 118, 119, 120, 121, 122, 123, 124, 125, 126, 127, 128, 129, 130, 131, 132, 133, 134, 135, 136, 137, 138, 139, 140, 141, 142, 143, 144, 145, 146, 147, 148, 149, 179, 180, 181, 182, 183, 184, 185, 186] (by decide +kernel) (by decide +kernel)
set_option maxRecDepth 20000 in
theorem gX11_best_X0_lookAhead : GoodIn wsX11_best (wsV RX11 238 RX0 yX0_lookAhead wsX0_lookAhead) := goodIn_app (goodIn_of _ (by decide +kernel)) ggX11_best_X0_lookAhead
set_option maxRecDepth 20000 in
theorem ggX11_best_X0_bestLane : GoodIn wsX11_best wsX0_bestLane := goodIn_r _ [153, 105, 154, 155, 156, 98, 157, 132, 133, 134, 115, 135, 136, 137, 117, 118, 119, 120, 121, 122, 123, 124, 125, 126, 127, 128, 129, 130, 131, 112, 113, 114, 116, 138, 139, 140, 141, 103, 104, 142, 143, 20, 144, 145, 146, 147, 148, 106, 149, 182, 183, 184, 185, 186, 179, 180, 181] (by decide +kernel) (by decide +kernel)
set_option maxRecDepth 20000 in
theorem gX11_best_X0_bestLane : GoodIn wsX11_best (wsV RX11 250 RX0 yX0_bestLane wsX0_bestLane) := goodIn_app (goodIn_of _ (by decide +kernel)) ggX11_best_X0_bestLane
theorem dX11_best_0 : decode cX11_best 0 = .ok (.aload_n 0, 1) := by decide +kernel
theorem dX11_best_1 : decode cX11_best 1 = .ok (.getfield 26, 3) := by decide +kernel
theorem dX11_best_4 : decode cX11_best 4 = .ok (.iload_n 1, 1) := by decide +kernel
theorem dX11_best_5 : decode cX11_best 5 = .ok (.invokevirtual 119, 3) := by decide +kernel
theorem dX11_best_8 : decode cX11_best 8 = .ok (.astore_n 2, 1) := by decide +kernel
theorem dX11_best_9 : decode cX11_best 9 = .ok (.aload_n 2, 1) := by decide +kernel
theorem dX11_best_10 : decode cX11_best 10 = .ok (.ifnonnull 5, 3) := by decide +kernel
theorem dX11_best_13 : decode cX11_best 13 = .ok (.iconst (-1), 1) := by decide +kernel
theorem dX11_best_14 : decode cX11_best 14 = .ok (.ireturn, 1) := by decide +kernel
theorem dX11_best_15 : decode cX11_best 15 = .ok (.aload_n 0, 1) := by decide +kernel
theorem dX11_best_16 : decode cX11_best 16 = .ok (.getfield 60, 3) := by decide +kernel
theorem dX11_best_19 : decode cX11_best 19 = .ok (.aload_n 0, 1) := by decide +kernel
theorem dX11_best_20 : decode cX11_best 20 = .ok (.getfield 19, 3) := by decide +kernel
theorem dX11_best_23 : decode cX11_best 23 = .ok (.aload_n 2, 1) := by decide +kernel
theorem dX11_best_24 : decode cX11_best 24 = .ok (.invokevirtual 194, 3) := by decide +kernel
theorem dX11_best_27 : decode cX11_best 27 = .ok (.invokevirtual 238, 3) := by decide +kernel
theorem dX11_best_30 : decode cX11_best 30 = .ok (.aload_n 0, 1) := by decide +kernel
theorem dX11_best_31 : decode cX11_best 31 = .ok (.getfield 60, 3) := by decide +kernel
theorem dX11_best_34 : decode cX11_best 34 = .ok (.aload_n 0, 1) := by decide +kernel
theorem dX11_best_35 : decode cX11_best 35 = .ok (.getfield 19, 3) := by decide +kernel
theorem dX11_best_38 : decode cX11_best 38 = .ok (.invokevirtual 250, 3) := by decide +kernel
theorem dX11_best_41 : decode cX11_best 41 = .ok (.ireturn, 1) := by decide +kernel
set_option maxRecDepth 20000 in
theorem ggX11_whose_X4_find : GoodIn wsX11_whose wsX4_find := goodIn_r _ [10, 11, 12, 159, 160] (by decide +kernel) (by decide +kernel)
set_option maxRecDepth 20000 in
theorem gX11_whose_X4_find : GoodIn wsX11_whose (wsV RX11 119 RX4 yX4_find wsX4_find) := goodIn_app (goodIn_of _ (by decide +kernel)) ggX11_whose_X4_find
set_option maxRecDepth 20000 in
theorem ggX11_whose_X6_has : GoodIn wsX11_whose wsX6_has := goodIn_r _ [17, 18, 19, 20, 21, 16, 22, 23, 161, 162, 163, 164, 165] (by decide +kernel) (by decide +kernel)
set_option maxRecDepth 20000 in
theorem gX11_whose_X6_has : GoodIn wsX11_whose (wsV RX11 94 RX6 yX6_has wsX6_has) := goodIn_app (goodIn_of _ (by decide +kernel)) ggX11_whose_X6_has
set_option maxRecDepth 20000 in
theorem ggX11_whose_X11_wreckShare : GoodIn wsX11_whose wsX11_wreckShare := goodIn_r _ [28, 1, 29, 2, 6, 7, 8, 9, 10, 11, 12, 30, 31, 32, 33, 34, 35, 36, 37, 38, 39, 40, 41, 42, 43, 44, 45, 46, 47, 48, 49, 50, 51, 52, 53, 54, 55, 56, 57, 58, 59, 60, 61, 62, 63, 64, 65, 66, 67, 68, 69, 70, 71, 72, 73, 74, 75, 76, 77, 78, 79, 80, 81, 82, 83, 84, 85, 86, 87, 88, 89, 90, 91, 92, 93, 94, 95, 96, 97, 98, 99, 100, 101, 102, 103, 104, 105, 106, 107, 108, 109, 110, 111, 112, 113, 114, 115, 116, 117, 118, 119, 120, 121, 122, 123, 124, 125, 16, 126, 127, 128, 129, 130, 131, 132, 14, 15, 17, 18, 19, 20, 21, 22, 23, 133, 134, 135, 136, 137, 138, 139, 140, 141, 142, 150, 151, 152, 153, 154, 155, 156, 157, 158, 159, 160, 166, 167, 168, 169, 170, 171, 172, 173, 174, 175, 176, 177, 161, 162, 163, 164, 165] (by decide +kernel) (by decide +kernel)
set_option maxRecDepth 20000 in
theorem gX11_whose_X11_wreckShare : GoodIn wsX11_whose (wsV RX11 257 RX11 yX11_wreckShare wsX11_wreckShare) := goodIn_app (goodIn_of _ (by decide +kernel)) ggX11_whose_X11_wreckShare
set_option maxRecDepth 20000 in
theorem ggX11_whose_X5_tell : GoodIn wsX11_whose wsX5_tell := goodIn_r _ [146, 147, 148, 145, 149] (by decide +kernel) (by decide +kernel)
set_option maxRecDepth 20000 in
theorem gX11_whose_X5_tell : GoodIn wsX11_whose (va_wsS RX11 176 yX5_tell wsX5_tell) := goodIn_app (goodIn_of _ (by decide +kernel)) ggX11_whose_X5_tell
theorem dX11_whose_0 : decode cX11_whose 0 = .ok (.aload_n 0, 1) := by decide +kernel
theorem dX11_whose_1 : decode cX11_whose 1 = .ok (.getfield 26, 3) := by decide +kernel
theorem dX11_whose_4 : decode cX11_whose 4 = .ok (.iload_n 3, 1) := by decide +kernel
theorem dX11_whose_5 : decode cX11_whose 5 = .ok (.invokevirtual 119, 3) := by decide +kernel
theorem dX11_whose_8 : decode cX11_whose 8 = .ok (.astore 5, 2) := by decide +kernel
theorem dX11_whose_10 : decode cX11_whose 10 = .ok (.aload 5, 2) := by decide +kernel
theorem dX11_whose_12 : decode cX11_whose 12 = .ok (.ifnull 15, 3) := by decide +kernel
theorem dX11_whose_15 : decode cX11_whose 15 = .ok (.aload_n 0, 1) := by decide +kernel
theorem dX11_whose_16 : decode cX11_whose 16 = .ok (.getfield 19, 3) := by decide +kernel
theorem dX11_whose_19 : decode cX11_whose 19 = .ok (.iload_n 1, 1) := by decide +kernel
theorem dX11_whose_20 : decode cX11_whose 20 = .ok (.iload_n 2, 1) := by decide +kernel
theorem dX11_whose_21 : decode cX11_whose 21 = .ok (.invokevirtual 94, 3) := by decide +kernel
theorem dX11_whose_24 : decode cX11_whose 24 = .ok (.ifCond .ne 7, 3) := by decide +kernel
theorem dX11_whose_27 : decode cX11_whose 27 = .ok (.ldc2_w 163, 3) := by decide +kernel
theorem dX11_whose_30 : decode cX11_whose 30 = .ok (.lreturn, 1) := by decide +kernel
theorem dX11_whose_31 : decode cX11_whose 31 = .ok (.lconst 0, 1) := by decide +kernel
theorem dX11_whose_32 : decode cX11_whose 32 = .ok (.lstore 6, 2) := by decide +kernel
theorem dX11_whose_34 : decode cX11_whose 34 = .ok (.iconst 0, 1) := by decide +kernel
theorem dX11_whose_35 : decode cX11_whose 35 = .ok (.istore 8, 2) := by decide +kernel
theorem dX11_whose_37 : decode cX11_whose 37 = .ok (.iload 8, 2) := by decide +kernel
theorem dX11_whose_39 : decode cX11_whose 39 = .ok (.aload_n 0, 1) := by decide +kernel
theorem dX11_whose_40 : decode cX11_whose 40 = .ok (.getfield 26, 3) := by decide +kernel
theorem dX11_whose_43 : decode cX11_whose 43 = .ok (.getfield 254, 3) := by decide +kernel
theorem dX11_whose_46 : decode cX11_whose 46 = .ok (.if_icmp .ge 22, 3) := by decide +kernel
theorem dX11_whose_49 : decode cX11_whose 49 = .ok (.lload 6, 2) := by decide +kernel
theorem dX11_whose_51 : decode cX11_whose 51 = .ok (.aload_n 0, 1) := by decide +kernel
theorem dX11_whose_52 : decode cX11_whose 52 = .ok (.iload 8, 2) := by decide +kernel
theorem dX11_whose_54 : decode cX11_whose 54 = .ok (.iload_n 1, 1) := by decide +kernel
theorem dX11_whose_55 : decode cX11_whose 55 = .ok (.iload_n 2, 1) := by decide +kernel
theorem dX11_whose_56 : decode cX11_whose 56 = .ok (.invokevirtual 257, 3) := by decide +kernel
theorem dX11_whose_59 : decode cX11_whose 59 = .ok (.ladd, 1) := by decide +kernel
theorem dX11_whose_60 : decode cX11_whose 60 = .ok (.lstore 6, 2) := by decide +kernel
theorem dX11_whose_62 : decode cX11_whose 62 = .ok (.iinc 8 1, 3) := by decide +kernel
theorem dX11_whose_65 : decode cX11_whose 65 = .ok (.goto (-28), 3) := by decide +kernel
theorem dX11_whose_68 : decode cX11_whose 68 = .ok (.lload 6, 2) := by decide +kernel
theorem dX11_whose_70 : decode cX11_whose 70 = .ok (.lconst 0, 1) := by decide +kernel
theorem dX11_whose_71 : decode cX11_whose 71 = .ok (.lcmp, 1) := by decide +kernel
theorem dX11_whose_72 : decode cX11_whose 72 = .ok (.ifCond .ne 7, 3) := by decide +kernel
theorem dX11_whose_75 : decode cX11_whose 75 = .ok (.ldc2_w 261, 3) := by decide +kernel
theorem dX11_whose_78 : decode cX11_whose 78 = .ok (.lreturn, 1) := by decide +kernel
theorem dX11_whose_79 : decode cX11_whose 79 = .ok (.aload_n 0, 1) := by decide +kernel
theorem dX11_whose_80 : decode cX11_whose 80 = .ok (.iload_n 3, 1) := by decide +kernel
theorem dX11_whose_81 : decode cX11_whose 81 = .ok (.iload_n 1, 1) := by decide +kernel
theorem dX11_whose_82 : decode cX11_whose 82 = .ok (.iload_n 2, 1) := by decide +kernel
theorem dX11_whose_83 : decode cX11_whose 83 = .ok (.invokevirtual 257, 3) := by decide +kernel
theorem dX11_whose_86 : decode cX11_whose 86 = .ok (.lload 6, 2) := by decide +kernel
theorem dX11_whose_88 : decode cX11_whose 88 = .ok (.iload 4, 2) := by decide +kernel
theorem dX11_whose_90 : decode cX11_whose 90 = .ok (.invokestatic 176, 3) := by decide +kernel
theorem dX11_whose_93 : decode cX11_whose 93 = .ok (.lreturn, 1) := by decide +kernel
set_option maxRecDepth 20000 in
theorem ggX11_likeliest_X6_has : GoodIn wsX11_likeliest wsX6_has := goodIn_r _ [8, 9, 10, 11, 12, 7, 13, 14, 152, 153, 154, 155, 156] (by decide +kernel) (by decide +kernel)
set_option maxRecDepth 20000 in
theorem gX11_likeliest_X6_has : GoodIn wsX11_likeliest (wsV RX11 94 RX6 yX6_has wsX6_has) := goodIn_app (goodIn_of _ (by decide +kernel)) ggX11_likeliest_X6_has
set_option maxRecDepth 20000 in
theorem ggX11_likeliest_X11_wreckShare : GoodIn wsX11_likeliest wsX11_wreckShare := goodIn_r _ [19, 2, 20, 1, 21, 22, 23, 24, 25, 26, 27, 28, 29, 30, 31, 32, 33, 34, 35, 36, 37, 38, 39, 40, 41, 42, 43, 44, 45, 46, 47, 48, 49, 50, 51, 52, 53, 54, 55, 56, 57, 58, 59, 60, 61, 62, 63, 64, 65, 66, 67, 68, 69, 70, 71, 72, 73, 74, 75, 76, 77, 78, 79, 80, 81, 82, 83, 84, 85, 86, 87, 88, 89, 90, 91, 92, 93, 94, 95, 96, 97, 98, 99, 100, 101, 102, 103, 104, 105, 106, 107, 108, 109, 110, 111, 112, 113, 114, 115, 116, 117, 118, 119, 120, 121, 122, 123, 7, 124, 125, 126, 127, 128, 129, 130, 5, 6, 8, 9, 10, 11, 12, 13, 14, 131, 132, 133, 134, 135, 136, 137, 138, 139, 140, 141, 142, 143, 144, 145, 146, 147, 148, 149, 150, 151, 157, 158, 159, 160, 161, 162, 163, 164, 165, 166, 167, 168, 152, 153, 154, 155, 156] (by decide +kernel) (by decide +kernel)
set_option maxRecDepth 20000 in
theorem gX11_likeliest_X11_wreckShare : GoodIn wsX11_likeliest (wsV RX11 257 RX11 yX11_wreckShare wsX11_wreckShare) := goodIn_app (goodIn_of _ (by decide +kernel)) ggX11_likeliest_X11_wreckShare
theorem dX11_likeliest_0 : decode cX11_likeliest 0 = .ok (.aload_n 0, 1) := by decide +kernel
theorem dX11_likeliest_1 : decode cX11_likeliest 1 = .ok (.getfield 19, 3) := by decide +kernel
theorem dX11_likeliest_4 : decode cX11_likeliest 4 = .ok (.iload_n 1, 1) := by decide +kernel
theorem dX11_likeliest_5 : decode cX11_likeliest 5 = .ok (.iload_n 2, 1) := by decide +kernel
theorem dX11_likeliest_6 : decode cX11_likeliest 6 = .ok (.invokevirtual 94, 3) := by decide +kernel
theorem dX11_likeliest_9 : decode cX11_likeliest 9 = .ok (.ifCond .ne 5, 3) := by decide +kernel
theorem dX11_likeliest_12 : decode cX11_likeliest 12 = .ok (.iconst (-1), 1) := by decide +kernel
theorem dX11_likeliest_13 : decode cX11_likeliest 13 = .ok (.ireturn, 1) := by decide +kernel
theorem dX11_likeliest_14 : decode cX11_likeliest 14 = .ok (.bipush (-3), 2) := by decide +kernel
theorem dX11_likeliest_16 : decode cX11_likeliest 16 = .ok (.istore_n 3, 1) := by decide +kernel
theorem dX11_likeliest_17 : decode cX11_likeliest 17 = .ok (.lconst 0, 1) := by decide +kernel
theorem dX11_likeliest_18 : decode cX11_likeliest 18 = .ok (.lstore 4, 2) := by decide +kernel
theorem dX11_likeliest_20 : decode cX11_likeliest 20 = .ok (.iconst 0, 1) := by decide +kernel
theorem dX11_likeliest_21 : decode cX11_likeliest 21 = .ok (.istore 6, 2) := by decide +kernel
theorem dX11_likeliest_23 : decode cX11_likeliest 23 = .ok (.iload 6, 2) := by decide +kernel
theorem dX11_likeliest_25 : decode cX11_likeliest 25 = .ok (.aload_n 0, 1) := by decide +kernel
theorem dX11_likeliest_26 : decode cX11_likeliest 26 = .ok (.getfield 26, 3) := by decide +kernel
theorem dX11_likeliest_29 : decode cX11_likeliest 29 = .ok (.getfield 254, 3) := by decide +kernel
theorem dX11_likeliest_32 : decode cX11_likeliest 32 = .ok (.if_icmp .ge 34, 3) := by decide +kernel
theorem dX11_likeliest_35 : decode cX11_likeliest 35 = .ok (.aload_n 0, 1) := by decide +kernel
theorem dX11_likeliest_36 : decode cX11_likeliest 36 = .ok (.iload 6, 2) := by decide +kernel
theorem dX11_likeliest_38 : decode cX11_likeliest 38 = .ok (.iload_n 1, 1) := by decide +kernel
theorem dX11_likeliest_39 : decode cX11_likeliest 39 = .ok (.iload_n 2, 1) := by decide +kernel
theorem dX11_likeliest_40 : decode cX11_likeliest 40 = .ok (.invokevirtual 257, 3) := by decide +kernel
theorem dX11_likeliest_43 : decode cX11_likeliest 43 = .ok (.lstore 7, 2) := by decide +kernel
theorem dX11_likeliest_45 : decode cX11_likeliest 45 = .ok (.lload 7, 2) := by decide +kernel
theorem dX11_likeliest_47 : decode cX11_likeliest 47 = .ok (.lload 4, 2) := by decide +kernel
theorem dX11_likeliest_49 : decode cX11_likeliest 49 = .ok (.lcmp, 1) := by decide +kernel
theorem dX11_likeliest_50 : decode cX11_likeliest 50 = .ok (.ifCond .le 10, 3) := by decide +kernel
theorem dX11_likeliest_53 : decode cX11_likeliest 53 = .ok (.lload 7, 2) := by decide +kernel
theorem dX11_likeliest_55 : decode cX11_likeliest 55 = .ok (.lstore 4, 2) := by decide +kernel
theorem dX11_likeliest_57 : decode cX11_likeliest 57 = .ok (.iload 6, 2) := by decide +kernel
theorem dX11_likeliest_59 : decode cX11_likeliest 59 = .ok (.istore_n 3, 1) := by decide +kernel
theorem dX11_likeliest_60 : decode cX11_likeliest 60 = .ok (.iinc 6 1, 3) := by decide +kernel
theorem dX11_likeliest_63 : decode cX11_likeliest 63 = .ok (.goto (-40), 3) := by decide +kernel
theorem dX11_likeliest_66 : decode cX11_likeliest 66 = .ok (.iload_n 3, 1) := by decide +kernel
theorem dX11_likeliest_67 : decode cX11_likeliest 67 = .ok (.ireturn, 1) := by decide +kernel
set_option maxRecDepth 20000 in
theorem ggX11_rests_X11_isWithin : GoodIn wsX11_rests wsX11_isWithin := goodIn_r _ [7] (by decide +kernel) (by decide +kernel)
set_option maxRecDepth 20000 in
theorem gX11_rests_X11_isWithin : GoodIn wsX11_rests (va_wsS RX11 102 yX11_isWithin wsX11_isWithin) := goodIn_app (goodIn_of _ (by decide +kernel)) ggX11_rests_X11_isWithin
set_option maxRecDepth 20000 in
theorem ggX11_rests_X2_look : GoodIn wsX11_rests wsX2_look := goodIn_r _ [12, 13, 14, 15, 16, 17, 18, 19, 20, 21, 22, 23, 24, 25, 26, 27, 28, 29, 30, 31, 32, 33, 34, 35, 36, 37, 38, 39, 40, 41, 42, 43, 68, 69, 70, 71, 72, 73, 74, 75, 76, 77] (by decide +kernel) (by decide +kernel)
set_option maxRecDepth 20000 in
theorem gX11_rests_X2_look : GoodIn wsX11_rests (wsV RX11 263 RX2 yX2_look wsX2_look) := goodIn_app (goodIn_of _ (by decide +kernel)) ggX11_rests_X2_look
set_option maxRecDepth 20000 in
theorem ggX11_rests_X2_splitAll : GoodIn wsX11_rests wsX2_splitAll := goodIn_r _ [47, 48, 49, 50, 51, 52, 53, 11, 54, 13, 55, 56, 57, 58, 14, 68, 69, 70, 71, 72] (by decide +kernel) (by decide +kernel)
set_option maxRecDepth 20000 in
theorem gX11_rests_X2_splitAll : GoodIn wsX11_rests (wsV RX11 267 RX2 yX2_splitAll wsX2_splitAll) := goodIn_app (goodIn_of _ (by decide +kernel)) ggX11_rests_X2_splitAll
theorem dX11_rests_0 : decode cX11_rests 0 = .ok (.iload_n 1, 1) := by decide +kernel
theorem dX11_rests_1 : decode cX11_rests 1 = .ok (.iconst 1, 1) := by decide +kernel
theorem dX11_rests_2 : decode cX11_rests 2 = .ok (.bipush 9, 2) := by decide +kernel
theorem dX11_rests_4 : decode cX11_rests 4 = .ok (.invokestatic 102, 3) := by decide +kernel
theorem dX11_rests_7 : decode cX11_rests 7 = .ok (.ifCond .eq 13, 3) := by decide +kernel
theorem dX11_rests_10 : decode cX11_rests 10 = .ok (.iload_n 2, 1) := by decide +kernel
theorem dX11_rests_11 : decode cX11_rests 11 = .ok (.iconst 0, 1) := by decide +kernel
theorem dX11_rests_12 : decode cX11_rests 12 = .ok (.bipush 9, 2) := by decide +kernel
theorem dX11_rests_14 : decode cX11_rests 14 = .ok (.invokestatic 102, 3) := by decide +kernel
theorem dX11_rests_17 : decode cX11_rests 17 = .ok (.ifCond .ne 6, 3) := by decide +kernel
theorem dX11_rests_20 : decode cX11_rests 20 = .ok (.bipush (-2), 2) := by decide +kernel
theorem dX11_rests_22 : decode cX11_rests 22 = .ok (.ireturn, 1) := by decide +kernel
theorem dX11_rests_23 : decode cX11_rests 23 = .ok (.aload_n 0, 1) := by decide +kernel
theorem dX11_rests_24 : decode cX11_rests 24 = .ok (.getfield 67, 3) := by decide +kernel
theorem dX11_rests_27 : decode cX11_rests 27 = .ok (.aload_n 0, 1) := by decide +kernel
theorem dX11_rests_28 : decode cX11_rests 28 = .ok (.getfield 19, 3) := by decide +kernel
theorem dX11_rests_31 : decode cX11_rests 31 = .ok (.invokevirtual 263, 3) := by decide +kernel
theorem dX11_rests_34 : decode cX11_rests 34 = .ok (.ifCond .ne 6, 3) := by decide +kernel
theorem dX11_rests_37 : decode cX11_rests 37 = .ok (.bipush (-3), 2) := by decide +kernel
theorem dX11_rests_39 : decode cX11_rests 39 = .ok (.ireturn, 1) := by decide +kernel
theorem dX11_rests_40 : decode cX11_rests 40 = .ok (.aload_n 0, 1) := by decide +kernel
theorem dX11_rests_41 : decode cX11_rests 41 = .ok (.getfield 67, 3) := by decide +kernel
theorem dX11_rests_44 : decode cX11_rests 44 = .ok (.iload_n 1, 1) := by decide +kernel
theorem dX11_rests_45 : decode cX11_rests 45 = .ok (.iload_n 2, 1) := by decide +kernel
theorem dX11_rests_46 : decode cX11_rests 46 = .ok (.invokevirtual 267, 3) := by decide +kernel
theorem dX11_rests_49 : decode cX11_rests 49 = .ok (.aload_n 0, 1) := by decide +kernel
theorem dX11_rests_50 : decode cX11_rests 50 = .ok (.getfield 67, 3) := by decide +kernel
theorem dX11_rests_53 : decode cX11_rests 53 = .ok (.getfield 271, 3) := by decide +kernel
theorem dX11_rests_56 : decode cX11_rests 56 = .ok (.ireturn, 1) := by decide +kernel
set_option maxRecDepth 20000 in
theorem ggX11_split_X11_isWithin : GoodIn wsX11_split wsX11_isWithin := goodIn_r _ [7] (by decide +kernel) (by decide +kernel)
set_option maxRecDepth 20000 in
theorem gX11_split_X11_isWithin : GoodIn wsX11_split (va_wsS RX11 102 yX11_isWithin wsX11_isWithin) := goodIn_app (goodIn_of _ (by decide +kernel)) ggX11_split_X11_isWithin
set_option maxRecDepth 20000 in
theorem ggX11_split_X2_look : GoodIn wsX11_split wsX2_look := goodIn_r _ [12, 13, 14, 15, 16, 17, 18, 19, 20, 21, 22, 23, 24, 25, 26, 27, 28, 29, 30, 31, 32, 33, 34, 35, 36, 37, 38, 39, 40, 41, 42, 43, 68, 69, 70, 71, 72, 73, 74, 75, 76, 77] (by decide +kernel) (by decide +kernel)
set_option maxRecDepth 20000 in
theorem gX11_split_X2_look : GoodIn wsX11_split (wsV RX11 263 RX2 yX2_look wsX2_look) := goodIn_app (goodIn_of _ (by decide +kernel)) ggX11_split_X2_look
set_option maxRecDepth 20000 in
theorem ggX11_split_X2_splitAll : GoodIn wsX11_split wsX2_splitAll := goodIn_r _ [47, 48, 49, 50, 51, 52, 53, 11, 54, 13, 55, 56, 57, 58, 14, 68, 69, 70, 71, 72] (by decide +kernel) (by decide +kernel)
set_option maxRecDepth 20000 in
theorem gX11_split_X2_splitAll : GoodIn wsX11_split (wsV RX11 267 RX2 yX2_splitAll wsX2_splitAll) := goodIn_app (goodIn_of _ (by decide +kernel)) ggX11_split_X2_splitAll
theorem dX11_split_0 : decode cX11_split 0 = .ok (.iload_n 1, 1) := by decide +kernel
theorem dX11_split_1 : decode cX11_split 1 = .ok (.iconst 1, 1) := by decide +kernel
theorem dX11_split_2 : decode cX11_split 2 = .ok (.bipush 9, 2) := by decide +kernel
theorem dX11_split_4 : decode cX11_split 4 = .ok (.invokestatic 102, 3) := by decide +kernel
theorem dX11_split_7 : decode cX11_split 7 = .ok (.ifCond .eq 13, 3) := by decide +kernel
theorem dX11_split_10 : decode cX11_split 10 = .ok (.iload_n 2, 1) := by decide +kernel
theorem dX11_split_11 : decode cX11_split 11 = .ok (.iconst 0, 1) := by decide +kernel
theorem dX11_split_12 : decode cX11_split 12 = .ok (.bipush 9, 2) := by decide +kernel
theorem dX11_split_14 : decode cX11_split 14 = .ok (.invokestatic 102, 3) := by decide +kernel
theorem dX11_split_17 : decode cX11_split 17 = .ok (.ifCond .ne 6, 3) := by decide +kernel
theorem dX11_split_20 : decode cX11_split 20 = .ok (.bipush (-2), 2) := by decide +kernel
theorem dX11_split_22 : decode cX11_split 22 = .ok (.ireturn, 1) := by decide +kernel
theorem dX11_split_23 : decode cX11_split 23 = .ok (.aload_n 0, 1) := by decide +kernel
theorem dX11_split_24 : decode cX11_split 24 = .ok (.getfield 67, 3) := by decide +kernel
theorem dX11_split_27 : decode cX11_split 27 = .ok (.aload_n 0, 1) := by decide +kernel
theorem dX11_split_28 : decode cX11_split 28 = .ok (.getfield 19, 3) := by decide +kernel
theorem dX11_split_31 : decode cX11_split 31 = .ok (.invokevirtual 263, 3) := by decide +kernel
theorem dX11_split_34 : decode cX11_split 34 = .ok (.ifCond .ne 6, 3) := by decide +kernel
theorem dX11_split_37 : decode cX11_split 37 = .ok (.bipush (-3), 2) := by decide +kernel
theorem dX11_split_39 : decode cX11_split 39 = .ok (.ireturn, 1) := by decide +kernel
theorem dX11_split_40 : decode cX11_split 40 = .ok (.aload_n 0, 1) := by decide +kernel
theorem dX11_split_41 : decode cX11_split 41 = .ok (.getfield 67, 3) := by decide +kernel
theorem dX11_split_44 : decode cX11_split 44 = .ok (.iload_n 1, 1) := by decide +kernel
theorem dX11_split_45 : decode cX11_split 45 = .ok (.iload_n 2, 1) := by decide +kernel
theorem dX11_split_46 : decode cX11_split 46 = .ok (.invokevirtual 267, 3) := by decide +kernel
theorem dX11_split_49 : decode cX11_split 49 = .ok (.aload_n 0, 1) := by decide +kernel
theorem dX11_split_50 : decode cX11_split 50 = .ok (.getfield 67, 3) := by decide +kernel
theorem dX11_split_53 : decode cX11_split 53 = .ok (.getfield 274, 3) := by decide +kernel
theorem dX11_split_56 : decode cX11_split 56 = .ok (.ireturn, 1) := by decide +kernel
set_option maxRecDepth 20000 in
theorem ggX11_run_X11_isWithin : GoodIn wsX11_run wsX11_isWithin := goodIn_r _ [5] (by decide +kernel) (by decide +kernel)
set_option maxRecDepth 20000 in
theorem gX11_run_X11_isWithin : GoodIn wsX11_run (va_wsS RX11 102 yX11_isWithin wsX11_isWithin) := goodIn_app (goodIn_of _ (by decide +kernel)) ggX11_run_X11_isWithin
set_option maxRecDepth 20000 in
theorem ggX11_run_X8_add : GoodIn wsX11_run wsX8_add := goodIn_r _ [10, 11, 12, 13, 23, 24, 25, 26, 27] (by decide +kernel) (by decide +kernel)
set_option maxRecDepth 20000 in
theorem gX11_run_X8_add : GoodIn wsX11_run (wsV RX11 277 RX8 yX8_add wsX8_add) := goodIn_app (goodIn_of _ (by decide +kernel)) ggX11_run_X8_add
theorem dX11_run_0 : decode cX11_run 0 = .ok (.iload_n 1, 1) := by decide +kernel
theorem dX11_run_1 : decode cX11_run 1 = .ok (.iconst 0, 1) := by decide +kernel
theorem dX11_run_2 : decode cX11_run 2 = .ok (.bipush 99, 2) := by decide +kernel
theorem dX11_run_4 : decode cX11_run 4 = .ok (.invokestatic 102, 3) := by decide +kernel
theorem dX11_run_7 : decode cX11_run 7 = .ok (.ifCond .ne 6, 3) := by decide +kernel
theorem dX11_run_10 : decode cX11_run 10 = .ok (.bipush (-2), 2) := by decide +kernel
theorem dX11_run_12 : decode cX11_run 12 = .ok (.ireturn, 1) := by decide +kernel
theorem dX11_run_13 : decode cX11_run 13 = .ok (.aload_n 0, 1) := by decide +kernel
theorem dX11_run_14 : decode cX11_run 14 = .ok (.getfield 33, 3) := by decide +kernel
theorem dX11_run_17 : decode cX11_run 17 = .ok (.iload_n 1, 1) := by decide +kernel
theorem dX11_run_18 : decode cX11_run 18 = .ok (.iload_n 2, 1) := by decide +kernel
theorem dX11_run_19 : decode cX11_run 19 = .ok (.invokevirtual 277, 3) := by decide +kernel
theorem dX11_run_22 : decode cX11_run 22 = .ok (.ireturn, 1) := by decide +kernel
theorem dX11_unrun_0 : decode cX11_unrun 0 = .ok (.aload_n 0, 1) := by decide +kernel
theorem dX11_unrun_1 : decode cX11_unrun 1 = .ok (.getfield 33, 3) := by decide +kernel
theorem dX11_unrun_4 : decode cX11_unrun 4 = .ok (.getfield 281, 3) := by decide +kernel
theorem dX11_unrun_7 : decode cX11_unrun 7 = .ok (.istore_n 1, 1) := by decide +kernel
theorem dX11_unrun_8 : decode cX11_unrun 8 = .ok (.aload_n 0, 1) := by decide +kernel
theorem dX11_unrun_9 : decode cX11_unrun 9 = .ok (.getfield 33, 3) := by decide +kernel
theorem dX11_unrun_12 : decode cX11_unrun 12 = .ok (.iconst 0, 1) := by decide +kernel
theorem dX11_unrun_13 : decode cX11_unrun 13 = .ok (.putfield 281, 3) := by decide +kernel
theorem dX11_unrun_16 : decode cX11_unrun 16 = .ok (.iload_n 1, 1) := by decide +kernel
theorem dX11_unrun_17 : decode cX11_unrun 17 = .ok (.ireturn, 1) := by decide +kernel
set_option maxRecDepth 20000 in
theorem ggX11_red_X8_dealAll : GoodIn wsX11_red wsX8_dealAll := goodIn_r _ [8, 9, 10, 11, 12, 13, 14, 7, 15, 16, 17, 18, 19, 20, 21, 22, 23, 24, 25, 26, 27, 28, 45, 46, 47, 48, 49] (by decide +kernel) (by decide +kernel)
set_option maxRecDepth 20000 in
theorem gX11_red_X8_dealAll : GoodIn wsX11_red (wsV RX11 282 RX8 yX8_dealAll wsX8_dealAll) := goodIn_app (goodIn_of _ (by decide +kernel)) ggX11_red_X8_dealAll
set_option maxRecDepth 20000 in
theorem ggX11_red_X5_tell : GoodIn wsX11_red wsX5_tell := goodIn_r _ [32, 33, 34, 31, 35] (by decide +kernel) (by decide +kernel)
set_option maxRecDepth 20000 in
theorem gX11_red_X5_tell : GoodIn wsX11_red (va_wsS RX11 176 yX5_tell wsX5_tell) := goodIn_app (goodIn_of _ (by decide +kernel)) ggX11_red_X5_tell
theorem dX11_red_0 : decode cX11_red 0 = .ok (.aload_n 0, 1) := by decide +kernel
theorem dX11_red_1 : decode cX11_red 1 = .ok (.getfield 33, 3) := by decide +kernel
theorem dX11_red_4 : decode cX11_red 4 = .ok (.invokevirtual 282, 3) := by decide +kernel
theorem dX11_red_7 : decode cX11_red 7 = .ok (.aload_n 0, 1) := by decide +kernel
theorem dX11_red_8 : decode cX11_red 8 = .ok (.getfield 33, 3) := by decide +kernel
theorem dX11_red_11 : decode cX11_red 11 = .ok (.getfield 285, 3) := by decide +kernel
theorem dX11_red_14 : decode cX11_red 14 = .ok (.i2l, 1) := by decide +kernel
theorem dX11_red_15 : decode cX11_red 15 = .ok (.aload_n 0, 1) := by decide +kernel
theorem dX11_red_16 : decode cX11_red 16 = .ok (.getfield 33, 3) := by decide +kernel
theorem dX11_red_19 : decode cX11_red 19 = .ok (.getfield 288, 3) := by decide +kernel
theorem dX11_red_22 : decode cX11_red 22 = .ok (.i2l, 1) := by decide +kernel
theorem dX11_red_23 : decode cX11_red 23 = .ok (.iload_n 1, 1) := by decide +kernel
theorem dX11_red_24 : decode cX11_red 24 = .ok (.invokestatic 176, 3) := by decide +kernel
theorem dX11_red_27 : decode cX11_red 27 = .ok (.lreturn, 1) := by decide +kernel
set_option maxRecDepth 20000 in
theorem ggX11_keep_X11_findSlot : GoodIn wsX11_keep wsX11_findSlot := goodIn_r _ [11, 12, 58, 59, 60, 61, 62, 63, 64, 65, 66] (by decide +kernel) (by decide +kernel)
set_option maxRecDepth 20000 in
theorem gX11_keep_X11_findSlot : GoodIn wsX11_keep (wsV RX11 291 RX11 yX11_findSlot wsX11_findSlot) := goodIn_app (goodIn_of _ (by decide +kernel)) ggX11_keep_X11_findSlot
set_option maxRecDepth 20000 in
theorem ggX11_keep_X4_copyFrom : GoodIn wsX11_keep wsX4_copyFrom := goodIn_r _ [17, 18, 19, 20, 21, 22, 23, 24, 25, 26, 27, 28, 29, 30, 31, 32, 33, 34, 35, 36, 37, 38, 39, 40, 41, 42, 67, 68, 69, 70, 71, 72, 73, 74, 75, 76, 77, 78] (by decide +kernel) (by decide +kernel)
set_option maxRecDepth 20000 in
theorem gX11_keep_X4_copyFrom : GoodIn wsX11_keep (wsV RX11 298 RX4 yX4_copyFrom wsX4_copyFrom) := goodIn_app (goodIn_of _ (by decide +kernel)) ggX11_keep_X4_copyFrom
set_option maxRecDepth 20000 in
theorem ggX11_keep_X8_copyFrom : GoodIn wsX11_keep wsX8_copyFrom := goodIn_r _ [47, 48, 49, 50, 51, 52, 53, 46, 54, 79, 80, 81, 82, 83] (by decide +kernel) (by decide +kernel)
set_option maxRecDepth 20000 in
theorem gX11_keep_X8_copyFrom : GoodIn wsX11_keep (wsV RX11 305 RX8 yX8_copyFrom wsX8_copyFrom) := goodIn_app (goodIn_of _ (by decide +kernel)) ggX11_keep_X8_copyFrom
theorem dX11_keep_0 : decode cX11_keep 0 = .ok (.aload_n 0, 1) := by decide +kernel
theorem dX11_keep_1 : decode cX11_keep 1 = .ok (.iload_n 1, 1) := by decide +kernel
theorem dX11_keep_2 : decode cX11_keep 2 = .ok (.invokevirtual 291, 3) := by decide +kernel
theorem dX11_keep_5 : decode cX11_keep 5 = .ok (.astore_n 2, 1) := by decide +kernel
theorem dX11_keep_6 : decode cX11_keep 6 = .ok (.aload_n 2, 1) := by decide +kernel
theorem dX11_keep_7 : decode cX11_keep 7 = .ok (.ifnonnull 5, 3) := by decide +kernel
theorem dX11_keep_10 : decode cX11_keep 10 = .ok (.iconst (-1), 1) := by decide +kernel
theorem dX11_keep_11 : decode cX11_keep 11 = .ok (.ireturn, 1) := by decide +kernel
theorem dX11_keep_12 : decode cX11_keep 12 = .ok (.aload_n 2, 1) := by decide +kernel
theorem dX11_keep_13 : decode cX11_keep 13 = .ok (.getfield 295, 3) := by decide +kernel
theorem dX11_keep_16 : decode cX11_keep 16 = .ok (.aload_n 0, 1) := by decide +kernel
theorem dX11_keep_17 : decode cX11_keep 17 = .ok (.getfield 26, 3) := by decide +kernel
theorem dX11_keep_20 : decode cX11_keep 20 = .ok (.invokevirtual 298, 3) := by decide +kernel
theorem dX11_keep_23 : decode cX11_keep 23 = .ok (.aload_n 2, 1) := by decide +kernel
theorem dX11_keep_24 : decode cX11_keep 24 = .ok (.getfield 302, 3) := by decide +kernel
theorem dX11_keep_27 : decode cX11_keep 27 = .ok (.aload_n 0, 1) := by decide +kernel
theorem dX11_keep_28 : decode cX11_keep 28 = .ok (.getfield 33, 3) := by decide +kernel
theorem dX11_keep_31 : decode cX11_keep 31 = .ok (.invokevirtual 305, 3) := by decide +kernel
theorem dX11_keep_34 : decode cX11_keep 34 = .ok (.aload_n 2, 1) := by decide +kernel
theorem dX11_keep_35 : decode cX11_keep 35 = .ok (.iconst 1, 1) := by decide +kernel
theorem dX11_keep_36 : decode cX11_keep 36 = .ok (.putfield 308, 3) := by decide +kernel
theorem dX11_keep_39 : decode cX11_keep 39 = .ok (.aload_n 0, 1) := by decide +kernel
theorem dX11_keep_40 : decode cX11_keep 40 = .ok (.getfield 26, 3) := by decide +kernel
theorem dX11_keep_43 : decode cX11_keep 43 = .ok (.getfield 254, 3) := by decide +kernel
theorem dX11_keep_46 : decode cX11_keep 46 = .ok (.ireturn, 1) := by decide +kernel
set_option maxRecDepth 20000 in
theorem ggX11_again_X11_findSlot : GoodIn wsX11_again wsX11_findSlot := goodIn_r _ [11, 12, 58, 59, 60, 61, 62, 63, 64, 65, 66] (by decide +kernel) (by decide +kernel)
set_option maxRecDepth 20000 in
theorem gX11_again_X11_findSlot : GoodIn wsX11_again (wsV RX11 291 RX11 yX11_findSlot wsX11_findSlot) := goodIn_app (goodIn_of _ (by decide +kernel)) ggX11_again_X11_findSlot
set_option maxRecDepth 20000 in
theorem ggX11_again_X4_copyFrom : GoodIn wsX11_again wsX4_copyFrom := goodIn_r _ [17, 18, 19, 20, 21, 22, 23, 24, 25, 26, 27, 28, 29, 30, 31, 32, 33, 34, 35, 36, 37, 38, 39, 40, 41, 42, 67, 68, 69, 70, 71, 72, 73, 74, 75, 76, 77, 78] (by decide +kernel) (by decide +kernel)
set_option maxRecDepth 20000 in
theorem gX11_again_X4_copyFrom : GoodIn wsX11_again (wsV RX11 298 RX4 yX4_copyFrom wsX4_copyFrom) := goodIn_app (goodIn_of _ (by decide +kernel)) ggX11_again_X4_copyFrom
set_option maxRecDepth 20000 in
theorem ggX11_again_X8_copyFrom : GoodIn wsX11_again wsX8_copyFrom := goodIn_r _ [47, 48, 49, 50, 51, 52, 53, 46, 54, 79, 80, 81, 82, 83] (by decide +kernel) (by decide +kernel)
set_option maxRecDepth 20000 in
theorem gX11_again_X8_copyFrom : GoodIn wsX11_again (wsV RX11 305 RX8 yX8_copyFrom wsX8_copyFrom) := goodIn_app (goodIn_of _ (by decide +kernel)) ggX11_again_X8_copyFrom
theorem dX11_again_0 : decode cX11_again 0 = .ok (.aload_n 0, 1) := by decide +kernel
theorem dX11_again_1 : decode cX11_again 1 = .ok (.iload_n 1, 1) := by decide +kernel
theorem dX11_again_2 : decode cX11_again 2 = .ok (.invokevirtual 291, 3) := by decide +kernel
theorem dX11_again_5 : decode cX11_again 5 = .ok (.astore_n 2, 1) := by decide +kernel
theorem dX11_again_6 : decode cX11_again 6 = .ok (.aload_n 2, 1) := by decide +kernel
theorem dX11_again_7 : decode cX11_again 7 = .ok (.ifnonnull 5, 3) := by decide +kernel
theorem dX11_again_10 : decode cX11_again 10 = .ok (.iconst (-1), 1) := by decide +kernel
theorem dX11_again_11 : decode cX11_again 11 = .ok (.ireturn, 1) := by decide +kernel
theorem dX11_again_12 : decode cX11_again 12 = .ok (.aload_n 2, 1) := by decide +kernel
theorem dX11_again_13 : decode cX11_again 13 = .ok (.getfield 308, 3) := by decide +kernel
theorem dX11_again_16 : decode cX11_again 16 = .ok (.ifCond .ne 6, 3) := by decide +kernel
theorem dX11_again_19 : decode cX11_again 19 = .ok (.bipush (-3), 2) := by decide +kernel
theorem dX11_again_21 : decode cX11_again 21 = .ok (.ireturn, 1) := by decide +kernel
theorem dX11_again_22 : decode cX11_again 22 = .ok (.aload_n 0, 1) := by decide +kernel
theorem dX11_again_23 : decode cX11_again 23 = .ok (.getfield 26, 3) := by decide +kernel
theorem dX11_again_26 : decode cX11_again 26 = .ok (.aload_n 2, 1) := by decide +kernel
theorem dX11_again_27 : decode cX11_again 27 = .ok (.getfield 295, 3) := by decide +kernel
theorem dX11_again_30 : decode cX11_again 30 = .ok (.invokevirtual 298, 3) := by decide +kernel
theorem dX11_again_33 : decode cX11_again 33 = .ok (.aload_n 0, 1) := by decide +kernel
theorem dX11_again_34 : decode cX11_again 34 = .ok (.getfield 33, 3) := by decide +kernel
theorem dX11_again_37 : decode cX11_again 37 = .ok (.aload_n 2, 1) := by decide +kernel
theorem dX11_again_38 : decode cX11_again 38 = .ok (.getfield 302, 3) := by decide +kernel
theorem dX11_again_41 : decode cX11_again 41 = .ok (.invokevirtual 305, 3) := by decide +kernel
theorem dX11_again_44 : decode cX11_again 44 = .ok (.aload_n 0, 1) := by decide +kernel
theorem dX11_again_45 : decode cX11_again 45 = .ok (.getfield 26, 3) := by decide +kernel
theorem dX11_again_48 : decode cX11_again 48 = .ok (.getfield 254, 3) := by decide +kernel
theorem dX11_again_51 : decode cX11_again 51 = .ok (.ireturn, 1) := by decide +kernel
set_option maxRecDepth 20000 in
theorem ggX11_count_X4_allCoins : GoodIn wsX11_count wsX4_allCoins := goodIn_r _ [11, 12, 13, 14, 44, 45, 51, 52, 53, 54, 55, 56, 57, 58, 59, 60] (by decide +kernel) (by decide +kernel)
set_option maxRecDepth 20000 in
theorem gX11_count_X4_allCoins : GoodIn wsX11_count (wsV RX11 312 RX4 yX4_allCoins wsX4_allCoins) := goodIn_app (goodIn_of _ (by decide +kernel)) ggX11_count_X4_allCoins
set_option maxRecDepth 20000 in
theorem ggX11_count_X8_reds : GoodIn wsX11_count wsX8_reds := goodIn_r _ [19, 20, 21, 22, 18, 23, 24, 25, 26, 27, 28, 29, 30, 31, 32, 46, 47, 48, 49, 50] (by decide +kernel) (by decide +kernel)
set_option maxRecDepth 20000 in
theorem gX11_count_X8_reds : GoodIn wsX11_count (wsV RX11 315 RX8 yX8_reds wsX8_reds) := goodIn_app (goodIn_of _ (by decide +kernel)) ggX11_count_X8_reds
theorem dX11_count_0 : decode cX11_count 0 = .ok (.iload_n 1, 1) := by decide +kernel
theorem dX11_count_1 : decode cX11_count 1 = .ok (.tableswitch 75 0 4 #[35, 43, 51, 59, 67], 35) := by decide +kernel
theorem dX11_count_36 : decode cX11_count 36 = .ok (.aload_n 0, 1) := by decide +kernel
theorem dX11_count_37 : decode cX11_count 37 = .ok (.getfield 10, 3) := by decide +kernel
theorem dX11_count_40 : decode cX11_count 40 = .ok (.getfield 76, 3) := by decide +kernel
theorem dX11_count_43 : decode cX11_count 43 = .ok (.ireturn, 1) := by decide +kernel
theorem dX11_count_44 : decode cX11_count 44 = .ok (.aload_n 0, 1) := by decide +kernel
theorem dX11_count_45 : decode cX11_count 45 = .ok (.getfield 26, 3) := by decide +kernel
theorem dX11_count_48 : decode cX11_count 48 = .ok (.getfield 254, 3) := by decide +kernel
theorem dX11_count_51 : decode cX11_count 51 = .ok (.ireturn, 1) := by decide +kernel
theorem dX11_count_52 : decode cX11_count 52 = .ok (.aload_n 0, 1) := by decide +kernel
theorem dX11_count_53 : decode cX11_count 53 = .ok (.getfield 26, 3) := by decide +kernel
theorem dX11_count_56 : decode cX11_count 56 = .ok (.invokevirtual 312, 3) := by decide +kernel
theorem dX11_count_59 : decode cX11_count 59 = .ok (.ireturn, 1) := by decide +kernel
theorem dX11_count_60 : decode cX11_count 60 = .ok (.aload_n 0, 1) := by decide +kernel
theorem dX11_count_61 : decode cX11_count 61 = .ok (.getfield 33, 3) := by decide +kernel
theorem dX11_count_64 : decode cX11_count 64 = .ok (.getfield 281, 3) := by decide +kernel
theorem dX11_count_67 : decode cX11_count 67 = .ok (.ireturn, 1) := by decide +kernel
theorem dX11_count_68 : decode cX11_count 68 = .ok (.aload_n 0, 1) := by decide +kernel
theorem dX11_count_69 : decode cX11_count 69 = .ok (.getfield 33, 3) := by decide +kernel
theorem dX11_count_72 : decode cX11_count 72 = .ok (.invokevirtual 315, 3) := by decide +kernel
theorem dX11_count_75 : decode cX11_count 75 = .ok (.ireturn, 1) := by decide +kernel
theorem dX11_count_76 : decode cX11_count 76 = .ok (.bipush (-2), 2) := by decide +kernel
theorem dX11_count_78 : decode cX11_count 78 = .ok (.ireturn, 1) := by decide +kernel
theorem dX11_findSlot_0 : decode cX11_findSlot 0 = .ok (.iload_n 1, 1) := by decide +kernel
theorem dX11_findSlot_1 : decode cX11_findSlot 1 = .ok (.ifCond .lt 12, 3) := by decide +kernel
theorem dX11_findSlot_4 : decode cX11_findSlot 4 = .ok (.iload_n 1, 1) := by decide +kernel
theorem dX11_findSlot_5 : decode cX11_findSlot 5 = .ok (.aload_n 0, 1) := by decide +kernel
theorem dX11_findSlot_6 : decode cX11_findSlot 6 = .ok (.getfield 39, 3) := by decide +kernel
theorem dX11_findSlot_9 : decode cX11_findSlot 9 = .ok (.arraylength, 1) := by decide +kernel
theorem dX11_findSlot_10 : decode cX11_findSlot 10 = .ok (.if_icmp .lt 5, 3) := by decide +kernel
theorem dX11_findSlot_13 : decode cX11_findSlot 13 = .ok (.aconst_null, 1) := by decide +kernel
theorem dX11_findSlot_14 : decode cX11_findSlot 14 = .ok (.areturn, 1) := by decide +kernel
theorem dX11_findSlot_15 : decode cX11_findSlot 15 = .ok (.aload_n 0, 1) := by decide +kernel
theorem dX11_findSlot_16 : decode cX11_findSlot 16 = .ok (.getfield 39, 3) := by decide +kernel
theorem dX11_findSlot_19 : decode cX11_findSlot 19 = .ok (.iload_n 1, 1) := by decide +kernel
theorem dX11_findSlot_20 : decode cX11_findSlot 20 = .ok (.aaload, 1) := by decide +kernel
theorem dX11_findSlot_21 : decode cX11_findSlot 21 = .ok (.areturn, 1) := by decide +kernel
set_option maxRecDepth 20000 in
theorem ggX11_wreckShare_X4_find : GoodIn wsX11_wreckShare wsX4_find := goodIn_r _ [8, 9, 10, 143, 144] (by decide +kernel) (by decide +kernel)
set_option maxRecDepth 20000 in
theorem gX11_wreckShare_X4_find : GoodIn wsX11_wreckShare (wsV RX11 119 RX4 yX4_find wsX4_find) := goodIn_app (goodIn_of _ (by decide +kernel)) ggX11_wreckShare_X4_find
set_option maxRecDepth 20000 in
theorem ggX11_wreckShare_X1_lastSecond : GoodIn wsX11_wreckShare wsX1_lastSecond := goodIn_r _ [15, 16, 17, 18, 19, 20, 21, 22, 23, 24, 14, 25, 26, 27, 28, 29, 30, 31, 32, 33, 34, 35, 36, 37, 38, 39, 40, 41, 42, 43, 44, 45, 46, 47, 48, 49, 50, 51, 52, 53, 54, 55, 56, 57, 58, 59, 60, 61, 62, 63, 64, 65, 66, 67, 68, 69, 70, 71, 72, 73, 74, 75, 76, 77, 78, 79, 80, 81, 82, 83, 84, 85, 86, 87, 88, 89, 90, 91, 92, 93, 94, 145, 146, 147, 148, 149, 150, 151, 152, 153, 154] (by decide +kernel) (by decide +kernel)
set_option maxRecDepth 20000 in
theorem gX11_wreckShare_X1_lastSecond : GoodIn wsX11_wreckShare (wsV RX11 194 RX1 yX1_lastSecond wsX1_lastSecond) := goodIn_app (goodIn_of _ (by decide +kernel)) ggX11_wreckShare_X1_lastSecond
set_option maxRecDepth 20000 in
theorem ggX11_wreckShare_X3_follow : GoodIn wsX11_wreckShare wsX3_follow := goodIn_r _ [99, 100, 101, 102, 103, 104, 105, 106, 107, 108, 109, 110, 111, 112, 113, 114, 115, 116, 117, 118, 119, 120, 121, 122, 123, 124, 125, 126, 127, 128, 129, 155, 156, 157, 158, 159, 160, 161] (by decide +kernel) (by decide +kernel)
set_option maxRecDepth 20000 in
theorem gX11_wreckShare_X3_follow : GoodIn wsX11_wreckShare (wsV RX11 224 RX3 yX3_follow wsX3_follow) := goodIn_app (goodIn_of _ (by decide +kernel)) ggX11_wreckShare_X3_follow
set_option maxRecDepth 20000 in
theorem ggX11_wreckShare_X3_endedAt : GoodIn wsX11_wreckShare wsX3_endedAt := goodIn_r _ [133, 102, 155, 156] (by decide +kernel) (by decide +kernel)
set_option maxRecDepth 20000 in
theorem gX11_wreckShare_X3_endedAt : GoodIn wsX11_wreckShare (wsV RX11 235 RX3 yX3_endedAt wsX3_endedAt) := goodIn_app (goodIn_of _ (by decide +kernel)) ggX11_wreckShare_X3_endedAt
theorem dX11_wreckShare_0 : decode cX11_wreckShare 0 = .ok (.aload_n 0, 1) := by decide +kernel
theorem dX11_wreckShare_1 : decode cX11_wreckShare 1 = .ok (.getfield 26, 3) := by decide +kernel
theorem dX11_wreckShare_4 : decode cX11_wreckShare 4 = .ok (.iload_n 1, 1) := by decide +kernel
theorem dX11_wreckShare_5 : decode cX11_wreckShare 5 = .ok (.invokevirtual 119, 3) := by decide +kernel
theorem dX11_wreckShare_8 : decode cX11_wreckShare 8 = .ok (.astore 4, 2) := by decide +kernel
theorem dX11_wreckShare_10 : decode cX11_wreckShare 10 = .ok (.aload 4, 2) := by decide +kernel
theorem dX11_wreckShare_12 : decode cX11_wreckShare 12 = .ok (.ifnonnull 5, 3) := by decide +kernel
theorem dX11_wreckShare_15 : decode cX11_wreckShare 15 = .ok (.lconst 0, 1) := by decide +kernel
theorem dX11_wreckShare_16 : decode cX11_wreckShare 16 = .ok (.lreturn, 1) := by decide +kernel
theorem dX11_wreckShare_17 : decode cX11_wreckShare 17 = .ok (.aload_n 0, 1) := by decide +kernel
theorem dX11_wreckShare_18 : decode cX11_wreckShare 18 = .ok (.getfield 53, 3) := by decide +kernel
theorem dX11_wreckShare_21 : decode cX11_wreckShare 21 = .ok (.aload_n 0, 1) := by decide +kernel
theorem dX11_wreckShare_22 : decode cX11_wreckShare 22 = .ok (.getfield 19, 3) := by decide +kernel
theorem dX11_wreckShare_25 : decode cX11_wreckShare 25 = .ok (.iload_n 2, 1) := by decide +kernel
theorem dX11_wreckShare_26 : decode cX11_wreckShare 26 = .ok (.aload 4, 2) := by decide +kernel
theorem dX11_wreckShare_28 : decode cX11_wreckShare 28 = .ok (.invokevirtual 194, 3) := by decide +kernel
theorem dX11_wreckShare_31 : decode cX11_wreckShare 31 = .ok (.invokevirtual 224, 3) := by decide +kernel
theorem dX11_wreckShare_34 : decode cX11_wreckShare 34 = .ok (.aload_n 0, 1) := by decide +kernel
theorem dX11_wreckShare_35 : decode cX11_wreckShare 35 = .ok (.getfield 53, 3) := by decide +kernel
theorem dX11_wreckShare_38 : decode cX11_wreckShare 38 = .ok (.iload_n 3, 1) := by decide +kernel
theorem dX11_wreckShare_39 : decode cX11_wreckShare 39 = .ok (.invokevirtual 235, 3) := by decide +kernel
theorem dX11_wreckShare_42 : decode cX11_wreckShare 42 = .ok (.lreturn, 1) := by decide +kernel
