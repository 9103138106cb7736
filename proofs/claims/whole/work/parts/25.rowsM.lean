theorem dX12_init_0 : decode cX12_init 0 = .ok (.aload_n 0, 1) := by decide +kernel
theorem dX12_init_1 : decode cX12_init 1 = .ok (.invokespecial 1, 3) := by decide +kernel
theorem dX12_init_4 : decode cX12_init 4 = .ok (.aload_n 0, 1) := by decide +kernel
theorem dX12_init_5 : decode cX12_init 5 = .ok (.bipush 36, 2) := by decide +kernel
theorem dX12_init_7 : decode cX12_init 7 = .ok (.newarray .int, 2) := by decide +kernel
theorem dX12_init_9 : decode cX12_init 9 = .ok (.putfield 7, 3) := by decide +kernel
theorem dX12_init_12 : decode cX12_init 12 = .ok (.aload_n 0, 1) := by decide +kernel
theorem dX12_init_13 : decode cX12_init 13 = .ok (.bipush 36, 2) := by decide +kernel
theorem dX12_init_15 : decode cX12_init 15 = .ok (.newarray .int, 2) := by decide +kernel
theorem dX12_init_17 : decode cX12_init 17 = .ok (.putfield 13, 3) := by decide +kernel
theorem dX12_init_20 : decode cX12_init 20 = .ok (.aload_n 0, 1) := by decide +kernel
theorem dX12_init_21 : decode cX12_init 21 = .ok (.bipush 40, 2) := by decide +kernel
theorem dX12_init_23 : decode cX12_init 23 = .ok (.newarray .int, 2) := by decide +kernel
theorem dX12_init_25 : decode cX12_init 25 = .ok (.putfield 16, 3) := by decide +kernel
theorem dX12_init_28 : decode cX12_init 28 = .ok (.aload_n 0, 1) := by decide +kernel
theorem dX12_init_29 : decode cX12_init 29 = .ok (.bipush 42, 2) := by decide +kernel
theorem dX12_init_31 : decode cX12_init 31 = .ok (.newarray .int, 2) := by decide +kernel
theorem dX12_init_33 : decode cX12_init 33 = .ok (.putfield 19, 3) := by decide +kernel
theorem dX12_init_36 : decode cX12_init 36 = .ok (.aload_n 0, 1) := by decide +kernel
theorem dX12_init_37 : decode cX12_init 37 = .ok (.sipush 144, 3) := by decide +kernel
theorem dX12_init_40 : decode cX12_init 40 = .ok (.newarray .int, 2) := by decide +kernel
theorem dX12_init_42 : decode cX12_init 42 = .ok (.putfield 22, 3) := by decide +kernel
theorem dX12_init_45 : decode cX12_init 45 = .ok (.aload_n 0, 1) := by decide +kernel
theorem dX12_init_46 : decode cX12_init 46 = .ok (.sipush 256, 3) := by decide +kernel
theorem dX12_init_49 : decode cX12_init 49 = .ok (.newarray .int, 2) := by decide +kernel
theorem dX12_init_51 : decode cX12_init 51 = .ok (.putfield 25, 3) := by decide +kernel
theorem dX12_init_54 : decode cX12_init 54 = .ok (.aload_n 0, 1) := by decide +kernel
theorem dX12_init_55 : decode cX12_init 55 = .ok (.bipush 12, 2) := by decide +kernel
theorem dX12_init_57 : decode cX12_init 57 = .ok (.newarray .long, 2) := by decide +kernel
theorem dX12_init_59 : decode cX12_init 59 = .ok (.putfield 28, 3) := by decide +kernel
theorem dX12_init_62 : decode cX12_init 62 = .ok (.aload_n 0, 1) := by decide +kernel
theorem dX12_init_63 : decode cX12_init 63 = .ok (.sipush 13312, 3) := by decide +kernel
theorem dX12_init_66 : decode cX12_init 66 = .ok (.newarray .long, 2) := by decide +kernel
theorem dX12_init_68 : decode cX12_init 68 = .ok (.putfield 32, 3) := by decide +kernel
theorem dX12_init_71 : decode cX12_init 71 = .ok (.aload_n 0, 1) := by decide +kernel
theorem dX12_init_72 : decode cX12_init 72 = .ok (.iconst 3, 1) := by decide +kernel
theorem dX12_init_73 : decode cX12_init 73 = .ok (.newarray .int, 2) := by decide +kernel
theorem dX12_init_75 : decode cX12_init 75 = .ok (.putfield 35, 3) := by decide +kernel
theorem dX12_init_78 : decode cX12_init 78 = .ok (.aload_n 0, 1) := by decide +kernel
theorem dX12_init_79 : decode cX12_init 79 = .ok (.bipush 12, 2) := by decide +kernel
theorem dX12_init_81 : decode cX12_init 81 = .ok (.newarray .int, 2) := by decide +kernel
theorem dX12_init_83 : decode cX12_init 83 = .ok (.putfield 38, 3) := by decide +kernel
theorem dX12_init_86 : decode cX12_init 86 = .ok (.aload_n 0, 1) := by decide +kernel
theorem dX12_init_87 : decode cX12_init 87 = .ok (.bipush 12, 2) := by decide +kernel
theorem dX12_init_89 : decode cX12_init 89 = .ok (.newarray .boolean, 2) := by decide +kernel
theorem dX12_init_91 : decode cX12_init 91 = .ok (.putfield 41, 3) := by decide +kernel
theorem dX12_init_94 : decode cX12_init 94 = .ok (.aload_n 0, 1) := by decide +kernel
theorem dX12_init_95 : decode cX12_init 95 = .ok (.iconst 2, 1) := by decide +kernel
theorem dX12_init_96 : decode cX12_init 96 = .ok (.newarray .boolean, 2) := by decide +kernel
theorem dX12_init_98 : decode cX12_init 98 = .ok (.putfield 45, 3) := by decide +kernel
theorem dX12_init_101 : decode cX12_init 101 = .ok (.aload_n 0, 1) := by decide +kernel
theorem dX12_init_102 : decode cX12_init 102 = .ok (.iconst 4, 1) := by decide +kernel
theorem dX12_init_103 : decode cX12_init 103 = .ok (.newarray .int, 2) := by decide +kernel
theorem dX12_init_105 : decode cX12_init 105 = .ok (.putfield 48, 3) := by decide +kernel
theorem dX12_init_108 : decode cX12_init 108 = .ok (.aload_n 0, 1) := by decide +kernel
theorem dX12_init_109 : decode cX12_init 109 = .ok (.bipush 84, 2) := by decide +kernel
theorem dX12_init_111 : decode cX12_init 111 = .ok (.newarray .int, 2) := by decide +kernel
theorem dX12_init_113 : decode cX12_init 113 = .ok (.putfield 51, 3) := by decide +kernel
theorem dX12_init_116 : decode cX12_init 116 = .ok (.aload_n 0, 1) := by decide +kernel
theorem dX12_init_117 : decode cX12_init 117 = .ok (.sipush 288, 3) := by decide +kernel
theorem dX12_init_120 : decode cX12_init 120 = .ok (.newarray .int, 2) := by decide +kernel
theorem dX12_init_122 : decode cX12_init 122 = .ok (.putfield 54, 3) := by decide +kernel
theorem dX12_init_125 : decode cX12_init 125 = .ok (.aload_n 0, 1) := by decide +kernel
theorem dX12_init_126 : decode cX12_init 126 = .ok (.bipush 24, 2) := by decide +kernel
theorem dX12_init_128 : decode cX12_init 128 = .ok (.newarray .int, 2) := by decide +kernel
theorem dX12_init_130 : decode cX12_init 130 = .ok (.putfield 57, 3) := by decide +kernel
theorem dX12_init_133 : decode cX12_init 133 = .ok (.aload_n 0, 1) := by decide +kernel
theorem dX12_init_134 : decode cX12_init 134 = .ok (.bipush 24, 2) := by decide +kernel
theorem dX12_init_136 : decode cX12_init 136 = .ok (.newarray .boolean, 2) := by decide +kernel
theorem dX12_init_138 : decode cX12_init 138 = .ok (.putfield 60, 3) := by decide +kernel
theorem dX12_init_141 : decode cX12_init 141 = .ok (.aload_n 0, 1) := by decide +kernel
theorem dX12_init_142 : decode cX12_init 142 = .ok (.getfield 13, 3) := by decide +kernel
theorem dX12_init_145 : decode cX12_init 145 = .ok (.iconst 0, 1) := by decide +kernel
theorem dX12_init_146 : decode cX12_init 146 = .ok (.iconst 1, 1) := by decide +kernel
theorem dX12_init_147 : decode cX12_init 147 = .ok (.iastore, 1) := by decide +kernel
theorem dX12_init_148 : decode cX12_init 148 = .ok (.aload_n 0, 1) := by decide +kernel
theorem dX12_init_149 : decode cX12_init 149 = .ok (.iconst 1, 1) := by decide +kernel
theorem dX12_init_150 : decode cX12_init 150 = .ok (.putfield 63, 3) := by decide +kernel
theorem dX12_init_153 : decode cX12_init 153 = .ok (.aload_n 0, 1) := by decide +kernel
theorem dX12_init_154 : decode cX12_init 154 = .ok (.iconst 1, 1) := by decide +kernel
theorem dX12_init_155 : decode cX12_init 155 = .ok (.putfield 67, 3) := by decide +kernel
theorem dX12_init_158 : decode cX12_init 158 = .ok (.aload_n 0, 1) := by decide +kernel
theorem dX12_init_159 : decode cX12_init 159 = .ok (.iconst 3, 1) := by decide +kernel
theorem dX12_init_160 : decode cX12_init 160 = .ok (.putfield 70, 3) := by decide +kernel
theorem dX12_init_163 : decode cX12_init 163 = .ok (.aload_n 0, 1) := by decide +kernel
theorem dX12_init_164 : decode cX12_init 164 = .ok (.iconst 2, 1) := by decide +kernel
theorem dX12_init_165 : decode cX12_init 165 = .ok (.putfield 73, 3) := by decide +kernel
theorem dX12_init_168 : decode cX12_init 168 = .ok (.return_, 1) := by decide +kernel
theorem dX12_in_0 : decode cX12_in 0 = .ok (.lload_n 0, 1) := by decide +kernel
theorem dX12_in_1 : decode cX12_in 1 = .ok (.lload_n 2, 1) := by decide +kernel
theorem dX12_in_2 : decode cX12_in 2 = .ok (.lcmp, 1) := by decide +kernel
theorem dX12_in_3 : decode cX12_in 3 = .ok (.ifCond .lt 14, 3) := by decide +kernel
theorem dX12_in_6 : decode cX12_in 6 = .ok (.lload_n 0, 1) := by decide +kernel
theorem dX12_in_7 : decode cX12_in 7 = .ok (.lload 4, 2) := by decide +kernel
theorem dX12_in_9 : decode cX12_in 9 = .ok (.lcmp, 1) := by decide +kernel
theorem dX12_in_10 : decode cX12_in 10 = .ok (.ifCond .gt 7, 3) := by decide +kernel
theorem dX12_in_13 : decode cX12_in 13 = .ok (.iconst 1, 1) := by decide +kernel
theorem dX12_in_14 : decode cX12_in 14 = .ok (.goto 4, 3) := by decide +kernel
theorem dX12_in_17 : decode cX12_in 17 = .ok (.iconst 0, 1) := by decide +kernel
theorem dX12_in_18 : decode cX12_in 18 = .ok (.ireturn, 1) := by decide +kernel
set_option maxRecDepth 20000 in
theorem ggX12_write_X12_in : GoodIn wsX12_write wsX12_in := goodIn_r _ [8] (by decide +kernel) (by decide +kernel)
set_option maxRecDepth 20000 in
theorem gX12_write_X12_in : GoodIn wsX12_write (va_wsS RX12 78 yX12_in wsX12_in) := goodIn_app (goodIn_of _ (by decide +kernel)) ggX12_write_X12_in
theorem dX12_write_0 : decode cX12_write 0 = .ok (.iload_n 1, 1) := by decide +kernel
theorem dX12_write_1 : decode cX12_write 1 = .ok (.i2l, 1) := by decide +kernel
theorem dX12_write_2 : decode cX12_write 2 = .ok (.lconst 1, 1) := by decide +kernel
theorem dX12_write_3 : decode cX12_write 3 = .ok (.ldc2_w 76, 3) := by decide +kernel
theorem dX12_write_6 : decode cX12_write 6 = .ok (.invokestatic 78, 3) := by decide +kernel
theorem dX12_write_9 : decode cX12_write 9 = .ok (.ifCond .ne 6, 3) := by decide +kernel
theorem dX12_write_12 : decode cX12_write 12 = .ok (.bipush (-2), 2) := by decide +kernel
theorem dX12_write_14 : decode cX12_write 14 = .ok (.ireturn, 1) := by decide +kernel
theorem dX12_write_15 : decode cX12_write 15 = .ok (.aload_n 0, 1) := by decide +kernel
theorem dX12_write_16 : decode cX12_write 16 = .ok (.getfield 82, 3) := by decide +kernel
theorem dX12_write_19 : decode cX12_write 19 = .ok (.iload_n 1, 1) := by decide +kernel
theorem dX12_write_20 : decode cX12_write 20 = .ok (.iadd, 1) := by decide +kernel
theorem dX12_write_21 : decode cX12_write 21 = .ok (.bipush 40, 2) := by decide +kernel
theorem dX12_write_23 : decode cX12_write 23 = .ok (.if_icmp .le 6, 3) := by decide +kernel
theorem dX12_write_26 : decode cX12_write 26 = .ok (.bipush (-4), 2) := by decide +kernel
theorem dX12_write_28 : decode cX12_write 28 = .ok (.ireturn, 1) := by decide +kernel
theorem dX12_write_29 : decode cX12_write 29 = .ok (.iload_n 1, 1) := by decide +kernel
theorem dX12_write_30 : decode cX12_write 30 = .ok (.iconst 1, 1) := by decide +kernel
theorem dX12_write_31 : decode cX12_write 31 = .ok (.isub, 1) := by decide +kernel
theorem dX12_write_32 : decode cX12_write 32 = .ok (.istore 4, 2) := by decide +kernel
theorem dX12_write_34 : decode cX12_write 34 = .ok (.iload 4, 2) := by decide +kernel
theorem dX12_write_36 : decode cX12_write 36 = .ok (.ifCond .lt 40, 3) := by decide +kernel
theorem dX12_write_39 : decode cX12_write 39 = .ok (.aload_n 0, 1) := by decide +kernel
theorem dX12_write_40 : decode cX12_write 40 = .ok (.getfield 16, 3) := by decide +kernel
theorem dX12_write_43 : decode cX12_write 43 = .ok (.aload_n 0, 1) := by decide +kernel
theorem dX12_write_44 : decode cX12_write 44 = .ok (.getfield 82, 3) := by decide +kernel
theorem dX12_write_47 : decode cX12_write 47 = .ok (.lload_n 2, 1) := by decide +kernel
theorem dX12_write_48 : decode cX12_write 48 = .ok (.bipush 8, 2) := by decide +kernel
theorem dX12_write_50 : decode cX12_write 50 = .ok (.iload 4, 2) := by decide +kernel
theorem dX12_write_52 : decode cX12_write 52 = .ok (.imul, 1) := by decide +kernel
theorem dX12_write_53 : decode cX12_write 53 = .ok (.lshr, 1) := by decide +kernel
theorem dX12_write_54 : decode cX12_write 54 = .ok (.ldc2_w 85, 3) := by decide +kernel
theorem dX12_write_57 : decode cX12_write 57 = .ok (.land, 1) := by decide +kernel
theorem dX12_write_58 : decode cX12_write 58 = .ok (.l2i, 1) := by decide +kernel
theorem dX12_write_59 : decode cX12_write 59 = .ok (.iastore, 1) := by decide +kernel
theorem dX12_write_60 : decode cX12_write 60 = .ok (.aload_n 0, 1) := by decide +kernel
theorem dX12_write_61 : decode cX12_write 61 = .ok (.dup, 1) := by decide +kernel
theorem dX12_write_62 : decode cX12_write 62 = .ok (.getfield 82, 3) := by decide +kernel
theorem dX12_write_65 : decode cX12_write 65 = .ok (.iconst 1, 1) := by decide +kernel
theorem dX12_write_66 : decode cX12_write 66 = .ok (.iadd, 1) := by decide +kernel
theorem dX12_write_67 : decode cX12_write 67 = .ok (.putfield 82, 3) := by decide +kernel
theorem dX12_write_70 : decode cX12_write 70 = .ok (.iinc 4 (-1), 3) := by decide +kernel
theorem dX12_write_73 : decode cX12_write 73 = .ok (.goto (-39), 3) := by decide +kernel
theorem dX12_write_76 : decode cX12_write 76 = .ok (.aload_n 0, 1) := by decide +kernel
theorem dX12_write_77 : decode cX12_write 77 = .ok (.getfield 82, 3) := by decide +kernel
theorem dX12_write_80 : decode cX12_write 80 = .ok (.ireturn, 1) := by decide +kernel
theorem dX12_wipe_0 : decode cX12_wipe 0 = .ok (.aload_n 0, 1) := by decide +kernel
theorem dX12_wipe_1 : decode cX12_wipe 1 = .ok (.getfield 82, 3) := by decide +kernel
theorem dX12_wipe_4 : decode cX12_wipe 4 = .ok (.istore_n 1, 1) := by decide +kernel
theorem dX12_wipe_5 : decode cX12_wipe 5 = .ok (.aload_n 0, 1) := by decide +kernel
theorem dX12_wipe_6 : decode cX12_wipe 6 = .ok (.iconst 0, 1) := by decide +kernel
theorem dX12_wipe_7 : decode cX12_wipe 7 = .ok (.putfield 82, 3) := by decide +kernel
theorem dX12_wipe_10 : decode cX12_wipe 10 = .ok (.iload_n 1, 1) := by decide +kernel
theorem dX12_wipe_11 : decode cX12_wipe 11 = .ok (.ireturn, 1) := by decide +kernel
set_option maxRecDepth 20000 in
theorem ggX12_valueOf_X12_in : GoodIn wsX12_valueOf wsX12_in := goodIn_r _ [6] (by decide +kernel) (by decide +kernel)
set_option maxRecDepth 20000 in
theorem gX12_valueOf_X12_in : GoodIn wsX12_valueOf (va_wsS RX12 78 yX12_in wsX12_in) := goodIn_app (goodIn_of _ (by decide +kernel)) ggX12_valueOf_X12_in
theorem dX12_valueOf_0 : decode cX12_valueOf 0 = .ok (.iload_n 0, 1) := by decide +kernel
theorem dX12_valueOf_1 : decode cX12_valueOf 1 = .ok (.i2l, 1) := by decide +kernel
theorem dX12_valueOf_2 : decode cX12_valueOf 2 = .ok (.ldc2_w 87, 3) := by decide +kernel
theorem dX12_valueOf_5 : decode cX12_valueOf 5 = .ok (.ldc2_w 89, 3) := by decide +kernel
theorem dX12_valueOf_8 : decode cX12_valueOf 8 = .ok (.invokestatic 78, 3) := by decide +kernel
theorem dX12_valueOf_11 : decode cX12_valueOf 11 = .ok (.ifCond .eq 10, 3) := by decide +kernel
theorem dX12_valueOf_14 : decode cX12_valueOf 14 = .ok (.iload_n 0, 1) := by decide +kernel
theorem dX12_valueOf_15 : decode cX12_valueOf 15 = .ok (.bipush 48, 2) := by decide +kernel
theorem dX12_valueOf_17 : decode cX12_valueOf 17 = .ok (.isub, 1) := by decide +kernel
theorem dX12_valueOf_18 : decode cX12_valueOf 18 = .ok (.goto 38, 3) := by decide +kernel
theorem dX12_valueOf_21 : decode cX12_valueOf 21 = .ok (.iload_n 0, 1) := by decide +kernel
theorem dX12_valueOf_22 : decode cX12_valueOf 22 = .ok (.bipush 76, 2) := by decide +kernel
theorem dX12_valueOf_24 : decode cX12_valueOf 24 = .ok (.if_icmp .ne 8, 3) := by decide +kernel
theorem dX12_valueOf_27 : decode cX12_valueOf 27 = .ok (.bipush 10, 2) := by decide +kernel
theorem dX12_valueOf_29 : decode cX12_valueOf 29 = .ok (.goto 27, 3) := by decide +kernel
theorem dX12_valueOf_32 : decode cX12_valueOf 32 = .ok (.iload_n 0, 1) := by decide +kernel
theorem dX12_valueOf_33 : decode cX12_valueOf 33 = .ok (.bipush 68, 2) := by decide +kernel
theorem dX12_valueOf_35 : decode cX12_valueOf 35 = .ok (.if_icmp .ne 8, 3) := by decide +kernel
theorem dX12_valueOf_38 : decode cX12_valueOf 38 = .ok (.bipush 11, 2) := by decide +kernel
theorem dX12_valueOf_40 : decode cX12_valueOf 40 = .ok (.goto 16, 3) := by decide +kernel
theorem dX12_valueOf_43 : decode cX12_valueOf 43 = .ok (.iload_n 0, 1) := by decide +kernel
theorem dX12_valueOf_44 : decode cX12_valueOf 44 = .ok (.bipush 87, 2) := by decide +kernel
theorem dX12_valueOf_46 : decode cX12_valueOf 46 = .ok (.if_icmp .ne 8, 3) := by decide +kernel
theorem dX12_valueOf_49 : decode cX12_valueOf 49 = .ok (.bipush 12, 2) := by decide +kernel
theorem dX12_valueOf_51 : decode cX12_valueOf 51 = .ok (.goto 5, 3) := by decide +kernel
theorem dX12_valueOf_54 : decode cX12_valueOf 54 = .ok (.bipush (-9), 2) := by decide +kernel
theorem dX12_valueOf_56 : decode cX12_valueOf 56 = .ok (.ireturn, 1) := by decide +kernel
set_option maxRecDepth 20000 in
theorem ggX12_readText_X12_valueOf : GoodIn wsX12_readText wsX12_valueOf := goodIn_r _ [9, 10, 11, 12, 13, 8, 14] (by decide +kernel) (by decide +kernel)
set_option maxRecDepth 20000 in
theorem gX12_readText_X12_valueOf : GoodIn wsX12_readText (va_wsS RX12 97 yX12_valueOf wsX12_valueOf) := goodIn_app (goodIn_of _ (by decide +kernel)) ggX12_readText_X12_valueOf
theorem dX12_readText_0 : decode cX12_readText 0 = .ok (.aload_n 0, 1) := by decide +kernel
theorem dX12_readText_1 : decode cX12_readText 1 = .ok (.iconst 0, 1) := by decide +kernel
theorem dX12_readText_2 : decode cX12_readText 2 = .ok (.putfield 91, 3) := by decide +kernel
theorem dX12_readText_5 : decode cX12_readText 5 = .ok (.aload_n 0, 1) := by decide +kernel
theorem dX12_readText_6 : decode cX12_readText 6 = .ok (.bipush 12, 2) := by decide +kernel
theorem dX12_readText_8 : decode cX12_readText 8 = .ok (.putfield 94, 3) := by decide +kernel
theorem dX12_readText_11 : decode cX12_readText 11 = .ok (.iconst 0, 1) := by decide +kernel
theorem dX12_readText_12 : decode cX12_readText 12 = .ok (.istore_n 1, 1) := by decide +kernel
theorem dX12_readText_13 : decode cX12_readText 13 = .ok (.iconst 0, 1) := by decide +kernel
theorem dX12_readText_14 : decode cX12_readText 14 = .ok (.istore_n 2, 1) := by decide +kernel
theorem dX12_readText_15 : decode cX12_readText 15 = .ok (.iload_n 2, 1) := by decide +kernel
theorem dX12_readText_16 : decode cX12_readText 16 = .ok (.aload_n 0, 1) := by decide +kernel
theorem dX12_readText_17 : decode cX12_readText 17 = .ok (.getfield 82, 3) := by decide +kernel
theorem dX12_readText_20 : decode cX12_readText 20 = .ok (.if_icmp .ge 114, 3) := by decide +kernel
theorem dX12_readText_23 : decode cX12_readText 23 = .ok (.aload_n 0, 1) := by decide +kernel
theorem dX12_readText_24 : decode cX12_readText 24 = .ok (.getfield 16, 3) := by decide +kernel
theorem dX12_readText_27 : decode cX12_readText 27 = .ok (.iload_n 2, 1) := by decide +kernel
theorem dX12_readText_28 : decode cX12_readText 28 = .ok (.iaload, 1) := by decide +kernel
theorem dX12_readText_29 : decode cX12_readText 29 = .ok (.invokestatic 97, 3) := by decide +kernel
theorem dX12_readText_32 : decode cX12_readText 32 = .ok (.istore_n 3, 1) := by decide +kernel
theorem dX12_readText_33 : decode cX12_readText 33 = .ok (.iload_n 3, 1) := by decide +kernel
theorem dX12_readText_34 : decode cX12_readText 34 = .ok (.bipush (-9), 2) := by decide +kernel
theorem dX12_readText_36 : decode cX12_readText 36 = .ok (.if_icmp .eq 32, 3) := by decide +kernel
theorem dX12_readText_39 : decode cX12_readText 39 = .ok (.iload_n 1, 1) := by decide +kernel
theorem dX12_readText_40 : decode cX12_readText 40 = .ok (.aload_n 0, 1) := by decide +kernel
theorem dX12_readText_41 : decode cX12_readText 41 = .ok (.getfield 94, 3) := by decide +kernel
theorem dX12_readText_44 : decode cX12_readText 44 = .ok (.if_icmp .ge 24, 3) := by decide +kernel
theorem dX12_readText_47 : decode cX12_readText 47 = .ok (.aload_n 0, 1) := by decide +kernel
theorem dX12_readText_48 : decode cX12_readText 48 = .ok (.getfield 7, 3) := by decide +kernel
theorem dX12_readText_51 : decode cX12_readText 51 = .ok (.bipush 12, 2) := by decide +kernel
theorem dX12_readText_53 : decode cX12_readText 53 = .ok (.aload_n 0, 1) := by decide +kernel
theorem dX12_readText_54 : decode cX12_readText 54 = .ok (.getfield 91, 3) := by decide +kernel
theorem dX12_readText_57 : decode cX12_readText 57 = .ok (.imul, 1) := by decide +kernel
theorem dX12_readText_58 : decode cX12_readText 58 = .ok (.iload_n 1, 1) := by decide +kernel
theorem dX12_readText_59 : decode cX12_readText 59 = .ok (.iadd, 1) := by decide +kernel
theorem dX12_readText_60 : decode cX12_readText 60 = .ok (.iload_n 3, 1) := by decide +kernel
theorem dX12_readText_61 : decode cX12_readText 61 = .ok (.iastore, 1) := by decide +kernel
theorem dX12_readText_62 : decode cX12_readText 62 = .ok (.iinc 1 1, 3) := by decide +kernel
theorem dX12_readText_65 : decode cX12_readText 65 = .ok (.goto 63, 3) := by decide +kernel
theorem dX12_readText_68 : decode cX12_readText 68 = .ok (.aload_n 0, 1) := by decide +kernel
theorem dX12_readText_69 : decode cX12_readText 69 = .ok (.getfield 16, 3) := by decide +kernel
theorem dX12_readText_72 : decode cX12_readText 72 = .ok (.iload_n 2, 1) := by decide +kernel
theorem dX12_readText_73 : decode cX12_readText 73 = .ok (.iaload, 1) := by decide +kernel
theorem dX12_readText_74 : decode cX12_readText 74 = .ok (.bipush 47, 2) := by decide +kernel
theorem dX12_readText_76 : decode cX12_readText 76 = .ok (.if_icmp .ne 50, 3) := by decide +kernel
theorem dX12_readText_79 : decode cX12_readText 79 = .ok (.aload_n 0, 1) := by decide +kernel
theorem dX12_readText_80 : decode cX12_readText 80 = .ok (.getfield 91, 3) := by decide +kernel
theorem dX12_readText_83 : decode cX12_readText 83 = .ok (.iconst 2, 1) := by decide +kernel
theorem dX12_readText_84 : decode cX12_readText 84 = .ok (.if_icmp .ge 42, 3) := by decide +kernel
theorem dX12_readText_87 : decode cX12_readText 87 = .ok (.iload_n 1, 1) := by decide +kernel
theorem dX12_readText_88 : decode cX12_readText 88 = .ok (.ifCond .le 38, 3) := by decide +kernel
theorem dX12_readText_91 : decode cX12_readText 91 = .ok (.aload_n 0, 1) := by decide +kernel
theorem dX12_readText_92 : decode cX12_readText 92 = .ok (.getfield 91, 3) := by decide +kernel
theorem dX12_readText_95 : decode cX12_readText 95 = .ok (.ifCond .eq 11, 3) := by decide +kernel
theorem dX12_readText_98 : decode cX12_readText 98 = .ok (.iload_n 1, 1) := by decide +kernel
theorem dX12_readText_99 : decode cX12_readText 99 = .ok (.aload_n 0, 1) := by decide +kernel
theorem dX12_readText_100 : decode cX12_readText 100 = .ok (.getfield 94, 3) := by decide +kernel
theorem dX12_readText_103 : decode cX12_readText 103 = .ok (.if_icmp .ne 23, 3) := by decide +kernel
theorem dX12_readText_106 : decode cX12_readText 106 = .ok (.aload_n 0, 1) := by decide +kernel
theorem dX12_readText_107 : decode cX12_readText 107 = .ok (.iload_n 1, 1) := by decide +kernel
theorem dX12_readText_108 : decode cX12_readText 108 = .ok (.putfield 94, 3) := by decide +kernel
theorem dX12_readText_111 : decode cX12_readText 111 = .ok (.aload_n 0, 1) := by decide +kernel
theorem dX12_readText_112 : decode cX12_readText 112 = .ok (.dup, 1) := by decide +kernel
theorem dX12_readText_113 : decode cX12_readText 113 = .ok (.getfield 91, 3) := by decide +kernel
theorem dX12_readText_116 : decode cX12_readText 116 = .ok (.iconst 1, 1) := by decide +kernel
theorem dX12_readText_117 : decode cX12_readText 117 = .ok (.iadd, 1) := by decide +kernel
theorem dX12_readText_118 : decode cX12_readText 118 = .ok (.putfield 91, 3) := by decide +kernel
theorem dX12_readText_121 : decode cX12_readText 121 = .ok (.iconst 0, 1) := by decide +kernel
theorem dX12_readText_122 : decode cX12_readText 122 = .ok (.istore_n 1, 1) := by decide +kernel
theorem dX12_readText_123 : decode cX12_readText 123 = .ok (.goto 5, 3) := by decide +kernel
theorem dX12_readText_126 : decode cX12_readText 126 = .ok (.iload_n 2, 1) := by decide +kernel
theorem dX12_readText_127 : decode cX12_readText 127 = .ok (.ireturn, 1) := by decide +kernel
theorem dX12_readText_128 : decode cX12_readText 128 = .ok (.iinc 2 1, 3) := by decide +kernel
theorem dX12_readText_131 : decode cX12_readText 131 = .ok (.goto (-116), 3) := by decide +kernel
theorem dX12_readText_134 : decode cX12_readText 134 = .ok (.aload_n 0, 1) := by decide +kernel
theorem dX12_readText_135 : decode cX12_readText 135 = .ok (.aload_n 0, 1) := by decide +kernel
theorem dX12_readText_136 : decode cX12_readText 136 = .ok (.getfield 91, 3) := by decide +kernel
theorem dX12_readText_139 : decode cX12_readText 139 = .ok (.ifCond .ne 7, 3) := by decide +kernel
theorem dX12_readText_142 : decode cX12_readText 142 = .ok (.iload_n 1, 1) := by decide +kernel
theorem dX12_readText_143 : decode cX12_readText 143 = .ok (.goto 7, 3) := by decide +kernel
theorem dX12_readText_146 : decode cX12_readText 146 = .ok (.aload_n 0, 1) := by decide +kernel
theorem dX12_readText_147 : decode cX12_readText 147 = .ok (.getfield 94, 3) := by decide +kernel
theorem dX12_readText_150 : decode cX12_readText 150 = .ok (.putfield 94, 3) := by decide +kernel
theorem dX12_readText_153 : decode cX12_readText 153 = .ok (.aload_n 0, 1) := by decide +kernel
theorem dX12_readText_154 : decode cX12_readText 154 = .ok (.dup, 1) := by decide +kernel
theorem dX12_readText_155 : decode cX12_readText 155 = .ok (.getfield 91, 3) := by decide +kernel
theorem dX12_readText_158 : decode cX12_readText 158 = .ok (.iconst 1, 1) := by decide +kernel
theorem dX12_readText_159 : decode cX12_readText 159 = .ok (.iadd, 1) := by decide +kernel
theorem dX12_readText_160 : decode cX12_readText 160 = .ok (.putfield 91, 3) := by decide +kernel
theorem dX12_readText_163 : decode cX12_readText 163 = .ok (.iload_n 1, 1) := by decide +kernel
theorem dX12_readText_164 : decode cX12_readText 164 = .ok (.ifCond .le 16, 3) := by decide +kernel
theorem dX12_readText_167 : decode cX12_readText 167 = .ok (.iload_n 1, 1) := by decide +kernel
theorem dX12_readText_168 : decode cX12_readText 168 = .ok (.aload_n 0, 1) := by decide +kernel
theorem dX12_readText_169 : decode cX12_readText 169 = .ok (.getfield 94, 3) := by decide +kernel
theorem dX12_readText_172 : decode cX12_readText 172 = .ok (.if_icmp .ne 8, 3) := by decide +kernel
theorem dX12_readText_175 : decode cX12_readText 175 = .ok (.bipush (-9), 2) := by decide +kernel
theorem dX12_readText_177 : decode cX12_readText 177 = .ok (.goto 7, 3) := by decide +kernel
theorem dX12_readText_180 : decode cX12_readText 180 = .ok (.aload_n 0, 1) := by decide +kernel
theorem dX12_readText_181 : decode cX12_readText 181 = .ok (.getfield 82, 3) := by decide +kernel
theorem dX12_readText_184 : decode cX12_readText 184 = .ok (.ireturn, 1) := by decide +kernel
set_option maxRecDepth 20000 in
theorem ggX12_fault_X12_readText : GoodIn wsX12_fault wsX12_readText := goodIn_r _ [5, 6, 7, 8, 9, 10, 11, 12, 4, 13, 14, 15, 16, 17, 18, 19, 20, 21, 22, 23, 24, 25, 26, 27, 28, 29, 30, 31, 32, 33, 34, 35, 36, 37, 38, 39, 40, 41, 42, 43, 44, 45, 46, 47, 48, 49] (by decide +kernel) (by decide +kernel)
set_option maxRecDepth 20000 in
theorem gX12_fault_X12_readText : GoodIn wsX12_fault (wsV RX12 101 RX12 yX12_readText wsX12_readText) := goodIn_app (goodIn_of _ (by decide +kernel)) ggX12_fault_X12_readText
theorem dX12_fault_0 : decode cX12_fault 0 = .ok (.aload_n 0, 1) := by decide +kernel
theorem dX12_fault_1 : decode cX12_fault 1 = .ok (.invokevirtual 101, 3) := by decide +kernel
theorem dX12_fault_4 : decode cX12_fault 4 = .ok (.ireturn, 1) := by decide +kernel
set_option maxRecDepth 20000 in
theorem ggX12_gutter_X12_readText : GoodIn wsX12_gutter wsX12_readText := goodIn_r _ [11, 3, 5, 12, 13, 2, 14, 15, 10, 16, 17, 18, 19, 20, 21, 22, 23, 24, 25, 26, 27, 28, 29, 30, 31, 32, 33, 34, 35, 36, 37, 38, 39, 40, 41, 42, 43, 44, 45, 46, 47, 48, 49, 50, 51, 52] (by decide +kernel) (by decide +kernel)
set_option maxRecDepth 20000 in
theorem gX12_gutter_X12_readText : GoodIn wsX12_gutter (wsV RX12 101 RX12 yX12_readText wsX12_readText) := goodIn_app (goodIn_of _ (by decide +kernel)) ggX12_gutter_X12_readText
theorem dX12_gutter_0 : decode cX12_gutter 0 = .ok (.aload_n 0, 1) := by decide +kernel
theorem dX12_gutter_1 : decode cX12_gutter 1 = .ok (.invokevirtual 101, 3) := by decide +kernel
theorem dX12_gutter_4 : decode cX12_gutter 4 = .ok (.bipush (-9), 2) := by decide +kernel
theorem dX12_gutter_6 : decode cX12_gutter 6 = .ok (.if_icmp .eq 6, 3) := by decide +kernel
theorem dX12_gutter_9 : decode cX12_gutter 9 = .ok (.bipush (-3), 2) := by decide +kernel
theorem dX12_gutter_11 : decode cX12_gutter 11 = .ok (.ireturn, 1) := by decide +kernel
theorem dX12_gutter_12 : decode cX12_gutter 12 = .ok (.iconst 0, 1) := by decide +kernel
theorem dX12_gutter_13 : decode cX12_gutter 13 = .ok (.istore_n 1, 1) := by decide +kernel
theorem dX12_gutter_14 : decode cX12_gutter 14 = .ok (.iload_n 1, 1) := by decide +kernel
theorem dX12_gutter_15 : decode cX12_gutter 15 = .ok (.bipush 36, 2) := by decide +kernel
theorem dX12_gutter_17 : decode cX12_gutter 17 = .ok (.if_icmp .ge 21, 3) := by decide +kernel
theorem dX12_gutter_20 : decode cX12_gutter 20 = .ok (.aload_n 0, 1) := by decide +kernel
theorem dX12_gutter_21 : decode cX12_gutter 21 = .ok (.getfield 13, 3) := by decide +kernel
theorem dX12_gutter_24 : decode cX12_gutter 24 = .ok (.iload_n 1, 1) := by decide +kernel
theorem dX12_gutter_25 : decode cX12_gutter 25 = .ok (.aload_n 0, 1) := by decide +kernel
theorem dX12_gutter_26 : decode cX12_gutter 26 = .ok (.getfield 7, 3) := by decide +kernel
theorem dX12_gutter_29 : decode cX12_gutter 29 = .ok (.iload_n 1, 1) := by decide +kernel
theorem dX12_gutter_30 : decode cX12_gutter 30 = .ok (.iaload, 1) := by decide +kernel
theorem dX12_gutter_31 : decode cX12_gutter 31 = .ok (.iastore, 1) := by decide +kernel
theorem dX12_gutter_32 : decode cX12_gutter 32 = .ok (.iinc 1 1, 3) := by decide +kernel
theorem dX12_gutter_35 : decode cX12_gutter 35 = .ok (.goto (-21), 3) := by decide +kernel
theorem dX12_gutter_38 : decode cX12_gutter 38 = .ok (.aload_n 0, 1) := by decide +kernel
theorem dX12_gutter_39 : decode cX12_gutter 39 = .ok (.aload_n 0, 1) := by decide +kernel
theorem dX12_gutter_40 : decode cX12_gutter 40 = .ok (.getfield 91, 3) := by decide +kernel
theorem dX12_gutter_43 : decode cX12_gutter 43 = .ok (.putfield 63, 3) := by decide +kernel
theorem dX12_gutter_46 : decode cX12_gutter 46 = .ok (.aload_n 0, 1) := by decide +kernel
theorem dX12_gutter_47 : decode cX12_gutter 47 = .ok (.aload_n 0, 1) := by decide +kernel
theorem dX12_gutter_48 : decode cX12_gutter 48 = .ok (.getfield 94, 3) := by decide +kernel
theorem dX12_gutter_51 : decode cX12_gutter 51 = .ok (.putfield 67, 3) := by decide +kernel
theorem dX12_gutter_54 : decode cX12_gutter 54 = .ok (.bipush 100, 2) := by decide +kernel
theorem dX12_gutter_56 : decode cX12_gutter 56 = .ok (.aload_n 0, 1) := by decide +kernel
theorem dX12_gutter_57 : decode cX12_gutter 57 = .ok (.getfield 63, 3) := by decide +kernel
theorem dX12_gutter_60 : decode cX12_gutter 60 = .ok (.imul, 1) := by decide +kernel
theorem dX12_gutter_61 : decode cX12_gutter 61 = .ok (.aload_n 0, 1) := by decide +kernel
theorem dX12_gutter_62 : decode cX12_gutter 62 = .ok (.getfield 67, 3) := by decide +kernel
theorem dX12_gutter_65 : decode cX12_gutter 65 = .ok (.iadd, 1) := by decide +kernel
theorem dX12_gutter_66 : decode cX12_gutter 66 = .ok (.ireturn, 1) := by decide +kernel
set_option maxRecDepth 20000 in
theorem ggX12_isLane_X12_in : GoodIn wsX12_isLane wsX12_in := goodIn_r _ [5] (by decide +kernel) (by decide +kernel)
set_option maxRecDepth 20000 in
theorem gX12_isLane_X12_in : GoodIn wsX12_isLane (va_wsS RX12 78 yX12_in wsX12_in) := goodIn_app (goodIn_of _ (by decide +kernel)) ggX12_isLane_X12_in
theorem dX12_isLane_0 : decode cX12_isLane 0 = .ok (.iload_n 1, 1) := by decide +kernel
theorem dX12_isLane_1 : decode cX12_isLane 1 = .ok (.i2l, 1) := by decide +kernel
theorem dX12_isLane_2 : decode cX12_isLane 2 = .ok (.lconst 0, 1) := by decide +kernel
theorem dX12_isLane_3 : decode cX12_isLane 3 = .ok (.aload_n 0, 1) := by decide +kernel
theorem dX12_isLane_4 : decode cX12_isLane 4 = .ok (.getfield 63, 3) := by decide +kernel
theorem dX12_isLane_7 : decode cX12_isLane 7 = .ok (.iconst 1, 1) := by decide +kernel
theorem dX12_isLane_8 : decode cX12_isLane 8 = .ok (.isub, 1) := by decide +kernel
theorem dX12_isLane_9 : decode cX12_isLane 9 = .ok (.i2l, 1) := by decide +kernel
theorem dX12_isLane_10 : decode cX12_isLane 10 = .ok (.invokestatic 78, 3) := by decide +kernel
theorem dX12_isLane_13 : decode cX12_isLane 13 = .ok (.ireturn, 1) := by decide +kernel
set_option maxRecDepth 20000 in
theorem ggX12_isPlace_X12_in : GoodIn wsX12_isPlace wsX12_in := goodIn_r _ [5] (by decide +kernel) (by decide +kernel)
set_option maxRecDepth 20000 in
theorem gX12_isPlace_X12_in : GoodIn wsX12_isPlace (va_wsS RX12 78 yX12_in wsX12_in) := goodIn_app (goodIn_of _ (by decide +kernel)) ggX12_isPlace_X12_in
theorem dX12_isPlace_0 : decode cX12_isPlace 0 = .ok (.iload_n 1, 1) := by decide +kernel
theorem dX12_isPlace_1 : decode cX12_isPlace 1 = .ok (.i2l, 1) := by decide +kernel
theorem dX12_isPlace_2 : decode cX12_isPlace 2 = .ok (.lconst 0, 1) := by decide +kernel
theorem dX12_isPlace_3 : decode cX12_isPlace 3 = .ok (.aload_n 0, 1) := by decide +kernel
theorem dX12_isPlace_4 : decode cX12_isPlace 4 = .ok (.getfield 67, 3) := by decide +kernel
theorem dX12_isPlace_7 : decode cX12_isPlace 7 = .ok (.iconst 1, 1) := by decide +kernel
theorem dX12_isPlace_8 : decode cX12_isPlace 8 = .ok (.isub, 1) := by decide +kernel
theorem dX12_isPlace_9 : decode cX12_isPlace 9 = .ok (.i2l, 1) := by decide +kernel
theorem dX12_isPlace_10 : decode cX12_isPlace 10 = .ok (.invokestatic 78, 3) := by decide +kernel
theorem dX12_isPlace_13 : decode cX12_isPlace 13 = .ok (.ireturn, 1) := by decide +kernel
set_option maxRecDepth 20000 in
theorem ggX12_place_X12_isLane : GoodIn wsX12_place wsX12_isLane := goodIn_r _ [6, 7, 8, 9, 5, 10, 16, 17, 18, 19, 20, 21, 22, 23, 24, 25, 26, 27, 28, 29, 30, 31, 32, 33, 34, 35, 36, 37, 38, 39, 40, 41, 42, 43, 44, 45, 46] (by decide +kernel) (by decide +kernel)
set_option maxRecDepth 20000 in
theorem gX12_place_X12_isLane : GoodIn wsX12_place (wsV RX12 105 RX12 yX12_isLane wsX12_isLane) := goodIn_app (goodIn_of _ (by decide +kernel)) ggX12_place_X12_isLane
set_option maxRecDepth 20000 in
theorem ggX12_place_X12_isPlace : GoodIn wsX12_place wsX12_isPlace := goodIn_r _ [14, 15, 8, 9, 5, 10, 16, 17, 18, 19, 20, 21, 22, 23, 24, 25, 26, 27, 28, 29, 30, 31, 32, 33, 34, 35, 36, 37, 38, 39, 40, 41, 42, 43, 44, 45, 46] (by decide +kernel) (by decide +kernel)
set_option maxRecDepth 20000 in
theorem gX12_place_X12_isPlace : GoodIn wsX12_place (wsV RX12 109 RX12 yX12_isPlace wsX12_isPlace) := goodIn_app (goodIn_of _ (by decide +kernel)) ggX12_place_X12_isPlace
theorem dX12_place_0 : decode cX12_place 0 = .ok (.aload_n 0, 1) := by decide +kernel
theorem dX12_place_1 : decode cX12_place 1 = .ok (.iload_n 1, 1) := by decide +kernel
theorem dX12_place_2 : decode cX12_place 2 = .ok (.invokevirtual 105, 3) := by decide +kernel
theorem dX12_place_5 : decode cX12_place 5 = .ok (.ifCond .eq 25, 3) := by decide +kernel
theorem dX12_place_8 : decode cX12_place 8 = .ok (.aload_n 0, 1) := by decide +kernel
theorem dX12_place_9 : decode cX12_place 9 = .ok (.iload_n 2, 1) := by decide +kernel
theorem dX12_place_10 : decode cX12_place 10 = .ok (.invokevirtual 109, 3) := by decide +kernel
theorem dX12_place_13 : decode cX12_place 13 = .ok (.ifCond .eq 17, 3) := by decide +kernel
theorem dX12_place_16 : decode cX12_place 16 = .ok (.aload_n 0, 1) := by decide +kernel
theorem dX12_place_17 : decode cX12_place 17 = .ok (.getfield 13, 3) := by decide +kernel
theorem dX12_place_20 : decode cX12_place 20 = .ok (.bipush 12, 2) := by decide +kernel
theorem dX12_place_22 : decode cX12_place 22 = .ok (.iload_n 1, 1) := by decide +kernel
theorem dX12_place_23 : decode cX12_place 23 = .ok (.imul, 1) := by decide +kernel
theorem dX12_place_24 : decode cX12_place 24 = .ok (.iload_n 2, 1) := by decide +kernel
theorem dX12_place_25 : decode cX12_place 25 = .ok (.iadd, 1) := by decide +kernel
theorem dX12_place_26 : decode cX12_place 26 = .ok (.iaload, 1) := by decide +kernel
theorem dX12_place_27 : decode cX12_place 27 = .ok (.goto 4, 3) := by decide +kernel
theorem dX12_place_30 : decode cX12_place 30 = .ok (.iconst (-1), 1) := by decide +kernel
theorem dX12_place_31 : decode cX12_place 31 = .ok (.ireturn, 1) := by decide +kernel
set_option maxRecDepth 20000 in
theorem ggX12_mishap_X12_in : GoodIn wsX12_mishap wsX12_in := goodIn_r _ [7] (by decide +kernel) (by decide +kernel)
set_option maxRecDepth 20000 in
theorem gX12_mishap_X12_in : GoodIn wsX12_mishap (va_wsS RX12 78 yX12_in wsX12_in) := goodIn_app (goodIn_of _ (by decide +kernel)) ggX12_mishap_X12_in
theorem dX12_mishap_0 : decode cX12_mishap 0 = .ok (.iload_n 1, 1) := by decide +kernel
theorem dX12_mishap_1 : decode cX12_mishap 1 = .ok (.i2l, 1) := by decide +kernel
theorem dX12_mishap_2 : decode cX12_mishap 2 = .ok (.lconst 0, 1) := by decide +kernel
theorem dX12_mishap_3 : decode cX12_mishap 3 = .ok (.ldc2_w 112, 3) := by decide +kernel
theorem dX12_mishap_6 : decode cX12_mishap 6 = .ok (.invokestatic 78, 3) := by decide +kernel
theorem dX12_mishap_9 : decode cX12_mishap 9 = .ok (.ifCond .eq 15, 3) := by decide +kernel
theorem dX12_mishap_12 : decode cX12_mishap 12 = .ok (.iload_n 2, 1) := by decide +kernel
theorem dX12_mishap_13 : decode cX12_mishap 13 = .ok (.i2l, 1) := by decide +kernel
theorem dX12_mishap_14 : decode cX12_mishap 14 = .ok (.lconst 0, 1) := by decide +kernel
theorem dX12_mishap_15 : decode cX12_mishap 15 = .ok (.ldc2_w 112, 3) := by decide +kernel
theorem dX12_mishap_18 : decode cX12_mishap 18 = .ok (.invokestatic 78, 3) := by decide +kernel
theorem dX12_mishap_21 : decode cX12_mishap 21 = .ok (.ifCond .ne 6, 3) := by decide +kernel
theorem dX12_mishap_24 : decode cX12_mishap 24 = .ok (.bipush (-2), 2) := by decide +kernel
theorem dX12_mishap_26 : decode cX12_mishap 26 = .ok (.ireturn, 1) := by decide +kernel
theorem dX12_mishap_27 : decode cX12_mishap 27 = .ok (.bipush 10, 2) := by decide +kernel
theorem dX12_mishap_29 : decode cX12_mishap 29 = .ok (.aload_n 0, 1) := by decide +kernel
theorem dX12_mishap_30 : decode cX12_mishap 30 = .ok (.getfield 70, 3) := by decide +kernel
theorem dX12_mishap_33 : decode cX12_mishap 33 = .ok (.imul, 1) := by decide +kernel
theorem dX12_mishap_34 : decode cX12_mishap 34 = .ok (.aload_n 0, 1) := by decide +kernel
theorem dX12_mishap_35 : decode cX12_mishap 35 = .ok (.getfield 73, 3) := by decide +kernel
theorem dX12_mishap_38 : decode cX12_mishap 38 = .ok (.iadd, 1) := by decide +kernel
theorem dX12_mishap_39 : decode cX12_mishap 39 = .ok (.istore_n 3, 1) := by decide +kernel
theorem dX12_mishap_40 : decode cX12_mishap 40 = .ok (.aload_n 0, 1) := by decide +kernel
theorem dX12_mishap_41 : decode cX12_mishap 41 = .ok (.iload_n 1, 1) := by decide +kernel
theorem dX12_mishap_42 : decode cX12_mishap 42 = .ok (.putfield 70, 3) := by decide +kernel
theorem dX12_mishap_45 : decode cX12_mishap 45 = .ok (.aload_n 0, 1) := by decide +kernel
theorem dX12_mishap_46 : decode cX12_mishap 46 = .ok (.iload_n 2, 1) := by decide +kernel
theorem dX12_mishap_47 : decode cX12_mishap 47 = .ok (.putfield 73, 3) := by decide +kernel
theorem dX12_mishap_50 : decode cX12_mishap 50 = .ok (.iload_n 3, 1) := by decide +kernel
theorem dX12_mishap_51 : decode cX12_mishap 51 = .ok (.ireturn, 1) := by decide +kernel
set_option maxRecDepth 20000 in
theorem ggX12_isBoat_X12_in : GoodIn wsX12_isBoat wsX12_in := goodIn_r _ [5] (by decide +kernel) (by decide +kernel)
set_option maxRecDepth 20000 in
theorem gX12_isBoat_X12_in : GoodIn wsX12_isBoat (va_wsS RX12 78 yX12_in wsX12_in) := goodIn_app (goodIn_of _ (by decide +kernel)) ggX12_isBoat_X12_in
theorem dX12_isBoat_0 : decode cX12_isBoat 0 = .ok (.iload_n 1, 1) := by decide +kernel
theorem dX12_isBoat_1 : decode cX12_isBoat 1 = .ok (.i2l, 1) := by decide +kernel
theorem dX12_isBoat_2 : decode cX12_isBoat 2 = .ok (.lconst 0, 1) := by decide +kernel
theorem dX12_isBoat_3 : decode cX12_isBoat 3 = .ok (.aload_n 0, 1) := by decide +kernel
theorem dX12_isBoat_4 : decode cX12_isBoat 4 = .ok (.getfield 114, 3) := by decide +kernel
theorem dX12_isBoat_7 : decode cX12_isBoat 7 = .ok (.iconst 1, 1) := by decide +kernel
theorem dX12_isBoat_8 : decode cX12_isBoat 8 = .ok (.isub, 1) := by decide +kernel
theorem dX12_isBoat_9 : decode cX12_isBoat 9 = .ok (.i2l, 1) := by decide +kernel
theorem dX12_isBoat_10 : decode cX12_isBoat 10 = .ok (.invokestatic 78, 3) := by decide +kernel
theorem dX12_isBoat_13 : decode cX12_isBoat 13 = .ok (.ireturn, 1) := by decide +kernel
set_option maxRecDepth 20000 in
theorem ggX12_folds_X12_in : GoodIn wsX12_folds wsX12_in := goodIn_r _ [5] (by decide +kernel) (by decide +kernel)
set_option maxRecDepth 20000 in
theorem gX12_folds_X12_in : GoodIn wsX12_folds (va_wsS RX12 78 yX12_in wsX12_in) := goodIn_app (goodIn_of _ (by decide +kernel)) ggX12_folds_X12_in
theorem dX12_folds_0 : decode cX12_folds 0 = .ok (.iload_n 2, 1) := by decide +kernel
theorem dX12_folds_1 : decode cX12_folds 1 = .ok (.i2l, 1) := by decide +kernel
theorem dX12_folds_2 : decode cX12_folds 2 = .ok (.lconst 1, 1) := by decide +kernel
theorem dX12_folds_3 : decode cX12_folds 3 = .ok (.ldc2_w 117, 3) := by decide +kernel
theorem dX12_folds_6 : decode cX12_folds 6 = .ok (.invokestatic 78, 3) := by decide +kernel
theorem dX12_folds_9 : decode cX12_folds 9 = .ok (.ifCond .eq 23, 3) := by decide +kernel
theorem dX12_folds_12 : decode cX12_folds 12 = .ok (.iload_n 0, 1) := by decide +kernel
theorem dX12_folds_13 : decode cX12_folds 13 = .ok (.iconst 2, 1) := by decide +kernel
theorem dX12_folds_14 : decode cX12_folds 14 = .ok (.iload_n 2, 1) := by decide +kernel
theorem dX12_folds_15 : decode cX12_folds 15 = .ok (.imul, 1) := by decide +kernel
theorem dX12_folds_16 : decode cX12_folds 16 = .ok (.isub, 1) := by decide +kernel
theorem dX12_folds_17 : decode cX12_folds 17 = .ok (.ifCond .le 15, 3) := by decide +kernel
theorem dX12_folds_20 : decode cX12_folds 20 = .ok (.iload_n 1, 1) := by decide +kernel
theorem dX12_folds_21 : decode cX12_folds 21 = .ok (.iconst 2, 1) := by decide +kernel
theorem dX12_folds_22 : decode cX12_folds 22 = .ok (.iload_n 2, 1) := by decide +kernel
theorem dX12_folds_23 : decode cX12_folds 23 = .ok (.imul, 1) := by decide +kernel
theorem dX12_folds_24 : decode cX12_folds 24 = .ok (.isub, 1) := by decide +kernel
theorem dX12_folds_25 : decode cX12_folds 25 = .ok (.ifCond .le 7, 3) := by decide +kernel
theorem dX12_folds_28 : decode cX12_folds 28 = .ok (.iconst 1, 1) := by decide +kernel
theorem dX12_folds_29 : decode cX12_folds 29 = .ok (.goto 4, 3) := by decide +kernel
theorem dX12_folds_32 : decode cX12_folds 32 = .ok (.iconst 0, 1) := by decide +kernel
theorem dX12_folds_33 : decode cX12_folds 33 = .ok (.ireturn, 1) := by decide +kernel
set_option maxRecDepth 20000 in
theorem ggX12_boat_X12_in : GoodIn wsX12_boat wsX12_in := goodIn_r _ [9] (by decide +kernel) (by decide +kernel)
set_option maxRecDepth 20000 in
theorem gX12_boat_X12_in : GoodIn wsX12_boat (va_wsS RX12 78 yX12_in wsX12_in) := goodIn_app (goodIn_of _ (by decide +kernel)) ggX12_boat_X12_in
set_option maxRecDepth 20000 in
theorem ggX12_boat_X12_folds : GoodIn wsX12_boat wsX12_folds := goodIn_r _ [12, 2, 6, 7, 8, 9] (by decide +kernel) (by decide +kernel)
set_option maxRecDepth 20000 in
theorem gX12_boat_X12_folds : GoodIn wsX12_boat (va_wsS RX12 121 yX12_folds wsX12_folds) := goodIn_app (goodIn_of _ (by decide +kernel)) ggX12_boat_X12_folds
theorem dX12_boat_0 : decode cX12_boat 0 = .ok (.iload_n 1, 1) := by decide +kernel
theorem dX12_boat_1 : decode cX12_boat 1 = .ok (.i2l, 1) := by decide +kernel
theorem dX12_boat_2 : decode cX12_boat 2 = .ok (.ldc2_w 119, 3) := by decide +kernel
theorem dX12_boat_5 : decode cX12_boat 5 = .ok (.ldc2_w 117, 3) := by decide +kernel
theorem dX12_boat_8 : decode cX12_boat 8 = .ok (.invokestatic 78, 3) := by decide +kernel
theorem dX12_boat_11 : decode cX12_boat 11 = .ok (.ifCond .eq 39, 3) := by decide +kernel
theorem dX12_boat_14 : decode cX12_boat 14 = .ok (.iload_n 2, 1) := by decide +kernel
theorem dX12_boat_15 : decode cX12_boat 15 = .ok (.i2l, 1) := by decide +kernel
theorem dX12_boat_16 : decode cX12_boat 16 = .ok (.ldc2_w 119, 3) := by decide +kernel
theorem dX12_boat_19 : decode cX12_boat 19 = .ok (.ldc2_w 117, 3) := by decide +kernel
theorem dX12_boat_22 : decode cX12_boat 22 = .ok (.invokestatic 78, 3) := by decide +kernel
theorem dX12_boat_25 : decode cX12_boat 25 = .ok (.ifCond .eq 25, 3) := by decide +kernel
theorem dX12_boat_28 : decode cX12_boat 28 = .ok (.iload_n 3, 1) := by decide +kernel
theorem dX12_boat_29 : decode cX12_boat 29 = .ok (.i2l, 1) := by decide +kernel
theorem dX12_boat_30 : decode cX12_boat 30 = .ok (.lconst 1, 1) := by decide +kernel
theorem dX12_boat_31 : decode cX12_boat 31 = .ok (.ldc2_w 112, 3) := by decide +kernel
theorem dX12_boat_34 : decode cX12_boat 34 = .ok (.invokestatic 78, 3) := by decide +kernel
theorem dX12_boat_37 : decode cX12_boat 37 = .ok (.ifCond .eq 13, 3) := by decide +kernel
theorem dX12_boat_40 : decode cX12_boat 40 = .ok (.iload_n 1, 1) := by decide +kernel
theorem dX12_boat_41 : decode cX12_boat 41 = .ok (.iload_n 2, 1) := by decide +kernel
theorem dX12_boat_42 : decode cX12_boat 42 = .ok (.iload 4, 2) := by decide +kernel
theorem dX12_boat_44 : decode cX12_boat 44 = .ok (.invokestatic 121, 3) := by decide +kernel
theorem dX12_boat_47 : decode cX12_boat 47 = .ok (.ifCond .ne 6, 3) := by decide +kernel
theorem dX12_boat_50 : decode cX12_boat 50 = .ok (.bipush (-2), 2) := by decide +kernel
theorem dX12_boat_52 : decode cX12_boat 52 = .ok (.ireturn, 1) := by decide +kernel
theorem dX12_boat_53 : decode cX12_boat 53 = .ok (.aload_n 0, 1) := by decide +kernel
theorem dX12_boat_54 : decode cX12_boat 54 = .ok (.getfield 114, 3) := by decide +kernel
theorem dX12_boat_57 : decode cX12_boat 57 = .ok (.bipush 6, 2) := by decide +kernel
theorem dX12_boat_59 : decode cX12_boat 59 = .ok (.if_icmp .ne 6, 3) := by decide +kernel
theorem dX12_boat_62 : decode cX12_boat 62 = .ok (.bipush (-4), 2) := by decide +kernel
theorem dX12_boat_64 : decode cX12_boat 64 = .ok (.ireturn, 1) := by decide +kernel
theorem dX12_boat_65 : decode cX12_boat 65 = .ok (.bipush 7, 2) := by decide +kernel
theorem dX12_boat_67 : decode cX12_boat 67 = .ok (.aload_n 0, 1) := by decide +kernel
theorem dX12_boat_68 : decode cX12_boat 68 = .ok (.getfield 114, 3) := by decide +kernel
theorem dX12_boat_71 : decode cX12_boat 71 = .ok (.imul, 1) := by decide +kernel
theorem dX12_boat_72 : decode cX12_boat 72 = .ok (.istore 5, 2) := by decide +kernel
theorem dX12_boat_74 : decode cX12_boat 74 = .ok (.aload_n 0, 1) := by decide +kernel
theorem dX12_boat_75 : decode cX12_boat 75 = .ok (.getfield 19, 3) := by decide +kernel
theorem dX12_boat_78 : decode cX12_boat 78 = .ok (.iload 5, 2) := by decide +kernel
theorem dX12_boat_80 : decode cX12_boat 80 = .ok (.iload_n 1, 1) := by decide +kernel
theorem dX12_boat_81 : decode cX12_boat 81 = .ok (.iastore, 1) := by decide +kernel
theorem dX12_boat_82 : decode cX12_boat 82 = .ok (.aload_n 0, 1) := by decide +kernel
theorem dX12_boat_83 : decode cX12_boat 83 = .ok (.getfield 19, 3) := by decide +kernel
theorem dX12_boat_86 : decode cX12_boat 86 = .ok (.iload 5, 2) := by decide +kernel
theorem dX12_boat_88 : decode cX12_boat 88 = .ok (.iconst 1, 1) := by decide +kernel
theorem dX12_boat_89 : decode cX12_boat 89 = .ok (.iadd, 1) := by decide +kernel
theorem dX12_boat_90 : decode cX12_boat 90 = .ok (.iload_n 2, 1) := by decide +kernel
theorem dX12_boat_91 : decode cX12_boat 91 = .ok (.iastore, 1) := by decide +kernel
theorem dX12_boat_92 : decode cX12_boat 92 = .ok (.aload_n 0, 1) := by decide +kernel
theorem dX12_boat_93 : decode cX12_boat 93 = .ok (.getfield 19, 3) := by decide +kernel
theorem dX12_boat_96 : decode cX12_boat 96 = .ok (.iload 5, 2) := by decide +kernel
theorem dX12_boat_98 : decode cX12_boat 98 = .ok (.iconst 2, 1) := by decide +kernel
theorem dX12_boat_99 : decode cX12_boat 99 = .ok (.iadd, 1) := by decide +kernel
theorem dX12_boat_100 : decode cX12_boat 100 = .ok (.iload_n 3, 1) := by decide +kernel
theorem dX12_boat_101 : decode cX12_boat 101 = .ok (.iastore, 1) := by decide +kernel
theorem dX12_boat_102 : decode cX12_boat 102 = .ok (.aload_n 0, 1) := by decide +kernel
theorem dX12_boat_103 : decode cX12_boat 103 = .ok (.getfield 19, 3) := by decide +kernel
theorem dX12_boat_106 : decode cX12_boat 106 = .ok (.iload 5, 2) := by decide +kernel
theorem dX12_boat_108 : decode cX12_boat 108 = .ok (.iconst 3, 1) := by decide +kernel
theorem dX12_boat_109 : decode cX12_boat 109 = .ok (.iadd, 1) := by decide +kernel
theorem dX12_boat_110 : decode cX12_boat 110 = .ok (.iload 4, 2) := by decide +kernel
theorem dX12_boat_112 : decode cX12_boat 112 = .ok (.iastore, 1) := by decide +kernel
theorem dX12_boat_113 : decode cX12_boat 113 = .ok (.aload_n 0, 1) := by decide +kernel
theorem dX12_boat_114 : decode cX12_boat 114 = .ok (.getfield 19, 3) := by decide +kernel
theorem dX12_boat_117 : decode cX12_boat 117 = .ok (.iload 5, 2) := by decide +kernel
theorem dX12_boat_119 : decode cX12_boat 119 = .ok (.iconst 4, 1) := by decide +kernel
theorem dX12_boat_120 : decode cX12_boat 120 = .ok (.iadd, 1) := by decide +kernel
theorem dX12_boat_121 : decode cX12_boat 121 = .ok (.bipush 10, 2) := by decide +kernel
theorem dX12_boat_123 : decode cX12_boat 123 = .ok (.iastore, 1) := by decide +kernel
theorem dX12_boat_124 : decode cX12_boat 124 = .ok (.aload_n 0, 1) := by decide +kernel
theorem dX12_boat_125 : decode cX12_boat 125 = .ok (.getfield 19, 3) := by decide +kernel
theorem dX12_boat_128 : decode cX12_boat 128 = .ok (.iload 5, 2) := by decide +kernel
theorem dX12_boat_130 : decode cX12_boat 130 = .ok (.iconst 5, 1) := by decide +kernel
theorem dX12_boat_131 : decode cX12_boat 131 = .ok (.iadd, 1) := by decide +kernel
theorem dX12_boat_132 : decode cX12_boat 132 = .ok (.iconst 0, 1) := by decide +kernel
theorem dX12_boat_133 : decode cX12_boat 133 = .ok (.iastore, 1) := by decide +kernel
theorem dX12_boat_134 : decode cX12_boat 134 = .ok (.aload_n 0, 1) := by decide +kernel
theorem dX12_boat_135 : decode cX12_boat 135 = .ok (.getfield 19, 3) := by decide +kernel
theorem dX12_boat_138 : decode cX12_boat 138 = .ok (.iload 5, 2) := by decide +kernel
theorem dX12_boat_140 : decode cX12_boat 140 = .ok (.bipush 6, 2) := by decide +kernel
theorem dX12_boat_142 : decode cX12_boat 142 = .ok (.iadd, 1) := by decide +kernel
theorem dX12_boat_143 : decode cX12_boat 143 = .ok (.iconst 0, 1) := by decide +kernel
theorem dX12_boat_144 : decode cX12_boat 144 = .ok (.iastore, 1) := by decide +kernel
theorem dX12_boat_145 : decode cX12_boat 145 = .ok (.aload_n 0, 1) := by decide +kernel
theorem dX12_boat_146 : decode cX12_boat 146 = .ok (.dup, 1) := by decide +kernel
theorem dX12_boat_147 : decode cX12_boat 147 = .ok (.getfield 114, 3) := by decide +kernel
theorem dX12_boat_150 : decode cX12_boat 150 = .ok (.iconst 1, 1) := by decide +kernel
theorem dX12_boat_151 : decode cX12_boat 151 = .ok (.iadd, 1) := by decide +kernel
theorem dX12_boat_152 : decode cX12_boat 152 = .ok (.putfield 114, 3) := by decide +kernel
theorem dX12_boat_155 : decode cX12_boat 155 = .ok (.aload_n 0, 1) := by decide +kernel
theorem dX12_boat_156 : decode cX12_boat 156 = .ok (.getfield 114, 3) := by decide +kernel
theorem dX12_boat_159 : decode cX12_boat 159 = .ok (.iconst 1, 1) := by decide +kernel
theorem dX12_boat_160 : decode cX12_boat 160 = .ok (.isub, 1) := by decide +kernel
theorem dX12_boat_161 : decode cX12_boat 161 = .ok (.ireturn, 1) := by decide +kernel
set_option maxRecDepth 20000 in
theorem ggX12_wax_X12_isBoat : GoodIn wsX12_wax wsX12_isBoat := goodIn_r _ [8, 9, 10, 11, 7, 12, 13, 14, 15, 16, 17, 18, 19, 20, 21, 22, 23, 24, 25, 26, 27, 28, 29, 30, 31, 32, 33, 34, 35, 36, 37, 38, 39, 40, 41, 42, 43] (by decide +kernel) (by decide +kernel)
set_option maxRecDepth 20000 in
theorem gX12_wax_X12_isBoat : GoodIn wsX12_wax (wsV RX12 125 RX12 yX12_isBoat wsX12_isBoat) := goodIn_app (goodIn_of _ (by decide +kernel)) ggX12_wax_X12_isBoat
set_option maxRecDepth 20000 in
theorem ggX12_wax_X12_in : GoodIn wsX12_wax wsX12_in := goodIn_r _ [12] (by decide +kernel) (by decide +kernel)
set_option maxRecDepth 20000 in
theorem gX12_wax_X12_in : GoodIn wsX12_wax (va_wsS RX12 78 yX12_in wsX12_in) := goodIn_app (goodIn_of _ (by decide +kernel)) ggX12_wax_X12_in
theorem dX12_wax_0 : decode cX12_wax 0 = .ok (.aload_n 0, 1) := by decide +kernel
theorem dX12_wax_1 : decode cX12_wax 1 = .ok (.iload_n 1, 1) := by decide +kernel
theorem dX12_wax_2 : decode cX12_wax 2 = .ok (.invokevirtual 125, 3) := by decide +kernel
theorem dX12_wax_5 : decode cX12_wax 5 = .ok (.ifCond .ne 5, 3) := by decide +kernel
theorem dX12_wax_8 : decode cX12_wax 8 = .ok (.iconst (-1), 1) := by decide +kernel
theorem dX12_wax_9 : decode cX12_wax 9 = .ok (.ireturn, 1) := by decide +kernel
theorem dX12_wax_10 : decode cX12_wax 10 = .ok (.iload_n 2, 1) := by decide +kernel
theorem dX12_wax_11 : decode cX12_wax 11 = .ok (.i2l, 1) := by decide +kernel
theorem dX12_wax_12 : decode cX12_wax 12 = .ok (.lconst 0, 1) := by decide +kernel
theorem dX12_wax_13 : decode cX12_wax 13 = .ok (.ldc2_w 128, 3) := by decide +kernel
theorem dX12_wax_16 : decode cX12_wax 16 = .ok (.invokestatic 78, 3) := by decide +kernel
theorem dX12_wax_19 : decode cX12_wax 19 = .ok (.ifCond .eq 15, 3) := by decide +kernel
theorem dX12_wax_22 : decode cX12_wax 22 = .ok (.iload_n 3, 1) := by decide +kernel
theorem dX12_wax_23 : decode cX12_wax 23 = .ok (.i2l, 1) := by decide +kernel
theorem dX12_wax_24 : decode cX12_wax 24 = .ok (.lconst 0, 1) := by decide +kernel
theorem dX12_wax_25 : decode cX12_wax 25 = .ok (.ldc2_w 112, 3) := by decide +kernel
theorem dX12_wax_28 : decode cX12_wax 28 = .ok (.invokestatic 78, 3) := by decide +kernel
theorem dX12_wax_31 : decode cX12_wax 31 = .ok (.ifCond .ne 6, 3) := by decide +kernel
theorem dX12_wax_34 : decode cX12_wax 34 = .ok (.bipush (-2), 2) := by decide +kernel
theorem dX12_wax_36 : decode cX12_wax 36 = .ok (.ireturn, 1) := by decide +kernel
theorem dX12_wax_37 : decode cX12_wax 37 = .ok (.aload_n 0, 1) := by decide +kernel
theorem dX12_wax_38 : decode cX12_wax 38 = .ok (.getfield 19, 3) := by decide +kernel
theorem dX12_wax_41 : decode cX12_wax 41 = .ok (.bipush 7, 2) := by decide +kernel
theorem dX12_wax_43 : decode cX12_wax 43 = .ok (.iload_n 1, 1) := by decide +kernel
theorem dX12_wax_44 : decode cX12_wax 44 = .ok (.imul, 1) := by decide +kernel
theorem dX12_wax_45 : decode cX12_wax 45 = .ok (.iconst 5, 1) := by decide +kernel
theorem dX12_wax_46 : decode cX12_wax 46 = .ok (.iadd, 1) := by decide +kernel
theorem dX12_wax_47 : decode cX12_wax 47 = .ok (.iaload, 1) := by decide +kernel
theorem dX12_wax_48 : decode cX12_wax 48 = .ok (.istore 4, 2) := by decide +kernel
theorem dX12_wax_50 : decode cX12_wax 50 = .ok (.aload_n 0, 1) := by decide +kernel
theorem dX12_wax_51 : decode cX12_wax 51 = .ok (.getfield 19, 3) := by decide +kernel
theorem dX12_wax_54 : decode cX12_wax 54 = .ok (.bipush 7, 2) := by decide +kernel
theorem dX12_wax_56 : decode cX12_wax 56 = .ok (.iload_n 1, 1) := by decide +kernel
theorem dX12_wax_57 : decode cX12_wax 57 = .ok (.imul, 1) := by decide +kernel
theorem dX12_wax_58 : decode cX12_wax 58 = .ok (.iconst 4, 1) := by decide +kernel
theorem dX12_wax_59 : decode cX12_wax 59 = .ok (.iadd, 1) := by decide +kernel
theorem dX12_wax_60 : decode cX12_wax 60 = .ok (.iload_n 2, 1) := by decide +kernel
theorem dX12_wax_61 : decode cX12_wax 61 = .ok (.iastore, 1) := by decide +kernel
theorem dX12_wax_62 : decode cX12_wax 62 = .ok (.aload_n 0, 1) := by decide +kernel
theorem dX12_wax_63 : decode cX12_wax 63 = .ok (.getfield 19, 3) := by decide +kernel
theorem dX12_wax_66 : decode cX12_wax 66 = .ok (.bipush 7, 2) := by decide +kernel
theorem dX12_wax_68 : decode cX12_wax 68 = .ok (.iload_n 1, 1) := by decide +kernel
theorem dX12_wax_69 : decode cX12_wax 69 = .ok (.imul, 1) := by decide +kernel
theorem dX12_wax_70 : decode cX12_wax 70 = .ok (.iconst 5, 1) := by decide +kernel
theorem dX12_wax_71 : decode cX12_wax 71 = .ok (.iadd, 1) := by decide +kernel
theorem dX12_wax_72 : decode cX12_wax 72 = .ok (.iload_n 3, 1) := by decide +kernel
theorem dX12_wax_73 : decode cX12_wax 73 = .ok (.iastore, 1) := by decide +kernel
theorem dX12_wax_74 : decode cX12_wax 74 = .ok (.iload 4, 2) := by decide +kernel
theorem dX12_wax_76 : decode cX12_wax 76 = .ok (.ireturn, 1) := by decide +kernel
theorem dX12_wide_0 : decode cX12_wide 0 = .ok (.aload_n 0, 1) := by decide +kernel
theorem dX12_wide_1 : decode cX12_wide 1 = .ok (.getfield 19, 3) := by decide +kernel
theorem dX12_wide_4 : decode cX12_wide 4 = .ok (.bipush 7, 2) := by decide +kernel
theorem dX12_wide_6 : decode cX12_wide 6 = .ok (.iload_n 1, 1) := by decide +kernel
theorem dX12_wide_7 : decode cX12_wide 7 = .ok (.imul, 1) := by decide +kernel
theorem dX12_wide_8 : decode cX12_wide 8 = .ok (.iload_n 2, 1) := by decide +kernel
theorem dX12_wide_9 : decode cX12_wide 9 = .ok (.iadd, 1) := by decide +kernel
theorem dX12_wide_10 : decode cX12_wide 10 = .ok (.iaload, 1) := by decide +kernel
theorem dX12_wide_11 : decode cX12_wide 11 = .ok (.iconst 2, 1) := by decide +kernel
theorem dX12_wide_12 : decode cX12_wide 12 = .ok (.aload_n 0, 1) := by decide +kernel
theorem dX12_wide_13 : decode cX12_wide 13 = .ok (.getfield 19, 3) := by decide +kernel
theorem dX12_wide_16 : decode cX12_wide 16 = .ok (.bipush 7, 2) := by decide +kernel
theorem dX12_wide_18 : decode cX12_wide 18 = .ok (.iload_n 1, 1) := by decide +kernel
theorem dX12_wide_19 : decode cX12_wide 19 = .ok (.imul, 1) := by decide +kernel
theorem dX12_wide_20 : decode cX12_wide 20 = .ok (.iconst 3, 1) := by decide +kernel
theorem dX12_wide_21 : decode cX12_wide 21 = .ok (.iadd, 1) := by decide +kernel
theorem dX12_wide_22 : decode cX12_wide 22 = .ok (.iaload, 1) := by decide +kernel
theorem dX12_wide_23 : decode cX12_wide 23 = .ok (.imul, 1) := by decide +kernel
theorem dX12_wide_24 : decode cX12_wide 24 = .ok (.isub, 1) := by decide +kernel
theorem dX12_wide_25 : decode cX12_wide 25 = .ok (.ireturn, 1) := by decide +kernel
set_option maxRecDepth 20000 in
theorem ggX12_coin_X12_isBoat : GoodIn wsX12_coin wsX12_isBoat := goodIn_r _ [8, 9, 10, 11, 7, 12, 17, 18, 19, 20, 21, 22, 23, 24, 25, 26, 27, 28, 29, 30, 31, 32, 33, 34, 35, 36, 37, 38, 39, 40, 41, 42, 43, 44, 45, 46, 47] (by decide +kernel) (by decide +kernel)
set_option maxRecDepth 20000 in
theorem gX12_coin_X12_isBoat : GoodIn wsX12_coin (wsV RX12 125 RX12 yX12_isBoat wsX12_isBoat) := goodIn_app (goodIn_of _ (by decide +kernel)) ggX12_coin_X12_isBoat
set_option maxRecDepth 20000 in
theorem ggX12_coin_X12_wide : GoodIn wsX12_coin wsX12_wide := goodIn_r _ [16, 2, 17, 18, 19, 20, 21, 22, 23, 24, 25, 26, 27, 28, 29, 30, 31, 32, 33, 34, 35, 36, 37, 38, 39, 40, 41, 42, 43, 44, 45, 46, 47] (by decide +kernel) (by decide +kernel)
set_option maxRecDepth 20000 in
theorem gX12_coin_X12_wide : GoodIn wsX12_coin (wsV RX12 130 RX12 yX12_wide wsX12_wide) := goodIn_app (goodIn_of _ (by decide +kernel)) ggX12_coin_X12_wide
set_option maxRecDepth 20000 in
theorem ggX12_coin_X12_in : GoodIn wsX12_coin wsX12_in := goodIn_r _ [12] (by decide +kernel) (by decide +kernel)
set_option maxRecDepth 20000 in
theorem gX12_coin_X12_in : GoodIn wsX12_coin (va_wsS RX12 78 yX12_in wsX12_in) := goodIn_app (goodIn_of _ (by decide +kernel)) ggX12_coin_X12_in
theorem dX12_coin_0 : decode cX12_coin 0 = .ok (.aload_n 0, 1) := by decide +kernel
theorem dX12_coin_1 : decode cX12_coin 1 = .ok (.iload_n 1, 1) := by decide +kernel
theorem dX12_coin_2 : decode cX12_coin 2 = .ok (.invokevirtual 125, 3) := by decide +kernel
theorem dX12_coin_5 : decode cX12_coin 5 = .ok (.ifCond .ne 5, 3) := by decide +kernel
theorem dX12_coin_8 : decode cX12_coin 8 = .ok (.iconst (-1), 1) := by decide +kernel
theorem dX12_coin_9 : decode cX12_coin 9 = .ok (.ireturn, 1) := by decide +kernel
theorem dX12_coin_10 : decode cX12_coin 10 = .ok (.iload_n 2, 1) := by decide +kernel
theorem dX12_coin_11 : decode cX12_coin 11 = .ok (.i2l, 1) := by decide +kernel
theorem dX12_coin_12 : decode cX12_coin 12 = .ok (.lconst 0, 1) := by decide +kernel
theorem dX12_coin_13 : decode cX12_coin 13 = .ok (.aload_n 0, 1) := by decide +kernel
theorem dX12_coin_14 : decode cX12_coin 14 = .ok (.iload_n 1, 1) := by decide +kernel
theorem dX12_coin_15 : decode cX12_coin 15 = .ok (.iconst 0, 1) := by decide +kernel
theorem dX12_coin_16 : decode cX12_coin 16 = .ok (.invokevirtual 130, 3) := by decide +kernel
theorem dX12_coin_19 : decode cX12_coin 19 = .ok (.iconst 1, 1) := by decide +kernel
theorem dX12_coin_20 : decode cX12_coin 20 = .ok (.isub, 1) := by decide +kernel
theorem dX12_coin_21 : decode cX12_coin 21 = .ok (.i2l, 1) := by decide +kernel
theorem dX12_coin_22 : decode cX12_coin 22 = .ok (.invokestatic 78, 3) := by decide +kernel
theorem dX12_coin_25 : decode cX12_coin 25 = .ok (.ifCond .eq 34, 3) := by decide +kernel
theorem dX12_coin_28 : decode cX12_coin 28 = .ok (.iload_n 3, 1) := by decide +kernel
theorem dX12_coin_29 : decode cX12_coin 29 = .ok (.i2l, 1) := by decide +kernel
theorem dX12_coin_30 : decode cX12_coin 30 = .ok (.lconst 0, 1) := by decide +kernel
theorem dX12_coin_31 : decode cX12_coin 31 = .ok (.aload_n 0, 1) := by decide +kernel
theorem dX12_coin_32 : decode cX12_coin 32 = .ok (.iload_n 1, 1) := by decide +kernel
theorem dX12_coin_33 : decode cX12_coin 33 = .ok (.iconst 1, 1) := by decide +kernel
theorem dX12_coin_34 : decode cX12_coin 34 = .ok (.invokevirtual 130, 3) := by decide +kernel
theorem dX12_coin_37 : decode cX12_coin 37 = .ok (.iconst 1, 1) := by decide +kernel
theorem dX12_coin_38 : decode cX12_coin 38 = .ok (.isub, 1) := by decide +kernel
theorem dX12_coin_39 : decode cX12_coin 39 = .ok (.i2l, 1) := by decide +kernel
theorem dX12_coin_40 : decode cX12_coin 40 = .ok (.invokestatic 78, 3) := by decide +kernel
theorem dX12_coin_43 : decode cX12_coin 43 = .ok (.ifCond .eq 16, 3) := by decide +kernel
theorem dX12_coin_46 : decode cX12_coin 46 = .ok (.iload 4, 2) := by decide +kernel
theorem dX12_coin_48 : decode cX12_coin 48 = .ok (.i2l, 1) := by decide +kernel
theorem dX12_coin_49 : decode cX12_coin 49 = .ok (.lconst 1, 1) := by decide +kernel
theorem dX12_coin_50 : decode cX12_coin 50 = .ok (.ldc2_w 128, 3) := by decide +kernel
theorem dX12_coin_53 : decode cX12_coin 53 = .ok (.invokestatic 78, 3) := by decide +kernel
theorem dX12_coin_56 : decode cX12_coin 56 = .ok (.ifCond .ne 6, 3) := by decide +kernel
theorem dX12_coin_59 : decode cX12_coin 59 = .ok (.bipush (-2), 2) := by decide +kernel
theorem dX12_coin_61 : decode cX12_coin 61 = .ok (.ireturn, 1) := by decide +kernel
theorem dX12_coin_62 : decode cX12_coin 62 = .ok (.aload_n 0, 1) := by decide +kernel
theorem dX12_coin_63 : decode cX12_coin 63 = .ok (.getfield 19, 3) := by decide +kernel
theorem dX12_coin_66 : decode cX12_coin 66 = .ok (.bipush 7, 2) := by decide +kernel
theorem dX12_coin_68 : decode cX12_coin 68 = .ok (.iload_n 1, 1) := by decide +kernel
theorem dX12_coin_69 : decode cX12_coin 69 = .ok (.imul, 1) := by decide +kernel
theorem dX12_coin_70 : decode cX12_coin 70 = .ok (.bipush 6, 2) := by decide +kernel
theorem dX12_coin_72 : decode cX12_coin 72 = .ok (.iadd, 1) := by decide +kernel
theorem dX12_coin_73 : decode cX12_coin 73 = .ok (.iaload, 1) := by decide +kernel
theorem dX12_coin_74 : decode cX12_coin 74 = .ok (.bipush 8, 2) := by decide +kernel
theorem dX12_coin_76 : decode cX12_coin 76 = .ok (.if_icmp .ne 6, 3) := by decide +kernel
theorem dX12_coin_79 : decode cX12_coin 79 = .ok (.bipush (-4), 2) := by decide +kernel
theorem dX12_coin_81 : decode cX12_coin 81 = .ok (.ireturn, 1) := by decide +kernel
theorem dX12_coin_82 : decode cX12_coin 82 = .ok (.bipush 24, 2) := by decide +kernel
theorem dX12_coin_84 : decode cX12_coin 84 = .ok (.iload_n 1, 1) := by decide +kernel
theorem dX12_coin_85 : decode cX12_coin 85 = .ok (.imul, 1) := by decide +kernel
theorem dX12_coin_86 : decode cX12_coin 86 = .ok (.iconst 3, 1) := by decide +kernel
theorem dX12_coin_87 : decode cX12_coin 87 = .ok (.aload_n 0, 1) := by decide +kernel
theorem dX12_coin_88 : decode cX12_coin 88 = .ok (.getfield 19, 3) := by decide +kernel
theorem dX12_coin_91 : decode cX12_coin 91 = .ok (.bipush 7, 2) := by decide +kernel
theorem dX12_coin_93 : decode cX12_coin 93 = .ok (.iload_n 1, 1) := by decide +kernel
theorem dX12_coin_94 : decode cX12_coin 94 = .ok (.imul, 1) := by decide +kernel
theorem dX12_coin_95 : decode cX12_coin 95 = .ok (.bipush 6, 2) := by decide +kernel
theorem dX12_coin_97 : decode cX12_coin 97 = .ok (.iadd, 1) := by decide +kernel
theorem dX12_coin_98 : decode cX12_coin 98 = .ok (.iaload, 1) := by decide +kernel
theorem dX12_coin_99 : decode cX12_coin 99 = .ok (.imul, 1) := by decide +kernel
theorem dX12_coin_100 : decode cX12_coin 100 = .ok (.iadd, 1) := by decide +kernel
theorem dX12_coin_101 : decode cX12_coin 101 = .ok (.istore 5, 2) := by decide +kernel
theorem dX12_coin_103 : decode cX12_coin 103 = .ok (.aload_n 0, 1) := by decide +kernel
theorem dX12_coin_104 : decode cX12_coin 104 = .ok (.getfield 22, 3) := by decide +kernel
theorem dX12_coin_107 : decode cX12_coin 107 = .ok (.iload 5, 2) := by decide +kernel
theorem dX12_coin_109 : decode cX12_coin 109 = .ok (.iload_n 2, 1) := by decide +kernel
theorem dX12_coin_110 : decode cX12_coin 110 = .ok (.iastore, 1) := by decide +kernel
theorem dX12_coin_111 : decode cX12_coin 111 = .ok (.aload_n 0, 1) := by decide +kernel
theorem dX12_coin_112 : decode cX12_coin 112 = .ok (.getfield 22, 3) := by decide +kernel
theorem dX12_coin_115 : decode cX12_coin 115 = .ok (.iload 5, 2) := by decide +kernel
theorem dX12_coin_117 : decode cX12_coin 117 = .ok (.iconst 1, 1) := by decide +kernel
theorem dX12_coin_118 : decode cX12_coin 118 = .ok (.iadd, 1) := by decide +kernel
theorem dX12_coin_119 : decode cX12_coin 119 = .ok (.iload_n 3, 1) := by decide +kernel
theorem dX12_coin_120 : decode cX12_coin 120 = .ok (.iastore, 1) := by decide +kernel
theorem dX12_coin_121 : decode cX12_coin 121 = .ok (.aload_n 0, 1) := by decide +kernel
theorem dX12_coin_122 : decode cX12_coin 122 = .ok (.getfield 22, 3) := by decide +kernel
theorem dX12_coin_125 : decode cX12_coin 125 = .ok (.iload 5, 2) := by decide +kernel
theorem dX12_coin_127 : decode cX12_coin 127 = .ok (.iconst 2, 1) := by decide +kernel
theorem dX12_coin_128 : decode cX12_coin 128 = .ok (.iadd, 1) := by decide +kernel
theorem dX12_coin_129 : decode cX12_coin 129 = .ok (.iload 4, 2) := by decide +kernel
theorem dX12_coin_131 : decode cX12_coin 131 = .ok (.iastore, 1) := by decide +kernel
theorem dX12_coin_132 : decode cX12_coin 132 = .ok (.aload_n 0, 1) := by decide +kernel
theorem dX12_coin_133 : decode cX12_coin 133 = .ok (.getfield 19, 3) := by decide +kernel
theorem dX12_coin_136 : decode cX12_coin 136 = .ok (.bipush 7, 2) := by decide +kernel
theorem dX12_coin_138 : decode cX12_coin 138 = .ok (.iload_n 1, 1) := by decide +kernel
theorem dX12_coin_139 : decode cX12_coin 139 = .ok (.imul, 1) := by decide +kernel
theorem dX12_coin_140 : decode cX12_coin 140 = .ok (.bipush 6, 2) := by decide +kernel
theorem dX12_coin_142 : decode cX12_coin 142 = .ok (.iadd, 1) := by decide +kernel
theorem dX12_coin_143 : decode cX12_coin 143 = .ok (.dup2, 1) := by decide +kernel
theorem dX12_coin_144 : decode cX12_coin 144 = .ok (.iaload, 1) := by decide +kernel
theorem dX12_coin_145 : decode cX12_coin 145 = .ok (.iconst 1, 1) := by decide +kernel
theorem dX12_coin_146 : decode cX12_coin 146 = .ok (.iadd, 1) := by decide +kernel
theorem dX12_coin_147 : decode cX12_coin 147 = .ok (.iastore, 1) := by decide +kernel
theorem dX12_coin_148 : decode cX12_coin 148 = .ok (.aload_n 0, 1) := by decide +kernel
theorem dX12_coin_149 : decode cX12_coin 149 = .ok (.getfield 19, 3) := by decide +kernel
theorem dX12_coin_152 : decode cX12_coin 152 = .ok (.bipush 7, 2) := by decide +kernel
theorem dX12_coin_154 : decode cX12_coin 154 = .ok (.iload_n 1, 1) := by decide +kernel
theorem dX12_coin_155 : decode cX12_coin 155 = .ok (.imul, 1) := by decide +kernel
theorem dX12_coin_156 : decode cX12_coin 156 = .ok (.bipush 6, 2) := by decide +kernel
theorem dX12_coin_158 : decode cX12_coin 158 = .ok (.iadd, 1) := by decide +kernel
theorem dX12_coin_159 : decode cX12_coin 159 = .ok (.iaload, 1) := by decide +kernel
theorem dX12_coin_160 : decode cX12_coin 160 = .ok (.iconst 1, 1) := by decide +kernel
theorem dX12_coin_161 : decode cX12_coin 161 = .ok (.isub, 1) := by decide +kernel
theorem dX12_coin_162 : decode cX12_coin 162 = .ok (.ireturn, 1) := by decide +kernel
set_option maxRecDepth 20000 in
theorem ggX12_empty_X12_isBoat : GoodIn wsX12_empty wsX12_isBoat := goodIn_r _ [6, 7, 8, 9, 5, 10, 11, 12, 13, 14, 15, 16, 17, 18, 19, 20, 21, 22, 23, 24, 25, 26, 27, 28, 29, 30, 31, 32, 33, 34, 35, 36, 37, 38, 39, 40, 41] (by decide +kernel) (by decide +kernel)
set_option maxRecDepth 20000 in
theorem gX12_empty_X12_isBoat : GoodIn wsX12_empty (wsV RX12 125 RX12 yX12_isBoat wsX12_isBoat) := goodIn_app (goodIn_of _ (by decide +kernel)) ggX12_empty_X12_isBoat
theorem dX12_empty_0 : decode cX12_empty 0 = .ok (.aload_n 0, 1) := by decide +kernel
theorem dX12_empty_1 : decode cX12_empty 1 = .ok (.iload_n 1, 1) := by decide +kernel
theorem dX12_empty_2 : decode cX12_empty 2 = .ok (.invokevirtual 125, 3) := by decide +kernel
theorem dX12_empty_5 : decode cX12_empty 5 = .ok (.ifCond .ne 5, 3) := by decide +kernel
theorem dX12_empty_8 : decode cX12_empty 8 = .ok (.iconst (-1), 1) := by decide +kernel
theorem dX12_empty_9 : decode cX12_empty 9 = .ok (.ireturn, 1) := by decide +kernel
theorem dX12_empty_10 : decode cX12_empty 10 = .ok (.aload_n 0, 1) := by decide +kernel
theorem dX12_empty_11 : decode cX12_empty 11 = .ok (.getfield 19, 3) := by decide +kernel
theorem dX12_empty_14 : decode cX12_empty 14 = .ok (.bipush 7, 2) := by decide +kernel
theorem dX12_empty_16 : decode cX12_empty 16 = .ok (.iload_n 1, 1) := by decide +kernel
theorem dX12_empty_17 : decode cX12_empty 17 = .ok (.imul, 1) := by decide +kernel
theorem dX12_empty_18 : decode cX12_empty 18 = .ok (.bipush 6, 2) := by decide +kernel
theorem dX12_empty_20 : decode cX12_empty 20 = .ok (.iadd, 1) := by decide +kernel
theorem dX12_empty_21 : decode cX12_empty 21 = .ok (.iaload, 1) := by decide +kernel
theorem dX12_empty_22 : decode cX12_empty 22 = .ok (.istore_n 2, 1) := by decide +kernel
theorem dX12_empty_23 : decode cX12_empty 23 = .ok (.aload_n 0, 1) := by decide +kernel
theorem dX12_empty_24 : decode cX12_empty 24 = .ok (.getfield 19, 3) := by decide +kernel
theorem dX12_empty_27 : decode cX12_empty 27 = .ok (.bipush 7, 2) := by decide +kernel
theorem dX12_empty_29 : decode cX12_empty 29 = .ok (.iload_n 1, 1) := by decide +kernel
theorem dX12_empty_30 : decode cX12_empty 30 = .ok (.imul, 1) := by decide +kernel
theorem dX12_empty_31 : decode cX12_empty 31 = .ok (.bipush 6, 2) := by decide +kernel
theorem dX12_empty_33 : decode cX12_empty 33 = .ok (.iadd, 1) := by decide +kernel
theorem dX12_empty_34 : decode cX12_empty 34 = .ok (.iconst 0, 1) := by decide +kernel
theorem dX12_empty_35 : decode cX12_empty 35 = .ok (.iastore, 1) := by decide +kernel
theorem dX12_empty_36 : decode cX12_empty 36 = .ok (.iload_n 2, 1) := by decide +kernel
theorem dX12_empty_37 : decode cX12_empty 37 = .ok (.ireturn, 1) := by decide +kernel
theorem dX12_all_0 : decode cX12_all 0 = .ok (.iconst 1, 1) := by decide +kernel
theorem dX12_all_1 : decode cX12_all 1 = .ok (.aload_n 0, 1) := by decide +kernel
theorem dX12_all_2 : decode cX12_all 2 = .ok (.getfield 19, 3) := by decide +kernel
theorem dX12_all_5 : decode cX12_all 5 = .ok (.bipush 7, 2) := by decide +kernel
theorem dX12_all_7 : decode cX12_all 7 = .ok (.iload_n 1, 1) := by decide +kernel
theorem dX12_all_8 : decode cX12_all 8 = .ok (.imul, 1) := by decide +kernel
theorem dX12_all_9 : decode cX12_all 9 = .ok (.bipush 6, 2) := by decide +kernel
theorem dX12_all_11 : decode cX12_all 11 = .ok (.iadd, 1) := by decide +kernel
theorem dX12_all_12 : decode cX12_all 12 = .ok (.iaload, 1) := by decide +kernel
theorem dX12_all_13 : decode cX12_all 13 = .ok (.ishl, 1) := by decide +kernel
theorem dX12_all_14 : decode cX12_all 14 = .ok (.iconst 1, 1) := by decide +kernel
theorem dX12_all_15 : decode cX12_all 15 = .ok (.isub, 1) := by decide +kernel
theorem dX12_all_16 : decode cX12_all 16 = .ok (.ireturn, 1) := by decide +kernel
set_option maxRecDepth 20000 in
theorem ggX12_layCoins_X12_wide : GoodIn wsX12_layCoins wsX12_wide := goodIn_r _ [10, 4, 11, 12, 13, 14, 15, 16, 17, 18, 19, 20, 21, 22, 23, 24, 25, 26, 27, 28, 29, 30, 31, 32, 33, 34, 35, 36, 37, 38, 39, 40, 41] (by decide +kernel) (by decide +kernel)
set_option maxRecDepth 20000 in
theorem gX12_layCoins_X12_wide : GoodIn wsX12_layCoins (wsV RX12 130 RX12 yX12_wide wsX12_wide) := goodIn_app (goodIn_of _ (by decide +kernel)) ggX12_layCoins_X12_wide
theorem dX12_layCoins_0 : decode cX12_layCoins 0 = .ok (.aload_n 0, 1) := by decide +kernel
theorem dX12_layCoins_1 : decode cX12_layCoins 1 = .ok (.iconst 0, 1) := by decide +kernel
theorem dX12_layCoins_2 : decode cX12_layCoins 2 = .ok (.putfield 134, 3) := by decide +kernel
theorem dX12_layCoins_5 : decode cX12_layCoins 5 = .ok (.aload_n 0, 1) := by decide +kernel
theorem dX12_layCoins_6 : decode cX12_layCoins 6 = .ok (.iconst 0, 1) := by decide +kernel
theorem dX12_layCoins_7 : decode cX12_layCoins 7 = .ok (.putfield 137, 3) := by decide +kernel
theorem dX12_layCoins_10 : decode cX12_layCoins 10 = .ok (.aload_n 0, 1) := by decide +kernel
theorem dX12_layCoins_11 : decode cX12_layCoins 11 = .ok (.iconst 0, 1) := by decide +kernel
theorem dX12_layCoins_12 : decode cX12_layCoins 12 = .ok (.putfield 140, 3) := by decide +kernel
theorem dX12_layCoins_15 : decode cX12_layCoins 15 = .ok (.iconst 0, 1) := by decide +kernel
theorem dX12_layCoins_16 : decode cX12_layCoins 16 = .ok (.istore_n 3, 1) := by decide +kernel
theorem dX12_layCoins_17 : decode cX12_layCoins 17 = .ok (.iload_n 3, 1) := by decide +kernel
theorem dX12_layCoins_18 : decode cX12_layCoins 18 = .ok (.aload_n 0, 1) := by decide +kernel
theorem dX12_layCoins_19 : decode cX12_layCoins 19 = .ok (.getfield 19, 3) := by decide +kernel
theorem dX12_layCoins_22 : decode cX12_layCoins 22 = .ok (.bipush 7, 2) := by decide +kernel
theorem dX12_layCoins_24 : decode cX12_layCoins 24 = .ok (.iload_n 1, 1) := by decide +kernel
theorem dX12_layCoins_25 : decode cX12_layCoins 25 = .ok (.imul, 1) := by decide +kernel
theorem dX12_layCoins_26 : decode cX12_layCoins 26 = .ok (.bipush 6, 2) := by decide +kernel
theorem dX12_layCoins_28 : decode cX12_layCoins 28 = .ok (.iadd, 1) := by decide +kernel
theorem dX12_layCoins_29 : decode cX12_layCoins 29 = .ok (.iaload, 1) := by decide +kernel
theorem dX12_layCoins_30 : decode cX12_layCoins 30 = .ok (.if_icmp .ge 109, 3) := by decide +kernel
theorem dX12_layCoins_33 : decode cX12_layCoins 33 = .ok (.bipush 24, 2) := by decide +kernel
theorem dX12_layCoins_35 : decode cX12_layCoins 35 = .ok (.iload_n 1, 1) := by decide +kernel
theorem dX12_layCoins_36 : decode cX12_layCoins 36 = .ok (.imul, 1) := by decide +kernel
theorem dX12_layCoins_37 : decode cX12_layCoins 37 = .ok (.iconst 3, 1) := by decide +kernel
theorem dX12_layCoins_38 : decode cX12_layCoins 38 = .ok (.iload_n 3, 1) := by decide +kernel
theorem dX12_layCoins_39 : decode cX12_layCoins 39 = .ok (.imul, 1) := by decide +kernel
theorem dX12_layCoins_40 : decode cX12_layCoins 40 = .ok (.iadd, 1) := by decide +kernel
theorem dX12_layCoins_41 : decode cX12_layCoins 41 = .ok (.istore 4, 2) := by decide +kernel
theorem dX12_layCoins_43 : decode cX12_layCoins 43 = .ok (.iload_n 2, 1) := by decide +kernel
theorem dX12_layCoins_44 : decode cX12_layCoins 44 = .ok (.iload_n 3, 1) := by decide +kernel
theorem dX12_layCoins_45 : decode cX12_layCoins 45 = .ok (.ishr, 1) := by decide +kernel
theorem dX12_layCoins_46 : decode cX12_layCoins 46 = .ok (.iconst 1, 1) := by decide +kernel
theorem dX12_layCoins_47 : decode cX12_layCoins 47 = .ok (.iand, 1) := by decide +kernel
theorem dX12_layCoins_48 : decode cX12_layCoins 48 = .ok (.aload_n 0, 1) := by decide +kernel
theorem dX12_layCoins_49 : decode cX12_layCoins 49 = .ok (.getfield 22, 3) := by decide +kernel
theorem dX12_layCoins_52 : decode cX12_layCoins 52 = .ok (.iload 4, 2) := by decide +kernel
theorem dX12_layCoins_54 : decode cX12_layCoins 54 = .ok (.iconst 2, 1) := by decide +kernel
theorem dX12_layCoins_55 : decode cX12_layCoins 55 = .ok (.iadd, 1) := by decide +kernel
theorem dX12_layCoins_56 : decode cX12_layCoins 56 = .ok (.iaload, 1) := by decide +kernel
theorem dX12_layCoins_57 : decode cX12_layCoins 57 = .ok (.imul, 1) := by decide +kernel
theorem dX12_layCoins_58 : decode cX12_layCoins 58 = .ok (.istore 5, 2) := by decide +kernel
theorem dX12_layCoins_60 : decode cX12_layCoins 60 = .ok (.aload_n 0, 1) := by decide +kernel
theorem dX12_layCoins_61 : decode cX12_layCoins 61 = .ok (.dup, 1) := by decide +kernel
theorem dX12_layCoins_62 : decode cX12_layCoins 62 = .ok (.getfield 134, 3) := by decide +kernel
theorem dX12_layCoins_65 : decode cX12_layCoins 65 = .ok (.iload 5, 2) := by decide +kernel
theorem dX12_layCoins_67 : decode cX12_layCoins 67 = .ok (.iadd, 1) := by decide +kernel
theorem dX12_layCoins_68 : decode cX12_layCoins 68 = .ok (.putfield 134, 3) := by decide +kernel
theorem dX12_layCoins_71 : decode cX12_layCoins 71 = .ok (.aload_n 0, 1) := by decide +kernel
theorem dX12_layCoins_72 : decode cX12_layCoins 72 = .ok (.dup, 1) := by decide +kernel
theorem dX12_layCoins_73 : decode cX12_layCoins 73 = .ok (.getfield 137, 3) := by decide +kernel
theorem dX12_layCoins_76 : decode cX12_layCoins 76 = .ok (.iload 5, 2) := by decide +kernel
theorem dX12_layCoins_78 : decode cX12_layCoins 78 = .ok (.iconst 2, 1) := by decide +kernel
theorem dX12_layCoins_79 : decode cX12_layCoins 79 = .ok (.aload_n 0, 1) := by decide +kernel
theorem dX12_layCoins_80 : decode cX12_layCoins 80 = .ok (.getfield 22, 3) := by decide +kernel
theorem dX12_layCoins_83 : decode cX12_layCoins 83 = .ok (.iload 4, 2) := by decide +kernel
theorem dX12_layCoins_85 : decode cX12_layCoins 85 = .ok (.iaload, 1) := by decide +kernel
theorem dX12_layCoins_86 : decode cX12_layCoins 86 = .ok (.imul, 1) := by decide +kernel
theorem dX12_layCoins_87 : decode cX12_layCoins 87 = .ok (.iconst 1, 1) := by decide +kernel
theorem dX12_layCoins_88 : decode cX12_layCoins 88 = .ok (.iadd, 1) := by decide +kernel
theorem dX12_layCoins_89 : decode cX12_layCoins 89 = .ok (.aload_n 0, 1) := by decide +kernel
theorem dX12_layCoins_90 : decode cX12_layCoins 90 = .ok (.iload_n 1, 1) := by decide +kernel
theorem dX12_layCoins_91 : decode cX12_layCoins 91 = .ok (.iconst 0, 1) := by decide +kernel
theorem dX12_layCoins_92 : decode cX12_layCoins 92 = .ok (.invokevirtual 130, 3) := by decide +kernel
theorem dX12_layCoins_95 : decode cX12_layCoins 95 = .ok (.isub, 1) := by decide +kernel
theorem dX12_layCoins_96 : decode cX12_layCoins 96 = .ok (.imul, 1) := by decide +kernel
theorem dX12_layCoins_97 : decode cX12_layCoins 97 = .ok (.iadd, 1) := by decide +kernel
theorem dX12_layCoins_98 : decode cX12_layCoins 98 = .ok (.putfield 137, 3) := by decide +kernel
theorem dX12_layCoins_101 : decode cX12_layCoins 101 = .ok (.aload_n 0, 1) := by decide +kernel
theorem dX12_layCoins_102 : decode cX12_layCoins 102 = .ok (.dup, 1) := by decide +kernel
theorem dX12_layCoins_103 : decode cX12_layCoins 103 = .ok (.getfield 140, 3) := by decide +kernel
theorem dX12_layCoins_106 : decode cX12_layCoins 106 = .ok (.iload 5, 2) := by decide +kernel
theorem dX12_layCoins_108 : decode cX12_layCoins 108 = .ok (.iconst 2, 1) := by decide +kernel
theorem dX12_layCoins_109 : decode cX12_layCoins 109 = .ok (.aload_n 0, 1) := by decide +kernel
theorem dX12_layCoins_110 : decode cX12_layCoins 110 = .ok (.getfield 22, 3) := by decide +kernel
theorem dX12_layCoins_113 : decode cX12_layCoins 113 = .ok (.iload 4, 2) := by decide +kernel
theorem dX12_layCoins_115 : decode cX12_layCoins 115 = .ok (.iconst 1, 1) := by decide +kernel
theorem dX12_layCoins_116 : decode cX12_layCoins 116 = .ok (.iadd, 1) := by decide +kernel
theorem dX12_layCoins_117 : decode cX12_layCoins 117 = .ok (.iaload, 1) := by decide +kernel
theorem dX12_layCoins_118 : decode cX12_layCoins 118 = .ok (.imul, 1) := by decide +kernel
theorem dX12_layCoins_119 : decode cX12_layCoins 119 = .ok (.iconst 1, 1) := by decide +kernel
theorem dX12_layCoins_120 : decode cX12_layCoins 120 = .ok (.iadd, 1) := by decide +kernel
theorem dX12_layCoins_121 : decode cX12_layCoins 121 = .ok (.aload_n 0, 1) := by decide +kernel
theorem dX12_layCoins_122 : decode cX12_layCoins 122 = .ok (.iload_n 1, 1) := by decide +kernel
theorem dX12_layCoins_123 : decode cX12_layCoins 123 = .ok (.iconst 1, 1) := by decide +kernel
theorem dX12_layCoins_124 : decode cX12_layCoins 124 = .ok (.invokevirtual 130, 3) := by decide +kernel
theorem dX12_layCoins_127 : decode cX12_layCoins 127 = .ok (.isub, 1) := by decide +kernel
theorem dX12_layCoins_128 : decode cX12_layCoins 128 = .ok (.imul, 1) := by decide +kernel
theorem dX12_layCoins_129 : decode cX12_layCoins 129 = .ok (.iadd, 1) := by decide +kernel
theorem dX12_layCoins_130 : decode cX12_layCoins 130 = .ok (.putfield 140, 3) := by decide +kernel
theorem dX12_layCoins_133 : decode cX12_layCoins 133 = .ok (.iinc 3 1, 3) := by decide +kernel
theorem dX12_layCoins_136 : decode cX12_layCoins 136 = .ok (.goto (-119), 3) := by decide +kernel
theorem dX12_layCoins_139 : decode cX12_layCoins 139 = .ok (.return_, 1) := by decide +kernel
set_option maxRecDepth 20000 in
theorem ggX12_about_X12_isBoat : GoodIn wsX12_about wsX12_isBoat := goodIn_r _ [9, 10, 11, 12, 8, 13, 28, 29, 30, 31, 32, 33, 34, 35, 36, 37, 38, 39, 40, 41, 42, 43, 44, 45, 46, 47, 48, 49, 50, 51, 52, 53, 54, 55, 56, 57, 58] (by decide +kernel) (by decide +kernel)
set_option maxRecDepth 20000 in
theorem gX12_about_X12_isBoat : GoodIn wsX12_about (wsV RX12 125 RX12 yX12_isBoat wsX12_isBoat) := goodIn_app (goodIn_of _ (by decide +kernel)) ggX12_about_X12_isBoat
set_option maxRecDepth 20000 in
theorem ggX12_about_X12_all : GoodIn wsX12_about wsX12_all := goodIn_r _ [17, 1, 28, 29, 30, 31, 32, 33, 34, 35, 36, 37, 38, 39, 40, 41, 42, 43, 44, 45, 46, 47, 48, 49, 50, 51, 52, 53, 54, 55, 56, 57, 58] (by decide +kernel) (by decide +kernel)
set_option maxRecDepth 20000 in
theorem gX12_about_X12_all : GoodIn wsX12_about (wsV RX12 143 RX12 yX12_all wsX12_all) := goodIn_app (goodIn_of _ (by decide +kernel)) ggX12_about_X12_all
set_option maxRecDepth 20000 in
theorem ggX12_about_X12_layCoins : GoodIn wsX12_about wsX12_layCoins := goodIn_r _ [21, 22, 3, 4, 1, 23, 24, 25, 26, 8, 27, 28, 29, 30, 31, 32, 33, 34, 35, 36, 37, 38, 39, 40, 41, 42, 43, 44, 45, 46, 47, 48, 49, 50, 51, 52, 53, 54, 55, 56, 57, 58] (by decide +kernel) (by decide +kernel)
set_option maxRecDepth 20000 in
theorem gX12_about_X12_layCoins : GoodIn wsX12_about (wsV RX12 146 RX12 yX12_layCoins wsX12_layCoins) := goodIn_app (goodIn_of _ (by decide +kernel)) ggX12_about_X12_layCoins
set_option maxRecDepth 20000 in
theorem ggX12_about_X12_wide : GoodIn wsX12_about wsX12_wide := goodIn_r _ [27, 1, 28, 29, 30, 31, 32, 33, 34, 35, 36, 37, 38, 39, 40, 41, 42, 43, 44, 45, 46, 47, 48, 49, 50, 51, 52, 53, 54, 55, 56, 57, 58] (by decide +kernel) (by decide +kernel)
set_option maxRecDepth 20000 in
theorem gX12_about_X12_wide : GoodIn wsX12_about (wsV RX12 130 RX12 yX12_wide wsX12_wide) := goodIn_app (goodIn_of _ (by decide +kernel)) ggX12_about_X12_wide
theorem dX12_about_0 : decode cX12_about 0 = .ok (.aload_n 0, 1) := by decide +kernel
theorem dX12_about_1 : decode cX12_about 1 = .ok (.iload_n 1, 1) := by decide +kernel
theorem dX12_about_2 : decode cX12_about 2 = .ok (.invokevirtual 125, 3) := by decide +kernel
theorem dX12_about_5 : decode cX12_about 5 = .ok (.ifCond .ne 5, 3) := by decide +kernel
theorem dX12_about_8 : decode cX12_about 8 = .ok (.iconst (-1), 1) := by decide +kernel
theorem dX12_about_9 : decode cX12_about 9 = .ok (.ireturn, 1) := by decide +kernel
theorem dX12_about_10 : decode cX12_about 10 = .ok (.aload_n 0, 1) := by decide +kernel
theorem dX12_about_11 : decode cX12_about 11 = .ok (.iload_n 1, 1) := by decide +kernel
theorem dX12_about_12 : decode cX12_about 12 = .ok (.aload_n 0, 1) := by decide +kernel
theorem dX12_about_13 : decode cX12_about 13 = .ok (.iload_n 1, 1) := by decide +kernel
theorem dX12_about_14 : decode cX12_about 14 = .ok (.invokevirtual 143, 3) := by decide +kernel
theorem dX12_about_17 : decode cX12_about 17 = .ok (.invokevirtual 146, 3) := by decide +kernel
theorem dX12_about_20 : decode cX12_about 20 = .ok (.iload_n 2, 1) := by decide +kernel
theorem dX12_about_21 : decode cX12_about 21 = .ok (.tableswitch 172 0 10 #[59, 69, 81, 93, 105, 112, 119, 131, 143, 156, 164], 59) := by decide +kernel
theorem dX12_about_80 : decode cX12_about 80 = .ok (.aload_n 0, 1) := by decide +kernel
theorem dX12_about_81 : decode cX12_about 81 = .ok (.getfield 19, 3) := by decide +kernel
theorem dX12_about_84 : decode cX12_about 84 = .ok (.bipush 7, 2) := by decide +kernel
theorem dX12_about_86 : decode cX12_about 86 = .ok (.iload_n 1, 1) := by decide +kernel
theorem dX12_about_87 : decode cX12_about 87 = .ok (.imul, 1) := by decide +kernel
theorem dX12_about_88 : decode cX12_about 88 = .ok (.iaload, 1) := by decide +kernel
theorem dX12_about_89 : decode cX12_about 89 = .ok (.ireturn, 1) := by decide +kernel
theorem dX12_about_90 : decode cX12_about 90 = .ok (.aload_n 0, 1) := by decide +kernel
theorem dX12_about_91 : decode cX12_about 91 = .ok (.getfield 19, 3) := by decide +kernel
theorem dX12_about_94 : decode cX12_about 94 = .ok (.bipush 7, 2) := by decide +kernel
theorem dX12_about_96 : decode cX12_about 96 = .ok (.iload_n 1, 1) := by decide +kernel
theorem dX12_about_97 : decode cX12_about 97 = .ok (.imul, 1) := by decide +kernel
theorem dX12_about_98 : decode cX12_about 98 = .ok (.iconst 1, 1) := by decide +kernel
theorem dX12_about_99 : decode cX12_about 99 = .ok (.iadd, 1) := by decide +kernel
theorem dX12_about_100 : decode cX12_about 100 = .ok (.iaload, 1) := by decide +kernel
theorem dX12_about_101 : decode cX12_about 101 = .ok (.ireturn, 1) := by decide +kernel
theorem dX12_about_102 : decode cX12_about 102 = .ok (.aload_n 0, 1) := by decide +kernel
theorem dX12_about_103 : decode cX12_about 103 = .ok (.getfield 19, 3) := by decide +kernel
theorem dX12_about_106 : decode cX12_about 106 = .ok (.bipush 7, 2) := by decide +kernel
theorem dX12_about_108 : decode cX12_about 108 = .ok (.iload_n 1, 1) := by decide +kernel
theorem dX12_about_109 : decode cX12_about 109 = .ok (.imul, 1) := by decide +kernel
theorem dX12_about_110 : decode cX12_about 110 = .ok (.iconst 2, 1) := by decide +kernel
theorem dX12_about_111 : decode cX12_about 111 = .ok (.iadd, 1) := by decide +kernel
theorem dX12_about_112 : decode cX12_about 112 = .ok (.iaload, 1) := by decide +kernel
theorem dX12_about_113 : decode cX12_about 113 = .ok (.ireturn, 1) := by decide +kernel
theorem dX12_about_114 : decode cX12_about 114 = .ok (.aload_n 0, 1) := by decide +kernel
theorem dX12_about_115 : decode cX12_about 115 = .ok (.getfield 19, 3) := by decide +kernel
theorem dX12_about_118 : decode cX12_about 118 = .ok (.bipush 7, 2) := by decide +kernel
theorem dX12_about_120 : decode cX12_about 120 = .ok (.iload_n 1, 1) := by decide +kernel
theorem dX12_about_121 : decode cX12_about 121 = .ok (.imul, 1) := by decide +kernel
theorem dX12_about_122 : decode cX12_about 122 = .ok (.iconst 3, 1) := by decide +kernel
theorem dX12_about_123 : decode cX12_about 123 = .ok (.iadd, 1) := by decide +kernel
theorem dX12_about_124 : decode cX12_about 124 = .ok (.iaload, 1) := by decide +kernel
theorem dX12_about_125 : decode cX12_about 125 = .ok (.ireturn, 1) := by decide +kernel
theorem dX12_about_126 : decode cX12_about 126 = .ok (.aload_n 0, 1) := by decide +kernel
theorem dX12_about_127 : decode cX12_about 127 = .ok (.iload_n 1, 1) := by decide +kernel
theorem dX12_about_128 : decode cX12_about 128 = .ok (.iconst 0, 1) := by decide +kernel
theorem dX12_about_129 : decode cX12_about 129 = .ok (.invokevirtual 130, 3) := by decide +kernel
theorem dX12_about_132 : decode cX12_about 132 = .ok (.ireturn, 1) := by decide +kernel
theorem dX12_about_133 : decode cX12_about 133 = .ok (.aload_n 0, 1) := by decide +kernel
theorem dX12_about_134 : decode cX12_about 134 = .ok (.iload_n 1, 1) := by decide +kernel
theorem dX12_about_135 : decode cX12_about 135 = .ok (.iconst 1, 1) := by decide +kernel
theorem dX12_about_136 : decode cX12_about 136 = .ok (.invokevirtual 130, 3) := by decide +kernel
theorem dX12_about_139 : decode cX12_about 139 = .ok (.ireturn, 1) := by decide +kernel
theorem dX12_about_140 : decode cX12_about 140 = .ok (.aload_n 0, 1) := by decide +kernel
theorem dX12_about_141 : decode cX12_about 141 = .ok (.getfield 19, 3) := by decide +kernel
theorem dX12_about_144 : decode cX12_about 144 = .ok (.bipush 7, 2) := by decide +kernel
theorem dX12_about_146 : decode cX12_about 146 = .ok (.iload_n 1, 1) := by decide +kernel
theorem dX12_about_147 : decode cX12_about 147 = .ok (.imul, 1) := by decide +kernel
theorem dX12_about_148 : decode cX12_about 148 = .ok (.iconst 4, 1) := by decide +kernel
theorem dX12_about_149 : decode cX12_about 149 = .ok (.iadd, 1) := by decide +kernel
theorem dX12_about_150 : decode cX12_about 150 = .ok (.iaload, 1) := by decide +kernel
theorem dX12_about_151 : decode cX12_about 151 = .ok (.ireturn, 1) := by decide +kernel
theorem dX12_about_152 : decode cX12_about 152 = .ok (.aload_n 0, 1) := by decide +kernel
theorem dX12_about_153 : decode cX12_about 153 = .ok (.getfield 19, 3) := by decide +kernel
theorem dX12_about_156 : decode cX12_about 156 = .ok (.bipush 7, 2) := by decide +kernel
theorem dX12_about_158 : decode cX12_about 158 = .ok (.iload_n 1, 1) := by decide +kernel
theorem dX12_about_159 : decode cX12_about 159 = .ok (.imul, 1) := by decide +kernel
theorem dX12_about_160 : decode cX12_about 160 = .ok (.iconst 5, 1) := by decide +kernel
theorem dX12_about_161 : decode cX12_about 161 = .ok (.iadd, 1) := by decide +kernel
theorem dX12_about_162 : decode cX12_about 162 = .ok (.iaload, 1) := by decide +kernel
theorem dX12_about_163 : decode cX12_about 163 = .ok (.ireturn, 1) := by decide +kernel
theorem dX12_about_164 : decode cX12_about 164 = .ok (.aload_n 0, 1) := by decide +kernel
theorem dX12_about_165 : decode cX12_about 165 = .ok (.getfield 19, 3) := by decide +kernel
theorem dX12_about_168 : decode cX12_about 168 = .ok (.bipush 7, 2) := by decide +kernel
theorem dX12_about_170 : decode cX12_about 170 = .ok (.iload_n 1, 1) := by decide +kernel
theorem dX12_about_171 : decode cX12_about 171 = .ok (.imul, 1) := by decide +kernel
theorem dX12_about_172 : decode cX12_about 172 = .ok (.bipush 6, 2) := by decide +kernel
theorem dX12_about_174 : decode cX12_about 174 = .ok (.iadd, 1) := by decide +kernel
theorem dX12_about_175 : decode cX12_about 175 = .ok (.iaload, 1) := by decide +kernel
theorem dX12_about_176 : decode cX12_about 176 = .ok (.ireturn, 1) := by decide +kernel
theorem dX12_about_177 : decode cX12_about 177 = .ok (.ldc 150, 2) := by decide +kernel
theorem dX12_about_179 : decode cX12_about 179 = .ok (.aload_n 0, 1) := by decide +kernel
theorem dX12_about_180 : decode cX12_about 180 = .ok (.getfield 137, 3) := by decide +kernel
theorem dX12_about_183 : decode cX12_about 183 = .ok (.iadd, 1) := by decide +kernel
theorem dX12_about_184 : decode cX12_about 184 = .ok (.ireturn, 1) := by decide +kernel
theorem dX12_about_185 : decode cX12_about 185 = .ok (.ldc 150, 2) := by decide +kernel
theorem dX12_about_187 : decode cX12_about 187 = .ok (.aload_n 0, 1) := by decide +kernel
theorem dX12_about_188 : decode cX12_about 188 = .ok (.getfield 140, 3) := by decide +kernel
theorem dX12_about_191 : decode cX12_about 191 = .ok (.iadd, 1) := by decide +kernel
theorem dX12_about_192 : decode cX12_about 192 = .ok (.ireturn, 1) := by decide +kernel
theorem dX12_about_193 : decode cX12_about 193 = .ok (.bipush (-2), 2) := by decide +kernel
theorem dX12_about_195 : decode cX12_about 195 = .ok (.ireturn, 1) := by decide +kernel
theorem dX12_part_0 : decode cX12_part 0 = .ok (.lload_n 0, 1) := by decide +kernel
theorem dX12_part_1 : decode cX12_part 1 = .ok (.lstore 5, 2) := by decide +kernel
theorem dX12_part_3 : decode cX12_part 3 = .ok (.lload_n 2, 1) := by decide +kernel
theorem dX12_part_4 : decode cX12_part 4 = .ok (.lstore 7, 2) := by decide +kernel
theorem dX12_part_6 : decode cX12_part 6 = .ok (.lload 7, 2) := by decide +kernel
theorem dX12_part_8 : decode cX12_part 8 = .ok (.lconst 0, 1) := by decide +kernel
theorem dX12_part_9 : decode cX12_part 9 = .ok (.lcmp, 1) := by decide +kernel
theorem dX12_part_10 : decode cX12_part 10 = .ok (.ifCond .eq 21, 3) := by decide +kernel
theorem dX12_part_13 : decode cX12_part 13 = .ok (.lload 5, 2) := by decide +kernel
theorem dX12_part_15 : decode cX12_part 15 = .ok (.lload 7, 2) := by decide +kernel
theorem dX12_part_17 : decode cX12_part 17 = .ok (.lrem, 1) := by decide +kernel
theorem dX12_part_18 : decode cX12_part 18 = .ok (.lstore 9, 2) := by decide +kernel
theorem dX12_part_20 : decode cX12_part 20 = .ok (.lload 7, 2) := by decide +kernel
theorem dX12_part_22 : decode cX12_part 22 = .ok (.lstore 5, 2) := by decide +kernel
theorem dX12_part_24 : decode cX12_part 24 = .ok (.lload 9, 2) := by decide +kernel
theorem dX12_part_26 : decode cX12_part 26 = .ok (.lstore 7, 2) := by decide +kernel
theorem dX12_part_28 : decode cX12_part 28 = .ok (.goto (-22), 3) := by decide +kernel
theorem dX12_part_31 : decode cX12_part 31 = .ok (.iload 4, 2) := by decide +kernel
theorem dX12_part_33 : decode cX12_part 33 = .ok (.ifCond .eq 10, 3) := by decide +kernel
theorem dX12_part_36 : decode cX12_part 36 = .ok (.lload_n 0, 1) := by decide +kernel
theorem dX12_part_37 : decode cX12_part 37 = .ok (.lload 5, 2) := by decide +kernel
theorem dX12_part_39 : decode cX12_part 39 = .ok (.ldiv, 1) := by decide +kernel
theorem dX12_part_40 : decode cX12_part 40 = .ok (.goto 7, 3) := by decide +kernel
theorem dX12_part_43 : decode cX12_part 43 = .ok (.lload_n 2, 1) := by decide +kernel
theorem dX12_part_44 : decode cX12_part 44 = .ok (.lload 5, 2) := by decide +kernel
theorem dX12_part_46 : decode cX12_part 46 = .ok (.ldiv, 1) := by decide +kernel
theorem dX12_part_47 : decode cX12_part 47 = .ok (.lreturn, 1) := by decide +kernel
theorem dX12_weighs_0 : decode cX12_weighs 0 = .ok (.aload_n 0, 1) := by decide +kernel
theorem dX12_weighs_1 : decode cX12_weighs 1 = .ok (.getfield 19, 3) := by decide +kernel
theorem dX12_weighs_4 : decode cX12_weighs 4 = .ok (.bipush 7, 2) := by decide +kernel
theorem dX12_weighs_6 : decode cX12_weighs 6 = .ok (.iload_n 1, 1) := by decide +kernel
theorem dX12_weighs_7 : decode cX12_weighs 7 = .ok (.imul, 1) := by decide +kernel
theorem dX12_weighs_8 : decode cX12_weighs 8 = .ok (.iaload, 1) := by decide +kernel
theorem dX12_weighs_9 : decode cX12_weighs 9 = .ok (.aload_n 0, 1) := by decide +kernel
theorem dX12_weighs_10 : decode cX12_weighs 10 = .ok (.getfield 19, 3) := by decide +kernel
theorem dX12_weighs_13 : decode cX12_weighs 13 = .ok (.bipush 7, 2) := by decide +kernel
theorem dX12_weighs_15 : decode cX12_weighs 15 = .ok (.iload_n 1, 1) := by decide +kernel
theorem dX12_weighs_16 : decode cX12_weighs 16 = .ok (.imul, 1) := by decide +kernel
theorem dX12_weighs_17 : decode cX12_weighs 17 = .ok (.iconst 1, 1) := by decide +kernel
theorem dX12_weighs_18 : decode cX12_weighs 18 = .ok (.iadd, 1) := by decide +kernel
theorem dX12_weighs_19 : decode cX12_weighs 19 = .ok (.iaload, 1) := by decide +kernel
theorem dX12_weighs_20 : decode cX12_weighs 20 = .ok (.imul, 1) := by decide +kernel
theorem dX12_weighs_21 : decode cX12_weighs 21 = .ok (.aload_n 0, 1) := by decide +kernel
theorem dX12_weighs_22 : decode cX12_weighs 22 = .ok (.getfield 19, 3) := by decide +kernel
theorem dX12_weighs_25 : decode cX12_weighs 25 = .ok (.bipush 7, 2) := by decide +kernel
theorem dX12_weighs_27 : decode cX12_weighs 27 = .ok (.iload_n 1, 1) := by decide +kernel
theorem dX12_weighs_28 : decode cX12_weighs 28 = .ok (.imul, 1) := by decide +kernel
theorem dX12_weighs_29 : decode cX12_weighs 29 = .ok (.iconst 2, 1) := by decide +kernel
theorem dX12_weighs_30 : decode cX12_weighs 30 = .ok (.iadd, 1) := by decide +kernel
theorem dX12_weighs_31 : decode cX12_weighs 31 = .ok (.iaload, 1) := by decide +kernel
theorem dX12_weighs_32 : decode cX12_weighs 32 = .ok (.imul, 1) := by decide +kernel
theorem dX12_weighs_33 : decode cX12_weighs 33 = .ok (.aload_n 0, 1) := by decide +kernel
theorem dX12_weighs_34 : decode cX12_weighs 34 = .ok (.getfield 134, 3) := by decide +kernel
theorem dX12_weighs_37 : decode cX12_weighs 37 = .ok (.iadd, 1) := by decide +kernel
theorem dX12_weighs_38 : decode cX12_weighs 38 = .ok (.iload_n 2, 1) := by decide +kernel
theorem dX12_weighs_39 : decode cX12_weighs 39 = .ok (.aload_n 0, 1) := by decide +kernel
theorem dX12_weighs_40 : decode cX12_weighs 40 = .ok (.getfield 19, 3) := by decide +kernel
theorem dX12_weighs_43 : decode cX12_weighs 43 = .ok (.bipush 7, 2) := by decide +kernel
theorem dX12_weighs_45 : decode cX12_weighs 45 = .ok (.iload_n 1, 1) := by decide +kernel
theorem dX12_weighs_46 : decode cX12_weighs 46 = .ok (.imul, 1) := by decide +kernel
theorem dX12_weighs_47 : decode cX12_weighs 47 = .ok (.iconst 4, 1) := by decide +kernel
theorem dX12_weighs_48 : decode cX12_weighs 48 = .ok (.iadd, 1) := by decide +kernel
theorem dX12_weighs_49 : decode cX12_weighs 49 = .ok (.iaload, 1) := by decide +kernel
theorem dX12_weighs_50 : decode cX12_weighs 50 = .ok (.imul, 1) := by decide +kernel
theorem dX12_weighs_51 : decode cX12_weighs 51 = .ok (.iadd, 1) := by decide +kernel
theorem dX12_weighs_52 : decode cX12_weighs 52 = .ok (.i2l, 1) := by decide +kernel
theorem dX12_weighs_53 : decode cX12_weighs 53 = .ok (.lreturn, 1) := by decide +kernel
set_option maxRecDepth 20000 in
theorem ggX12_deep_X12_isBoat : GoodIn wsX12_deep wsX12_isBoat := goodIn_r _ [9, 10, 11, 12, 8, 13, 38, 39, 40, 41, 42, 43, 44, 45, 46, 47, 48, 49, 50, 51, 52, 53, 54, 55, 56, 57, 58, 59, 60, 61, 62, 63, 64, 65, 66, 67, 68] (by decide +kernel) (by decide +kernel)
set_option maxRecDepth 20000 in
theorem gX12_deep_X12_isBoat : GoodIn wsX12_deep (wsV RX12 125 RX12 yX12_isBoat wsX12_isBoat) := goodIn_app (goodIn_of _ (by decide +kernel)) ggX12_deep_X12_isBoat
set_option maxRecDepth 20000 in
theorem ggX12_deep_X12_in : GoodIn wsX12_deep wsX12_in := goodIn_r _ [13] (by decide +kernel) (by decide +kernel)
set_option maxRecDepth 20000 in
theorem gX12_deep_X12_in : GoodIn wsX12_deep (va_wsS RX12 78 yX12_in wsX12_in) := goodIn_app (goodIn_of _ (by decide +kernel)) ggX12_deep_X12_in
set_option maxRecDepth 20000 in
theorem ggX12_deep_X12_all : GoodIn wsX12_deep wsX12_all := goodIn_r _ [17, 18, 38, 39, 40, 41, 42, 43, 44, 45, 46, 47, 48, 49, 50, 51, 52, 53, 54, 55, 56, 57, 58, 59, 60, 61, 62, 63, 64, 65, 66, 67, 68] (by decide +kernel) (by decide +kernel)
set_option maxRecDepth 20000 in
theorem gX12_deep_X12_all : GoodIn wsX12_deep (wsV RX12 143 RX12 yX12_all wsX12_all) := goodIn_app (goodIn_of _ (by decide +kernel)) ggX12_deep_X12_all
set_option maxRecDepth 20000 in
theorem ggX12_deep_X12_layCoins : GoodIn wsX12_deep wsX12_layCoins := goodIn_r _ [22, 23, 24, 25, 18, 26, 27, 28, 29, 8, 30, 38, 39, 40, 41, 42, 43, 44, 45, 46, 47, 48, 49, 50, 51, 52, 53, 54, 55, 56, 57, 58, 59, 60, 61, 62, 63, 64, 65, 66, 67, 68] (by decide +kernel) (by decide +kernel)
set_option maxRecDepth 20000 in
theorem gX12_deep_X12_layCoins : GoodIn wsX12_deep (wsV RX12 146 RX12 yX12_layCoins wsX12_layCoins) := goodIn_app (goodIn_of _ (by decide +kernel)) ggX12_deep_X12_layCoins
set_option maxRecDepth 20000 in
theorem ggX12_deep_X12_weighs : GoodIn wsX12_deep wsX12_weighs := goodIn_r _ [34, 18, 23, 38, 39, 40, 41, 42, 43, 44, 45, 46, 47, 48, 49, 50, 51, 52, 53, 54, 55, 56, 57, 58, 59, 60, 61, 62, 63, 64, 65, 66, 67, 68] (by decide +kernel) (by decide +kernel)
set_option maxRecDepth 20000 in
theorem gX12_deep_X12_weighs : GoodIn wsX12_deep (wsV RX12 157 RX12 yX12_weighs wsX12_weighs) := goodIn_app (goodIn_of _ (by decide +kernel)) ggX12_deep_X12_weighs
set_option maxRecDepth 20000 in
theorem ggX12_deep_X12_wide : GoodIn wsX12_deep wsX12_wide := goodIn_r _ [30, 18, 38, 39, 40, 41, 42, 43, 44, 45, 46, 47, 48, 49, 50, 51, 52, 53, 54, 55, 56, 57, 58, 59, 60, 61, 62, 63, 64, 65, 66, 67, 68] (by decide +kernel) (by decide +kernel)
set_option maxRecDepth 20000 in
theorem gX12_deep_X12_wide : GoodIn wsX12_deep (wsV RX12 130 RX12 yX12_wide wsX12_wide) := goodIn_app (goodIn_of _ (by decide +kernel)) ggX12_deep_X12_wide
set_option maxRecDepth 20000 in
theorem ggX12_deep_X12_part : GoodIn wsX12_deep wsX12_part := goodIn_r _ [37] (by decide +kernel) (by decide +kernel)
set_option maxRecDepth 20000 in
theorem gX12_deep_X12_part : GoodIn wsX12_deep (va_wsS RX12 163 yX12_part wsX12_part) := goodIn_app (goodIn_of _ (by decide +kernel)) ggX12_deep_X12_part
theorem dX12_deep_0 : decode cX12_deep 0 = .ok (.aload_n 0, 1) := by decide +kernel
theorem dX12_deep_1 : decode cX12_deep 1 = .ok (.iload_n 1, 1) := by decide +kernel
theorem dX12_deep_2 : decode cX12_deep 2 = .ok (.invokevirtual 125, 3) := by decide +kernel
theorem dX12_deep_5 : decode cX12_deep 5 = .ok (.ifCond .ne 7, 3) := by decide +kernel
theorem dX12_deep_8 : decode cX12_deep 8 = .ok (.ldc2_w 151, 3) := by decide +kernel
theorem dX12_deep_11 : decode cX12_deep 11 = .ok (.lreturn, 1) := by decide +kernel
theorem dX12_deep_12 : decode cX12_deep 12 = .ok (.iload_n 2, 1) := by decide +kernel
theorem dX12_deep_13 : decode cX12_deep 13 = .ok (.i2l, 1) := by decide +kernel
theorem dX12_deep_14 : decode cX12_deep 14 = .ok (.lconst 0, 1) := by decide +kernel
theorem dX12_deep_15 : decode cX12_deep 15 = .ok (.ldc2_w 153, 3) := by decide +kernel
theorem dX12_deep_18 : decode cX12_deep 18 = .ok (.invokestatic 78, 3) := by decide +kernel
theorem dX12_deep_21 : decode cX12_deep 21 = .ok (.ifCond .ne 7, 3) := by decide +kernel
theorem dX12_deep_24 : decode cX12_deep 24 = .ok (.ldc2_w 155, 3) := by decide +kernel
theorem dX12_deep_27 : decode cX12_deep 27 = .ok (.lreturn, 1) := by decide +kernel
theorem dX12_deep_28 : decode cX12_deep 28 = .ok (.aload_n 0, 1) := by decide +kernel
theorem dX12_deep_29 : decode cX12_deep 29 = .ok (.iload_n 1, 1) := by decide +kernel
theorem dX12_deep_30 : decode cX12_deep 30 = .ok (.aload_n 0, 1) := by decide +kernel
theorem dX12_deep_31 : decode cX12_deep 31 = .ok (.iload_n 1, 1) := by decide +kernel
theorem dX12_deep_32 : decode cX12_deep 32 = .ok (.invokevirtual 143, 3) := by decide +kernel
theorem dX12_deep_35 : decode cX12_deep 35 = .ok (.invokevirtual 146, 3) := by decide +kernel
theorem dX12_deep_38 : decode cX12_deep 38 = .ok (.aload_n 0, 1) := by decide +kernel
theorem dX12_deep_39 : decode cX12_deep 39 = .ok (.iload_n 1, 1) := by decide +kernel
theorem dX12_deep_40 : decode cX12_deep 40 = .ok (.iload_n 2, 1) := by decide +kernel
theorem dX12_deep_41 : decode cX12_deep 41 = .ok (.invokevirtual 157, 3) := by decide +kernel
theorem dX12_deep_44 : decode cX12_deep 44 = .ok (.ldc2_w 161, 3) := by decide +kernel
theorem dX12_deep_47 : decode cX12_deep 47 = .ok (.aload_n 0, 1) := by decide +kernel
theorem dX12_deep_48 : decode cX12_deep 48 = .ok (.iload_n 1, 1) := by decide +kernel
theorem dX12_deep_49 : decode cX12_deep 49 = .ok (.iconst 0, 1) := by decide +kernel
theorem dX12_deep_50 : decode cX12_deep 50 = .ok (.invokevirtual 130, 3) := by decide +kernel
theorem dX12_deep_53 : decode cX12_deep 53 = .ok (.i2l, 1) := by decide +kernel
theorem dX12_deep_54 : decode cX12_deep 54 = .ok (.lmul, 1) := by decide +kernel
theorem dX12_deep_55 : decode cX12_deep 55 = .ok (.aload_n 0, 1) := by decide +kernel
theorem dX12_deep_56 : decode cX12_deep 56 = .ok (.iload_n 1, 1) := by decide +kernel
theorem dX12_deep_57 : decode cX12_deep 57 = .ok (.iconst 1, 1) := by decide +kernel
theorem dX12_deep_58 : decode cX12_deep 58 = .ok (.invokevirtual 130, 3) := by decide +kernel
theorem dX12_deep_61 : decode cX12_deep 61 = .ok (.i2l, 1) := by decide +kernel
theorem dX12_deep_62 : decode cX12_deep 62 = .ok (.lmul, 1) := by decide +kernel
theorem dX12_deep_63 : decode cX12_deep 63 = .ok (.iload_n 3, 1) := by decide +kernel
theorem dX12_deep_64 : decode cX12_deep 64 = .ok (.invokestatic 163, 3) := by decide +kernel
theorem dX12_deep_67 : decode cX12_deep 67 = .ok (.lreturn, 1) := by decide +kernel
set_option maxRecDepth 20000 in
theorem ggX12_cornerUp_X12_weighs : GoodIn wsX12_cornerUp wsX12_weighs := goodIn_r _ [8, 9, 10, 15, 16, 17, 18, 19, 20, 21, 22, 23, 24, 25, 26, 27, 28, 29, 30, 31, 32, 33, 34, 35, 36, 37, 38, 39, 40, 41, 42, 43, 44, 45] (by decide +kernel) (by decide +kernel)
set_option maxRecDepth 20000 in
theorem gX12_cornerUp_X12_weighs : GoodIn wsX12_cornerUp (wsV RX12 157 RX12 yX12_weighs wsX12_weighs) := goodIn_app (goodIn_of _ (by decide +kernel)) ggX12_cornerUp_X12_weighs
set_option maxRecDepth 20000 in
theorem ggX12_cornerUp_X12_wide : GoodIn wsX12_cornerUp wsX12_wide := goodIn_r _ [14, 9, 15, 16, 17, 18, 19, 20, 21, 22, 23, 24, 25, 26, 27, 28, 29, 30, 31, 32, 33, 34, 35, 36, 37, 38, 39, 40, 41, 42, 43, 44, 45] (by decide +kernel) (by decide +kernel)
set_option maxRecDepth 20000 in
theorem gX12_cornerUp_X12_wide : GoodIn wsX12_cornerUp (wsV RX12 130 RX12 yX12_wide wsX12_wide) := goodIn_app (goodIn_of _ (by decide +kernel)) ggX12_cornerUp_X12_wide
theorem dX12_cornerUp_0 : decode cX12_cornerUp 0 = .ok (.aload_n 0, 1) := by decide +kernel
theorem dX12_cornerUp_1 : decode cX12_cornerUp 1 = .ok (.getfield 137, 3) := by decide +kernel
theorem dX12_cornerUp_4 : decode cX12_cornerUp 4 = .ok (.ifCond .ge 12, 3) := by decide +kernel
theorem dX12_cornerUp_7 : decode cX12_cornerUp 7 = .ok (.aload_n 0, 1) := by decide +kernel
theorem dX12_cornerUp_8 : decode cX12_cornerUp 8 = .ok (.getfield 137, 3) := by decide +kernel
theorem dX12_cornerUp_11 : decode cX12_cornerUp 11 = .ok (.ineg, 1) := by decide +kernel
theorem dX12_cornerUp_12 : decode cX12_cornerUp 12 = .ok (.i2l, 1) := by decide +kernel
theorem dX12_cornerUp_13 : decode cX12_cornerUp 13 = .ok (.goto 8, 3) := by decide +kernel
theorem dX12_cornerUp_16 : decode cX12_cornerUp 16 = .ok (.aload_n 0, 1) := by decide +kernel
theorem dX12_cornerUp_17 : decode cX12_cornerUp 17 = .ok (.getfield 137, 3) := by decide +kernel
theorem dX12_cornerUp_20 : decode cX12_cornerUp 20 = .ok (.i2l, 1) := by decide +kernel
theorem dX12_cornerUp_21 : decode cX12_cornerUp 21 = .ok (.lstore_n 3, 1) := by decide +kernel
theorem dX12_cornerUp_22 : decode cX12_cornerUp 22 = .ok (.aload_n 0, 1) := by decide +kernel
theorem dX12_cornerUp_23 : decode cX12_cornerUp 23 = .ok (.getfield 140, 3) := by decide +kernel
theorem dX12_cornerUp_26 : decode cX12_cornerUp 26 = .ok (.ifCond .ge 12, 3) := by decide +kernel
theorem dX12_cornerUp_29 : decode cX12_cornerUp 29 = .ok (.aload_n 0, 1) := by decide +kernel
theorem dX12_cornerUp_30 : decode cX12_cornerUp 30 = .ok (.getfield 140, 3) := by decide +kernel
theorem dX12_cornerUp_33 : decode cX12_cornerUp 33 = .ok (.ineg, 1) := by decide +kernel
theorem dX12_cornerUp_34 : decode cX12_cornerUp 34 = .ok (.i2l, 1) := by decide +kernel
theorem dX12_cornerUp_35 : decode cX12_cornerUp 35 = .ok (.goto 8, 3) := by decide +kernel
theorem dX12_cornerUp_38 : decode cX12_cornerUp 38 = .ok (.aload_n 0, 1) := by decide +kernel
theorem dX12_cornerUp_39 : decode cX12_cornerUp 39 = .ok (.getfield 140, 3) := by decide +kernel
theorem dX12_cornerUp_42 : decode cX12_cornerUp 42 = .ok (.i2l, 1) := by decide +kernel
theorem dX12_cornerUp_43 : decode cX12_cornerUp 43 = .ok (.lstore 5, 2) := by decide +kernel
theorem dX12_cornerUp_45 : decode cX12_cornerUp 45 = .ok (.aload_n 0, 1) := by decide +kernel
theorem dX12_cornerUp_46 : decode cX12_cornerUp 46 = .ok (.iload_n 1, 1) := by decide +kernel
theorem dX12_cornerUp_47 : decode cX12_cornerUp 47 = .ok (.iload_n 2, 1) := by decide +kernel
theorem dX12_cornerUp_48 : decode cX12_cornerUp 48 = .ok (.invokevirtual 157, 3) := by decide +kernel
theorem dX12_cornerUp_51 : decode cX12_cornerUp 51 = .ok (.aload_n 0, 1) := by decide +kernel
theorem dX12_cornerUp_52 : decode cX12_cornerUp 52 = .ok (.iload_n 1, 1) := by decide +kernel
theorem dX12_cornerUp_53 : decode cX12_cornerUp 53 = .ok (.iconst 0, 1) := by decide +kernel
theorem dX12_cornerUp_54 : decode cX12_cornerUp 54 = .ok (.invokevirtual 130, 3) := by decide +kernel
theorem dX12_cornerUp_57 : decode cX12_cornerUp 57 = .ok (.i2l, 1) := by decide +kernel
theorem dX12_cornerUp_58 : decode cX12_cornerUp 58 = .ok (.lmul, 1) := by decide +kernel
theorem dX12_cornerUp_59 : decode cX12_cornerUp 59 = .ok (.aload_n 0, 1) := by decide +kernel
theorem dX12_cornerUp_60 : decode cX12_cornerUp 60 = .ok (.iload_n 1, 1) := by decide +kernel
theorem dX12_cornerUp_61 : decode cX12_cornerUp 61 = .ok (.iconst 1, 1) := by decide +kernel
theorem dX12_cornerUp_62 : decode cX12_cornerUp 62 = .ok (.invokevirtual 130, 3) := by decide +kernel
theorem dX12_cornerUp_65 : decode cX12_cornerUp 65 = .ok (.i2l, 1) := by decide +kernel
theorem dX12_cornerUp_66 : decode cX12_cornerUp 66 = .ok (.lmul, 1) := by decide +kernel
theorem dX12_cornerUp_67 : decode cX12_cornerUp 67 = .ok (.ldc2_w 119, 3) := by decide +kernel
theorem dX12_cornerUp_70 : decode cX12_cornerUp 70 = .ok (.lload_n 3, 1) := by decide +kernel
theorem dX12_cornerUp_71 : decode cX12_cornerUp 71 = .ok (.lmul, 1) := by decide +kernel
theorem dX12_cornerUp_72 : decode cX12_cornerUp 72 = .ok (.aload_n 0, 1) := by decide +kernel
theorem dX12_cornerUp_73 : decode cX12_cornerUp 73 = .ok (.iload_n 1, 1) := by decide +kernel
theorem dX12_cornerUp_74 : decode cX12_cornerUp 74 = .ok (.iconst 1, 1) := by decide +kernel
theorem dX12_cornerUp_75 : decode cX12_cornerUp 75 = .ok (.invokevirtual 130, 3) := by decide +kernel
theorem dX12_cornerUp_78 : decode cX12_cornerUp 78 = .ok (.i2l, 1) := by decide +kernel
theorem dX12_cornerUp_79 : decode cX12_cornerUp 79 = .ok (.lmul, 1) := by decide +kernel
theorem dX12_cornerUp_80 : decode cX12_cornerUp 80 = .ok (.ladd, 1) := by decide +kernel
theorem dX12_cornerUp_81 : decode cX12_cornerUp 81 = .ok (.ldc2_w 119, 3) := by decide +kernel
theorem dX12_cornerUp_84 : decode cX12_cornerUp 84 = .ok (.lload 5, 2) := by decide +kernel
theorem dX12_cornerUp_86 : decode cX12_cornerUp 86 = .ok (.lmul, 1) := by decide +kernel
theorem dX12_cornerUp_87 : decode cX12_cornerUp 87 = .ok (.aload_n 0, 1) := by decide +kernel
theorem dX12_cornerUp_88 : decode cX12_cornerUp 88 = .ok (.iload_n 1, 1) := by decide +kernel
theorem dX12_cornerUp_89 : decode cX12_cornerUp 89 = .ok (.iconst 0, 1) := by decide +kernel
theorem dX12_cornerUp_90 : decode cX12_cornerUp 90 = .ok (.invokevirtual 130, 3) := by decide +kernel
theorem dX12_cornerUp_93 : decode cX12_cornerUp 93 = .ok (.i2l, 1) := by decide +kernel
theorem dX12_cornerUp_94 : decode cX12_cornerUp 94 = .ok (.lmul, 1) := by decide +kernel
theorem dX12_cornerUp_95 : decode cX12_cornerUp 95 = .ok (.ladd, 1) := by decide +kernel
theorem dX12_cornerUp_96 : decode cX12_cornerUp 96 = .ok (.lreturn, 1) := by decide +kernel
set_option maxRecDepth 20000 in
theorem ggX12_cornerDown_X12_wide : GoodIn wsX12_cornerDown wsX12_wide := goodIn_r _ [6, 7, 8, 9, 10, 11, 12, 13, 14, 15, 16, 17, 18, 19, 20, 21, 22, 23, 24, 25, 26, 27, 28, 29, 30, 31, 32, 33, 34, 35, 36, 37, 38] (by decide +kernel) (by decide +kernel)
set_option maxRecDepth 20000 in
theorem gX12_cornerDown_X12_wide : GoodIn wsX12_cornerDown (wsV RX12 130 RX12 yX12_wide wsX12_wide) := goodIn_app (goodIn_of _ (by decide +kernel)) ggX12_cornerDown_X12_wide
theorem dX12_cornerDown_0 : decode cX12_cornerDown 0 = .ok (.ldc2_w 161, 3) := by decide +kernel
theorem dX12_cornerDown_3 : decode cX12_cornerDown 3 = .ok (.aload_n 0, 1) := by decide +kernel
theorem dX12_cornerDown_4 : decode cX12_cornerDown 4 = .ok (.iload_n 1, 1) := by decide +kernel
theorem dX12_cornerDown_5 : decode cX12_cornerDown 5 = .ok (.iconst 0, 1) := by decide +kernel
theorem dX12_cornerDown_6 : decode cX12_cornerDown 6 = .ok (.invokevirtual 130, 3) := by decide +kernel
theorem dX12_cornerDown_9 : decode cX12_cornerDown 9 = .ok (.i2l, 1) := by decide +kernel
theorem dX12_cornerDown_10 : decode cX12_cornerDown 10 = .ok (.lmul, 1) := by decide +kernel
theorem dX12_cornerDown_11 : decode cX12_cornerDown 11 = .ok (.aload_n 0, 1) := by decide +kernel
theorem dX12_cornerDown_12 : decode cX12_cornerDown 12 = .ok (.iload_n 1, 1) := by decide +kernel
theorem dX12_cornerDown_13 : decode cX12_cornerDown 13 = .ok (.iconst 0, 1) := by decide +kernel
theorem dX12_cornerDown_14 : decode cX12_cornerDown 14 = .ok (.invokevirtual 130, 3) := by decide +kernel
theorem dX12_cornerDown_17 : decode cX12_cornerDown 17 = .ok (.i2l, 1) := by decide +kernel
theorem dX12_cornerDown_18 : decode cX12_cornerDown 18 = .ok (.lmul, 1) := by decide +kernel
theorem dX12_cornerDown_19 : decode cX12_cornerDown 19 = .ok (.aload_n 0, 1) := by decide +kernel
theorem dX12_cornerDown_20 : decode cX12_cornerDown 20 = .ok (.iload_n 1, 1) := by decide +kernel
theorem dX12_cornerDown_21 : decode cX12_cornerDown 21 = .ok (.iconst 1, 1) := by decide +kernel
theorem dX12_cornerDown_22 : decode cX12_cornerDown 22 = .ok (.invokevirtual 130, 3) := by decide +kernel
theorem dX12_cornerDown_25 : decode cX12_cornerDown 25 = .ok (.i2l, 1) := by decide +kernel
theorem dX12_cornerDown_26 : decode cX12_cornerDown 26 = .ok (.lmul, 1) := by decide +kernel
theorem dX12_cornerDown_27 : decode cX12_cornerDown 27 = .ok (.aload_n 0, 1) := by decide +kernel
theorem dX12_cornerDown_28 : decode cX12_cornerDown 28 = .ok (.iload_n 1, 1) := by decide +kernel
theorem dX12_cornerDown_29 : decode cX12_cornerDown 29 = .ok (.iconst 1, 1) := by decide +kernel
theorem dX12_cornerDown_30 : decode cX12_cornerDown 30 = .ok (.invokevirtual 130, 3) := by decide +kernel
theorem dX12_cornerDown_33 : decode cX12_cornerDown 33 = .ok (.i2l, 1) := by decide +kernel
theorem dX12_cornerDown_34 : decode cX12_cornerDown 34 = .ok (.lmul, 1) := by decide +kernel
theorem dX12_cornerDown_35 : decode cX12_cornerDown 35 = .ok (.lreturn, 1) := by decide +kernel
set_option maxRecDepth 20000 in
theorem ggX12_corner_X12_isBoat : GoodIn wsX12_corner wsX12_isBoat := goodIn_r _ [8, 9, 10, 11, 7, 12, 47, 48, 49, 50, 51, 52, 53, 54, 55, 56, 57, 58, 59, 60, 61, 62, 63, 64, 65, 66, 67, 68, 69, 70, 71, 72, 73, 74, 75, 76, 77] (by decide +kernel) (by decide +kernel)
set_option maxRecDepth 20000 in
theorem gX12_corner_X12_isBoat : GoodIn wsX12_corner (wsV RX12 125 RX12 yX12_isBoat wsX12_isBoat) := goodIn_app (goodIn_of _ (by decide +kernel)) ggX12_corner_X12_isBoat
set_option maxRecDepth 20000 in
theorem ggX12_corner_X12_in : GoodIn wsX12_corner wsX12_in := goodIn_r _ [12] (by decide +kernel) (by decide +kernel)
set_option maxRecDepth 20000 in
theorem gX12_corner_X12_in : GoodIn wsX12_corner (va_wsS RX12 78 yX12_in wsX12_in) := goodIn_app (goodIn_of _ (by decide +kernel)) ggX12_corner_X12_in
set_option maxRecDepth 20000 in
theorem ggX12_corner_X12_all : GoodIn wsX12_corner wsX12_all := goodIn_r _ [16, 17, 47, 48, 49, 50, 51, 52, 53, 54, 55, 56, 57, 58, 59, 60, 61, 62, 63, 64, 65, 66, 67, 68, 69, 70, 71, 72, 73, 74, 75, 76, 77] (by decide +kernel) (by decide +kernel)
set_option maxRecDepth 20000 in
theorem gX12_corner_X12_all : GoodIn wsX12_corner (wsV RX12 143 RX12 yX12_all wsX12_all) := goodIn_app (goodIn_of _ (by decide +kernel)) ggX12_corner_X12_all
set_option maxRecDepth 20000 in
theorem ggX12_corner_X12_layCoins : GoodIn wsX12_corner wsX12_layCoins := goodIn_r _ [21, 22, 23, 24, 17, 25, 26, 27, 28, 7, 29, 47, 48, 49, 50, 51, 52, 53, 54, 55, 56, 57, 58, 59, 60, 61, 62, 63, 64, 65, 66, 67, 68, 69, 70, 71, 72, 73, 74, 75, 76, 77] (by decide +kernel) (by decide +kernel)
set_option maxRecDepth 20000 in
theorem gX12_corner_X12_layCoins : GoodIn wsX12_corner (wsV RX12 146 RX12 yX12_layCoins wsX12_layCoins) := goodIn_app (goodIn_of _ (by decide +kernel)) ggX12_corner_X12_layCoins
set_option maxRecDepth 20000 in
theorem ggX12_corner_X12_cornerUp : GoodIn wsX12_corner wsX12_cornerUp := goodIn_r _ [33, 23, 24, 34, 35, 36, 37, 7, 38, 17, 22, 26, 27, 28, 29, 47, 48, 49, 50, 51, 52, 53, 54, 55, 56, 57, 58, 59, 60, 61, 62, 63, 64, 65, 66, 67, 68, 69, 70, 71, 72, 73, 74, 75, 76, 77] (by decide +kernel) (by decide +kernel)
set_option maxRecDepth 20000 in
theorem gX12_corner_X12_cornerUp : GoodIn wsX12_corner (wsV RX12 167 RX12 yX12_cornerUp wsX12_cornerUp) := goodIn_app (goodIn_of _ (by decide +kernel)) ggX12_corner_X12_cornerUp
set_option maxRecDepth 20000 in
theorem ggX12_corner_X12_cornerDown : GoodIn wsX12_corner wsX12_cornerDown := goodIn_r _ [42, 43, 26, 27, 28, 7, 29, 17, 47, 48, 49, 50, 51, 52, 53, 54, 55, 56, 57, 58, 59, 60, 61, 62, 63, 64, 65, 66, 67, 68, 69, 70, 71, 72, 73, 74, 75, 76, 77] (by decide +kernel) (by decide +kernel)
set_option maxRecDepth 20000 in
theorem gX12_corner_X12_cornerDown : GoodIn wsX12_corner (wsV RX12 170 RX12 yX12_cornerDown wsX12_cornerDown) := goodIn_app (goodIn_of _ (by decide +kernel)) ggX12_corner_X12_cornerDown
set_option maxRecDepth 20000 in
theorem ggX12_corner_X12_part : GoodIn wsX12_corner wsX12_part := goodIn_r _ [46] (by decide +kernel) (by decide +kernel)
set_option maxRecDepth 20000 in
theorem gX12_corner_X12_part : GoodIn wsX12_corner (va_wsS RX12 163 yX12_part wsX12_part) := goodIn_app (goodIn_of _ (by decide +kernel)) ggX12_corner_X12_part
theorem dX12_corner_0 : decode cX12_corner 0 = .ok (.aload_n 0, 1) := by decide +kernel
theorem dX12_corner_1 : decode cX12_corner 1 = .ok (.iload_n 1, 1) := by decide +kernel
theorem dX12_corner_2 : decode cX12_corner 2 = .ok (.invokevirtual 125, 3) := by decide +kernel
theorem dX12_corner_5 : decode cX12_corner 5 = .ok (.ifCond .ne 7, 3) := by decide +kernel
theorem dX12_corner_8 : decode cX12_corner 8 = .ok (.ldc2_w 151, 3) := by decide +kernel
theorem dX12_corner_11 : decode cX12_corner 11 = .ok (.lreturn, 1) := by decide +kernel
theorem dX12_corner_12 : decode cX12_corner 12 = .ok (.iload_n 2, 1) := by decide +kernel
theorem dX12_corner_13 : decode cX12_corner 13 = .ok (.i2l, 1) := by decide +kernel
theorem dX12_corner_14 : decode cX12_corner 14 = .ok (.lconst 0, 1) := by decide +kernel
theorem dX12_corner_15 : decode cX12_corner 15 = .ok (.ldc2_w 153, 3) := by decide +kernel
theorem dX12_corner_18 : decode cX12_corner 18 = .ok (.invokestatic 78, 3) := by decide +kernel
theorem dX12_corner_21 : decode cX12_corner 21 = .ok (.ifCond .ne 7, 3) := by decide +kernel
theorem dX12_corner_24 : decode cX12_corner 24 = .ok (.ldc2_w 155, 3) := by decide +kernel
theorem dX12_corner_27 : decode cX12_corner 27 = .ok (.lreturn, 1) := by decide +kernel
theorem dX12_corner_28 : decode cX12_corner 28 = .ok (.aload_n 0, 1) := by decide +kernel
theorem dX12_corner_29 : decode cX12_corner 29 = .ok (.iload_n 1, 1) := by decide +kernel
theorem dX12_corner_30 : decode cX12_corner 30 = .ok (.aload_n 0, 1) := by decide +kernel
theorem dX12_corner_31 : decode cX12_corner 31 = .ok (.iload_n 1, 1) := by decide +kernel
theorem dX12_corner_32 : decode cX12_corner 32 = .ok (.invokevirtual 143, 3) := by decide +kernel
theorem dX12_corner_35 : decode cX12_corner 35 = .ok (.invokevirtual 146, 3) := by decide +kernel
theorem dX12_corner_38 : decode cX12_corner 38 = .ok (.aload_n 0, 1) := by decide +kernel
theorem dX12_corner_39 : decode cX12_corner 39 = .ok (.iload_n 1, 1) := by decide +kernel
theorem dX12_corner_40 : decode cX12_corner 40 = .ok (.iload_n 2, 1) := by decide +kernel
theorem dX12_corner_41 : decode cX12_corner 41 = .ok (.invokevirtual 167, 3) := by decide +kernel
theorem dX12_corner_44 : decode cX12_corner 44 = .ok (.aload_n 0, 1) := by decide +kernel
theorem dX12_corner_45 : decode cX12_corner 45 = .ok (.iload_n 1, 1) := by decide +kernel
theorem dX12_corner_46 : decode cX12_corner 46 = .ok (.invokevirtual 170, 3) := by decide +kernel
theorem dX12_corner_49 : decode cX12_corner 49 = .ok (.iload_n 3, 1) := by decide +kernel
theorem dX12_corner_50 : decode cX12_corner 50 = .ok (.invokestatic 163, 3) := by decide +kernel
theorem dX12_corner_53 : decode cX12_corner 53 = .ok (.lreturn, 1) := by decide +kernel
set_option maxRecDepth 20000 in
theorem ggX12_isUnder_X12_layCoins : GoodIn wsX12_isUnder wsX12_layCoins := goodIn_r _ [6, 7, 8, 9, 1, 10, 11, 12, 13, 5, 14, 29, 30, 31, 32, 33, 34, 35, 36, 37, 38, 39, 40, 41, 42, 43, 44, 45, 46, 47, 48, 49, 50, 51, 52, 53, 54, 55, 56, 57, 58, 59] (by decide +kernel) (by decide +kernel)
set_option maxRecDepth 20000 in
theorem gX12_isUnder_X12_layCoins : GoodIn wsX12_isUnder (wsV RX12 146 RX12 yX12_layCoins wsX12_layCoins) := goodIn_app (goodIn_of _ (by decide +kernel)) ggX12_isUnder_X12_layCoins
set_option maxRecDepth 20000 in
theorem ggX12_isUnder_X12_cornerUp : GoodIn wsX12_isUnder wsX12_cornerUp := goodIn_r _ [18, 8, 9, 19, 20, 21, 22, 5, 23, 1, 7, 11, 12, 13, 14, 29, 30, 31, 32, 33, 34, 35, 36, 37, 38, 39, 40, 41, 42, 43, 44, 45, 46, 47, 48, 49, 50, 51, 52, 53, 54, 55, 56, 57, 58, 59] (by decide +kernel) (by decide +kernel)
set_option maxRecDepth 20000 in
theorem gX12_isUnder_X12_cornerUp : GoodIn wsX12_isUnder (wsV RX12 167 RX12 yX12_cornerUp wsX12_cornerUp) := goodIn_app (goodIn_of _ (by decide +kernel)) ggX12_isUnder_X12_cornerUp
set_option maxRecDepth 20000 in
theorem ggX12_isUnder_X12_cornerDown : GoodIn wsX12_isUnder wsX12_cornerDown := goodIn_r _ [27, 28, 11, 12, 13, 5, 14, 1, 29, 30, 31, 32, 33, 34, 35, 36, 37, 38, 39, 40, 41, 42, 43, 44, 45, 46, 47, 48, 49, 50, 51, 52, 53, 54, 55, 56, 57, 58, 59] (by decide +kernel) (by decide +kernel)
set_option maxRecDepth 20000 in
theorem gX12_isUnder_X12_cornerDown : GoodIn wsX12_isUnder (wsV RX12 170 RX12 yX12_cornerDown wsX12_cornerDown) := goodIn_app (goodIn_of _ (by decide +kernel)) ggX12_isUnder_X12_cornerDown
theorem dX12_isUnder_0 : decode cX12_isUnder 0 = .ok (.aload_n 0, 1) := by decide +kernel
theorem dX12_isUnder_1 : decode cX12_isUnder 1 = .ok (.iload_n 1, 1) := by decide +kernel
theorem dX12_isUnder_2 : decode cX12_isUnder 2 = .ok (.iload_n 3, 1) := by decide +kernel
theorem dX12_isUnder_3 : decode cX12_isUnder 3 = .ok (.invokevirtual 146, 3) := by decide +kernel
theorem dX12_isUnder_6 : decode cX12_isUnder 6 = .ok (.aload_n 0, 1) := by decide +kernel
theorem dX12_isUnder_7 : decode cX12_isUnder 7 = .ok (.iload_n 1, 1) := by decide +kernel
theorem dX12_isUnder_8 : decode cX12_isUnder 8 = .ok (.iload_n 2, 1) := by decide +kernel
theorem dX12_isUnder_9 : decode cX12_isUnder 9 = .ok (.invokevirtual 167, 3) := by decide +kernel
theorem dX12_isUnder_12 : decode cX12_isUnder 12 = .ok (.aload_n 0, 1) := by decide +kernel
theorem dX12_isUnder_13 : decode cX12_isUnder 13 = .ok (.getfield 19, 3) := by decide +kernel
theorem dX12_isUnder_16 : decode cX12_isUnder 16 = .ok (.bipush 7, 2) := by decide +kernel
theorem dX12_isUnder_18 : decode cX12_isUnder 18 = .ok (.iload_n 1, 1) := by decide +kernel
theorem dX12_isUnder_19 : decode cX12_isUnder 19 = .ok (.imul, 1) := by decide +kernel
theorem dX12_isUnder_20 : decode cX12_isUnder 20 = .ok (.iconst 3, 1) := by decide +kernel
theorem dX12_isUnder_21 : decode cX12_isUnder 21 = .ok (.iadd, 1) := by decide +kernel
theorem dX12_isUnder_22 : decode cX12_isUnder 22 = .ok (.iaload, 1) := by decide +kernel
theorem dX12_isUnder_23 : decode cX12_isUnder 23 = .ok (.i2l, 1) := by decide +kernel
theorem dX12_isUnder_24 : decode cX12_isUnder 24 = .ok (.aload_n 0, 1) := by decide +kernel
theorem dX12_isUnder_25 : decode cX12_isUnder 25 = .ok (.iload_n 1, 1) := by decide +kernel
theorem dX12_isUnder_26 : decode cX12_isUnder 26 = .ok (.invokevirtual 170, 3) := by decide +kernel
theorem dX12_isUnder_29 : decode cX12_isUnder 29 = .ok (.lmul, 1) := by decide +kernel
theorem dX12_isUnder_30 : decode cX12_isUnder 30 = .ok (.lcmp, 1) := by decide +kernel
theorem dX12_isUnder_31 : decode cX12_isUnder 31 = .ok (.ifCond .le 7, 3) := by decide +kernel
theorem dX12_isUnder_34 : decode cX12_isUnder 34 = .ok (.iconst 1, 1) := by decide +kernel
theorem dX12_isUnder_35 : decode cX12_isUnder 35 = .ok (.goto 4, 3) := by decide +kernel
theorem dX12_isUnder_38 : decode cX12_isUnder 38 = .ok (.iconst 0, 1) := by decide +kernel
theorem dX12_isUnder_39 : decode cX12_isUnder 39 = .ok (.ireturn, 1) := by decide +kernel
set_option maxRecDepth 20000 in
theorem ggX12_under_X12_isBoat : GoodIn wsX12_under wsX12_isBoat := goodIn_r _ [6, 7, 8, 9, 5, 10, 46, 47, 48, 49, 50, 51, 52, 53, 54, 55, 56, 57, 58, 59, 60, 61, 62, 63, 64, 65, 66, 67, 68, 69, 70, 71, 72, 73, 74, 75, 76] (by decide +kernel) (by decide +kernel)
set_option maxRecDepth 20000 in
theorem gX12_under_X12_isBoat : GoodIn wsX12_under (wsV RX12 125 RX12 yX12_isBoat wsX12_isBoat) := goodIn_app (goodIn_of _ (by decide +kernel)) ggX12_under_X12_isBoat
set_option maxRecDepth 20000 in
theorem ggX12_under_X12_in : GoodIn wsX12_under wsX12_in := goodIn_r _ [10] (by decide +kernel) (by decide +kernel)
set_option maxRecDepth 20000 in
theorem gX12_under_X12_in : GoodIn wsX12_under (va_wsS RX12 78 yX12_in wsX12_in) := goodIn_app (goodIn_of _ (by decide +kernel)) ggX12_under_X12_in
set_option maxRecDepth 20000 in
theorem ggX12_under_X12_all : GoodIn wsX12_under wsX12_all := goodIn_r _ [14, 15, 46, 47, 48, 49, 50, 51, 52, 53, 54, 55, 56, 57, 58, 59, 60, 61, 62, 63, 64, 65, 66, 67, 68, 69, 70, 71, 72, 73, 74, 75, 76] (by decide +kernel) (by decide +kernel)
set_option maxRecDepth 20000 in
theorem gX12_under_X12_all : GoodIn wsX12_under (wsV RX12 143 RX12 yX12_all wsX12_all) := goodIn_app (goodIn_of _ (by decide +kernel)) ggX12_under_X12_all
set_option maxRecDepth 20000 in
theorem ggX12_under_X12_isUnder : GoodIn wsX12_under wsX12_isUnder := goodIn_r _ [19, 15, 20, 21, 22, 5, 23, 24, 25, 26, 27, 28, 29, 30, 31, 32, 33, 34, 35, 36, 37, 38, 39, 40, 41, 42, 43, 44, 45, 46, 47, 48, 49, 50, 51, 52, 53, 54, 55, 56, 57, 58, 59, 60, 61, 62, 63, 64, 65, 66, 67, 68, 69, 70, 71, 72, 73, 74, 75, 76] (by decide +kernel) (by decide +kernel)
set_option maxRecDepth 20000 in
theorem gX12_under_X12_isUnder : GoodIn wsX12_under (wsV RX12 174 RX12 yX12_isUnder wsX12_isUnder) := goodIn_app (goodIn_of _ (by decide +kernel)) ggX12_under_X12_isUnder
theorem dX12_under_0 : decode cX12_under 0 = .ok (.aload_n 0, 1) := by decide +kernel
theorem dX12_under_1 : decode cX12_under 1 = .ok (.iload_n 1, 1) := by decide +kernel
theorem dX12_under_2 : decode cX12_under 2 = .ok (.invokevirtual 125, 3) := by decide +kernel
theorem dX12_under_5 : decode cX12_under 5 = .ok (.ifCond .ne 5, 3) := by decide +kernel
theorem dX12_under_8 : decode cX12_under 8 = .ok (.iconst (-1), 1) := by decide +kernel
theorem dX12_under_9 : decode cX12_under 9 = .ok (.ireturn, 1) := by decide +kernel
theorem dX12_under_10 : decode cX12_under 10 = .ok (.iload_n 2, 1) := by decide +kernel
theorem dX12_under_11 : decode cX12_under 11 = .ok (.i2l, 1) := by decide +kernel
theorem dX12_under_12 : decode cX12_under 12 = .ok (.lconst 0, 1) := by decide +kernel
theorem dX12_under_13 : decode cX12_under 13 = .ok (.ldc2_w 153, 3) := by decide +kernel
theorem dX12_under_16 : decode cX12_under 16 = .ok (.invokestatic 78, 3) := by decide +kernel
theorem dX12_under_19 : decode cX12_under 19 = .ok (.ifCond .ne 8, 3) := by decide +kernel
theorem dX12_under_22 : decode cX12_under 22 = .ok (.bipush (-2), 2) := by decide +kernel
theorem dX12_under_24 : decode cX12_under 24 = .ok (.goto 22, 3) := by decide +kernel
theorem dX12_under_27 : decode cX12_under 27 = .ok (.aload_n 0, 1) := by decide +kernel
theorem dX12_under_28 : decode cX12_under 28 = .ok (.iload_n 1, 1) := by decide +kernel
theorem dX12_under_29 : decode cX12_under 29 = .ok (.iload_n 2, 1) := by decide +kernel
theorem dX12_under_30 : decode cX12_under 30 = .ok (.aload_n 0, 1) := by decide +kernel
theorem dX12_under_31 : decode cX12_under 31 = .ok (.iload_n 1, 1) := by decide +kernel
theorem dX12_under_32 : decode cX12_under 32 = .ok (.invokevirtual 143, 3) := by decide +kernel
theorem dX12_under_35 : decode cX12_under 35 = .ok (.invokevirtual 174, 3) := by decide +kernel
theorem dX12_under_38 : decode cX12_under 38 = .ok (.ifCond .eq 7, 3) := by decide +kernel
theorem dX12_under_41 : decode cX12_under 41 = .ok (.iconst 1, 1) := by decide +kernel
theorem dX12_under_42 : decode cX12_under 42 = .ok (.goto 4, 3) := by decide +kernel
theorem dX12_under_45 : decode cX12_under 45 = .ok (.iconst 0, 1) := by decide +kernel
theorem dX12_under_46 : decode cX12_under 46 = .ok (.ireturn, 1) := by decide +kernel
set_option maxRecDepth 20000 in
theorem ggX12_lifeOf_X12_all : GoodIn wsX12_lifeOf wsX12_all := goodIn_r _ [6, 1, 37, 38, 39, 40, 41, 42, 43, 44, 45, 46, 47, 48, 49, 50, 51, 52, 53, 54, 55, 56, 57, 58, 59, 60, 61, 62, 63, 64, 65, 66, 67] (by decide +kernel) (by decide +kernel)
set_option maxRecDepth 20000 in
theorem gX12_lifeOf_X12_all : GoodIn wsX12_lifeOf (wsV RX12 143 RX12 yX12_all wsX12_all) := goodIn_app (goodIn_of _ (by decide +kernel)) ggX12_lifeOf_X12_all
set_option maxRecDepth 20000 in
theorem ggX12_lifeOf_X12_isUnder : GoodIn wsX12_lifeOf wsX12_isUnder := goodIn_r _ [10, 1, 11, 12, 13, 5, 14, 15, 16, 17, 18, 19, 20, 21, 22, 23, 24, 25, 26, 27, 28, 29, 30, 31, 32, 33, 34, 35, 36, 37, 38, 39, 40, 41, 42, 43, 44, 45, 46, 47, 48, 49, 50, 51, 52, 53, 54, 55, 56, 57, 58, 59, 60, 61, 62, 63, 64, 65, 66, 67] (by decide +kernel) (by decide +kernel)
set_option maxRecDepth 20000 in
theorem gX12_lifeOf_X12_isUnder : GoodIn wsX12_lifeOf (wsV RX12 174 RX12 yX12_isUnder wsX12_isUnder) := goodIn_app (goodIn_of _ (by decide +kernel)) ggX12_lifeOf_X12_isUnder
theorem dX12_lifeOf_0 : decode cX12_lifeOf 0 = .ok (.bipush (-9), 2) := by decide +kernel
theorem dX12_lifeOf_2 : decode cX12_lifeOf 2 = .ok (.istore_n 2, 1) := by decide +kernel
theorem dX12_lifeOf_3 : decode cX12_lifeOf 3 = .ok (.iconst 0, 1) := by decide +kernel
theorem dX12_lifeOf_4 : decode cX12_lifeOf 4 = .ok (.istore_n 3, 1) := by decide +kernel
theorem dX12_lifeOf_5 : decode cX12_lifeOf 5 = .ok (.iload_n 3, 1) := by decide +kernel
theorem dX12_lifeOf_6 : decode cX12_lifeOf 6 = .ok (.bipush 10, 2) := by decide +kernel
theorem dX12_lifeOf_8 : decode cX12_lifeOf 8 = .ok (.aload_n 0, 1) := by decide +kernel
theorem dX12_lifeOf_9 : decode cX12_lifeOf 9 = .ok (.getfield 19, 3) := by decide +kernel
theorem dX12_lifeOf_12 : decode cX12_lifeOf 12 = .ok (.bipush 7, 2) := by decide +kernel
theorem dX12_lifeOf_14 : decode cX12_lifeOf 14 = .ok (.iload_n 1, 1) := by decide +kernel
theorem dX12_lifeOf_15 : decode cX12_lifeOf 15 = .ok (.imul, 1) := by decide +kernel
theorem dX12_lifeOf_16 : decode cX12_lifeOf 16 = .ok (.iconst 2, 1) := by decide +kernel
theorem dX12_lifeOf_17 : decode cX12_lifeOf 17 = .ok (.iadd, 1) := by decide +kernel
theorem dX12_lifeOf_18 : decode cX12_lifeOf 18 = .ok (.iaload, 1) := by decide +kernel
theorem dX12_lifeOf_19 : decode cX12_lifeOf 19 = .ok (.imul, 1) := by decide +kernel
theorem dX12_lifeOf_20 : decode cX12_lifeOf 20 = .ok (.iconst 5, 1) := by decide +kernel
theorem dX12_lifeOf_21 : decode cX12_lifeOf 21 = .ok (.aload_n 0, 1) := by decide +kernel
theorem dX12_lifeOf_22 : decode cX12_lifeOf 22 = .ok (.getfield 19, 3) := by decide +kernel
theorem dX12_lifeOf_25 : decode cX12_lifeOf 25 = .ok (.bipush 7, 2) := by decide +kernel
theorem dX12_lifeOf_27 : decode cX12_lifeOf 27 = .ok (.iload_n 1, 1) := by decide +kernel
theorem dX12_lifeOf_28 : decode cX12_lifeOf 28 = .ok (.imul, 1) := by decide +kernel
theorem dX12_lifeOf_29 : decode cX12_lifeOf 29 = .ok (.iconst 5, 1) := by decide +kernel
theorem dX12_lifeOf_30 : decode cX12_lifeOf 30 = .ok (.iadd, 1) := by decide +kernel
theorem dX12_lifeOf_31 : decode cX12_lifeOf 31 = .ok (.iaload, 1) := by decide +kernel
theorem dX12_lifeOf_32 : decode cX12_lifeOf 32 = .ok (.imul, 1) := by decide +kernel
theorem dX12_lifeOf_33 : decode cX12_lifeOf 33 = .ok (.iadd, 1) := by decide +kernel
theorem dX12_lifeOf_34 : decode cX12_lifeOf 34 = .ok (.if_icmp .gt 36, 3) := by decide +kernel
theorem dX12_lifeOf_37 : decode cX12_lifeOf 37 = .ok (.iload_n 3, 1) := by decide +kernel
theorem dX12_lifeOf_38 : decode cX12_lifeOf 38 = .ok (.sipush 1000, 3) := by decide +kernel
theorem dX12_lifeOf_41 : decode cX12_lifeOf 41 = .ok (.if_icmp .ge 29, 3) := by decide +kernel
theorem dX12_lifeOf_44 : decode cX12_lifeOf 44 = .ok (.aload_n 0, 1) := by decide +kernel
theorem dX12_lifeOf_45 : decode cX12_lifeOf 45 = .ok (.iload_n 1, 1) := by decide +kernel
theorem dX12_lifeOf_46 : decode cX12_lifeOf 46 = .ok (.iload_n 3, 1) := by decide +kernel
theorem dX12_lifeOf_47 : decode cX12_lifeOf 47 = .ok (.aload_n 0, 1) := by decide +kernel
theorem dX12_lifeOf_48 : decode cX12_lifeOf 48 = .ok (.iload_n 1, 1) := by decide +kernel
theorem dX12_lifeOf_49 : decode cX12_lifeOf 49 = .ok (.invokevirtual 143, 3) := by decide +kernel
theorem dX12_lifeOf_52 : decode cX12_lifeOf 52 = .ok (.invokevirtual 174, 3) := by decide +kernel
theorem dX12_lifeOf_55 : decode cX12_lifeOf 55 = .ok (.ifCond .ne 7, 3) := by decide +kernel
theorem dX12_lifeOf_58 : decode cX12_lifeOf 58 = .ok (.iload_n 3, 1) := by decide +kernel
theorem dX12_lifeOf_59 : decode cX12_lifeOf 59 = .ok (.goto 4, 3) := by decide +kernel
theorem dX12_lifeOf_62 : decode cX12_lifeOf 62 = .ok (.iload_n 2, 1) := by decide +kernel
theorem dX12_lifeOf_63 : decode cX12_lifeOf 63 = .ok (.istore_n 2, 1) := by decide +kernel
theorem dX12_lifeOf_64 : decode cX12_lifeOf 64 = .ok (.iinc 3 1, 3) := by decide +kernel
theorem dX12_lifeOf_67 : decode cX12_lifeOf 67 = .ok (.goto (-62), 3) := by decide +kernel
theorem dX12_lifeOf_70 : decode cX12_lifeOf 70 = .ok (.iload_n 2, 1) := by decide +kernel
theorem dX12_lifeOf_71 : decode cX12_lifeOf 71 = .ok (.ireturn, 1) := by decide +kernel
set_option maxRecDepth 20000 in
theorem ggX12_life_X12_isBoat : GoodIn wsX12_life wsX12_isBoat := goodIn_r _ [5, 6, 7, 8, 4, 9, 49, 50, 51, 52, 53, 54, 55, 56, 57, 58, 59, 60, 61, 62, 63, 64, 65, 66, 67, 68, 69, 70, 71, 72, 73, 74, 75, 76, 77, 78, 79] (by decide +kernel) (by decide +kernel)
set_option maxRecDepth 20000 in
theorem gX12_life_X12_isBoat : GoodIn wsX12_life (wsV RX12 125 RX12 yX12_isBoat wsX12_isBoat) := goodIn_app (goodIn_of _ (by decide +kernel)) ggX12_life_X12_isBoat
set_option maxRecDepth 20000 in
theorem ggX12_life_X12_lifeOf : GoodIn wsX12_life wsX12_lifeOf := goodIn_r _ [13, 14, 15, 16, 17, 4, 18, 19, 20, 21, 22, 23, 24, 25, 26, 27, 28, 29, 30, 31, 32, 33, 34, 35, 36, 37, 38, 39, 40, 41, 42, 43, 44, 45, 46, 47, 48, 49, 50, 51, 52, 53, 54, 55, 56, 57, 58, 59, 60, 61, 62, 63, 64, 65, 66, 67, 68, 69, 70, 71, 72, 73, 74, 75, 76, 77, 78, 79] (by decide +kernel) (by decide +kernel)
set_option maxRecDepth 20000 in
theorem gX12_life_X12_lifeOf : GoodIn wsX12_life (wsV RX12 177 RX12 yX12_lifeOf wsX12_lifeOf) := goodIn_app (goodIn_of _ (by decide +kernel)) ggX12_life_X12_lifeOf
theorem dX12_life_0 : decode cX12_life 0 = .ok (.aload_n 0, 1) := by decide +kernel
theorem dX12_life_1 : decode cX12_life 1 = .ok (.iload_n 1, 1) := by decide +kernel
theorem dX12_life_2 : decode cX12_life 2 = .ok (.invokevirtual 125, 3) := by decide +kernel
theorem dX12_life_5 : decode cX12_life 5 = .ok (.ifCond .eq 11, 3) := by decide +kernel
theorem dX12_life_8 : decode cX12_life 8 = .ok (.aload_n 0, 1) := by decide +kernel
theorem dX12_life_9 : decode cX12_life 9 = .ok (.iload_n 1, 1) := by decide +kernel
theorem dX12_life_10 : decode cX12_life 10 = .ok (.invokevirtual 177, 3) := by decide +kernel
theorem dX12_life_13 : decode cX12_life 13 = .ok (.goto 4, 3) := by decide +kernel
theorem dX12_life_16 : decode cX12_life 16 = .ok (.iconst (-1), 1) := by decide +kernel
theorem dX12_life_17 : decode cX12_life 17 = .ok (.ireturn, 1) := by decide +kernel
theorem dX12_bearsOf_0 : decode cX12_bearsOf 0 = .ok (.aload_n 0, 1) := by decide +kernel
theorem dX12_bearsOf_1 : decode cX12_bearsOf 1 = .ok (.getfield 19, 3) := by decide +kernel
theorem dX12_bearsOf_4 : decode cX12_bearsOf 4 = .ok (.bipush 7, 2) := by decide +kernel
theorem dX12_bearsOf_6 : decode cX12_bearsOf 6 = .ok (.iload_n 1, 1) := by decide +kernel
theorem dX12_bearsOf_7 : decode cX12_bearsOf 7 = .ok (.imul, 1) := by decide +kernel
theorem dX12_bearsOf_8 : decode cX12_bearsOf 8 = .ok (.iaload, 1) := by decide +kernel
theorem dX12_bearsOf_9 : decode cX12_bearsOf 9 = .ok (.istore 4, 2) := by decide +kernel
theorem dX12_bearsOf_11 : decode cX12_bearsOf 11 = .ok (.aload_n 0, 1) := by decide +kernel
theorem dX12_bearsOf_12 : decode cX12_bearsOf 12 = .ok (.getfield 19, 3) := by decide +kernel
theorem dX12_bearsOf_15 : decode cX12_bearsOf 15 = .ok (.bipush 7, 2) := by decide +kernel
theorem dX12_bearsOf_17 : decode cX12_bearsOf 17 = .ok (.iload_n 1, 1) := by decide +kernel
theorem dX12_bearsOf_18 : decode cX12_bearsOf 18 = .ok (.imul, 1) := by decide +kernel
theorem dX12_bearsOf_19 : decode cX12_bearsOf 19 = .ok (.iconst 1, 1) := by decide +kernel
theorem dX12_bearsOf_20 : decode cX12_bearsOf 20 = .ok (.iadd, 1) := by decide +kernel
theorem dX12_bearsOf_21 : decode cX12_bearsOf 21 = .ok (.iaload, 1) := by decide +kernel
theorem dX12_bearsOf_22 : decode cX12_bearsOf 22 = .ok (.istore 5, 2) := by decide +kernel
theorem dX12_bearsOf_24 : decode cX12_bearsOf 24 = .ok (.bipush 100, 2) := by decide +kernel
theorem dX12_bearsOf_26 : decode cX12_bearsOf 26 = .ok (.iload_n 2, 1) := by decide +kernel
theorem dX12_bearsOf_27 : decode cX12_bearsOf 27 = .ok (.imul, 1) := by decide +kernel
theorem dX12_bearsOf_28 : decode cX12_bearsOf 28 = .ok (.iload 4, 2) := by decide +kernel
theorem dX12_bearsOf_30 : decode cX12_bearsOf 30 = .ok (.iconst 2, 1) := by decide +kernel
theorem dX12_bearsOf_31 : decode cX12_bearsOf 31 = .ok (.iload_n 2, 1) := by decide +kernel
theorem dX12_bearsOf_32 : decode cX12_bearsOf 32 = .ok (.imul, 1) := by decide +kernel
theorem dX12_bearsOf_33 : decode cX12_bearsOf 33 = .ok (.isub, 1) := by decide +kernel
theorem dX12_bearsOf_34 : decode cX12_bearsOf 34 = .ok (.imul, 1) := by decide +kernel
theorem dX12_bearsOf_35 : decode cX12_bearsOf 35 = .ok (.iload 5, 2) := by decide +kernel
theorem dX12_bearsOf_37 : decode cX12_bearsOf 37 = .ok (.iconst 2, 1) := by decide +kernel
theorem dX12_bearsOf_38 : decode cX12_bearsOf 38 = .ok (.iload_n 2, 1) := by decide +kernel
theorem dX12_bearsOf_39 : decode cX12_bearsOf 39 = .ok (.imul, 1) := by decide +kernel
theorem dX12_bearsOf_40 : decode cX12_bearsOf 40 = .ok (.isub, 1) := by decide +kernel
theorem dX12_bearsOf_41 : decode cX12_bearsOf 41 = .ok (.imul, 1) := by decide +kernel
theorem dX12_bearsOf_42 : decode cX12_bearsOf 42 = .ok (.iload 4, 2) := by decide +kernel
theorem dX12_bearsOf_44 : decode cX12_bearsOf 44 = .ok (.iload 5, 2) := by decide +kernel
theorem dX12_bearsOf_46 : decode cX12_bearsOf 46 = .ok (.imul, 1) := by decide +kernel
theorem dX12_bearsOf_47 : decode cX12_bearsOf 47 = .ok (.aload_n 0, 1) := by decide +kernel
theorem dX12_bearsOf_48 : decode cX12_bearsOf 48 = .ok (.getfield 19, 3) := by decide +kernel
theorem dX12_bearsOf_51 : decode cX12_bearsOf 51 = .ok (.bipush 7, 2) := by decide +kernel
theorem dX12_bearsOf_53 : decode cX12_bearsOf 53 = .ok (.iload_n 1, 1) := by decide +kernel
theorem dX12_bearsOf_54 : decode cX12_bearsOf 54 = .ok (.imul, 1) := by decide +kernel
theorem dX12_bearsOf_55 : decode cX12_bearsOf 55 = .ok (.iconst 2, 1) := by decide +kernel
theorem dX12_bearsOf_56 : decode cX12_bearsOf 56 = .ok (.iadd, 1) := by decide +kernel
theorem dX12_bearsOf_57 : decode cX12_bearsOf 57 = .ok (.iaload, 1) := by decide +kernel
theorem dX12_bearsOf_58 : decode cX12_bearsOf 58 = .ok (.imul, 1) := by decide +kernel
theorem dX12_bearsOf_59 : decode cX12_bearsOf 59 = .ok (.isub, 1) := by decide +kernel
theorem dX12_bearsOf_60 : decode cX12_bearsOf 60 = .ok (.istore 6, 2) := by decide +kernel
theorem dX12_bearsOf_62 : decode cX12_bearsOf 62 = .ok (.iload 6, 2) := by decide +kernel
theorem dX12_bearsOf_64 : decode cX12_bearsOf 64 = .ok (.ifCond .ge 7, 3) := by decide +kernel
theorem dX12_bearsOf_67 : decode cX12_bearsOf 67 = .ok (.iconst 0, 1) := by decide +kernel
theorem dX12_bearsOf_68 : decode cX12_bearsOf 68 = .ok (.goto 7, 3) := by decide +kernel
theorem dX12_bearsOf_71 : decode cX12_bearsOf 71 = .ok (.iload 6, 2) := by decide +kernel
theorem dX12_bearsOf_73 : decode cX12_bearsOf 73 = .ok (.iload_n 3, 1) := by decide +kernel
theorem dX12_bearsOf_74 : decode cX12_bearsOf 74 = .ok (.idiv, 1) := by decide +kernel
theorem dX12_bearsOf_75 : decode cX12_bearsOf 75 = .ok (.ireturn, 1) := by decide +kernel
set_option maxRecDepth 20000 in
theorem ggX12_bears_X12_isBoat : GoodIn wsX12_bears wsX12_isBoat := goodIn_r _ [7, 8, 9, 10, 6, 11, 20, 21, 22, 23, 24, 25, 26, 27, 28, 29, 30, 31, 32, 33, 34, 35, 36, 37, 38, 39, 40, 41, 42, 43, 44, 45, 46, 47, 48, 49, 50] (by decide +kernel) (by decide +kernel)
set_option maxRecDepth 20000 in
theorem gX12_bears_X12_isBoat : GoodIn wsX12_bears (wsV RX12 125 RX12 yX12_isBoat wsX12_isBoat) := goodIn_app (goodIn_of _ (by decide +kernel)) ggX12_bears_X12_isBoat
set_option maxRecDepth 20000 in
theorem ggX12_bears_X12_folds : GoodIn wsX12_bears wsX12_folds := goodIn_r _ [14, 15, 9, 10, 6, 11] (by decide +kernel) (by decide +kernel)
set_option maxRecDepth 20000 in
theorem gX12_bears_X12_folds : GoodIn wsX12_bears (va_wsS RX12 121 yX12_folds wsX12_folds) := goodIn_app (goodIn_of _ (by decide +kernel)) ggX12_bears_X12_folds
set_option maxRecDepth 20000 in
theorem ggX12_bears_X12_in : GoodIn wsX12_bears wsX12_in := goodIn_r _ [11] (by decide +kernel) (by decide +kernel)
set_option maxRecDepth 20000 in
theorem gX12_bears_X12_in : GoodIn wsX12_bears (va_wsS RX12 78 yX12_in wsX12_in) := goodIn_app (goodIn_of _ (by decide +kernel)) ggX12_bears_X12_in
set_option maxRecDepth 20000 in
theorem ggX12_bears_X12_bearsOf : GoodIn wsX12_bears wsX12_bearsOf := goodIn_r _ [19, 1, 20, 21, 22, 23, 24, 25, 26, 27, 28, 29, 30, 31, 32, 33, 34, 35, 36, 37, 38, 39, 40, 41, 42, 43, 44, 45, 46, 47, 48, 49, 50] (by decide +kernel) (by decide +kernel)
set_option maxRecDepth 20000 in
theorem gX12_bears_X12_bearsOf : GoodIn wsX12_bears (wsV RX12 180 RX12 yX12_bearsOf wsX12_bearsOf) := goodIn_app (goodIn_of _ (by decide +kernel)) ggX12_bears_X12_bearsOf
theorem dX12_bears_0 : decode cX12_bears 0 = .ok (.aload_n 0, 1) := by decide +kernel
theorem dX12_bears_1 : decode cX12_bears 1 = .ok (.iload_n 1, 1) := by decide +kernel
theorem dX12_bears_2 : decode cX12_bears 2 = .ok (.invokevirtual 125, 3) := by decide +kernel
theorem dX12_bears_5 : decode cX12_bears 5 = .ok (.ifCond .ne 5, 3) := by decide +kernel
theorem dX12_bears_8 : decode cX12_bears 8 = .ok (.iconst (-1), 1) := by decide +kernel
theorem dX12_bears_9 : decode cX12_bears 9 = .ok (.ireturn, 1) := by decide +kernel
theorem dX12_bears_10 : decode cX12_bears 10 = .ok (.aload_n 0, 1) := by decide +kernel
theorem dX12_bears_11 : decode cX12_bears 11 = .ok (.getfield 19, 3) := by decide +kernel
theorem dX12_bears_14 : decode cX12_bears 14 = .ok (.bipush 7, 2) := by decide +kernel
theorem dX12_bears_16 : decode cX12_bears 16 = .ok (.iload_n 1, 1) := by decide +kernel
theorem dX12_bears_17 : decode cX12_bears 17 = .ok (.imul, 1) := by decide +kernel
theorem dX12_bears_18 : decode cX12_bears 18 = .ok (.iaload, 1) := by decide +kernel
theorem dX12_bears_19 : decode cX12_bears 19 = .ok (.aload_n 0, 1) := by decide +kernel
theorem dX12_bears_20 : decode cX12_bears 20 = .ok (.getfield 19, 3) := by decide +kernel
theorem dX12_bears_23 : decode cX12_bears 23 = .ok (.bipush 7, 2) := by decide +kernel
theorem dX12_bears_25 : decode cX12_bears 25 = .ok (.iload_n 1, 1) := by decide +kernel
theorem dX12_bears_26 : decode cX12_bears 26 = .ok (.imul, 1) := by decide +kernel
theorem dX12_bears_27 : decode cX12_bears 27 = .ok (.iconst 1, 1) := by decide +kernel
theorem dX12_bears_28 : decode cX12_bears 28 = .ok (.iadd, 1) := by decide +kernel
theorem dX12_bears_29 : decode cX12_bears 29 = .ok (.iaload, 1) := by decide +kernel
theorem dX12_bears_30 : decode cX12_bears 30 = .ok (.iload_n 2, 1) := by decide +kernel
theorem dX12_bears_31 : decode cX12_bears 31 = .ok (.invokestatic 121, 3) := by decide +kernel
theorem dX12_bears_34 : decode cX12_bears 34 = .ok (.ifCond .eq 25, 3) := by decide +kernel
theorem dX12_bears_37 : decode cX12_bears 37 = .ok (.iload_n 3, 1) := by decide +kernel
theorem dX12_bears_38 : decode cX12_bears 38 = .ok (.i2l, 1) := by decide +kernel
theorem dX12_bears_39 : decode cX12_bears 39 = .ok (.lconst 1, 1) := by decide +kernel
theorem dX12_bears_40 : decode cX12_bears 40 = .ok (.ldc2_w 128, 3) := by decide +kernel
theorem dX12_bears_43 : decode cX12_bears 43 = .ok (.invokestatic 78, 3) := by decide +kernel
theorem dX12_bears_46 : decode cX12_bears 46 = .ok (.ifCond .eq 13, 3) := by decide +kernel
theorem dX12_bears_49 : decode cX12_bears 49 = .ok (.aload_n 0, 1) := by decide +kernel
theorem dX12_bears_50 : decode cX12_bears 50 = .ok (.iload_n 1, 1) := by decide +kernel
theorem dX12_bears_51 : decode cX12_bears 51 = .ok (.iload_n 2, 1) := by decide +kernel
theorem dX12_bears_52 : decode cX12_bears 52 = .ok (.iload_n 3, 1) := by decide +kernel
theorem dX12_bears_53 : decode cX12_bears 53 = .ok (.invokevirtual 180, 3) := by decide +kernel
theorem dX12_bears_56 : decode cX12_bears 56 = .ok (.goto 5, 3) := by decide +kernel
theorem dX12_bears_59 : decode cX12_bears 59 = .ok (.bipush (-2), 2) := by decide +kernel
theorem dX12_bears_61 : decode cX12_bears 61 = .ok (.ireturn, 1) := by decide +kernel
set_option maxRecDepth 20000 in
theorem ggX12_rim_X12_isBoat : GoodIn wsX12_rim wsX12_isBoat := goodIn_r _ [7, 8, 9, 10, 6, 11, 20, 21, 22, 23, 24, 25, 26, 27, 28, 29, 30, 31, 32, 33, 34, 35, 36, 37, 38, 39, 40, 41, 42, 43, 44, 45, 46, 47, 48, 49, 50] (by decide +kernel) (by decide +kernel)
set_option maxRecDepth 20000 in
theorem gX12_rim_X12_isBoat : GoodIn wsX12_rim (wsV RX12 125 RX12 yX12_isBoat wsX12_isBoat) := goodIn_app (goodIn_of _ (by decide +kernel)) ggX12_rim_X12_isBoat
set_option maxRecDepth 20000 in
theorem ggX12_rim_X12_in : GoodIn wsX12_rim wsX12_in := goodIn_r _ [11] (by decide +kernel) (by decide +kernel)
set_option maxRecDepth 20000 in
theorem gX12_rim_X12_in : GoodIn wsX12_rim (va_wsS RX12 78 yX12_in wsX12_in) := goodIn_app (goodIn_of _ (by decide +kernel)) ggX12_rim_X12_in
set_option maxRecDepth 20000 in
theorem ggX12_rim_X12_folds : GoodIn wsX12_rim wsX12_folds := goodIn_r _ [14, 15, 9, 10, 6, 11] (by decide +kernel) (by decide +kernel)
set_option maxRecDepth 20000 in
theorem gX12_rim_X12_folds : GoodIn wsX12_rim (va_wsS RX12 121 yX12_folds wsX12_folds) := goodIn_app (goodIn_of _ (by decide +kernel)) ggX12_rim_X12_folds
set_option maxRecDepth 20000 in
theorem ggX12_rim_X12_bearsOf : GoodIn wsX12_rim wsX12_bearsOf := goodIn_r _ [19, 2, 20, 21, 22, 23, 24, 25, 26, 27, 28, 29, 30, 31, 32, 33, 34, 35, 36, 37, 38, 39, 40, 41, 42, 43, 44, 45, 46, 47, 48, 49, 50] (by decide +kernel) (by decide +kernel)
set_option maxRecDepth 20000 in
theorem gX12_rim_X12_bearsOf : GoodIn wsX12_rim (wsV RX12 180 RX12 yX12_bearsOf wsX12_bearsOf) := goodIn_app (goodIn_of _ (by decide +kernel)) ggX12_rim_X12_bearsOf
theorem dX12_rim_0 : decode cX12_rim 0 = .ok (.aload_n 0, 1) := by decide +kernel
theorem dX12_rim_1 : decode cX12_rim 1 = .ok (.iload_n 1, 1) := by decide +kernel
theorem dX12_rim_2 : decode cX12_rim 2 = .ok (.invokevirtual 125, 3) := by decide +kernel
theorem dX12_rim_5 : decode cX12_rim 5 = .ok (.ifCond .ne 5, 3) := by decide +kernel
theorem dX12_rim_8 : decode cX12_rim 8 = .ok (.iconst (-1), 1) := by decide +kernel
theorem dX12_rim_9 : decode cX12_rim 9 = .ok (.ireturn, 1) := by decide +kernel
theorem dX12_rim_10 : decode cX12_rim 10 = .ok (.iload_n 2, 1) := by decide +kernel
theorem dX12_rim_11 : decode cX12_rim 11 = .ok (.i2l, 1) := by decide +kernel
theorem dX12_rim_12 : decode cX12_rim 12 = .ok (.lconst 1, 1) := by decide +kernel
theorem dX12_rim_13 : decode cX12_rim 13 = .ok (.ldc2_w 128, 3) := by decide +kernel
theorem dX12_rim_16 : decode cX12_rim 16 = .ok (.invokestatic 78, 3) := by decide +kernel
theorem dX12_rim_19 : decode cX12_rim 19 = .ok (.ifCond .ne 6, 3) := by decide +kernel
theorem dX12_rim_22 : decode cX12_rim 22 = .ok (.bipush (-2), 2) := by decide +kernel
theorem dX12_rim_24 : decode cX12_rim 24 = .ok (.ireturn, 1) := by decide +kernel
theorem dX12_rim_25 : decode cX12_rim 25 = .ok (.iconst 1, 1) := by decide +kernel
theorem dX12_rim_26 : decode cX12_rim 26 = .ok (.istore_n 3, 1) := by decide +kernel
theorem dX12_rim_27 : decode cX12_rim 27 = .ok (.iconst 2, 1) := by decide +kernel
theorem dX12_rim_28 : decode cX12_rim 28 = .ok (.istore 4, 2) := by decide +kernel
theorem dX12_rim_30 : decode cX12_rim 30 = .ok (.aload_n 0, 1) := by decide +kernel
theorem dX12_rim_31 : decode cX12_rim 31 = .ok (.getfield 19, 3) := by decide +kernel
theorem dX12_rim_34 : decode cX12_rim 34 = .ok (.bipush 7, 2) := by decide +kernel
theorem dX12_rim_36 : decode cX12_rim 36 = .ok (.iload_n 1, 1) := by decide +kernel
theorem dX12_rim_37 : decode cX12_rim 37 = .ok (.imul, 1) := by decide +kernel
theorem dX12_rim_38 : decode cX12_rim 38 = .ok (.iaload, 1) := by decide +kernel
theorem dX12_rim_39 : decode cX12_rim 39 = .ok (.aload_n 0, 1) := by decide +kernel
theorem dX12_rim_40 : decode cX12_rim 40 = .ok (.getfield 19, 3) := by decide +kernel
theorem dX12_rim_43 : decode cX12_rim 43 = .ok (.bipush 7, 2) := by decide +kernel
theorem dX12_rim_45 : decode cX12_rim 45 = .ok (.iload_n 1, 1) := by decide +kernel
theorem dX12_rim_46 : decode cX12_rim 46 = .ok (.imul, 1) := by decide +kernel
theorem dX12_rim_47 : decode cX12_rim 47 = .ok (.iconst 1, 1) := by decide +kernel
theorem dX12_rim_48 : decode cX12_rim 48 = .ok (.iadd, 1) := by decide +kernel
theorem dX12_rim_49 : decode cX12_rim 49 = .ok (.iaload, 1) := by decide +kernel
theorem dX12_rim_50 : decode cX12_rim 50 = .ok (.iload 4, 2) := by decide +kernel
theorem dX12_rim_52 : decode cX12_rim 52 = .ok (.invokestatic 121, 3) := by decide +kernel
theorem dX12_rim_55 : decode cX12_rim 55 = .ok (.ifCond .eq 34, 3) := by decide +kernel
theorem dX12_rim_58 : decode cX12_rim 58 = .ok (.aload_n 0, 1) := by decide +kernel
theorem dX12_rim_59 : decode cX12_rim 59 = .ok (.iload_n 1, 1) := by decide +kernel
theorem dX12_rim_60 : decode cX12_rim 60 = .ok (.iload 4, 2) := by decide +kernel
theorem dX12_rim_62 : decode cX12_rim 62 = .ok (.iload_n 2, 1) := by decide +kernel
theorem dX12_rim_63 : decode cX12_rim 63 = .ok (.invokevirtual 180, 3) := by decide +kernel
theorem dX12_rim_66 : decode cX12_rim 66 = .ok (.aload_n 0, 1) := by decide +kernel
theorem dX12_rim_67 : decode cX12_rim 67 = .ok (.iload_n 1, 1) := by decide +kernel
theorem dX12_rim_68 : decode cX12_rim 68 = .ok (.iload_n 3, 1) := by decide +kernel
theorem dX12_rim_69 : decode cX12_rim 69 = .ok (.iload_n 2, 1) := by decide +kernel
theorem dX12_rim_70 : decode cX12_rim 70 = .ok (.invokevirtual 180, 3) := by decide +kernel
theorem dX12_rim_73 : decode cX12_rim 73 = .ok (.if_icmp .le 8, 3) := by decide +kernel
theorem dX12_rim_76 : decode cX12_rim 76 = .ok (.iload 4, 2) := by decide +kernel
theorem dX12_rim_78 : decode cX12_rim 78 = .ok (.goto 4, 3) := by decide +kernel
theorem dX12_rim_81 : decode cX12_rim 81 = .ok (.iload_n 3, 1) := by decide +kernel
theorem dX12_rim_82 : decode cX12_rim 82 = .ok (.istore_n 3, 1) := by decide +kernel
theorem dX12_rim_83 : decode cX12_rim 83 = .ok (.iinc 4 1, 3) := by decide +kernel
theorem dX12_rim_86 : decode cX12_rim 86 = .ok (.goto (-56), 3) := by decide +kernel
theorem dX12_rim_89 : decode cX12_rim 89 = .ok (.iload_n 3, 1) := by decide +kernel
theorem dX12_rim_90 : decode cX12_rim 90 = .ok (.ireturn, 1) := by decide +kernel
set_option maxRecDepth 20000 in
theorem ggX12_layOrders_X12_all : GoodIn wsX12_layOrders wsX12_all := goodIn_r _ [7, 1, 38, 39, 40, 41, 42, 43, 44, 45, 46, 47, 48, 49, 50, 51, 52, 53, 54, 55, 56, 57, 58, 59, 60, 61, 62, 63, 64, 65, 66, 67, 68] (by decide +kernel) (by decide +kernel)
set_option maxRecDepth 20000 in
theorem gX12_layOrders_X12_all : GoodIn wsX12_layOrders (wsV RX12 143 RX12 yX12_all wsX12_all) := goodIn_app (goodIn_of _ (by decide +kernel)) ggX12_layOrders_X12_all
set_option maxRecDepth 20000 in
theorem ggX12_layOrders_X12_isUnder : GoodIn wsX12_layOrders wsX12_isUnder := goodIn_r _ [11, 1, 12, 13, 14, 6, 15, 16, 17, 18, 19, 20, 21, 22, 23, 24, 25, 26, 27, 28, 29, 30, 31, 32, 33, 34, 35, 36, 37, 38, 39, 40, 41, 42, 43, 44, 45, 46, 47, 48, 49, 50, 51, 52, 53, 54, 55, 56, 57, 58, 59, 60, 61, 62, 63, 64, 65, 66, 67, 68] (by decide +kernel) (by decide +kernel)
set_option maxRecDepth 20000 in
theorem gX12_layOrders_X12_isUnder : GoodIn wsX12_layOrders (wsV RX12 174 RX12 yX12_isUnder wsX12_isUnder) := goodIn_app (goodIn_of _ (by decide +kernel)) ggX12_layOrders_X12_isUnder
theorem dX12_layOrders_0 : decode cX12_layOrders 0 = .ok (.aload_n 0, 1) := by decide +kernel
theorem dX12_layOrders_1 : decode cX12_layOrders 1 = .ok (.iload_n 1, 1) := by decide +kernel
theorem dX12_layOrders_2 : decode cX12_layOrders 2 = .ok (.invokevirtual 143, 3) := by decide +kernel
theorem dX12_layOrders_5 : decode cX12_layOrders 5 = .ok (.istore_n 2, 1) := by decide +kernel
theorem dX12_layOrders_6 : decode cX12_layOrders 6 = .ok (.iload_n 2, 1) := by decide +kernel
theorem dX12_layOrders_7 : decode cX12_layOrders 7 = .ok (.ifCond .lt 98, 3) := by decide +kernel
theorem dX12_layOrders_10 : decode cX12_layOrders 10 = .ok (.iload_n 2, 1) := by decide +kernel
theorem dX12_layOrders_11 : decode cX12_layOrders 11 = .ok (.aload_n 0, 1) := by decide +kernel
theorem dX12_layOrders_12 : decode cX12_layOrders 12 = .ok (.iload_n 1, 1) := by decide +kernel
theorem dX12_layOrders_13 : decode cX12_layOrders 13 = .ok (.invokevirtual 143, 3) := by decide +kernel
theorem dX12_layOrders_16 : decode cX12_layOrders 16 = .ok (.if_icmp .ne 7, 3) := by decide +kernel
theorem dX12_layOrders_19 : decode cX12_layOrders 19 = .ok (.iconst 1, 1) := by decide +kernel
theorem dX12_layOrders_20 : decode cX12_layOrders 20 = .ok (.goto 4, 3) := by decide +kernel
theorem dX12_layOrders_23 : decode cX12_layOrders 23 = .ok (.iconst 0, 1) := by decide +kernel
theorem dX12_layOrders_24 : decode cX12_layOrders 24 = .ok (.istore_n 3, 1) := by decide +kernel
theorem dX12_layOrders_25 : decode cX12_layOrders 25 = .ok (.iconst 0, 1) := by decide +kernel
theorem dX12_layOrders_26 : decode cX12_layOrders 26 = .ok (.istore 4, 2) := by decide +kernel
theorem dX12_layOrders_28 : decode cX12_layOrders 28 = .ok (.iload 4, 2) := by decide +kernel
theorem dX12_layOrders_30 : decode cX12_layOrders 30 = .ok (.aload_n 0, 1) := by decide +kernel
theorem dX12_layOrders_31 : decode cX12_layOrders 31 = .ok (.getfield 19, 3) := by decide +kernel
theorem dX12_layOrders_34 : decode cX12_layOrders 34 = .ok (.bipush 7, 2) := by decide +kernel
theorem dX12_layOrders_36 : decode cX12_layOrders 36 = .ok (.iload_n 1, 1) := by decide +kernel
theorem dX12_layOrders_37 : decode cX12_layOrders 37 = .ok (.imul, 1) := by decide +kernel
theorem dX12_layOrders_38 : decode cX12_layOrders 38 = .ok (.bipush 6, 2) := by decide +kernel
theorem dX12_layOrders_40 : decode cX12_layOrders 40 = .ok (.iadd, 1) := by decide +kernel
theorem dX12_layOrders_41 : decode cX12_layOrders 41 = .ok (.iaload, 1) := by decide +kernel
theorem dX12_layOrders_42 : decode cX12_layOrders 42 = .ok (.if_icmp .ge 36, 3) := by decide +kernel
theorem dX12_layOrders_45 : decode cX12_layOrders 45 = .ok (.iload_n 3, 1) := by decide +kernel
theorem dX12_layOrders_46 : decode cX12_layOrders 46 = .ok (.iload_n 2, 1) := by decide +kernel
theorem dX12_layOrders_47 : decode cX12_layOrders 47 = .ok (.iload 4, 2) := by decide +kernel
theorem dX12_layOrders_49 : decode cX12_layOrders 49 = .ok (.ishr, 1) := by decide +kernel
theorem dX12_layOrders_50 : decode cX12_layOrders 50 = .ok (.iconst 1, 1) := by decide +kernel
theorem dX12_layOrders_51 : decode cX12_layOrders 51 = .ok (.iand, 1) := by decide +kernel
theorem dX12_layOrders_52 : decode cX12_layOrders 52 = .ok (.ifCond .ne 17, 3) := by decide +kernel
theorem dX12_layOrders_55 : decode cX12_layOrders 55 = .ok (.aload_n 0, 1) := by decide +kernel
theorem dX12_layOrders_56 : decode cX12_layOrders 56 = .ok (.getfield 25, 3) := by decide +kernel
theorem dX12_layOrders_59 : decode cX12_layOrders 59 = .ok (.iload_n 2, 1) := by decide +kernel
theorem dX12_layOrders_60 : decode cX12_layOrders 60 = .ok (.iconst 1, 1) := by decide +kernel
theorem dX12_layOrders_61 : decode cX12_layOrders 61 = .ok (.iload 4, 2) := by decide +kernel
theorem dX12_layOrders_63 : decode cX12_layOrders 63 = .ok (.ishl, 1) := by decide +kernel
theorem dX12_layOrders_64 : decode cX12_layOrders 64 = .ok (.ior, 1) := by decide +kernel
theorem dX12_layOrders_65 : decode cX12_layOrders 65 = .ok (.iaload, 1) := by decide +kernel
theorem dX12_layOrders_66 : decode cX12_layOrders 66 = .ok (.goto 4, 3) := by decide +kernel
theorem dX12_layOrders_69 : decode cX12_layOrders 69 = .ok (.iconst 0, 1) := by decide +kernel
theorem dX12_layOrders_70 : decode cX12_layOrders 70 = .ok (.iadd, 1) := by decide +kernel
theorem dX12_layOrders_71 : decode cX12_layOrders 71 = .ok (.istore_n 3, 1) := by decide +kernel
theorem dX12_layOrders_72 : decode cX12_layOrders 72 = .ok (.iinc 4 1, 3) := by decide +kernel
theorem dX12_layOrders_75 : decode cX12_layOrders 75 = .ok (.goto (-47), 3) := by decide +kernel
theorem dX12_layOrders_78 : decode cX12_layOrders 78 = .ok (.aload_n 0, 1) := by decide +kernel
theorem dX12_layOrders_79 : decode cX12_layOrders 79 = .ok (.getfield 25, 3) := by decide +kernel
theorem dX12_layOrders_82 : decode cX12_layOrders 82 = .ok (.iload_n 2, 1) := by decide +kernel
theorem dX12_layOrders_83 : decode cX12_layOrders 83 = .ok (.aload_n 0, 1) := by decide +kernel
theorem dX12_layOrders_84 : decode cX12_layOrders 84 = .ok (.iload_n 1, 1) := by decide +kernel
theorem dX12_layOrders_85 : decode cX12_layOrders 85 = .ok (.iconst 0, 1) := by decide +kernel
theorem dX12_layOrders_86 : decode cX12_layOrders 86 = .ok (.iload_n 2, 1) := by decide +kernel
theorem dX12_layOrders_87 : decode cX12_layOrders 87 = .ok (.invokevirtual 174, 3) := by decide +kernel
theorem dX12_layOrders_90 : decode cX12_layOrders 90 = .ok (.ifCond .eq 7, 3) := by decide +kernel
theorem dX12_layOrders_93 : decode cX12_layOrders 93 = .ok (.iconst 0, 1) := by decide +kernel
theorem dX12_layOrders_94 : decode cX12_layOrders 94 = .ok (.goto 4, 3) := by decide +kernel
theorem dX12_layOrders_97 : decode cX12_layOrders 97 = .ok (.iload_n 3, 1) := by decide +kernel
theorem dX12_layOrders_98 : decode cX12_layOrders 98 = .ok (.iastore, 1) := by decide +kernel
theorem dX12_layOrders_99 : decode cX12_layOrders 99 = .ok (.iinc 2 (-1), 3) := by decide +kernel
theorem dX12_layOrders_102 : decode cX12_layOrders 102 = .ok (.goto (-96), 3) := by decide +kernel
theorem dX12_layOrders_105 : decode cX12_layOrders 105 = .ok (.aload_n 0, 1) := by decide +kernel
theorem dX12_layOrders_106 : decode cX12_layOrders 106 = .ok (.getfield 25, 3) := by decide +kernel
theorem dX12_layOrders_109 : decode cX12_layOrders 109 = .ok (.iconst 0, 1) := by decide +kernel
theorem dX12_layOrders_110 : decode cX12_layOrders 110 = .ok (.iaload, 1) := by decide +kernel
theorem dX12_layOrders_111 : decode cX12_layOrders 111 = .ok (.ireturn, 1) := by decide +kernel
set_option maxRecDepth 20000 in
theorem ggX12_orders_X12_isBoat : GoodIn wsX12_orders wsX12_isBoat := goodIn_r _ [5, 6, 7, 8, 4, 9, 50, 51, 52, 53, 54, 55, 56, 57, 58, 59, 60, 61, 62, 63, 64, 65, 66, 67, 68, 69, 70, 71, 72, 73, 74, 75, 76, 77, 78, 79, 80] (by decide +kernel) (by decide +kernel)
set_option maxRecDepth 20000 in
theorem gX12_orders_X12_isBoat : GoodIn wsX12_orders (wsV RX12 125 RX12 yX12_isBoat wsX12_isBoat) := goodIn_app (goodIn_of _ (by decide +kernel)) ggX12_orders_X12_isBoat
set_option maxRecDepth 20000 in
theorem ggX12_orders_X12_layOrders : GoodIn wsX12_orders wsX12_layOrders := goodIn_r _ [13, 14, 15, 16, 17, 18, 4, 19, 20, 21, 22, 23, 24, 25, 26, 27, 28, 29, 30, 31, 32, 33, 34, 35, 36, 37, 38, 39, 40, 41, 42, 43, 44, 45, 46, 47, 48, 49, 50, 51, 52, 53, 54, 55, 56, 57, 58, 59, 60, 61, 62, 63, 64, 65, 66, 67, 68, 69, 70, 71, 72, 73, 74, 75, 76, 77, 78, 79, 80] (by decide +kernel) (by decide +kernel)
set_option maxRecDepth 20000 in
theorem gX12_orders_X12_layOrders : GoodIn wsX12_orders (wsV RX12 184 RX12 yX12_layOrders wsX12_layOrders) := goodIn_app (goodIn_of _ (by decide +kernel)) ggX12_orders_X12_layOrders
theorem dX12_orders_0 : decode cX12_orders 0 = .ok (.aload_n 0, 1) := by decide +kernel
theorem dX12_orders_1 : decode cX12_orders 1 = .ok (.iload_n 1, 1) := by decide +kernel
theorem dX12_orders_2 : decode cX12_orders 2 = .ok (.invokevirtual 125, 3) := by decide +kernel
theorem dX12_orders_5 : decode cX12_orders 5 = .ok (.ifCond .eq 11, 3) := by decide +kernel
theorem dX12_orders_8 : decode cX12_orders 8 = .ok (.aload_n 0, 1) := by decide +kernel
theorem dX12_orders_9 : decode cX12_orders 9 = .ok (.iload_n 1, 1) := by decide +kernel
theorem dX12_orders_10 : decode cX12_orders 10 = .ok (.invokevirtual 184, 3) := by decide +kernel
theorem dX12_orders_13 : decode cX12_orders 13 = .ok (.goto 4, 3) := by decide +kernel
theorem dX12_orders_16 : decode cX12_orders 16 = .ok (.iconst (-1), 1) := by decide +kernel
theorem dX12_orders_17 : decode cX12_orders 17 = .ok (.ireturn, 1) := by decide +kernel
set_option maxRecDepth 20000 in
theorem ggX12_order_X12_isBoat : GoodIn wsX12_order wsX12_isBoat := goodIn_r _ [7, 8, 9, 10, 6, 11, 50, 51, 52, 53, 54, 55, 56, 57, 58, 59, 60, 61, 62, 63, 64, 65, 66, 67, 68, 69, 70, 71, 72, 73, 74, 75, 76, 77, 78, 79, 80] (by decide +kernel) (by decide +kernel)
set_option maxRecDepth 20000 in
theorem gX12_order_X12_isBoat : GoodIn wsX12_order (wsV RX12 125 RX12 yX12_isBoat wsX12_isBoat) := goodIn_app (goodIn_of _ (by decide +kernel)) ggX12_order_X12_isBoat
set_option maxRecDepth 20000 in
theorem ggX12_order_X12_in : GoodIn wsX12_order wsX12_in := goodIn_r _ [11] (by decide +kernel) (by decide +kernel)
set_option maxRecDepth 20000 in
theorem gX12_order_X12_in : GoodIn wsX12_order (va_wsS RX12 78 yX12_in wsX12_in) := goodIn_app (goodIn_of _ (by decide +kernel)) ggX12_order_X12_in
set_option maxRecDepth 20000 in
theorem ggX12_order_X12_layOrders : GoodIn wsX12_order wsX12_layOrders := goodIn_r _ [15, 1, 2, 16, 17, 18, 6, 19, 20, 21, 22, 23, 24, 25, 26, 27, 28, 29, 30, 31, 32, 33, 34, 35, 36, 37, 38, 39, 40, 41, 42, 43, 44, 45, 46, 47, 48, 49, 50, 51, 52, 53, 54, 55, 56, 57, 58, 59, 60, 61, 62, 63, 64, 65, 66, 67, 68, 69, 70, 71, 72, 73, 74, 75, 76, 77, 78, 79, 80] (by decide +kernel) (by decide +kernel)
set_option maxRecDepth 20000 in
theorem gX12_order_X12_layOrders : GoodIn wsX12_order (wsV RX12 184 RX12 yX12_layOrders wsX12_layOrders) := goodIn_app (goodIn_of _ (by decide +kernel)) ggX12_order_X12_layOrders
theorem dX12_order_0 : decode cX12_order 0 = .ok (.aload_n 0, 1) := by decide +kernel
theorem dX12_order_1 : decode cX12_order 1 = .ok (.iload_n 1, 1) := by decide +kernel
theorem dX12_order_2 : decode cX12_order 2 = .ok (.invokevirtual 125, 3) := by decide +kernel
theorem dX12_order_5 : decode cX12_order 5 = .ok (.ifCond .ne 5, 3) := by decide +kernel
theorem dX12_order_8 : decode cX12_order 8 = .ok (.iconst (-1), 1) := by decide +kernel
theorem dX12_order_9 : decode cX12_order 9 = .ok (.ireturn, 1) := by decide +kernel
theorem dX12_order_10 : decode cX12_order 10 = .ok (.iload_n 2, 1) := by decide +kernel
theorem dX12_order_11 : decode cX12_order 11 = .ok (.i2l, 1) := by decide +kernel
theorem dX12_order_12 : decode cX12_order 12 = .ok (.lconst 0, 1) := by decide +kernel
theorem dX12_order_13 : decode cX12_order 13 = .ok (.aload_n 0, 1) := by decide +kernel
theorem dX12_order_14 : decode cX12_order 14 = .ok (.getfield 19, 3) := by decide +kernel
theorem dX12_order_17 : decode cX12_order 17 = .ok (.bipush 7, 2) := by decide +kernel
theorem dX12_order_19 : decode cX12_order 19 = .ok (.iload_n 1, 1) := by decide +kernel
theorem dX12_order_20 : decode cX12_order 20 = .ok (.imul, 1) := by decide +kernel
theorem dX12_order_21 : decode cX12_order 21 = .ok (.bipush 6, 2) := by decide +kernel
theorem dX12_order_23 : decode cX12_order 23 = .ok (.iadd, 1) := by decide +kernel
theorem dX12_order_24 : decode cX12_order 24 = .ok (.iaload, 1) := by decide +kernel
theorem dX12_order_25 : decode cX12_order 25 = .ok (.iconst 1, 1) := by decide +kernel
theorem dX12_order_26 : decode cX12_order 26 = .ok (.isub, 1) := by decide +kernel
theorem dX12_order_27 : decode cX12_order 27 = .ok (.i2l, 1) := by decide +kernel
theorem dX12_order_28 : decode cX12_order 28 = .ok (.invokestatic 78, 3) := by decide +kernel
theorem dX12_order_31 : decode cX12_order 31 = .ok (.ifCond .eq 11, 3) := by decide +kernel
theorem dX12_order_34 : decode cX12_order 34 = .ok (.aload_n 0, 1) := by decide +kernel
theorem dX12_order_35 : decode cX12_order 35 = .ok (.iload_n 1, 1) := by decide +kernel
theorem dX12_order_36 : decode cX12_order 36 = .ok (.invokevirtual 184, 3) := by decide +kernel
theorem dX12_order_39 : decode cX12_order 39 = .ok (.ifCond .ne 6, 3) := by decide +kernel
theorem dX12_order_42 : decode cX12_order 42 = .ok (.bipush (-9), 2) := by decide +kernel
theorem dX12_order_44 : decode cX12_order 44 = .ok (.ireturn, 1) := by decide +kernel
theorem dX12_order_45 : decode cX12_order 45 = .ok (.iconst 0, 1) := by decide +kernel
theorem dX12_order_46 : decode cX12_order 46 = .ok (.istore_n 3, 1) := by decide +kernel
theorem dX12_order_47 : decode cX12_order 47 = .ok (.bipush (-9), 2) := by decide +kernel
theorem dX12_order_49 : decode cX12_order 49 = .ok (.istore 4, 2) := by decide +kernel
theorem dX12_order_51 : decode cX12_order 51 = .ok (.iconst 0, 1) := by decide +kernel
theorem dX12_order_52 : decode cX12_order 52 = .ok (.istore 5, 2) := by decide +kernel
theorem dX12_order_54 : decode cX12_order 54 = .ok (.iload 5, 2) := by decide +kernel
theorem dX12_order_56 : decode cX12_order 56 = .ok (.iload_n 2, 1) := by decide +kernel
theorem dX12_order_57 : decode cX12_order 57 = .ok (.if_icmp .gt 49, 3) := by decide +kernel
theorem dX12_order_60 : decode cX12_order 60 = .ok (.iconst 0, 1) := by decide +kernel
theorem dX12_order_61 : decode cX12_order 61 = .ok (.istore 4, 2) := by decide +kernel
theorem dX12_order_63 : decode cX12_order 63 = .ok (.iload_n 3, 1) := by decide +kernel
theorem dX12_order_64 : decode cX12_order 64 = .ok (.iload 4, 2) := by decide +kernel
theorem dX12_order_66 : decode cX12_order 66 = .ok (.ishr, 1) := by decide +kernel
theorem dX12_order_67 : decode cX12_order 67 = .ok (.iconst 1, 1) := by decide +kernel
theorem dX12_order_68 : decode cX12_order 68 = .ok (.iand, 1) := by decide +kernel
theorem dX12_order_69 : decode cX12_order 69 = .ok (.iconst 1, 1) := by decide +kernel
theorem dX12_order_70 : decode cX12_order 70 = .ok (.if_icmp .eq 17, 3) := by decide +kernel
theorem dX12_order_73 : decode cX12_order 73 = .ok (.aload_n 0, 1) := by decide +kernel
theorem dX12_order_74 : decode cX12_order 74 = .ok (.getfield 25, 3) := by decide +kernel
theorem dX12_order_77 : decode cX12_order 77 = .ok (.iload_n 3, 1) := by decide +kernel
theorem dX12_order_78 : decode cX12_order 78 = .ok (.iconst 1, 1) := by decide +kernel
theorem dX12_order_79 : decode cX12_order 79 = .ok (.iload 4, 2) := by decide +kernel
theorem dX12_order_81 : decode cX12_order 81 = .ok (.ishl, 1) := by decide +kernel
theorem dX12_order_82 : decode cX12_order 82 = .ok (.ior, 1) := by decide +kernel
theorem dX12_order_83 : decode cX12_order 83 = .ok (.iaload, 1) := by decide +kernel
theorem dX12_order_84 : decode cX12_order 84 = .ok (.ifCond .ne 9, 3) := by decide +kernel
theorem dX12_order_87 : decode cX12_order 87 = .ok (.iinc 4 1, 3) := by decide +kernel
theorem dX12_order_90 : decode cX12_order 90 = .ok (.goto (-27), 3) := by decide +kernel
theorem dX12_order_93 : decode cX12_order 93 = .ok (.iload_n 3, 1) := by decide +kernel
theorem dX12_order_94 : decode cX12_order 94 = .ok (.iconst 1, 1) := by decide +kernel
theorem dX12_order_95 : decode cX12_order 95 = .ok (.iload 4, 2) := by decide +kernel
theorem dX12_order_97 : decode cX12_order 97 = .ok (.ishl, 1) := by decide +kernel
theorem dX12_order_98 : decode cX12_order 98 = .ok (.ior, 1) := by decide +kernel
theorem dX12_order_99 : decode cX12_order 99 = .ok (.istore_n 3, 1) := by decide +kernel
theorem dX12_order_100 : decode cX12_order 100 = .ok (.iinc 5 1, 3) := by decide +kernel
theorem dX12_order_103 : decode cX12_order 103 = .ok (.goto (-49), 3) := by decide +kernel
theorem dX12_order_106 : decode cX12_order 106 = .ok (.iload 4, 2) := by decide +kernel
theorem dX12_order_108 : decode cX12_order 108 = .ok (.ireturn, 1) := by decide +kernel
set_option maxRecDepth 20000 in
theorem ggX12_needs_X12_isBoat : GoodIn wsX12_needs wsX12_isBoat := goodIn_r _ [7, 8, 9, 10, 6, 11, 12, 13, 14, 15, 16, 17, 18, 19, 20, 21, 22, 23, 24, 25, 26, 27, 28, 29, 30, 31, 32, 33, 34, 35, 36, 37, 38, 39, 40, 41, 42] (by decide +kernel) (by decide +kernel)
set_option maxRecDepth 20000 in
theorem gX12_needs_X12_isBoat : GoodIn wsX12_needs (wsV RX12 125 RX12 yX12_isBoat wsX12_isBoat) := goodIn_app (goodIn_of _ (by decide +kernel)) ggX12_needs_X12_isBoat
set_option maxRecDepth 20000 in
theorem ggX12_needs_X12_in : GoodIn wsX12_needs wsX12_in := goodIn_r _ [11] (by decide +kernel) (by decide +kernel)
set_option maxRecDepth 20000 in
theorem gX12_needs_X12_in : GoodIn wsX12_needs (va_wsS RX12 78 yX12_in wsX12_in) := goodIn_app (goodIn_of _ (by decide +kernel)) ggX12_needs_X12_in
theorem dX12_needs_0 : decode cX12_needs 0 = .ok (.aload_n 0, 1) := by decide +kernel
theorem dX12_needs_1 : decode cX12_needs 1 = .ok (.iload_n 1, 1) := by decide +kernel
theorem dX12_needs_2 : decode cX12_needs 2 = .ok (.invokevirtual 125, 3) := by decide +kernel
theorem dX12_needs_5 : decode cX12_needs 5 = .ok (.ifCond .ne 5, 3) := by decide +kernel
theorem dX12_needs_8 : decode cX12_needs 8 = .ok (.iconst (-1), 1) := by decide +kernel
theorem dX12_needs_9 : decode cX12_needs 9 = .ok (.ireturn, 1) := by decide +kernel
theorem dX12_needs_10 : decode cX12_needs 10 = .ok (.iload_n 2, 1) := by decide +kernel
theorem dX12_needs_11 : decode cX12_needs 11 = .ok (.i2l, 1) := by decide +kernel
theorem dX12_needs_12 : decode cX12_needs 12 = .ok (.lconst 0, 1) := by decide +kernel
theorem dX12_needs_13 : decode cX12_needs 13 = .ok (.ldc2_w 128, 3) := by decide +kernel
theorem dX12_needs_16 : decode cX12_needs 16 = .ok (.invokestatic 78, 3) := by decide +kernel
theorem dX12_needs_19 : decode cX12_needs 19 = .ok (.ifCond .ne 6, 3) := by decide +kernel
theorem dX12_needs_22 : decode cX12_needs 22 = .ok (.bipush (-2), 2) := by decide +kernel
theorem dX12_needs_24 : decode cX12_needs 24 = .ok (.ireturn, 1) := by decide +kernel
theorem dX12_needs_25 : decode cX12_needs 25 = .ok (.iconst 0, 1) := by decide +kernel
theorem dX12_needs_26 : decode cX12_needs 26 = .ok (.istore_n 3, 1) := by decide +kernel
theorem dX12_needs_27 : decode cX12_needs 27 = .ok (.iload_n 3, 1) := by decide +kernel
theorem dX12_needs_28 : decode cX12_needs 28 = .ok (.bipush 10, 2) := by decide +kernel
theorem dX12_needs_30 : decode cX12_needs 30 = .ok (.if_icmp .ge 33, 3) := by decide +kernel
theorem dX12_needs_33 : decode cX12_needs 33 = .ok (.iload_n 2, 1) := by decide +kernel
theorem dX12_needs_34 : decode cX12_needs 34 = .ok (.bipush 10, 2) := by decide +kernel
theorem dX12_needs_36 : decode cX12_needs 36 = .ok (.aload_n 0, 1) := by decide +kernel
theorem dX12_needs_37 : decode cX12_needs 37 = .ok (.getfield 19, 3) := by decide +kernel
theorem dX12_needs_40 : decode cX12_needs 40 = .ok (.bipush 7, 2) := by decide +kernel
theorem dX12_needs_42 : decode cX12_needs 42 = .ok (.iload_n 1, 1) := by decide +kernel
theorem dX12_needs_43 : decode cX12_needs 43 = .ok (.imul, 1) := by decide +kernel
theorem dX12_needs_44 : decode cX12_needs 44 = .ok (.iconst 2, 1) := by decide +kernel
theorem dX12_needs_45 : decode cX12_needs 45 = .ok (.iadd, 1) := by decide +kernel
theorem dX12_needs_46 : decode cX12_needs 46 = .ok (.iaload, 1) := by decide +kernel
theorem dX12_needs_47 : decode cX12_needs 47 = .ok (.imul, 1) := by decide +kernel
theorem dX12_needs_48 : decode cX12_needs 48 = .ok (.iconst 5, 1) := by decide +kernel
theorem dX12_needs_49 : decode cX12_needs 49 = .ok (.iload_n 3, 1) := by decide +kernel
theorem dX12_needs_50 : decode cX12_needs 50 = .ok (.imul, 1) := by decide +kernel
theorem dX12_needs_51 : decode cX12_needs 51 = .ok (.iadd, 1) := by decide +kernel
theorem dX12_needs_52 : decode cX12_needs 52 = .ok (.if_icmp .gt 5, 3) := by decide +kernel
theorem dX12_needs_55 : decode cX12_needs 55 = .ok (.iload_n 3, 1) := by decide +kernel
theorem dX12_needs_56 : decode cX12_needs 56 = .ok (.ireturn, 1) := by decide +kernel
theorem dX12_needs_57 : decode cX12_needs 57 = .ok (.iinc 3 1, 3) := by decide +kernel
theorem dX12_needs_60 : decode cX12_needs 60 = .ok (.goto (-33), 3) := by decide +kernel
theorem dX12_needs_63 : decode cX12_needs 63 = .ok (.bipush (-9), 2) := by decide +kernel
theorem dX12_needs_65 : decode cX12_needs 65 = .ok (.ireturn, 1) := by decide +kernel
theorem dX12_secondsOf_0 : decode cX12_secondsOf 0 = .ok (.iload_n 0, 1) := by decide +kernel
theorem dX12_secondsOf_1 : decode cX12_secondsOf 1 = .ok (.bipush 10, 2) := by decide +kernel
theorem dX12_secondsOf_3 : decode cX12_secondsOf 3 = .ok (.if_icmp .ge 7, 3) := by decide +kernel
theorem dX12_secondsOf_6 : decode cX12_secondsOf 6 = .ok (.iload_n 0, 1) := by decide +kernel
theorem dX12_secondsOf_7 : decode cX12_secondsOf 7 = .ok (.goto 25, 3) := by decide +kernel
theorem dX12_secondsOf_10 : decode cX12_secondsOf 10 = .ok (.iload_n 0, 1) := by decide +kernel
theorem dX12_secondsOf_11 : decode cX12_secondsOf 11 = .ok (.bipush 10, 2) := by decide +kernel
theorem dX12_secondsOf_13 : decode cX12_secondsOf 13 = .ok (.if_icmp .ne 7, 3) := by decide +kernel
theorem dX12_secondsOf_16 : decode cX12_secondsOf 16 = .ok (.iconst 2, 1) := by decide +kernel
theorem dX12_secondsOf_17 : decode cX12_secondsOf 17 = .ok (.goto 15, 3) := by decide +kernel
theorem dX12_secondsOf_20 : decode cX12_secondsOf 20 = .ok (.iload_n 0, 1) := by decide +kernel
theorem dX12_secondsOf_21 : decode cX12_secondsOf 21 = .ok (.bipush 11, 2) := by decide +kernel
theorem dX12_secondsOf_23 : decode cX12_secondsOf 23 = .ok (.if_icmp .ne 7, 3) := by decide +kernel
theorem dX12_secondsOf_26 : decode cX12_secondsOf 26 = .ok (.iconst 1, 1) := by decide +kernel
theorem dX12_secondsOf_27 : decode cX12_secondsOf 27 = .ok (.goto 5, 3) := by decide +kernel
theorem dX12_secondsOf_30 : decode cX12_secondsOf 30 = .ok (.ldc 150, 2) := by decide +kernel
theorem dX12_secondsOf_32 : decode cX12_secondsOf 32 = .ok (.ireturn, 1) := by decide +kernel
theorem dX12_crosses_0 : decode cX12_crosses 0 = .ok (.iload_n 1, 1) := by decide +kernel
theorem dX12_crosses_1 : decode cX12_crosses 1 = .ok (.bipush 10, 2) := by decide +kernel
theorem dX12_crosses_3 : decode cX12_crosses 3 = .ok (.if_icmp .ge 8, 3) := by decide +kernel
theorem dX12_crosses_6 : decode cX12_crosses 6 = .ok (.bipush 10, 2) := by decide +kernel
theorem dX12_crosses_8 : decode cX12_crosses 8 = .ok (.goto 36, 3) := by decide +kernel
theorem dX12_crosses_11 : decode cX12_crosses 11 = .ok (.iload_n 1, 1) := by decide +kernel
theorem dX12_crosses_12 : decode cX12_crosses 12 = .ok (.bipush 10, 2) := by decide +kernel
theorem dX12_crosses_14 : decode cX12_crosses 14 = .ok (.if_icmp .ne 13, 3) := by decide +kernel
theorem dX12_crosses_17 : decode cX12_crosses 17 = .ok (.bipush 10, 2) := by decide +kernel
theorem dX12_crosses_19 : decode cX12_crosses 19 = .ok (.aload_n 0, 1) := by decide +kernel
theorem dX12_crosses_20 : decode cX12_crosses 20 = .ok (.getfield 70, 3) := by decide +kernel
theorem dX12_crosses_23 : decode cX12_crosses 23 = .ok (.isub, 1) := by decide +kernel
theorem dX12_crosses_24 : decode cX12_crosses 24 = .ok (.goto 20, 3) := by decide +kernel
theorem dX12_crosses_27 : decode cX12_crosses 27 = .ok (.iload_n 1, 1) := by decide +kernel
theorem dX12_crosses_28 : decode cX12_crosses 28 = .ok (.bipush 11, 2) := by decide +kernel
theorem dX12_crosses_30 : decode cX12_crosses 30 = .ok (.if_icmp .ne 13, 3) := by decide +kernel
theorem dX12_crosses_33 : decode cX12_crosses 33 = .ok (.bipush 10, 2) := by decide +kernel
theorem dX12_crosses_35 : decode cX12_crosses 35 = .ok (.aload_n 0, 1) := by decide +kernel
theorem dX12_crosses_36 : decode cX12_crosses 36 = .ok (.getfield 73, 3) := by decide +kernel
theorem dX12_crosses_39 : decode cX12_crosses 39 = .ok (.isub, 1) := by decide +kernel
theorem dX12_crosses_40 : decode cX12_crosses 40 = .ok (.goto 4, 3) := by decide +kernel
theorem dX12_crosses_43 : decode cX12_crosses 43 = .ok (.iconst 0, 1) := by decide +kernel
theorem dX12_crosses_44 : decode cX12_crosses 44 = .ok (.ireturn, 1) := by decide +kernel
set_option maxRecDepth 20000 in
theorem ggX12_laneTime_X12_secondsOf : GoodIn wsX12_laneTime wsX12_secondsOf := goodIn_r _ [6, 7] (by decide +kernel) (by decide +kernel)
set_option maxRecDepth 20000 in
theorem gX12_laneTime_X12_secondsOf : GoodIn wsX12_laneTime (va_wsS RX12 187 yX12_secondsOf wsX12_secondsOf) := goodIn_app (goodIn_of _ (by decide +kernel)) ggX12_laneTime_X12_secondsOf
theorem dX12_laneTime_0 : decode cX12_laneTime 0 = .ok (.iconst 0, 1) := by decide +kernel
theorem dX12_laneTime_1 : decode cX12_laneTime 1 = .ok (.istore_n 2, 1) := by decide +kernel
theorem dX12_laneTime_2 : decode cX12_laneTime 2 = .ok (.iconst 0, 1) := by decide +kernel
theorem dX12_laneTime_3 : decode cX12_laneTime 3 = .ok (.istore_n 3, 1) := by decide +kernel
theorem dX12_laneTime_4 : decode cX12_laneTime 4 = .ok (.iload_n 3, 1) := by decide +kernel
theorem dX12_laneTime_5 : decode cX12_laneTime 5 = .ok (.aload_n 0, 1) := by decide +kernel
theorem dX12_laneTime_6 : decode cX12_laneTime 6 = .ok (.getfield 67, 3) := by decide +kernel
theorem dX12_laneTime_9 : decode cX12_laneTime 9 = .ok (.if_icmp .ge 26, 3) := by decide +kernel
theorem dX12_laneTime_12 : decode cX12_laneTime 12 = .ok (.iload_n 2, 1) := by decide +kernel
theorem dX12_laneTime_13 : decode cX12_laneTime 13 = .ok (.aload_n 0, 1) := by decide +kernel
theorem dX12_laneTime_14 : decode cX12_laneTime 14 = .ok (.getfield 13, 3) := by decide +kernel
theorem dX12_laneTime_17 : decode cX12_laneTime 17 = .ok (.bipush 12, 2) := by decide +kernel
theorem dX12_laneTime_19 : decode cX12_laneTime 19 = .ok (.iload_n 1, 1) := by decide +kernel
theorem dX12_laneTime_20 : decode cX12_laneTime 20 = .ok (.imul, 1) := by decide +kernel
theorem dX12_laneTime_21 : decode cX12_laneTime 21 = .ok (.iload_n 3, 1) := by decide +kernel
theorem dX12_laneTime_22 : decode cX12_laneTime 22 = .ok (.iadd, 1) := by decide +kernel
theorem dX12_laneTime_23 : decode cX12_laneTime 23 = .ok (.iaload, 1) := by decide +kernel
theorem dX12_laneTime_24 : decode cX12_laneTime 24 = .ok (.invokestatic 187, 3) := by decide +kernel
theorem dX12_laneTime_27 : decode cX12_laneTime 27 = .ok (.iadd, 1) := by decide +kernel
theorem dX12_laneTime_28 : decode cX12_laneTime 28 = .ok (.istore_n 2, 1) := by decide +kernel
theorem dX12_laneTime_29 : decode cX12_laneTime 29 = .ok (.iinc 3 1, 3) := by decide +kernel
theorem dX12_laneTime_32 : decode cX12_laneTime 32 = .ok (.goto (-28), 3) := by decide +kernel
theorem dX12_laneTime_35 : decode cX12_laneTime 35 = .ok (.iload_n 2, 1) := by decide +kernel
theorem dX12_laneTime_36 : decode cX12_laneTime 36 = .ok (.ireturn, 1) := by decide +kernel
set_option maxRecDepth 20000 in
theorem ggX12_time_X12_isBoat : GoodIn wsX12_time wsX12_isBoat := goodIn_r _ [5, 6, 7, 8, 4, 9, 64, 65, 66, 67, 68, 69, 70, 71, 72, 73, 74, 75, 76, 77, 78, 79, 80, 81, 82, 83, 84, 85, 86, 87, 88, 89, 90, 91, 92, 93, 94] (by decide +kernel) (by decide +kernel)
set_option maxRecDepth 20000 in
theorem gX12_time_X12_isBoat : GoodIn wsX12_time (wsV RX12 125 RX12 yX12_isBoat wsX12_isBoat) := goodIn_app (goodIn_of _ (by decide +kernel)) ggX12_time_X12_isBoat
set_option maxRecDepth 20000 in
theorem ggX12_time_X12_isLane : GoodIn wsX12_time wsX12_isLane := goodIn_r _ [13, 14, 7, 8, 4, 9, 64, 65, 66, 67, 68, 69, 70, 71, 72, 73, 74, 75, 76, 77, 78, 79, 80, 81, 82, 83, 84, 85, 86, 87, 88, 89, 90, 91, 92, 93, 94] (by decide +kernel) (by decide +kernel)
set_option maxRecDepth 20000 in
theorem gX12_time_X12_isLane : GoodIn wsX12_time (wsV RX12 105 RX12 yX12_isLane wsX12_isLane) := goodIn_app (goodIn_of _ (by decide +kernel)) ggX12_time_X12_isLane
set_option maxRecDepth 20000 in
theorem ggX12_time_X12_laneTime : GoodIn wsX12_time wsX12_laneTime := goodIn_r _ [18, 19, 20, 21, 22, 4, 23, 24, 64, 65, 66, 67, 68, 69, 70, 71, 72, 73, 74, 75, 76, 77, 78, 79, 80, 81, 82, 83, 84, 85, 86, 87, 88, 89, 90, 91, 92, 93, 94] (by decide +kernel) (by decide +kernel)
set_option maxRecDepth 20000 in
theorem gX12_time_X12_laneTime : GoodIn wsX12_time (wsV RX12 190 RX12 yX12_laneTime wsX12_laneTime) := goodIn_app (goodIn_of _ (by decide +kernel)) ggX12_time_X12_laneTime
set_option maxRecDepth 20000 in
theorem ggX12_time_X12_lifeOf : GoodIn wsX12_time wsX12_lifeOf := goodIn_r _ [28, 29, 30, 31, 32, 4, 33, 34, 35, 36, 37, 38, 39, 40, 41, 42, 43, 44, 45, 46, 47, 48, 49, 50, 51, 52, 53, 54, 55, 56, 57, 58, 59, 60, 61, 62, 63, 64, 65, 66, 67, 68, 69, 70, 71, 72, 73, 74, 75, 76, 77, 78, 79, 80, 81, 82, 83, 84, 85, 86, 87, 88, 89, 90, 91, 92, 93, 94] (by decide +kernel) (by decide +kernel)
set_option maxRecDepth 20000 in
theorem gX12_time_X12_lifeOf : GoodIn wsX12_time (wsV RX12 177 RX12 yX12_lifeOf wsX12_lifeOf) := goodIn_app (goodIn_of _ (by decide +kernel)) ggX12_time_X12_lifeOf
theorem dX12_time_0 : decode cX12_time 0 = .ok (.aload_n 0, 1) := by decide +kernel
theorem dX12_time_1 : decode cX12_time 1 = .ok (.iload_n 1, 1) := by decide +kernel
theorem dX12_time_2 : decode cX12_time 2 = .ok (.invokevirtual 125, 3) := by decide +kernel
theorem dX12_time_5 : decode cX12_time 5 = .ok (.ifCond .eq 11, 3) := by decide +kernel
theorem dX12_time_8 : decode cX12_time 8 = .ok (.aload_n 0, 1) := by decide +kernel
theorem dX12_time_9 : decode cX12_time 9 = .ok (.iload_n 2, 1) := by decide +kernel
theorem dX12_time_10 : decode cX12_time 10 = .ok (.invokevirtual 105, 3) := by decide +kernel
theorem dX12_time_13 : decode cX12_time 13 = .ok (.ifCond .ne 5, 3) := by decide +kernel
theorem dX12_time_16 : decode cX12_time 16 = .ok (.iconst (-1), 1) := by decide +kernel
theorem dX12_time_17 : decode cX12_time 17 = .ok (.ireturn, 1) := by decide +kernel
theorem dX12_time_18 : decode cX12_time 18 = .ok (.aload_n 0, 1) := by decide +kernel
theorem dX12_time_19 : decode cX12_time 19 = .ok (.iload_n 2, 1) := by decide +kernel
theorem dX12_time_20 : decode cX12_time 20 = .ok (.invokevirtual 190, 3) := by decide +kernel
theorem dX12_time_23 : decode cX12_time 23 = .ok (.aload_n 0, 1) := by decide +kernel
theorem dX12_time_24 : decode cX12_time 24 = .ok (.iload_n 1, 1) := by decide +kernel
theorem dX12_time_25 : decode cX12_time 25 = .ok (.invokevirtual 177, 3) := by decide +kernel
theorem dX12_time_28 : decode cX12_time 28 = .ok (.if_icmp .gt 11, 3) := by decide +kernel
theorem dX12_time_31 : decode cX12_time 31 = .ok (.aload_n 0, 1) := by decide +kernel
theorem dX12_time_32 : decode cX12_time 32 = .ok (.iload_n 2, 1) := by decide +kernel
theorem dX12_time_33 : decode cX12_time 33 = .ok (.invokevirtual 190, 3) := by decide +kernel
theorem dX12_time_36 : decode cX12_time 36 = .ok (.goto 5, 3) := by decide +kernel
theorem dX12_time_39 : decode cX12_time 39 = .ok (.bipush (-9), 2) := by decide +kernel
theorem dX12_time_41 : decode cX12_time 41 = .ok (.ireturn, 1) := by decide +kernel
theorem dX12_whole_0 : decode cX12_whole 0 = .ok (.lconst 1, 1) := by decide +kernel
theorem dX12_whole_1 : decode cX12_whole 1 = .ok (.lstore_n 1, 1) := by decide +kernel
theorem dX12_whole_2 : decode cX12_whole 2 = .ok (.iconst 0, 1) := by decide +kernel
theorem dX12_whole_3 : decode cX12_whole 3 = .ok (.istore_n 3, 1) := by decide +kernel
theorem dX12_whole_4 : decode cX12_whole 4 = .ok (.iload_n 3, 1) := by decide +kernel
theorem dX12_whole_5 : decode cX12_whole 5 = .ok (.aload_n 0, 1) := by decide +kernel
theorem dX12_whole_6 : decode cX12_whole 6 = .ok (.getfield 67, 3) := by decide +kernel
theorem dX12_whole_9 : decode cX12_whole 9 = .ok (.if_icmp .ge 15, 3) := by decide +kernel
theorem dX12_whole_12 : decode cX12_whole 12 = .ok (.lload_n 1, 1) := by decide +kernel
theorem dX12_whole_13 : decode cX12_whole 13 = .ok (.ldc2_w 193, 3) := by decide +kernel
theorem dX12_whole_16 : decode cX12_whole 16 = .ok (.lmul, 1) := by decide +kernel
theorem dX12_whole_17 : decode cX12_whole 17 = .ok (.lstore_n 1, 1) := by decide +kernel
theorem dX12_whole_18 : decode cX12_whole 18 = .ok (.iinc 3 1, 3) := by decide +kernel
theorem dX12_whole_21 : decode cX12_whole 21 = .ok (.goto (-17), 3) := by decide +kernel
theorem dX12_whole_24 : decode cX12_whole 24 = .ok (.lload_n 1, 1) := by decide +kernel
theorem dX12_whole_25 : decode cX12_whole 25 = .ok (.lreturn, 1) := by decide +kernel
set_option maxRecDepth 20000 in
theorem ggX12_layDrift_X12_whole : GoodIn wsX12_layDrift wsX12_whole := goodIn_r _ [10, 2, 4, 60, 61, 62, 63, 64, 65, 66, 67, 68, 69, 70, 71, 72, 73, 74, 75, 76, 77, 78, 79, 80, 81, 82, 83, 84, 85, 86, 87, 88, 89, 90] (by decide +kernel) (by decide +kernel)
set_option maxRecDepth 20000 in
theorem gX12_layDrift_X12_whole : GoodIn wsX12_layDrift (wsV RX12 195 RX12 yX12_whole wsX12_whole) := goodIn_app (goodIn_of _ (by decide +kernel)) ggX12_layDrift_X12_whole
set_option maxRecDepth 20000 in
theorem ggX12_layDrift_X12_lifeOf : GoodIn wsX12_layDrift wsX12_lifeOf := goodIn_r _ [14, 15, 16, 17, 18, 9, 19, 20, 21, 22, 23, 24, 25, 26, 27, 28, 29, 30, 31, 32, 33, 34, 35, 36, 37, 38, 39, 40, 41, 42, 43, 44, 45, 46, 47, 48, 49, 60, 61, 62, 63, 64, 65, 66, 67, 68, 69, 70, 71, 72, 73, 74, 75, 76, 77, 78, 79, 80, 81, 82, 83, 84, 85, 86, 87, 88, 89, 90] (by decide +kernel) (by decide +kernel)
set_option maxRecDepth 20000 in
theorem gX12_layDrift_X12_lifeOf : GoodIn wsX12_layDrift (wsV RX12 177 RX12 yX12_lifeOf wsX12_lifeOf) := goodIn_app (goodIn_of _ (by decide +kernel)) ggX12_layDrift_X12_lifeOf
set_option maxRecDepth 20000 in
theorem ggX12_layDrift_X12_secondsOf : GoodIn wsX12_layDrift wsX12_secondsOf := goodIn_r _ [52, 53] (by decide +kernel) (by decide +kernel)
set_option maxRecDepth 20000 in
theorem gX12_layDrift_X12_secondsOf : GoodIn wsX12_layDrift (va_wsS RX12 187 yX12_secondsOf wsX12_secondsOf) := goodIn_app (goodIn_of _ (by decide +kernel)) ggX12_layDrift_X12_secondsOf
set_option maxRecDepth 20000 in
theorem ggX12_layDrift_X12_crosses : GoodIn wsX12_layDrift wsX12_crosses := goodIn_r _ [57, 58, 59, 60, 61, 62, 63, 64, 65, 66, 67, 68, 69, 70, 71, 72, 73, 74, 75, 76, 77, 78, 79, 80, 81, 82, 83, 84, 85, 86, 87, 88, 89, 90] (by decide +kernel) (by decide +kernel)
set_option maxRecDepth 20000 in
theorem gX12_layDrift_X12_crosses : GoodIn wsX12_layDrift (wsV RX12 203 RX12 yX12_crosses wsX12_crosses) := goodIn_app (goodIn_of _ (by decide +kernel)) ggX12_layDrift_X12_crosses
theorem dX12_layDrift_0 : decode cX12_layDrift 0 = .ok (.aload_n 0, 1) := by decide +kernel
theorem dX12_layDrift_1 : decode cX12_layDrift 1 = .ok (.invokevirtual 195, 3) := by decide +kernel
theorem dX12_layDrift_4 : decode cX12_layDrift 4 = .ok (.lstore_n 3, 1) := by decide +kernel
theorem dX12_layDrift_5 : decode cX12_layDrift 5 = .ok (.aload_n 0, 1) := by decide +kernel
theorem dX12_layDrift_6 : decode cX12_layDrift 6 = .ok (.iload_n 1, 1) := by decide +kernel
theorem dX12_layDrift_7 : decode cX12_layDrift 7 = .ok (.invokevirtual 177, 3) := by decide +kernel
theorem dX12_layDrift_10 : decode cX12_layDrift 10 = .ok (.istore 5, 2) := by decide +kernel
theorem dX12_layDrift_12 : decode cX12_layDrift 12 = .ok (.iconst 0, 1) := by decide +kernel
theorem dX12_layDrift_13 : decode cX12_layDrift 13 = .ok (.istore 6, 2) := by decide +kernel
theorem dX12_layDrift_15 : decode cX12_layDrift 15 = .ok (.aload_n 0, 1) := by decide +kernel
theorem dX12_layDrift_16 : decode cX12_layDrift 16 = .ok (.lconst 0, 1) := by decide +kernel
theorem dX12_layDrift_17 : decode cX12_layDrift 17 = .ok (.putfield 199, 3) := by decide +kernel
theorem dX12_layDrift_20 : decode cX12_layDrift 20 = .ok (.iconst 0, 1) := by decide +kernel
theorem dX12_layDrift_21 : decode cX12_layDrift 21 = .ok (.istore 7, 2) := by decide +kernel
theorem dX12_layDrift_23 : decode cX12_layDrift 23 = .ok (.iload 7, 2) := by decide +kernel
theorem dX12_layDrift_25 : decode cX12_layDrift 25 = .ok (.aload_n 0, 1) := by decide +kernel
theorem dX12_layDrift_26 : decode cX12_layDrift 26 = .ok (.getfield 67, 3) := by decide +kernel
theorem dX12_layDrift_29 : decode cX12_layDrift 29 = .ok (.if_icmp .ge 84, 3) := by decide +kernel
theorem dX12_layDrift_32 : decode cX12_layDrift 32 = .ok (.aload_n 0, 1) := by decide +kernel
theorem dX12_layDrift_33 : decode cX12_layDrift 33 = .ok (.getfield 13, 3) := by decide +kernel
theorem dX12_layDrift_36 : decode cX12_layDrift 36 = .ok (.bipush 12, 2) := by decide +kernel
theorem dX12_layDrift_38 : decode cX12_layDrift 38 = .ok (.iload_n 2, 1) := by decide +kernel
theorem dX12_layDrift_39 : decode cX12_layDrift 39 = .ok (.imul, 1) := by decide +kernel
theorem dX12_layDrift_40 : decode cX12_layDrift 40 = .ok (.iload 7, 2) := by decide +kernel
theorem dX12_layDrift_42 : decode cX12_layDrift 42 = .ok (.iadd, 1) := by decide +kernel
theorem dX12_layDrift_43 : decode cX12_layDrift 43 = .ok (.iaload, 1) := by decide +kernel
theorem dX12_layDrift_44 : decode cX12_layDrift 44 = .ok (.istore 8, 2) := by decide +kernel
theorem dX12_layDrift_46 : decode cX12_layDrift 46 = .ok (.iload 6, 2) := by decide +kernel
theorem dX12_layDrift_48 : decode cX12_layDrift 48 = .ok (.iload 8, 2) := by decide +kernel
theorem dX12_layDrift_50 : decode cX12_layDrift 50 = .ok (.invokestatic 187, 3) := by decide +kernel
theorem dX12_layDrift_53 : decode cX12_layDrift 53 = .ok (.iadd, 1) := by decide +kernel
theorem dX12_layDrift_54 : decode cX12_layDrift 54 = .ok (.istore 6, 2) := by decide +kernel
theorem dX12_layDrift_56 : decode cX12_layDrift 56 = .ok (.iload 6, 2) := by decide +kernel
theorem dX12_layDrift_58 : decode cX12_layDrift 58 = .ok (.iload 5, 2) := by decide +kernel
theorem dX12_layDrift_60 : decode cX12_layDrift 60 = .ok (.if_icmp .gt 19, 3) := by decide +kernel
theorem dX12_layDrift_63 : decode cX12_layDrift 63 = .ok (.lload_n 3, 1) := by decide +kernel
theorem dX12_layDrift_64 : decode cX12_layDrift 64 = .ok (.ldc2_w 193, 3) := by decide +kernel
theorem dX12_layDrift_67 : decode cX12_layDrift 67 = .ok (.ldiv, 1) := by decide +kernel
theorem dX12_layDrift_68 : decode cX12_layDrift 68 = .ok (.aload_n 0, 1) := by decide +kernel
theorem dX12_layDrift_69 : decode cX12_layDrift 69 = .ok (.iload 8, 2) := by decide +kernel
theorem dX12_layDrift_71 : decode cX12_layDrift 71 = .ok (.invokevirtual 203, 3) := by decide +kernel
theorem dX12_layDrift_74 : decode cX12_layDrift 74 = .ok (.i2l, 1) := by decide +kernel
theorem dX12_layDrift_75 : decode cX12_layDrift 75 = .ok (.lmul, 1) := by decide +kernel
theorem dX12_layDrift_76 : decode cX12_layDrift 76 = .ok (.goto 4, 3) := by decide +kernel
theorem dX12_layDrift_79 : decode cX12_layDrift 79 = .ok (.lconst 0, 1) := by decide +kernel
theorem dX12_layDrift_80 : decode cX12_layDrift 80 = .ok (.lstore 9, 2) := by decide +kernel
theorem dX12_layDrift_82 : decode cX12_layDrift 82 = .ok (.aload_n 0, 1) := by decide +kernel
theorem dX12_layDrift_83 : decode cX12_layDrift 83 = .ok (.getfield 28, 3) := by decide +kernel
theorem dX12_layDrift_86 : decode cX12_layDrift 86 = .ok (.iload 7, 2) := by decide +kernel
theorem dX12_layDrift_88 : decode cX12_layDrift 88 = .ok (.lload_n 3, 1) := by decide +kernel
theorem dX12_layDrift_89 : decode cX12_layDrift 89 = .ok (.lload 9, 2) := by decide +kernel
theorem dX12_layDrift_91 : decode cX12_layDrift 91 = .ok (.lsub, 1) := by decide +kernel
theorem dX12_layDrift_92 : decode cX12_layDrift 92 = .ok (.lastore, 1) := by decide +kernel
theorem dX12_layDrift_93 : decode cX12_layDrift 93 = .ok (.aload_n 0, 1) := by decide +kernel
theorem dX12_layDrift_94 : decode cX12_layDrift 94 = .ok (.dup, 1) := by decide +kernel
theorem dX12_layDrift_95 : decode cX12_layDrift 95 = .ok (.getfield 199, 3) := by decide +kernel
theorem dX12_layDrift_98 : decode cX12_layDrift 98 = .ok (.lload 9, 2) := by decide +kernel
theorem dX12_layDrift_100 : decode cX12_layDrift 100 = .ok (.ladd, 1) := by decide +kernel
theorem dX12_layDrift_101 : decode cX12_layDrift 101 = .ok (.putfield 199, 3) := by decide +kernel
theorem dX12_layDrift_104 : decode cX12_layDrift 104 = .ok (.lload 9, 2) := by decide +kernel
theorem dX12_layDrift_106 : decode cX12_layDrift 106 = .ok (.lstore_n 3, 1) := by decide +kernel
theorem dX12_layDrift_107 : decode cX12_layDrift 107 = .ok (.iinc 7 1, 3) := by decide +kernel
theorem dX12_layDrift_110 : decode cX12_layDrift 110 = .ok (.goto (-87), 3) := by decide +kernel
theorem dX12_layDrift_113 : decode cX12_layDrift 113 = .ok (.return_, 1) := by decide +kernel
set_option maxRecDepth 20000 in
theorem ggX12_far_X12_isBoat : GoodIn wsX12_far wsX12_isBoat := goodIn_r _ [7, 8, 9, 10, 6, 11, 81, 82, 83, 84, 85, 86, 87, 88, 89, 90, 91, 92, 93, 94, 95, 96, 97, 98, 99, 100, 101, 102, 103, 104, 105, 106, 107, 108, 109, 110, 111] (by decide +kernel) (by decide +kernel)
set_option maxRecDepth 20000 in
theorem gX12_far_X12_isBoat : GoodIn wsX12_far (wsV RX12 125 RX12 yX12_isBoat wsX12_isBoat) := goodIn_app (goodIn_of _ (by decide +kernel)) ggX12_far_X12_isBoat
set_option maxRecDepth 20000 in
theorem ggX12_far_X12_isLane : GoodIn wsX12_far wsX12_isLane := goodIn_r _ [15, 16, 9, 10, 6, 11, 81, 82, 83, 84, 85, 86, 87, 88, 89, 90, 91, 92, 93, 94, 95, 96, 97, 98, 99, 100, 101, 102, 103, 104, 105, 106, 107, 108, 109, 110, 111] (by decide +kernel) (by decide +kernel)
set_option maxRecDepth 20000 in
theorem gX12_far_X12_isLane : GoodIn wsX12_far (wsV RX12 105 RX12 yX12_isLane wsX12_isLane) := goodIn_app (goodIn_of _ (by decide +kernel)) ggX12_far_X12_isLane
set_option maxRecDepth 20000 in
theorem ggX12_far_X12_layDrift : GoodIn wsX12_far wsX12_layDrift := goodIn_r _ [20, 2, 21, 22, 23, 24, 25, 26, 27, 6, 28, 29, 30, 31, 32, 33, 34, 35, 36, 37, 38, 39, 40, 41, 42, 43, 44, 45, 46, 47, 48, 49, 50, 51, 52, 53, 54, 55, 56, 57, 58, 59, 60, 61, 62, 63, 64, 65, 66, 67, 68, 69, 70, 71, 72, 73, 74, 75, 76, 77, 81, 82, 83, 84, 85, 86, 87, 88, 89, 90, 91, 92, 93, 94, 95, 96, 97, 98, 99, 100, 101, 102, 103, 104, 105, 106, 107, 108, 109, 110, 111] (by decide +kernel) (by decide +kernel)
set_option maxRecDepth 20000 in
theorem gX12_far_X12_layDrift : GoodIn wsX12_far (wsV RX12 206 RX12 yX12_layDrift wsX12_layDrift) := goodIn_app (goodIn_of _ (by decide +kernel)) ggX12_far_X12_layDrift
set_option maxRecDepth 20000 in
theorem ggX12_far_X12_whole : GoodIn wsX12_far wsX12_whole := goodIn_r _ [28, 21, 23, 81, 82, 83, 84, 85, 86, 87, 88, 89, 90, 91, 92, 93, 94, 95, 96, 97, 98, 99, 100, 101, 102, 103, 104, 105, 106, 107, 108, 109, 110, 111] (by decide +kernel) (by decide +kernel)
set_option maxRecDepth 20000 in
theorem gX12_far_X12_whole : GoodIn wsX12_far (wsV RX12 195 RX12 yX12_whole wsX12_whole) := goodIn_app (goodIn_of _ (by decide +kernel)) ggX12_far_X12_whole
set_option maxRecDepth 20000 in
theorem ggX12_far_X12_part : GoodIn wsX12_far wsX12_part := goodIn_r _ [80] (by decide +kernel) (by decide +kernel)
set_option maxRecDepth 20000 in
theorem gX12_far_X12_part : GoodIn wsX12_far (va_wsS RX12 163 yX12_part wsX12_part) := goodIn_app (goodIn_of _ (by decide +kernel)) ggX12_far_X12_part
theorem dX12_far_0 : decode cX12_far 0 = .ok (.aload_n 0, 1) := by decide +kernel
theorem dX12_far_1 : decode cX12_far 1 = .ok (.iload_n 1, 1) := by decide +kernel
theorem dX12_far_2 : decode cX12_far 2 = .ok (.invokevirtual 125, 3) := by decide +kernel
theorem dX12_far_5 : decode cX12_far 5 = .ok (.ifCond .eq 11, 3) := by decide +kernel
theorem dX12_far_8 : decode cX12_far 8 = .ok (.aload_n 0, 1) := by decide +kernel
theorem dX12_far_9 : decode cX12_far 9 = .ok (.iload_n 2, 1) := by decide +kernel
theorem dX12_far_10 : decode cX12_far 10 = .ok (.invokevirtual 105, 3) := by decide +kernel
theorem dX12_far_13 : decode cX12_far 13 = .ok (.ifCond .ne 7, 3) := by decide +kernel
theorem dX12_far_16 : decode cX12_far 16 = .ok (.ldc2_w 151, 3) := by decide +kernel
theorem dX12_far_19 : decode cX12_far 19 = .ok (.lreturn, 1) := by decide +kernel
theorem dX12_far_20 : decode cX12_far 20 = .ok (.aload_n 0, 1) := by decide +kernel
theorem dX12_far_21 : decode cX12_far 21 = .ok (.iload_n 1, 1) := by decide +kernel
theorem dX12_far_22 : decode cX12_far 22 = .ok (.iload_n 2, 1) := by decide +kernel
theorem dX12_far_23 : decode cX12_far 23 = .ok (.invokevirtual 206, 3) := by decide +kernel
theorem dX12_far_26 : decode cX12_far 26 = .ok (.aload_n 0, 1) := by decide +kernel
theorem dX12_far_27 : decode cX12_far 27 = .ok (.getfield 199, 3) := by decide +kernel
theorem dX12_far_30 : decode cX12_far 30 = .ok (.aload_n 0, 1) := by decide +kernel
theorem dX12_far_31 : decode cX12_far 31 = .ok (.invokevirtual 195, 3) := by decide +kernel
theorem dX12_far_34 : decode cX12_far 34 = .ok (.iload_n 3, 1) := by decide +kernel
theorem dX12_far_35 : decode cX12_far 35 = .ok (.invokestatic 163, 3) := by decide +kernel
theorem dX12_far_38 : decode cX12_far 38 = .ok (.lreturn, 1) := by decide +kernel
set_option maxRecDepth 20000 in
theorem ggX12_ended_X12_isBoat : GoodIn wsX12_ended wsX12_isBoat := goodIn_r _ [7, 8, 9, 10, 6, 11, 85, 86, 87, 88, 89, 90, 91, 92, 93, 94, 95, 96, 97, 98, 99, 100, 101, 102, 103, 104, 105, 106, 107, 108, 109, 110, 111, 112, 113, 114, 115] (by decide +kernel) (by decide +kernel)
set_option maxRecDepth 20000 in
theorem gX12_ended_X12_isBoat : GoodIn wsX12_ended (wsV RX12 125 RX12 yX12_isBoat wsX12_isBoat) := goodIn_app (goodIn_of _ (by decide +kernel)) ggX12_ended_X12_isBoat
set_option maxRecDepth 20000 in
theorem ggX12_ended_X12_isLane : GoodIn wsX12_ended wsX12_isLane := goodIn_r _ [15, 16, 9, 10, 6, 11, 85, 86, 87, 88, 89, 90, 91, 92, 93, 94, 95, 96, 97, 98, 99, 100, 101, 102, 103, 104, 105, 106, 107, 108, 109, 110, 111, 112, 113, 114, 115] (by decide +kernel) (by decide +kernel)
set_option maxRecDepth 20000 in
theorem gX12_ended_X12_isLane : GoodIn wsX12_ended (wsV RX12 105 RX12 yX12_isLane wsX12_isLane) := goodIn_app (goodIn_of _ (by decide +kernel)) ggX12_ended_X12_isLane
set_option maxRecDepth 20000 in
theorem ggX12_ended_X12_isPlace : GoodIn wsX12_ended wsX12_isPlace := goodIn_r _ [20, 21, 9, 10, 6, 11, 85, 86, 87, 88, 89, 90, 91, 92, 93, 94, 95, 96, 97, 98, 99, 100, 101, 102, 103, 104, 105, 106, 107, 108, 109, 110, 111, 112, 113, 114, 115] (by decide +kernel) (by decide +kernel)
set_option maxRecDepth 20000 in
theorem gX12_ended_X12_isPlace : GoodIn wsX12_ended (wsV RX12 109 RX12 yX12_isPlace wsX12_isPlace) := goodIn_app (goodIn_of _ (by decide +kernel)) ggX12_ended_X12_isPlace
set_option maxRecDepth 20000 in
theorem ggX12_ended_X12_layDrift : GoodIn wsX12_ended wsX12_layDrift := goodIn_r _ [25, 26, 21, 27, 28, 2, 29, 30, 31, 6, 32, 33, 34, 35, 36, 37, 38, 39, 40, 41, 42, 43, 44, 45, 46, 47, 48, 49, 50, 51, 52, 53, 54, 55, 56, 57, 58, 59, 60, 61, 62, 63, 64, 65, 66, 67, 68, 69, 70, 71, 72, 73, 74, 75, 76, 77, 78, 79, 80, 81, 85, 86, 87, 88, 89, 90, 91, 92, 93, 94, 95, 96, 97, 98, 99, 100, 101, 102, 103, 104, 105, 106, 107, 108, 109, 110, 111, 112, 113, 114, 115] (by decide +kernel) (by decide +kernel)
set_option maxRecDepth 20000 in
theorem gX12_ended_X12_layDrift : GoodIn wsX12_ended (wsV RX12 206 RX12 yX12_layDrift wsX12_layDrift) := goodIn_app (goodIn_of _ (by decide +kernel)) ggX12_ended_X12_layDrift
set_option maxRecDepth 20000 in
theorem ggX12_ended_X12_whole : GoodIn wsX12_ended wsX12_whole := goodIn_r _ [32, 21, 28, 85, 86, 87, 88, 89, 90, 91, 92, 93, 94, 95, 96, 97, 98, 99, 100, 101, 102, 103, 104, 105, 106, 107, 108, 109, 110, 111, 112, 113, 114, 115] (by decide +kernel) (by decide +kernel)
set_option maxRecDepth 20000 in
theorem gX12_ended_X12_whole : GoodIn wsX12_ended (wsV RX12 195 RX12 yX12_whole wsX12_whole) := goodIn_app (goodIn_of _ (by decide +kernel)) ggX12_ended_X12_whole
set_option maxRecDepth 20000 in
theorem ggX12_ended_X12_part : GoodIn wsX12_ended wsX12_part := goodIn_r _ [84] (by decide +kernel) (by decide +kernel)
set_option maxRecDepth 20000 in
theorem gX12_ended_X12_part : GoodIn wsX12_ended (va_wsS RX12 163 yX12_part wsX12_part) := goodIn_app (goodIn_of _ (by decide +kernel)) ggX12_ended_X12_part
theorem dX12_ended_0 : decode cX12_ended 0 = .ok (.aload_n 0, 1) := by decide +kernel
theorem dX12_ended_1 : decode cX12_ended 1 = .ok (.iload_n 1, 1) := by decide +kernel
theorem dX12_ended_2 : decode cX12_ended 2 = .ok (.invokevirtual 125, 3) := by decide +kernel
theorem dX12_ended_5 : decode cX12_ended 5 = .ok (.ifCond .eq 19, 3) := by decide +kernel
theorem dX12_ended_8 : decode cX12_ended 8 = .ok (.aload_n 0, 1) := by decide +kernel
theorem dX12_ended_9 : decode cX12_ended 9 = .ok (.iload_n 2, 1) := by decide +kernel
theorem dX12_ended_10 : decode cX12_ended 10 = .ok (.invokevirtual 105, 3) := by decide +kernel
theorem dX12_ended_13 : decode cX12_ended 13 = .ok (.ifCond .eq 11, 3) := by decide +kernel
theorem dX12_ended_16 : decode cX12_ended 16 = .ok (.aload_n 0, 1) := by decide +kernel
theorem dX12_ended_17 : decode cX12_ended 17 = .ok (.iload_n 3, 1) := by decide +kernel
theorem dX12_ended_18 : decode cX12_ended 18 = .ok (.invokevirtual 109, 3) := by decide +kernel
theorem dX12_ended_21 : decode cX12_ended 21 = .ok (.ifCond .ne 7, 3) := by decide +kernel
theorem dX12_ended_24 : decode cX12_ended 24 = .ok (.ldc2_w 151, 3) := by decide +kernel
theorem dX12_ended_27 : decode cX12_ended 27 = .ok (.lreturn, 1) := by decide +kernel
theorem dX12_ended_28 : decode cX12_ended 28 = .ok (.aload_n 0, 1) := by decide +kernel
theorem dX12_ended_29 : decode cX12_ended 29 = .ok (.iload_n 1, 1) := by decide +kernel
theorem dX12_ended_30 : decode cX12_ended 30 = .ok (.iload_n 2, 1) := by decide +kernel
theorem dX12_ended_31 : decode cX12_ended 31 = .ok (.invokevirtual 206, 3) := by decide +kernel
theorem dX12_ended_34 : decode cX12_ended 34 = .ok (.aload_n 0, 1) := by decide +kernel
theorem dX12_ended_35 : decode cX12_ended 35 = .ok (.getfield 28, 3) := by decide +kernel
theorem dX12_ended_38 : decode cX12_ended 38 = .ok (.iload_n 3, 1) := by decide +kernel
theorem dX12_ended_39 : decode cX12_ended 39 = .ok (.laload, 1) := by decide +kernel
theorem dX12_ended_40 : decode cX12_ended 40 = .ok (.aload_n 0, 1) := by decide +kernel
theorem dX12_ended_41 : decode cX12_ended 41 = .ok (.invokevirtual 195, 3) := by decide +kernel
theorem dX12_ended_44 : decode cX12_ended 44 = .ok (.iload 4, 2) := by decide +kernel
theorem dX12_ended_46 : decode cX12_ended 46 = .ok (.invokestatic 163, 3) := by decide +kernel
theorem dX12_ended_49 : decode cX12_ended 49 = .ok (.lreturn, 1) := by decide +kernel
set_option maxRecDepth 20000 in
theorem ggX12_over_X12_isLane : GoodIn wsX12_over wsX12_isLane := goodIn_r _ [8, 9, 10, 11, 7, 12, 13, 14, 15, 16, 17, 18, 19, 20, 21, 22, 23, 24, 25, 26, 27, 28, 29, 30, 31, 32, 33, 34, 35, 36, 37, 38, 39, 40, 41, 42, 43] (by decide +kernel) (by decide +kernel)
set_option maxRecDepth 20000 in
theorem gX12_over_X12_isLane : GoodIn wsX12_over (wsV RX12 105 RX12 yX12_isLane wsX12_isLane) := goodIn_app (goodIn_of _ (by decide +kernel)) ggX12_over_X12_isLane
theorem dX12_over_0 : decode cX12_over 0 = .ok (.aload_n 0, 1) := by decide +kernel
theorem dX12_over_1 : decode cX12_over 1 = .ok (.iload_n 3, 1) := by decide +kernel
theorem dX12_over_2 : decode cX12_over 2 = .ok (.invokevirtual 105, 3) := by decide +kernel
theorem dX12_over_5 : decode cX12_over 5 = .ok (.ifCond .eq 26, 3) := by decide +kernel
theorem dX12_over_8 : decode cX12_over 8 = .ok (.iload_n 3, 1) := by decide +kernel
theorem dX12_over_9 : decode cX12_over 9 = .ok (.iload_n 2, 1) := by decide +kernel
theorem dX12_over_10 : decode cX12_over 10 = .ok (.if_icmp .eq 25, 3) := by decide +kernel
theorem dX12_over_13 : decode cX12_over 13 = .ok (.aload_n 0, 1) := by decide +kernel
theorem dX12_over_14 : decode cX12_over 14 = .ok (.getfield 13, 3) := by decide +kernel
theorem dX12_over_17 : decode cX12_over 17 = .ok (.bipush 12, 2) := by decide +kernel
theorem dX12_over_19 : decode cX12_over 19 = .ok (.iload_n 3, 1) := by decide +kernel
theorem dX12_over_20 : decode cX12_over 20 = .ok (.imul, 1) := by decide +kernel
theorem dX12_over_21 : decode cX12_over 21 = .ok (.iload_n 1, 1) := by decide +kernel
theorem dX12_over_22 : decode cX12_over 22 = .ok (.iadd, 1) := by decide +kernel
theorem dX12_over_23 : decode cX12_over 23 = .ok (.iconst 1, 1) := by decide +kernel
theorem dX12_over_24 : decode cX12_over 24 = .ok (.iadd, 1) := by decide +kernel
theorem dX12_over_25 : decode cX12_over 25 = .ok (.iaload, 1) := by decide +kernel
theorem dX12_over_26 : decode cX12_over 26 = .ok (.bipush 12, 2) := by decide +kernel
theorem dX12_over_28 : decode cX12_over 28 = .ok (.if_icmp .ne 7, 3) := by decide +kernel
theorem dX12_over_31 : decode cX12_over 31 = .ok (.ldc2_w 151, 3) := by decide +kernel
theorem dX12_over_34 : decode cX12_over 34 = .ok (.lreturn, 1) := by decide +kernel
theorem dX12_over_35 : decode cX12_over 35 = .ok (.iload 4, 2) := by decide +kernel
theorem dX12_over_37 : decode cX12_over 37 = .ok (.iload_n 3, 1) := by decide +kernel
theorem dX12_over_38 : decode cX12_over 38 = .ok (.iload_n 2, 1) := by decide +kernel
theorem dX12_over_39 : decode cX12_over 39 = .ok (.if_icmp .ne 7, 3) := by decide +kernel
theorem dX12_over_42 : decode cX12_over 42 = .ok (.iconst 0, 1) := by decide +kernel
theorem dX12_over_43 : decode cX12_over 43 = .ok (.goto 4, 3) := by decide +kernel
theorem dX12_over_46 : decode cX12_over 46 = .ok (.iconst 1, 1) := by decide +kernel
theorem dX12_over_47 : decode cX12_over 47 = .ok (.iadd, 1) := by decide +kernel
theorem dX12_over_48 : decode cX12_over 48 = .ok (.istore 5, 2) := by decide +kernel
theorem dX12_over_50 : decode cX12_over 50 = .ok (.iload 5, 2) := by decide +kernel
theorem dX12_over_52 : decode cX12_over 52 = .ok (.sipush 255, 3) := by decide +kernel
theorem dX12_over_55 : decode cX12_over 55 = .ok (.if_icmp .le 7, 3) := by decide +kernel
theorem dX12_over_58 : decode cX12_over 58 = .ok (.lconst 0, 1) := by decide +kernel
theorem dX12_over_59 : decode cX12_over 59 = .ok (.goto 26, 3) := by decide +kernel
theorem dX12_over_62 : decode cX12_over 62 = .ok (.aload_n 0, 1) := by decide +kernel
theorem dX12_over_63 : decode cX12_over 63 = .ok (.getfield 32, 3) := by decide +kernel
theorem dX12_over_66 : decode cX12_over 66 = .ok (.sipush 1024, 3) := by decide +kernel
theorem dX12_over_69 : decode cX12_over 69 = .ok (.iload_n 1, 1) := by decide +kernel
theorem dX12_over_70 : decode cX12_over 70 = .ok (.imul, 1) := by decide +kernel
theorem dX12_over_71 : decode cX12_over 71 = .ok (.sipush 1024, 3) := by decide +kernel
theorem dX12_over_74 : decode cX12_over 74 = .ok (.iadd, 1) := by decide +kernel
theorem dX12_over_75 : decode cX12_over 75 = .ok (.sipush 256, 3) := by decide +kernel
theorem dX12_over_78 : decode cX12_over 78 = .ok (.iload_n 3, 1) := by decide +kernel
theorem dX12_over_79 : decode cX12_over 79 = .ok (.imul, 1) := by decide +kernel
theorem dX12_over_80 : decode cX12_over 80 = .ok (.iadd, 1) := by decide +kernel
theorem dX12_over_81 : decode cX12_over 81 = .ok (.iload 5, 2) := by decide +kernel
theorem dX12_over_83 : decode cX12_over 83 = .ok (.iadd, 1) := by decide +kernel
theorem dX12_over_84 : decode cX12_over 84 = .ok (.laload, 1) := by decide +kernel
theorem dX12_over_85 : decode cX12_over 85 = .ok (.lreturn, 1) := by decide +kernel
set_option maxRecDepth 20000 in
theorem ggX12_layHome_X12_secondsOf : GoodIn wsX12_layHome wsX12_secondsOf := goodIn_r _ [8, 9] (by decide +kernel) (by decide +kernel)
set_option maxRecDepth 20000 in
theorem gX12_layHome_X12_secondsOf : GoodIn wsX12_layHome (va_wsS RX12 187 yX12_secondsOf wsX12_secondsOf) := goodIn_app (goodIn_of _ (by decide +kernel)) ggX12_layHome_X12_secondsOf
set_option maxRecDepth 20000 in
theorem ggX12_layHome_X12_crosses : GoodIn wsX12_layHome wsX12_crosses := goodIn_r _ [13, 14, 15, 32, 33, 34, 35, 36, 37, 38, 39, 40, 41, 42, 43, 44, 45, 46, 47, 48, 49, 50, 51, 52, 53, 54, 55, 56, 57, 58, 59, 60, 61, 62] (by decide +kernel) (by decide +kernel)
set_option maxRecDepth 20000 in
theorem gX12_layHome_X12_crosses : GoodIn wsX12_layHome (wsV RX12 203 RX12 yX12_crosses wsX12_crosses) := goodIn_app (goodIn_of _ (by decide +kernel)) ggX12_layHome_X12_crosses
set_option maxRecDepth 20000 in
theorem ggX12_layHome_X12_bestOver : GoodIn wsX12_layHome wsX12_bestOver := goodIn_r _ [19, 20, 21, 22, 7, 23, 3, 24, 4, 25, 26, 27, 28, 2, 29, 30, 31, 32, 33, 34, 35, 36, 37, 38, 39, 40, 41, 42, 43, 44, 45, 46, 47, 48, 49, 50, 51, 52, 53, 54, 55, 56, 57, 58, 59, 60, 61, 62] (by decide +kernel) (by decide +kernel)
set_option maxRecDepth 20000 in
theorem gX12_layHome_X12_bestOver : GoodIn wsX12_layHome (wsV RX12 209 RX12 yX12_bestOver wsX12_bestOver) := goodIn_app (goodIn_of _ (by decide +kernel)) ggX12_layHome_X12_bestOver
theorem dX12_layHome_0 : decode cX12_layHome 0 = .ok (.aload_n 0, 1) := by decide +kernel
theorem dX12_layHome_1 : decode cX12_layHome 1 = .ok (.getfield 67, 3) := by decide +kernel
theorem dX12_layHome_4 : decode cX12_layHome 4 = .ok (.iconst 1, 1) := by decide +kernel
theorem dX12_layHome_5 : decode cX12_layHome 5 = .ok (.isub, 1) := by decide +kernel
theorem dX12_layHome_6 : decode cX12_layHome 6 = .ok (.istore_n 2, 1) := by decide +kernel
theorem dX12_layHome_7 : decode cX12_layHome 7 = .ok (.iload_n 2, 1) := by decide +kernel
theorem dX12_layHome_8 : decode cX12_layHome 8 = .ok (.ifCond .lt 136, 3) := by decide +kernel
theorem dX12_layHome_11 : decode cX12_layHome 11 = .ok (.iconst 0, 1) := by decide +kernel
theorem dX12_layHome_12 : decode cX12_layHome 12 = .ok (.istore_n 3, 1) := by decide +kernel
theorem dX12_layHome_13 : decode cX12_layHome 13 = .ok (.iload_n 3, 1) := by decide +kernel
theorem dX12_layHome_14 : decode cX12_layHome 14 = .ok (.aload_n 0, 1) := by decide +kernel
theorem dX12_layHome_15 : decode cX12_layHome 15 = .ok (.getfield 63, 3) := by decide +kernel
theorem dX12_layHome_18 : decode cX12_layHome 18 = .ok (.if_icmp .ge 120, 3) := by decide +kernel
theorem dX12_layHome_21 : decode cX12_layHome 21 = .ok (.aload_n 0, 1) := by decide +kernel
theorem dX12_layHome_22 : decode cX12_layHome 22 = .ok (.getfield 13, 3) := by decide +kernel
theorem dX12_layHome_25 : decode cX12_layHome 25 = .ok (.bipush 12, 2) := by decide +kernel
theorem dX12_layHome_27 : decode cX12_layHome 27 = .ok (.iload_n 3, 1) := by decide +kernel
theorem dX12_layHome_28 : decode cX12_layHome 28 = .ok (.imul, 1) := by decide +kernel
theorem dX12_layHome_29 : decode cX12_layHome 29 = .ok (.iload_n 2, 1) := by decide +kernel
theorem dX12_layHome_30 : decode cX12_layHome 30 = .ok (.iadd, 1) := by decide +kernel
theorem dX12_layHome_31 : decode cX12_layHome 31 = .ok (.iaload, 1) := by decide +kernel
theorem dX12_layHome_32 : decode cX12_layHome 32 = .ok (.istore 4, 2) := by decide +kernel
theorem dX12_layHome_34 : decode cX12_layHome 34 = .ok (.iconst 0, 1) := by decide +kernel
theorem dX12_layHome_35 : decode cX12_layHome 35 = .ok (.istore 5, 2) := by decide +kernel
theorem dX12_layHome_37 : decode cX12_layHome 37 = .ok (.iload 5, 2) := by decide +kernel
theorem dX12_layHome_39 : decode cX12_layHome 39 = .ok (.sipush 256, 3) := by decide +kernel
theorem dX12_layHome_42 : decode cX12_layHome 42 = .ok (.if_icmp .ge 90, 3) := by decide +kernel
theorem dX12_layHome_45 : decode cX12_layHome 45 = .ok (.iload 5, 2) := by decide +kernel
theorem dX12_layHome_47 : decode cX12_layHome 47 = .ok (.iload 4, 2) := by decide +kernel
theorem dX12_layHome_49 : decode cX12_layHome 49 = .ok (.invokestatic 187, 3) := by decide +kernel
theorem dX12_layHome_52 : decode cX12_layHome 52 = .ok (.iadd, 1) := by decide +kernel
theorem dX12_layHome_53 : decode cX12_layHome 53 = .ok (.istore 6, 2) := by decide +kernel
theorem dX12_layHome_55 : decode cX12_layHome 55 = .ok (.lconst 0, 1) := by decide +kernel
theorem dX12_layHome_56 : decode cX12_layHome 56 = .ok (.lstore 7, 2) := by decide +kernel
theorem dX12_layHome_58 : decode cX12_layHome 58 = .ok (.iload 6, 2) := by decide +kernel
theorem dX12_layHome_60 : decode cX12_layHome 60 = .ok (.iload_n 1, 1) := by decide +kernel
theorem dX12_layHome_61 : decode cX12_layHome 61 = .ok (.if_icmp .gt 36, 3) := by decide +kernel
theorem dX12_layHome_64 : decode cX12_layHome 64 = .ok (.aload_n 0, 1) := by decide +kernel
theorem dX12_layHome_65 : decode cX12_layHome 65 = .ok (.iload 4, 2) := by decide +kernel
theorem dX12_layHome_67 : decode cX12_layHome 67 = .ok (.invokevirtual 203, 3) := by decide +kernel
theorem dX12_layHome_70 : decode cX12_layHome 70 = .ok (.ifCond .le 27, 3) := by decide +kernel
theorem dX12_layHome_73 : decode cX12_layHome 73 = .ok (.iload_n 2, 1) := by decide +kernel
theorem dX12_layHome_74 : decode cX12_layHome 74 = .ok (.aload_n 0, 1) := by decide +kernel
theorem dX12_layHome_75 : decode cX12_layHome 75 = .ok (.getfield 67, 3) := by decide +kernel
theorem dX12_layHome_78 : decode cX12_layHome 78 = .ok (.iconst 1, 1) := by decide +kernel
theorem dX12_layHome_79 : decode cX12_layHome 79 = .ok (.isub, 1) := by decide +kernel
theorem dX12_layHome_80 : decode cX12_layHome 80 = .ok (.if_icmp .ne 7, 3) := by decide +kernel
theorem dX12_layHome_83 : decode cX12_layHome 83 = .ok (.lconst 1, 1) := by decide +kernel
theorem dX12_layHome_84 : decode cX12_layHome 84 = .ok (.goto 11, 3) := by decide +kernel
theorem dX12_layHome_87 : decode cX12_layHome 87 = .ok (.aload_n 0, 1) := by decide +kernel
theorem dX12_layHome_88 : decode cX12_layHome 88 = .ok (.iload_n 2, 1) := by decide +kernel
theorem dX12_layHome_89 : decode cX12_layHome 89 = .ok (.iload_n 3, 1) := by decide +kernel
theorem dX12_layHome_90 : decode cX12_layHome 90 = .ok (.iload 6, 2) := by decide +kernel
theorem dX12_layHome_92 : decode cX12_layHome 92 = .ok (.invokevirtual 209, 3) := by decide +kernel
theorem dX12_layHome_95 : decode cX12_layHome 95 = .ok (.lstore 7, 2) := by decide +kernel
theorem dX12_layHome_97 : decode cX12_layHome 97 = .ok (.aload_n 0, 1) := by decide +kernel
theorem dX12_layHome_98 : decode cX12_layHome 98 = .ok (.getfield 32, 3) := by decide +kernel
theorem dX12_layHome_101 : decode cX12_layHome 101 = .ok (.sipush 1024, 3) := by decide +kernel
theorem dX12_layHome_104 : decode cX12_layHome 104 = .ok (.iload_n 2, 1) := by decide +kernel
theorem dX12_layHome_105 : decode cX12_layHome 105 = .ok (.imul, 1) := by decide +kernel
theorem dX12_layHome_106 : decode cX12_layHome 106 = .ok (.sipush 256, 3) := by decide +kernel
theorem dX12_layHome_109 : decode cX12_layHome 109 = .ok (.iload_n 3, 1) := by decide +kernel
theorem dX12_layHome_110 : decode cX12_layHome 110 = .ok (.imul, 1) := by decide +kernel
theorem dX12_layHome_111 : decode cX12_layHome 111 = .ok (.iadd, 1) := by decide +kernel
theorem dX12_layHome_112 : decode cX12_layHome 112 = .ok (.iload 5, 2) := by decide +kernel
theorem dX12_layHome_114 : decode cX12_layHome 114 = .ok (.iadd, 1) := by decide +kernel
theorem dX12_layHome_115 : decode cX12_layHome 115 = .ok (.aload_n 0, 1) := by decide +kernel
theorem dX12_layHome_116 : decode cX12_layHome 116 = .ok (.iload 4, 2) := by decide +kernel
theorem dX12_layHome_118 : decode cX12_layHome 118 = .ok (.invokevirtual 203, 3) := by decide +kernel
theorem dX12_layHome_121 : decode cX12_layHome 121 = .ok (.i2l, 1) := by decide +kernel
theorem dX12_layHome_122 : decode cX12_layHome 122 = .ok (.lload 7, 2) := by decide +kernel
theorem dX12_layHome_124 : decode cX12_layHome 124 = .ok (.lmul, 1) := by decide +kernel
theorem dX12_layHome_125 : decode cX12_layHome 125 = .ok (.lastore, 1) := by decide +kernel
theorem dX12_layHome_126 : decode cX12_layHome 126 = .ok (.iinc 5 1, 3) := by decide +kernel
theorem dX12_layHome_129 : decode cX12_layHome 129 = .ok (.goto (-92), 3) := by decide +kernel
theorem dX12_layHome_132 : decode cX12_layHome 132 = .ok (.iinc 3 1, 3) := by decide +kernel
theorem dX12_layHome_135 : decode cX12_layHome 135 = .ok (.goto (-122), 3) := by decide +kernel
theorem dX12_layHome_138 : decode cX12_layHome 138 = .ok (.iinc 2 (-1), 3) := by decide +kernel
theorem dX12_layHome_141 : decode cX12_layHome 141 = .ok (.goto (-134), 3) := by decide +kernel
theorem dX12_layHome_144 : decode cX12_layHome 144 = .ok (.return_, 1) := by decide +kernel
set_option maxRecDepth 20000 in
theorem ggX12_bestOver_X12_over : GoodIn wsX12_bestOver wsX12_over := goodIn_r _ [5, 6, 7, 8, 9, 10, 11, 4, 12, 13, 14, 15, 16, 17, 18, 19, 20, 21, 22, 23, 24, 25, 26, 27, 28, 29, 30, 31, 32, 33, 34, 35, 36, 37, 38, 39, 40, 41, 42, 43, 44, 45, 46, 47] (by decide +kernel) (by decide +kernel)
set_option maxRecDepth 20000 in
theorem gX12_bestOver_X12_over : GoodIn wsX12_bestOver (wsV RX12 213 RX12 yX12_over wsX12_over) := goodIn_app (goodIn_of _ (by decide +kernel)) ggX12_bestOver_X12_over
theorem dX12_bestOver_0 : decode cX12_bestOver 0 = .ok (.aload_n 0, 1) := by decide +kernel
theorem dX12_bestOver_1 : decode cX12_bestOver 1 = .ok (.iload_n 1, 1) := by decide +kernel
theorem dX12_bestOver_2 : decode cX12_bestOver 2 = .ok (.iload_n 2, 1) := by decide +kernel
theorem dX12_bestOver_3 : decode cX12_bestOver 3 = .ok (.iload_n 2, 1) := by decide +kernel
theorem dX12_bestOver_4 : decode cX12_bestOver 4 = .ok (.iload_n 3, 1) := by decide +kernel
theorem dX12_bestOver_5 : decode cX12_bestOver 5 = .ok (.invokevirtual 213, 3) := by decide +kernel
theorem dX12_bestOver_8 : decode cX12_bestOver 8 = .ok (.lstore 4, 2) := by decide +kernel
theorem dX12_bestOver_10 : decode cX12_bestOver 10 = .ok (.aload_n 0, 1) := by decide +kernel
theorem dX12_bestOver_11 : decode cX12_bestOver 11 = .ok (.iload_n 1, 1) := by decide +kernel
theorem dX12_bestOver_12 : decode cX12_bestOver 12 = .ok (.iload_n 2, 1) := by decide +kernel
theorem dX12_bestOver_13 : decode cX12_bestOver 13 = .ok (.iload_n 2, 1) := by decide +kernel
theorem dX12_bestOver_14 : decode cX12_bestOver 14 = .ok (.iconst 1, 1) := by decide +kernel
theorem dX12_bestOver_15 : decode cX12_bestOver 15 = .ok (.isub, 1) := by decide +kernel
theorem dX12_bestOver_16 : decode cX12_bestOver 16 = .ok (.iload_n 3, 1) := by decide +kernel
theorem dX12_bestOver_17 : decode cX12_bestOver 17 = .ok (.invokevirtual 213, 3) := by decide +kernel
theorem dX12_bestOver_20 : decode cX12_bestOver 20 = .ok (.lstore 6, 2) := by decide +kernel
theorem dX12_bestOver_22 : decode cX12_bestOver 22 = .ok (.aload_n 0, 1) := by decide +kernel
theorem dX12_bestOver_23 : decode cX12_bestOver 23 = .ok (.iload_n 1, 1) := by decide +kernel
theorem dX12_bestOver_24 : decode cX12_bestOver 24 = .ok (.iload_n 2, 1) := by decide +kernel
theorem dX12_bestOver_25 : decode cX12_bestOver 25 = .ok (.iload_n 2, 1) := by decide +kernel
theorem dX12_bestOver_26 : decode cX12_bestOver 26 = .ok (.iconst 1, 1) := by decide +kernel
theorem dX12_bestOver_27 : decode cX12_bestOver 27 = .ok (.iadd, 1) := by decide +kernel
theorem dX12_bestOver_28 : decode cX12_bestOver 28 = .ok (.iload_n 3, 1) := by decide +kernel
theorem dX12_bestOver_29 : decode cX12_bestOver 29 = .ok (.invokevirtual 213, 3) := by decide +kernel
theorem dX12_bestOver_32 : decode cX12_bestOver 32 = .ok (.lstore 8, 2) := by decide +kernel
theorem dX12_bestOver_34 : decode cX12_bestOver 34 = .ok (.lload 6, 2) := by decide +kernel
theorem dX12_bestOver_36 : decode cX12_bestOver 36 = .ok (.lload 4, 2) := by decide +kernel
theorem dX12_bestOver_38 : decode cX12_bestOver 38 = .ok (.lcmp, 1) := by decide +kernel
theorem dX12_bestOver_39 : decode cX12_bestOver 39 = .ok (.ifCond .le 8, 3) := by decide +kernel
theorem dX12_bestOver_42 : decode cX12_bestOver 42 = .ok (.lload 6, 2) := by decide +kernel
theorem dX12_bestOver_44 : decode cX12_bestOver 44 = .ok (.goto 5, 3) := by decide +kernel
theorem dX12_bestOver_47 : decode cX12_bestOver 47 = .ok (.lload 4, 2) := by decide +kernel
theorem dX12_bestOver_49 : decode cX12_bestOver 49 = .ok (.lstore 10, 2) := by decide +kernel
theorem dX12_bestOver_51 : decode cX12_bestOver 51 = .ok (.lload 8, 2) := by decide +kernel
theorem dX12_bestOver_53 : decode cX12_bestOver 53 = .ok (.lload 10, 2) := by decide +kernel
theorem dX12_bestOver_55 : decode cX12_bestOver 55 = .ok (.lcmp, 1) := by decide +kernel
theorem dX12_bestOver_56 : decode cX12_bestOver 56 = .ok (.ifCond .le 8, 3) := by decide +kernel
theorem dX12_bestOver_59 : decode cX12_bestOver 59 = .ok (.lload 8, 2) := by decide +kernel
theorem dX12_bestOver_61 : decode cX12_bestOver 61 = .ok (.goto 5, 3) := by decide +kernel
theorem dX12_bestOver_64 : decode cX12_bestOver 64 = .ok (.lload 10, 2) := by decide +kernel
theorem dX12_bestOver_66 : decode cX12_bestOver 66 = .ok (.lreturn, 1) := by decide +kernel
set_option maxRecDepth 20000 in
theorem ggX12_home_X12_isBoat : GoodIn wsX12_home wsX12_isBoat := goodIn_r _ [7, 8, 9, 10, 6, 11, 88, 89, 90, 91, 92, 93, 94, 95, 96, 97, 98, 99, 100, 101, 102, 103, 104, 105, 106, 107, 108, 109, 110, 111, 112, 113, 114, 115, 116, 117, 118] (by decide +kernel) (by decide +kernel)
set_option maxRecDepth 20000 in
theorem gX12_home_X12_isBoat : GoodIn wsX12_home (wsV RX12 125 RX12 yX12_isBoat wsX12_isBoat) := goodIn_app (goodIn_of _ (by decide +kernel)) ggX12_home_X12_isBoat
set_option maxRecDepth 20000 in
theorem ggX12_home_X12_isLane : GoodIn wsX12_home wsX12_isLane := goodIn_r _ [15, 16, 9, 10, 6, 11, 88, 89, 90, 91, 92, 93, 94, 95, 96, 97, 98, 99, 100, 101, 102, 103, 104, 105, 106, 107, 108, 109, 110, 111, 112, 113, 114, 115, 116, 117, 118] (by decide +kernel) (by decide +kernel)
set_option maxRecDepth 20000 in
theorem gX12_home_X12_isLane : GoodIn wsX12_home (wsV RX12 105 RX12 yX12_isLane wsX12_isLane) := goodIn_app (goodIn_of _ (by decide +kernel)) ggX12_home_X12_isLane
set_option maxRecDepth 20000 in
theorem ggX12_home_X12_lifeOf : GoodIn wsX12_home wsX12_lifeOf := goodIn_r _ [20, 21, 22, 23, 24, 6, 25, 26, 27, 28, 29, 30, 31, 32, 33, 34, 35, 36, 37, 38, 39, 40, 41, 42, 43, 44, 45, 46, 47, 48, 49, 50, 51, 52, 53, 54, 55, 88, 89, 90, 91, 92, 93, 94, 95, 96, 97, 98, 99, 100, 101, 102, 103, 104, 105, 106, 107, 108, 109, 110, 111, 112, 113, 114, 115, 116, 117, 118] (by decide +kernel) (by decide +kernel)
set_option maxRecDepth 20000 in
theorem gX12_home_X12_lifeOf : GoodIn wsX12_home (wsV RX12 177 RX12 yX12_lifeOf wsX12_lifeOf) := goodIn_app (goodIn_of _ (by decide +kernel)) ggX12_home_X12_lifeOf
set_option maxRecDepth 20000 in
theorem ggX12_home_X12_layHome : GoodIn wsX12_home wsX12_layHome := goodIn_r _ [59, 60, 16, 61, 2, 62, 63, 6, 64, 65, 66, 67, 68, 69, 70, 71, 72, 73, 74, 75, 76, 77, 78, 79, 1, 12, 13, 14, 15, 9, 10, 11, 88, 89, 90, 91, 92, 93, 94, 95, 96, 97, 98, 99, 100, 101, 102, 103, 104, 105, 106, 107, 108, 109, 110, 111, 112, 113, 114, 115, 116, 117, 118] (by decide +kernel) (by decide +kernel)
set_option maxRecDepth 20000 in
theorem gX12_home_X12_layHome : GoodIn wsX12_home (wsV RX12 217 RX12 yX12_layHome wsX12_layHome) := goodIn_app (goodIn_of _ (by decide +kernel)) ggX12_home_X12_layHome
set_option maxRecDepth 20000 in
theorem ggX12_home_X12_whole : GoodIn wsX12_home wsX12_whole := goodIn_r _ [83, 60, 84, 88, 89, 90, 91, 92, 93, 94, 95, 96, 97, 98, 99, 100, 101, 102, 103, 104, 105, 106, 107, 108, 109, 110, 111, 112, 113, 114, 115, 116, 117, 118] (by decide +kernel) (by decide +kernel)
set_option maxRecDepth 20000 in
theorem gX12_home_X12_whole : GoodIn wsX12_home (wsV RX12 195 RX12 yX12_whole wsX12_whole) := goodIn_app (goodIn_of _ (by decide +kernel)) ggX12_home_X12_whole
set_option maxRecDepth 20000 in
theorem ggX12_home_X12_part : GoodIn wsX12_home wsX12_part := goodIn_r _ [87] (by decide +kernel) (by decide +kernel)
set_option maxRecDepth 20000 in
theorem gX12_home_X12_part : GoodIn wsX12_home (va_wsS RX12 163 yX12_part wsX12_part) := goodIn_app (goodIn_of _ (by decide +kernel)) ggX12_home_X12_part
theorem dX12_home_0 : decode cX12_home 0 = .ok (.aload_n 0, 1) := by decide +kernel
theorem dX12_home_1 : decode cX12_home 1 = .ok (.iload_n 1, 1) := by decide +kernel
theorem dX12_home_2 : decode cX12_home 2 = .ok (.invokevirtual 125, 3) := by decide +kernel
theorem dX12_home_5 : decode cX12_home 5 = .ok (.ifCond .eq 11, 3) := by decide +kernel
theorem dX12_home_8 : decode cX12_home 8 = .ok (.aload_n 0, 1) := by decide +kernel
theorem dX12_home_9 : decode cX12_home 9 = .ok (.iload_n 2, 1) := by decide +kernel
theorem dX12_home_10 : decode cX12_home 10 = .ok (.invokevirtual 105, 3) := by decide +kernel
theorem dX12_home_13 : decode cX12_home 13 = .ok (.ifCond .ne 7, 3) := by decide +kernel
theorem dX12_home_16 : decode cX12_home 16 = .ok (.ldc2_w 151, 3) := by decide +kernel
theorem dX12_home_19 : decode cX12_home 19 = .ok (.lreturn, 1) := by decide +kernel
theorem dX12_home_20 : decode cX12_home 20 = .ok (.aload_n 0, 1) := by decide +kernel
theorem dX12_home_21 : decode cX12_home 21 = .ok (.aload_n 0, 1) := by decide +kernel
theorem dX12_home_22 : decode cX12_home 22 = .ok (.iload_n 1, 1) := by decide +kernel
theorem dX12_home_23 : decode cX12_home 23 = .ok (.invokevirtual 177, 3) := by decide +kernel
theorem dX12_home_26 : decode cX12_home 26 = .ok (.invokevirtual 217, 3) := by decide +kernel
theorem dX12_home_29 : decode cX12_home 29 = .ok (.aload_n 0, 1) := by decide +kernel
theorem dX12_home_30 : decode cX12_home 30 = .ok (.getfield 32, 3) := by decide +kernel
theorem dX12_home_33 : decode cX12_home 33 = .ok (.sipush 256, 3) := by decide +kernel
theorem dX12_home_36 : decode cX12_home 36 = .ok (.iload_n 2, 1) := by decide +kernel
theorem dX12_home_37 : decode cX12_home 37 = .ok (.imul, 1) := by decide +kernel
theorem dX12_home_38 : decode cX12_home 38 = .ok (.laload, 1) := by decide +kernel
theorem dX12_home_39 : decode cX12_home 39 = .ok (.aload_n 0, 1) := by decide +kernel
theorem dX12_home_40 : decode cX12_home 40 = .ok (.invokevirtual 195, 3) := by decide +kernel
theorem dX12_home_43 : decode cX12_home 43 = .ok (.iload_n 3, 1) := by decide +kernel
theorem dX12_home_44 : decode cX12_home 44 = .ok (.invokestatic 163, 3) := by decide +kernel
theorem dX12_home_47 : decode cX12_home 47 = .ok (.lreturn, 1) := by decide +kernel
set_option maxRecDepth 20000 in
theorem ggX12_first_X12_isBoat : GoodIn wsX12_first wsX12_isBoat := goodIn_r _ [8, 9, 10, 11, 7, 12, 80, 81, 82, 83, 84, 85, 86, 87, 88, 89, 90, 91, 92, 93, 94, 95, 96, 97, 98, 99, 100, 101, 102, 103, 104, 105, 106, 107, 108, 109, 110] (by decide +kernel) (by decide +kernel)
set_option maxRecDepth 20000 in
theorem gX12_first_X12_isBoat : GoodIn wsX12_first (wsV RX12 125 RX12 yX12_isBoat wsX12_isBoat) := goodIn_app (goodIn_of _ (by decide +kernel)) ggX12_first_X12_isBoat
set_option maxRecDepth 20000 in
theorem ggX12_first_X12_isLane : GoodIn wsX12_first wsX12_isLane := goodIn_r _ [16, 17, 10, 11, 7, 12, 80, 81, 82, 83, 84, 85, 86, 87, 88, 89, 90, 91, 92, 93, 94, 95, 96, 97, 98, 99, 100, 101, 102, 103, 104, 105, 106, 107, 108, 109, 110] (by decide +kernel) (by decide +kernel)
set_option maxRecDepth 20000 in
theorem gX12_first_X12_isLane : GoodIn wsX12_first (wsV RX12 105 RX12 yX12_isLane wsX12_isLane) := goodIn_app (goodIn_of _ (by decide +kernel)) ggX12_first_X12_isLane
set_option maxRecDepth 20000 in
theorem ggX12_first_X12_lifeOf : GoodIn wsX12_first wsX12_lifeOf := goodIn_r _ [21, 22, 23, 24, 25, 7, 26, 27, 28, 29, 30, 31, 32, 33, 34, 35, 36, 37, 38, 39, 40, 41, 42, 43, 44, 45, 46, 47, 48, 49, 50, 51, 52, 53, 54, 55, 56, 80, 81, 82, 83, 84, 85, 86, 87, 88, 89, 90, 91, 92, 93, 94, 95, 96, 97, 98, 99, 100, 101, 102, 103, 104, 105, 106, 107, 108, 109, 110] (by decide +kernel) (by decide +kernel)
set_option maxRecDepth 20000 in
theorem gX12_first_X12_lifeOf : GoodIn wsX12_first (wsV RX12 177 RX12 yX12_lifeOf wsX12_lifeOf) := goodIn_app (goodIn_of _ (by decide +kernel)) ggX12_first_X12_lifeOf
set_option maxRecDepth 20000 in
theorem ggX12_first_X12_layHome : GoodIn wsX12_first wsX12_layHome := goodIn_r _ [60, 1, 17, 2, 3, 61, 62, 7, 63, 64, 65, 66, 67, 68, 69, 70, 71, 72, 73, 74, 75, 76, 77, 78, 79, 13, 14, 15, 16, 10, 11, 12, 80, 81, 82, 83, 84, 85, 86, 87, 88, 89, 90, 91, 92, 93, 94, 95, 96, 97, 98, 99, 100, 101, 102, 103, 104, 105, 106, 107, 108, 109, 110] (by decide +kernel) (by decide +kernel)
set_option maxRecDepth 20000 in
theorem gX12_first_X12_layHome : GoodIn wsX12_first (wsV RX12 217 RX12 yX12_layHome wsX12_layHome) := goodIn_app (goodIn_of _ (by decide +kernel)) ggX12_first_X12_layHome
set_option maxRecDepth 20000 in
theorem ggX12_first_X12_secondsOf : GoodIn wsX12_first wsX12_secondsOf := goodIn_r _ [63, 64] (by decide +kernel) (by decide +kernel)
set_option maxRecDepth 20000 in
theorem gX12_first_X12_secondsOf : GoodIn wsX12_first (va_wsS RX12 187 yX12_secondsOf wsX12_secondsOf) := goodIn_app (goodIn_of _ (by decide +kernel)) ggX12_first_X12_secondsOf
set_option maxRecDepth 20000 in
theorem ggX12_first_X12_bestOver : GoodIn wsX12_first wsX12_bestOver := goodIn_r _ [74, 75, 76, 77, 7, 78, 2, 79, 3, 13, 14, 15, 16, 17, 10, 11, 12, 80, 81, 82, 83, 84, 85, 86, 87, 88, 89, 90, 91, 92, 93, 94, 95, 96, 97, 98, 99, 100, 101, 102, 103, 104, 105, 106, 107, 108, 109, 110] (by decide +kernel) (by decide +kernel)
set_option maxRecDepth 20000 in
theorem gX12_first_X12_bestOver : GoodIn wsX12_first (wsV RX12 209 RX12 yX12_bestOver wsX12_bestOver) := goodIn_app (goodIn_of _ (by decide +kernel)) ggX12_first_X12_bestOver
set_option maxRecDepth 20000 in
theorem ggX12_first_X12_over : GoodIn wsX12_first wsX12_over := goodIn_r _ [78, 2, 79, 3, 13, 14, 15, 7, 16, 17, 10, 11, 12, 80, 81, 82, 83, 84, 85, 86, 87, 88, 89, 90, 91, 92, 93, 94, 95, 96, 97, 98, 99, 100, 101, 102, 103, 104, 105, 106, 107, 108, 109, 110] (by decide +kernel) (by decide +kernel)
set_option maxRecDepth 20000 in
theorem gX12_first_X12_over : GoodIn wsX12_first (wsV RX12 213 RX12 yX12_over wsX12_over) := goodIn_app (goodIn_of _ (by decide +kernel)) ggX12_first_X12_over
theorem dX12_first_0 : decode cX12_first 0 = .ok (.aload_n 0, 1) := by decide +kernel
theorem dX12_first_1 : decode cX12_first 1 = .ok (.iload_n 1, 1) := by decide +kernel
theorem dX12_first_2 : decode cX12_first 2 = .ok (.invokevirtual 125, 3) := by decide +kernel
theorem dX12_first_5 : decode cX12_first 5 = .ok (.ifCond .eq 11, 3) := by decide +kernel
theorem dX12_first_8 : decode cX12_first 8 = .ok (.aload_n 0, 1) := by decide +kernel
theorem dX12_first_9 : decode cX12_first 9 = .ok (.iload_n 2, 1) := by decide +kernel
theorem dX12_first_10 : decode cX12_first 10 = .ok (.invokevirtual 105, 3) := by decide +kernel
theorem dX12_first_13 : decode cX12_first 13 = .ok (.ifCond .ne 5, 3) := by decide +kernel
theorem dX12_first_16 : decode cX12_first 16 = .ok (.iconst (-1), 1) := by decide +kernel
theorem dX12_first_17 : decode cX12_first 17 = .ok (.ireturn, 1) := by decide +kernel
theorem dX12_first_18 : decode cX12_first 18 = .ok (.aload_n 0, 1) := by decide +kernel
theorem dX12_first_19 : decode cX12_first 19 = .ok (.getfield 67, 3) := by decide +kernel
theorem dX12_first_22 : decode cX12_first 22 = .ok (.iconst 1, 1) := by decide +kernel
theorem dX12_first_23 : decode cX12_first 23 = .ok (.if_icmp .ne 6, 3) := by decide +kernel
theorem dX12_first_26 : decode cX12_first 26 = .ok (.bipush (-3), 2) := by decide +kernel
theorem dX12_first_28 : decode cX12_first 28 = .ok (.ireturn, 1) := by decide +kernel
theorem dX12_first_29 : decode cX12_first 29 = .ok (.aload_n 0, 1) := by decide +kernel
theorem dX12_first_30 : decode cX12_first 30 = .ok (.aload_n 0, 1) := by decide +kernel
theorem dX12_first_31 : decode cX12_first 31 = .ok (.iload_n 1, 1) := by decide +kernel
theorem dX12_first_32 : decode cX12_first 32 = .ok (.invokevirtual 177, 3) := by decide +kernel
theorem dX12_first_35 : decode cX12_first 35 = .ok (.invokevirtual 217, 3) := by decide +kernel
theorem dX12_first_38 : decode cX12_first 38 = .ok (.aload_n 0, 1) := by decide +kernel
theorem dX12_first_39 : decode cX12_first 39 = .ok (.getfield 13, 3) := by decide +kernel
theorem dX12_first_42 : decode cX12_first 42 = .ok (.bipush 12, 2) := by decide +kernel
theorem dX12_first_44 : decode cX12_first 44 = .ok (.iload_n 2, 1) := by decide +kernel
theorem dX12_first_45 : decode cX12_first 45 = .ok (.imul, 1) := by decide +kernel
theorem dX12_first_46 : decode cX12_first 46 = .ok (.iaload, 1) := by decide +kernel
theorem dX12_first_47 : decode cX12_first 47 = .ok (.invokestatic 187, 3) := by decide +kernel
theorem dX12_first_50 : decode cX12_first 50 = .ok (.istore_n 3, 1) := by decide +kernel
theorem dX12_first_51 : decode cX12_first 51 = .ok (.aload_n 0, 1) := by decide +kernel
theorem dX12_first_52 : decode cX12_first 52 = .ok (.getfield 32, 3) := by decide +kernel
theorem dX12_first_55 : decode cX12_first 55 = .ok (.sipush 256, 3) := by decide +kernel
theorem dX12_first_58 : decode cX12_first 58 = .ok (.iload_n 2, 1) := by decide +kernel
theorem dX12_first_59 : decode cX12_first 59 = .ok (.imul, 1) := by decide +kernel
theorem dX12_first_60 : decode cX12_first 60 = .ok (.laload, 1) := by decide +kernel
theorem dX12_first_61 : decode cX12_first 61 = .ok (.lconst 0, 1) := by decide +kernel
theorem dX12_first_62 : decode cX12_first 62 = .ok (.lcmp, 1) := by decide +kernel
theorem dX12_first_63 : decode cX12_first 63 = .ok (.ifCond .ne 5, 3) := by decide +kernel
theorem dX12_first_66 : decode cX12_first 66 = .ok (.iload_n 2, 1) := by decide +kernel
theorem dX12_first_67 : decode cX12_first 67 = .ok (.ireturn, 1) := by decide +kernel
theorem dX12_first_68 : decode cX12_first 68 = .ok (.aload_n 0, 1) := by decide +kernel
theorem dX12_first_69 : decode cX12_first 69 = .ok (.iconst 0, 1) := by decide +kernel
theorem dX12_first_70 : decode cX12_first 70 = .ok (.iload_n 2, 1) := by decide +kernel
theorem dX12_first_71 : decode cX12_first 71 = .ok (.iload_n 3, 1) := by decide +kernel
theorem dX12_first_72 : decode cX12_first 72 = .ok (.invokevirtual 209, 3) := by decide +kernel
theorem dX12_first_75 : decode cX12_first 75 = .ok (.lstore 4, 2) := by decide +kernel
theorem dX12_first_77 : decode cX12_first 77 = .ok (.aload_n 0, 1) := by decide +kernel
theorem dX12_first_78 : decode cX12_first 78 = .ok (.iconst 0, 1) := by decide +kernel
theorem dX12_first_79 : decode cX12_first 79 = .ok (.iload_n 2, 1) := by decide +kernel
theorem dX12_first_80 : decode cX12_first 80 = .ok (.iload_n 2, 1) := by decide +kernel
theorem dX12_first_81 : decode cX12_first 81 = .ok (.iload_n 3, 1) := by decide +kernel
theorem dX12_first_82 : decode cX12_first 82 = .ok (.invokevirtual 213, 3) := by decide +kernel
theorem dX12_first_85 : decode cX12_first 85 = .ok (.lload 4, 2) := by decide +kernel
theorem dX12_first_87 : decode cX12_first 87 = .ok (.lcmp, 1) := by decide +kernel
theorem dX12_first_88 : decode cX12_first 88 = .ok (.ifCond .ne 7, 3) := by decide +kernel
theorem dX12_first_91 : decode cX12_first 91 = .ok (.iload_n 2, 1) := by decide +kernel
theorem dX12_first_92 : decode cX12_first 92 = .ok (.goto 28, 3) := by decide +kernel
theorem dX12_first_95 : decode cX12_first 95 = .ok (.aload_n 0, 1) := by decide +kernel
theorem dX12_first_96 : decode cX12_first 96 = .ok (.iconst 0, 1) := by decide +kernel
theorem dX12_first_97 : decode cX12_first 97 = .ok (.iload_n 2, 1) := by decide +kernel
theorem dX12_first_98 : decode cX12_first 98 = .ok (.iload_n 2, 1) := by decide +kernel
theorem dX12_first_99 : decode cX12_first 99 = .ok (.iconst 1, 1) := by decide +kernel
theorem dX12_first_100 : decode cX12_first 100 = .ok (.isub, 1) := by decide +kernel
theorem dX12_first_101 : decode cX12_first 101 = .ok (.iload_n 3, 1) := by decide +kernel
theorem dX12_first_102 : decode cX12_first 102 = .ok (.invokevirtual 213, 3) := by decide +kernel
theorem dX12_first_105 : decode cX12_first 105 = .ok (.lload 4, 2) := by decide +kernel
theorem dX12_first_107 : decode cX12_first 107 = .ok (.lcmp, 1) := by decide +kernel
theorem dX12_first_108 : decode cX12_first 108 = .ok (.ifCond .ne 9, 3) := by decide +kernel
theorem dX12_first_111 : decode cX12_first 111 = .ok (.iload_n 2, 1) := by decide +kernel
theorem dX12_first_112 : decode cX12_first 112 = .ok (.iconst 1, 1) := by decide +kernel
theorem dX12_first_113 : decode cX12_first 113 = .ok (.isub, 1) := by decide +kernel
theorem dX12_first_114 : decode cX12_first 114 = .ok (.goto 6, 3) := by decide +kernel
theorem dX12_first_117 : decode cX12_first 117 = .ok (.iload_n 2, 1) := by decide +kernel
theorem dX12_first_118 : decode cX12_first 118 = .ok (.iconst 1, 1) := by decide +kernel
theorem dX12_first_119 : decode cX12_first 119 = .ok (.iadd, 1) := by decide +kernel
theorem dX12_first_120 : decode cX12_first 120 = .ok (.ireturn, 1) := by decide +kernel
set_option maxRecDepth 20000 in
theorem ggX12_best_X12_isBoat : GoodIn wsX12_best wsX12_isBoat := goodIn_r _ [7, 8, 9, 10, 6, 11, 80, 81, 82, 83, 84, 85, 86, 87, 88, 89, 90, 91, 92, 93, 94, 95, 96, 97, 98, 99, 100, 101, 102, 103, 104, 105, 106, 107, 108, 109, 110] (by decide +kernel) (by decide +kernel)
set_option maxRecDepth 20000 in
theorem gX12_best_X12_isBoat : GoodIn wsX12_best (wsV RX12 125 RX12 yX12_isBoat wsX12_isBoat) := goodIn_app (goodIn_of _ (by decide +kernel)) ggX12_best_X12_isBoat
set_option maxRecDepth 20000 in
theorem ggX12_best_X12_lifeOf : GoodIn wsX12_best wsX12_lifeOf := goodIn_r _ [15, 16, 17, 18, 19, 6, 20, 21, 22, 23, 24, 25, 26, 27, 28, 29, 30, 31, 32, 33, 34, 35, 36, 37, 38, 39, 40, 41, 42, 43, 44, 45, 46, 47, 48, 49, 50, 80, 81, 82, 83, 84, 85, 86, 87, 88, 89, 90, 91, 92, 93, 94, 95, 96, 97, 98, 99, 100, 101, 102, 103, 104, 105, 106, 107, 108, 109, 110] (by decide +kernel) (by decide +kernel)
set_option maxRecDepth 20000 in
theorem gX12_best_X12_lifeOf : GoodIn wsX12_best (wsV RX12 177 RX12 yX12_lifeOf wsX12_lifeOf) := goodIn_app (goodIn_of _ (by decide +kernel)) ggX12_best_X12_lifeOf
set_option maxRecDepth 20000 in
theorem ggX12_best_X12_layHome : GoodIn wsX12_best wsX12_layHome := goodIn_r _ [54, 55, 1, 56, 2, 57, 58, 6, 59, 60, 61, 62, 63, 64, 65, 66, 67, 68, 69, 70, 71, 72, 73, 74, 75, 76, 77, 78, 79, 9, 10, 11, 80, 81, 82, 83, 84, 85, 86, 87, 88, 89, 90, 91, 92, 93, 94, 95, 96, 97, 98, 99, 100, 101, 102, 103, 104, 105, 106, 107, 108, 109, 110] (by decide +kernel) (by decide +kernel)
set_option maxRecDepth 20000 in
theorem gX12_best_X12_layHome : GoodIn wsX12_best (wsV RX12 217 RX12 yX12_layHome wsX12_layHome) := goodIn_app (goodIn_of _ (by decide +kernel)) ggX12_best_X12_layHome
theorem dX12_best_0 : decode cX12_best 0 = .ok (.aload_n 0, 1) := by decide +kernel
theorem dX12_best_1 : decode cX12_best 1 = .ok (.iload_n 1, 1) := by decide +kernel
theorem dX12_best_2 : decode cX12_best 2 = .ok (.invokevirtual 125, 3) := by decide +kernel
theorem dX12_best_5 : decode cX12_best 5 = .ok (.ifCond .ne 5, 3) := by decide +kernel
theorem dX12_best_8 : decode cX12_best 8 = .ok (.iconst (-1), 1) := by decide +kernel
theorem dX12_best_9 : decode cX12_best 9 = .ok (.ireturn, 1) := by decide +kernel
theorem dX12_best_10 : decode cX12_best 10 = .ok (.aload_n 0, 1) := by decide +kernel
theorem dX12_best_11 : decode cX12_best 11 = .ok (.aload_n 0, 1) := by decide +kernel
theorem dX12_best_12 : decode cX12_best 12 = .ok (.iload_n 1, 1) := by decide +kernel
theorem dX12_best_13 : decode cX12_best 13 = .ok (.invokevirtual 177, 3) := by decide +kernel
theorem dX12_best_16 : decode cX12_best 16 = .ok (.invokevirtual 217, 3) := by decide +kernel
theorem dX12_best_19 : decode cX12_best 19 = .ok (.iconst 0, 1) := by decide +kernel
theorem dX12_best_20 : decode cX12_best 20 = .ok (.istore_n 2, 1) := by decide +kernel
theorem dX12_best_21 : decode cX12_best 21 = .ok (.iconst 1, 1) := by decide +kernel
theorem dX12_best_22 : decode cX12_best 22 = .ok (.istore_n 3, 1) := by decide +kernel
theorem dX12_best_23 : decode cX12_best 23 = .ok (.iload_n 3, 1) := by decide +kernel
theorem dX12_best_24 : decode cX12_best 24 = .ok (.aload_n 0, 1) := by decide +kernel
theorem dX12_best_25 : decode cX12_best 25 = .ok (.getfield 63, 3) := by decide +kernel
theorem dX12_best_28 : decode cX12_best 28 = .ok (.if_icmp .ge 39, 3) := by decide +kernel
theorem dX12_best_31 : decode cX12_best 31 = .ok (.aload_n 0, 1) := by decide +kernel
theorem dX12_best_32 : decode cX12_best 32 = .ok (.getfield 32, 3) := by decide +kernel
theorem dX12_best_35 : decode cX12_best 35 = .ok (.sipush 256, 3) := by decide +kernel
theorem dX12_best_38 : decode cX12_best 38 = .ok (.iload_n 3, 1) := by decide +kernel
theorem dX12_best_39 : decode cX12_best 39 = .ok (.imul, 1) := by decide +kernel
theorem dX12_best_40 : decode cX12_best 40 = .ok (.laload, 1) := by decide +kernel
theorem dX12_best_41 : decode cX12_best 41 = .ok (.aload_n 0, 1) := by decide +kernel
theorem dX12_best_42 : decode cX12_best 42 = .ok (.getfield 32, 3) := by decide +kernel
theorem dX12_best_45 : decode cX12_best 45 = .ok (.sipush 256, 3) := by decide +kernel
theorem dX12_best_48 : decode cX12_best 48 = .ok (.iload_n 2, 1) := by decide +kernel
theorem dX12_best_49 : decode cX12_best 49 = .ok (.imul, 1) := by decide +kernel
theorem dX12_best_50 : decode cX12_best 50 = .ok (.laload, 1) := by decide +kernel
theorem dX12_best_51 : decode cX12_best 51 = .ok (.lcmp, 1) := by decide +kernel
theorem dX12_best_52 : decode cX12_best 52 = .ok (.ifCond .le 7, 3) := by decide +kernel
theorem dX12_best_55 : decode cX12_best 55 = .ok (.iload_n 3, 1) := by decide +kernel
theorem dX12_best_56 : decode cX12_best 56 = .ok (.goto 4, 3) := by decide +kernel
theorem dX12_best_59 : decode cX12_best 59 = .ok (.iload_n 2, 1) := by decide +kernel
theorem dX12_best_60 : decode cX12_best 60 = .ok (.istore_n 2, 1) := by decide +kernel
theorem dX12_best_61 : decode cX12_best 61 = .ok (.iinc 3 1, 3) := by decide +kernel
theorem dX12_best_64 : decode cX12_best 64 = .ok (.goto (-41), 3) := by decide +kernel
theorem dX12_best_67 : decode cX12_best 67 = .ok (.iload_n 2, 1) := by decide +kernel
theorem dX12_best_68 : decode cX12_best 68 = .ok (.ireturn, 1) := by decide +kernel
set_option maxRecDepth 20000 in
theorem ggX12_endedOf_X12_layDrift : GoodIn wsX12_endedOf wsX12_layDrift := goodIn_r _ [6, 7, 8, 9, 10, 1, 11, 12, 13, 5, 14, 15, 16, 17, 18, 19, 20, 21, 22, 23, 24, 25, 26, 27, 28, 29, 30, 31, 32, 33, 34, 35, 36, 37, 38, 39, 40, 41, 42, 43, 44, 45, 46, 47, 48, 49, 50, 51, 52, 53, 54, 55, 56, 57, 58, 59, 60, 61, 62, 63, 64, 65, 66, 67, 68, 69, 70, 71, 72, 73, 74, 75, 76, 77, 78, 79, 80, 81, 82, 83, 84, 85, 86, 87, 88, 89, 90, 91, 92, 93, 94] (by decide +kernel) (by decide +kernel)
set_option maxRecDepth 20000 in
theorem gX12_endedOf_X12_layDrift : GoodIn wsX12_endedOf (wsV RX12 206 RX12 yX12_layDrift wsX12_layDrift) := goodIn_app (goodIn_of _ (by decide +kernel)) ggX12_endedOf_X12_layDrift
theorem dX12_endedOf_0 : decode cX12_endedOf 0 = .ok (.aload_n 0, 1) := by decide +kernel
theorem dX12_endedOf_1 : decode cX12_endedOf 1 = .ok (.iload_n 1, 1) := by decide +kernel
theorem dX12_endedOf_2 : decode cX12_endedOf 2 = .ok (.iload_n 2, 1) := by decide +kernel
theorem dX12_endedOf_3 : decode cX12_endedOf 3 = .ok (.invokevirtual 206, 3) := by decide +kernel
theorem dX12_endedOf_6 : decode cX12_endedOf 6 = .ok (.aload_n 0, 1) := by decide +kernel
theorem dX12_endedOf_7 : decode cX12_endedOf 7 = .ok (.getfield 28, 3) := by decide +kernel
theorem dX12_endedOf_10 : decode cX12_endedOf 10 = .ok (.iload_n 3, 1) := by decide +kernel
theorem dX12_endedOf_11 : decode cX12_endedOf 11 = .ok (.laload, 1) := by decide +kernel
theorem dX12_endedOf_12 : decode cX12_endedOf 12 = .ok (.lreturn, 1) := by decide +kernel
set_option maxRecDepth 20000 in
theorem ggX12_wrecks_X12_endedOf : GoodIn wsX12_wrecks wsX12_endedOf := goodIn_r _ [6, 7, 8, 9, 10, 5, 11, 12, 13, 14, 15, 16, 17, 18, 19, 20, 21, 22, 23, 24, 25, 26, 27, 28, 29, 30, 31, 32, 33, 34, 35, 36, 37, 38, 39, 40, 41, 42, 43, 44, 45, 46, 47, 48, 49, 50, 51, 52, 53, 54, 55, 56, 57, 58, 59, 60, 61, 62, 63, 64, 65, 66, 67, 68, 69, 70, 71, 72, 73, 74, 75, 76, 77, 78, 79, 80, 81, 82, 83, 84, 85, 86, 87, 88, 89, 90, 91, 92, 93, 94, 95, 96, 97, 98, 99] (by decide +kernel) (by decide +kernel)
set_option maxRecDepth 20000 in
theorem gX12_wrecks_X12_endedOf : GoodIn wsX12_wrecks (wsV RX12 221 RX12 yX12_endedOf wsX12_endedOf) := goodIn_app (goodIn_of _ (by decide +kernel)) ggX12_wrecks_X12_endedOf
theorem dX12_wrecks_0 : decode cX12_wrecks 0 = .ok (.lconst 0, 1) := by decide +kernel
theorem dX12_wrecks_1 : decode cX12_wrecks 1 = .ok (.lstore_n 3, 1) := by decide +kernel
theorem dX12_wrecks_2 : decode cX12_wrecks 2 = .ok (.iconst 0, 1) := by decide +kernel
theorem dX12_wrecks_3 : decode cX12_wrecks 3 = .ok (.istore 5, 2) := by decide +kernel
theorem dX12_wrecks_5 : decode cX12_wrecks 5 = .ok (.iload 5, 2) := by decide +kernel
theorem dX12_wrecks_7 : decode cX12_wrecks 7 = .ok (.aload_n 0, 1) := by decide +kernel
theorem dX12_wrecks_8 : decode cX12_wrecks 8 = .ok (.getfield 114, 3) := by decide +kernel
theorem dX12_wrecks_11 : decode cX12_wrecks 11 = .ok (.if_icmp .ge 20, 3) := by decide +kernel
theorem dX12_wrecks_14 : decode cX12_wrecks 14 = .ok (.lload_n 3, 1) := by decide +kernel
theorem dX12_wrecks_15 : decode cX12_wrecks 15 = .ok (.aload_n 0, 1) := by decide +kernel
theorem dX12_wrecks_16 : decode cX12_wrecks 16 = .ok (.iload 5, 2) := by decide +kernel
theorem dX12_wrecks_18 : decode cX12_wrecks 18 = .ok (.iload_n 1, 1) := by decide +kernel
theorem dX12_wrecks_19 : decode cX12_wrecks 19 = .ok (.iload_n 2, 1) := by decide +kernel
theorem dX12_wrecks_20 : decode cX12_wrecks 20 = .ok (.invokevirtual 221, 3) := by decide +kernel
theorem dX12_wrecks_23 : decode cX12_wrecks 23 = .ok (.ladd, 1) := by decide +kernel
theorem dX12_wrecks_24 : decode cX12_wrecks 24 = .ok (.lstore_n 3, 1) := by decide +kernel
theorem dX12_wrecks_25 : decode cX12_wrecks 25 = .ok (.iinc 5 1, 3) := by decide +kernel
theorem dX12_wrecks_28 : decode cX12_wrecks 28 = .ok (.goto (-23), 3) := by decide +kernel
theorem dX12_wrecks_31 : decode cX12_wrecks 31 = .ok (.lload_n 3, 1) := by decide +kernel
theorem dX12_wrecks_32 : decode cX12_wrecks 32 = .ok (.lreturn, 1) := by decide +kernel
set_option maxRecDepth 20000 in
theorem ggX12_whose_X12_isLane : GoodIn wsX12_whose wsX12_isLane := goodIn_r _ [7, 8, 9, 10, 6, 11, 94, 95, 96, 97, 98, 99, 100, 101, 102, 103, 104, 105, 106, 107, 108, 109, 110, 111, 112, 113, 114, 115, 116, 117, 118, 119, 120, 121, 122, 123, 124] (by decide +kernel) (by decide +kernel)
set_option maxRecDepth 20000 in
theorem gX12_whose_X12_isLane : GoodIn wsX12_whose (wsV RX12 105 RX12 yX12_isLane wsX12_isLane) := goodIn_app (goodIn_of _ (by decide +kernel)) ggX12_whose_X12_isLane
set_option maxRecDepth 20000 in
theorem ggX12_whose_X12_isPlace : GoodIn wsX12_whose wsX12_isPlace := goodIn_r _ [15, 16, 9, 10, 6, 11, 94, 95, 96, 97, 98, 99, 100, 101, 102, 103, 104, 105, 106, 107, 108, 109, 110, 111, 112, 113, 114, 115, 116, 117, 118, 119, 120, 121, 122, 123, 124] (by decide +kernel) (by decide +kernel)
set_option maxRecDepth 20000 in
theorem gX12_whose_X12_isPlace : GoodIn wsX12_whose (wsV RX12 109 RX12 yX12_isPlace wsX12_isPlace) := goodIn_app (goodIn_of _ (by decide +kernel)) ggX12_whose_X12_isPlace
set_option maxRecDepth 20000 in
theorem ggX12_whose_X12_isBoat : GoodIn wsX12_whose wsX12_isBoat := goodIn_r _ [20, 21, 9, 10, 6, 11, 94, 95, 96, 97, 98, 99, 100, 101, 102, 103, 104, 105, 106, 107, 108, 109, 110, 111, 112, 113, 114, 115, 116, 117, 118, 119, 120, 121, 122, 123, 124] (by decide +kernel) (by decide +kernel)
set_option maxRecDepth 20000 in
theorem gX12_whose_X12_isBoat : GoodIn wsX12_whose (wsV RX12 125 RX12 yX12_isBoat wsX12_isBoat) := goodIn_app (goodIn_of _ (by decide +kernel)) ggX12_whose_X12_isBoat
set_option maxRecDepth 20000 in
theorem ggX12_whose_X12_wrecks : GoodIn wsX12_whose wsX12_wrecks := goodIn_r _ [25, 21, 26, 27, 28, 6, 29, 30, 31, 32, 33, 34, 35, 16, 36, 37, 38, 39, 40, 41, 42, 43, 44, 45, 46, 47, 48, 49, 50, 51, 52, 53, 54, 55, 56, 57, 58, 59, 60, 61, 62, 63, 64, 65, 66, 67, 68, 69, 70, 71, 72, 73, 74, 75, 76, 77, 78, 79, 80, 81, 82, 83, 84, 85, 86, 87, 88, 89, 90, 94, 95, 96, 97, 98, 99, 100, 101, 102, 103, 104, 105, 106, 107, 108, 109, 110, 111, 112, 113, 114, 115, 116, 117, 118, 119, 120, 121, 122, 123, 124] (by decide +kernel) (by decide +kernel)
set_option maxRecDepth 20000 in
theorem gX12_whose_X12_wrecks : GoodIn wsX12_whose (wsV RX12 224 RX12 yX12_wrecks wsX12_wrecks) := goodIn_app (goodIn_of _ (by decide +kernel)) ggX12_whose_X12_wrecks
set_option maxRecDepth 20000 in
theorem ggX12_whose_X12_endedOf : GoodIn wsX12_whose wsX12_endedOf := goodIn_r _ [29, 30, 31, 32, 33, 6, 34, 35, 16, 36, 37, 38, 39, 40, 41, 42, 43, 44, 45, 46, 47, 48, 49, 50, 51, 52, 53, 54, 55, 56, 57, 58, 59, 60, 61, 62, 63, 64, 65, 66, 67, 68, 69, 70, 71, 72, 73, 74, 75, 76, 77, 78, 79, 80, 81, 82, 83, 84, 85, 86, 87, 88, 89, 90, 94, 95, 96, 97, 98, 99, 100, 101, 102, 103, 104, 105, 106, 107, 108, 109, 110, 111, 112, 113, 114, 115, 116, 117, 118, 119, 120, 121, 122, 123, 124] (by decide +kernel) (by decide +kernel)
set_option maxRecDepth 20000 in
theorem gX12_whose_X12_endedOf : GoodIn wsX12_whose (wsV RX12 221 RX12 yX12_endedOf wsX12_endedOf) := goodIn_app (goodIn_of _ (by decide +kernel)) ggX12_whose_X12_endedOf
set_option maxRecDepth 20000 in
theorem ggX12_whose_X12_part : GoodIn wsX12_whose wsX12_part := goodIn_r _ [93] (by decide +kernel) (by decide +kernel)
set_option maxRecDepth 20000 in
theorem gX12_whose_X12_part : GoodIn wsX12_whose (va_wsS RX12 163 yX12_part wsX12_part) := goodIn_app (goodIn_of _ (by decide +kernel)) ggX12_whose_X12_part
theorem dX12_whose_0 : decode cX12_whose 0 = .ok (.aload_n 0, 1) := by decide +kernel
theorem dX12_whose_1 : decode cX12_whose 1 = .ok (.iload_n 1, 1) := by decide +kernel
theorem dX12_whose_2 : decode cX12_whose 2 = .ok (.invokevirtual 105, 3) := by decide +kernel
theorem dX12_whose_5 : decode cX12_whose 5 = .ok (.ifCond .eq 19, 3) := by decide +kernel
theorem dX12_whose_8 : decode cX12_whose 8 = .ok (.aload_n 0, 1) := by decide +kernel
theorem dX12_whose_9 : decode cX12_whose 9 = .ok (.iload_n 2, 1) := by decide +kernel
theorem dX12_whose_10 : decode cX12_whose 10 = .ok (.invokevirtual 109, 3) := by decide +kernel
theorem dX12_whose_13 : decode cX12_whose 13 = .ok (.ifCond .eq 11, 3) := by decide +kernel
theorem dX12_whose_16 : decode cX12_whose 16 = .ok (.aload_n 0, 1) := by decide +kernel
theorem dX12_whose_17 : decode cX12_whose 17 = .ok (.iload_n 3, 1) := by decide +kernel
theorem dX12_whose_18 : decode cX12_whose 18 = .ok (.invokevirtual 125, 3) := by decide +kernel
theorem dX12_whose_21 : decode cX12_whose 21 = .ok (.ifCond .ne 7, 3) := by decide +kernel
theorem dX12_whose_24 : decode cX12_whose 24 = .ok (.ldc2_w 151, 3) := by decide +kernel
theorem dX12_whose_27 : decode cX12_whose 27 = .ok (.lreturn, 1) := by decide +kernel
theorem dX12_whose_28 : decode cX12_whose 28 = .ok (.aload_n 0, 1) := by decide +kernel
theorem dX12_whose_29 : decode cX12_whose 29 = .ok (.iload_n 1, 1) := by decide +kernel
theorem dX12_whose_30 : decode cX12_whose 30 = .ok (.iload_n 2, 1) := by decide +kernel
theorem dX12_whose_31 : decode cX12_whose 31 = .ok (.invokevirtual 224, 3) := by decide +kernel
theorem dX12_whose_34 : decode cX12_whose 34 = .ok (.lstore 5, 2) := by decide +kernel
theorem dX12_whose_36 : decode cX12_whose 36 = .ok (.lload 5, 2) := by decide +kernel
theorem dX12_whose_38 : decode cX12_whose 38 = .ok (.lconst 0, 1) := by decide +kernel
theorem dX12_whose_39 : decode cX12_whose 39 = .ok (.lcmp, 1) := by decide +kernel
theorem dX12_whose_40 : decode cX12_whose 40 = .ok (.ifCond .ne 9, 3) := by decide +kernel
theorem dX12_whose_43 : decode cX12_whose 43 = .ok (.ldc2_w 227, 3) := by decide +kernel
theorem dX12_whose_46 : decode cX12_whose 46 = .ok (.goto 17, 3) := by decide +kernel
theorem dX12_whose_49 : decode cX12_whose 49 = .ok (.aload_n 0, 1) := by decide +kernel
theorem dX12_whose_50 : decode cX12_whose 50 = .ok (.iload_n 3, 1) := by decide +kernel
theorem dX12_whose_51 : decode cX12_whose 51 = .ok (.iload_n 1, 1) := by decide +kernel
theorem dX12_whose_52 : decode cX12_whose 52 = .ok (.iload_n 2, 1) := by decide +kernel
theorem dX12_whose_53 : decode cX12_whose 53 = .ok (.invokevirtual 221, 3) := by decide +kernel
theorem dX12_whose_56 : decode cX12_whose 56 = .ok (.lload 5, 2) := by decide +kernel
theorem dX12_whose_58 : decode cX12_whose 58 = .ok (.iload 4, 2) := by decide +kernel
theorem dX12_whose_60 : decode cX12_whose 60 = .ok (.invokestatic 163, 3) := by decide +kernel
theorem dX12_whose_63 : decode cX12_whose 63 = .ok (.lreturn, 1) := by decide +kernel
set_option maxRecDepth 20000 in
theorem ggX12_likeliest_X12_isLane : GoodIn wsX12_likeliest wsX12_isLane := goodIn_r _ [6, 7, 8, 9, 5, 10, 85, 86, 87, 88, 89, 90, 91, 92, 93, 94, 95, 96, 97, 98, 99, 100, 101, 102, 103, 104, 105, 106, 107, 108, 109, 110, 111, 112, 113, 114, 115] (by decide +kernel) (by decide +kernel)
set_option maxRecDepth 20000 in
theorem gX12_likeliest_X12_isLane : GoodIn wsX12_likeliest (wsV RX12 105 RX12 yX12_isLane wsX12_isLane) := goodIn_app (goodIn_of _ (by decide +kernel)) ggX12_likeliest_X12_isLane
set_option maxRecDepth 20000 in
theorem ggX12_likeliest_X12_isPlace : GoodIn wsX12_likeliest wsX12_isPlace := goodIn_r _ [14, 15, 8, 9, 5, 10, 85, 86, 87, 88, 89, 90, 91, 92, 93, 94, 95, 96, 97, 98, 99, 100, 101, 102, 103, 104, 105, 106, 107, 108, 109, 110, 111, 112, 113, 114, 115] (by decide +kernel) (by decide +kernel)
set_option maxRecDepth 20000 in
theorem gX12_likeliest_X12_isPlace : GoodIn wsX12_likeliest (wsV RX12 109 RX12 yX12_isPlace wsX12_isPlace) := goodIn_app (goodIn_of _ (by decide +kernel)) ggX12_likeliest_X12_isPlace
set_option maxRecDepth 20000 in
theorem ggX12_likeliest_X12_wrecks : GoodIn wsX12_likeliest wsX12_wrecks := goodIn_r _ [19, 1, 20, 21, 22, 5, 23, 24, 25, 26, 27, 28, 29, 15, 30, 31, 32, 33, 34, 35, 36, 37, 38, 39, 40, 41, 42, 43, 44, 45, 46, 47, 48, 49, 50, 51, 52, 53, 54, 55, 56, 57, 58, 59, 60, 61, 62, 63, 64, 65, 66, 67, 68, 69, 70, 71, 72, 73, 74, 75, 76, 77, 78, 79, 80, 81, 82, 83, 84, 85, 86, 87, 88, 89, 90, 91, 92, 93, 94, 95, 96, 97, 98, 99, 100, 101, 102, 103, 104, 105, 106, 107, 108, 109, 110, 111, 112, 113, 114, 115] (by decide +kernel) (by decide +kernel)
set_option maxRecDepth 20000 in
theorem gX12_likeliest_X12_wrecks : GoodIn wsX12_likeliest (wsV RX12 224 RX12 yX12_wrecks wsX12_wrecks) := goodIn_app (goodIn_of _ (by decide +kernel)) ggX12_likeliest_X12_wrecks
set_option maxRecDepth 20000 in
theorem ggX12_likeliest_X12_endedOf : GoodIn wsX12_likeliest wsX12_endedOf := goodIn_r _ [23, 24, 25, 26, 27, 5, 28, 29, 15, 30, 31, 32, 33, 34, 35, 36, 37, 38, 39, 40, 41, 42, 43, 44, 45, 46, 47, 48, 49, 50, 51, 52, 53, 54, 55, 56, 57, 58, 59, 60, 61, 62, 63, 64, 65, 66, 67, 68, 69, 70, 71, 72, 73, 74, 75, 76, 77, 78, 79, 80, 81, 82, 83, 84, 85, 86, 87, 88, 89, 90, 91, 92, 93, 94, 95, 96, 97, 98, 99, 100, 101, 102, 103, 104, 105, 106, 107, 108, 109, 110, 111, 112, 113, 114, 115] (by decide +kernel) (by decide +kernel)
set_option maxRecDepth 20000 in
theorem gX12_likeliest_X12_endedOf : GoodIn wsX12_likeliest (wsV RX12 221 RX12 yX12_endedOf wsX12_endedOf) := goodIn_app (goodIn_of _ (by decide +kernel)) ggX12_likeliest_X12_endedOf
theorem dX12_likeliest_0 : decode cX12_likeliest 0 = .ok (.aload_n 0, 1) := by decide +kernel
theorem dX12_likeliest_1 : decode cX12_likeliest 1 = .ok (.iload_n 1, 1) := by decide +kernel
theorem dX12_likeliest_2 : decode cX12_likeliest 2 = .ok (.invokevirtual 105, 3) := by decide +kernel
theorem dX12_likeliest_5 : decode cX12_likeliest 5 = .ok (.ifCond .eq 11, 3) := by decide +kernel
theorem dX12_likeliest_8 : decode cX12_likeliest 8 = .ok (.aload_n 0, 1) := by decide +kernel
theorem dX12_likeliest_9 : decode cX12_likeliest 9 = .ok (.iload_n 2, 1) := by decide +kernel
theorem dX12_likeliest_10 : decode cX12_likeliest 10 = .ok (.invokevirtual 109, 3) := by decide +kernel
theorem dX12_likeliest_13 : decode cX12_likeliest 13 = .ok (.ifCond .ne 5, 3) := by decide +kernel
theorem dX12_likeliest_16 : decode cX12_likeliest 16 = .ok (.iconst (-1), 1) := by decide +kernel
theorem dX12_likeliest_17 : decode cX12_likeliest 17 = .ok (.ireturn, 1) := by decide +kernel
theorem dX12_likeliest_18 : decode cX12_likeliest 18 = .ok (.aload_n 0, 1) := by decide +kernel
theorem dX12_likeliest_19 : decode cX12_likeliest 19 = .ok (.iload_n 1, 1) := by decide +kernel
theorem dX12_likeliest_20 : decode cX12_likeliest 20 = .ok (.iload_n 2, 1) := by decide +kernel
theorem dX12_likeliest_21 : decode cX12_likeliest 21 = .ok (.invokevirtual 224, 3) := by decide +kernel
theorem dX12_likeliest_24 : decode cX12_likeliest 24 = .ok (.lconst 0, 1) := by decide +kernel
theorem dX12_likeliest_25 : decode cX12_likeliest 25 = .ok (.lcmp, 1) := by decide +kernel
theorem dX12_likeliest_26 : decode cX12_likeliest 26 = .ok (.ifCond .ne 6, 3) := by decide +kernel
theorem dX12_likeliest_29 : decode cX12_likeliest 29 = .ok (.bipush (-3), 2) := by decide +kernel
theorem dX12_likeliest_31 : decode cX12_likeliest 31 = .ok (.ireturn, 1) := by decide +kernel
theorem dX12_likeliest_32 : decode cX12_likeliest 32 = .ok (.iconst 0, 1) := by decide +kernel
theorem dX12_likeliest_33 : decode cX12_likeliest 33 = .ok (.istore_n 3, 1) := by decide +kernel
theorem dX12_likeliest_34 : decode cX12_likeliest 34 = .ok (.iconst 1, 1) := by decide +kernel
theorem dX12_likeliest_35 : decode cX12_likeliest 35 = .ok (.istore 4, 2) := by decide +kernel
theorem dX12_likeliest_37 : decode cX12_likeliest 37 = .ok (.iload 4, 2) := by decide +kernel
theorem dX12_likeliest_39 : decode cX12_likeliest 39 = .ok (.aload_n 0, 1) := by decide +kernel
theorem dX12_likeliest_40 : decode cX12_likeliest 40 = .ok (.getfield 114, 3) := by decide +kernel
theorem dX12_likeliest_43 : decode cX12_likeliest 43 = .ok (.if_icmp .ge 35, 3) := by decide +kernel
theorem dX12_likeliest_46 : decode cX12_likeliest 46 = .ok (.aload_n 0, 1) := by decide +kernel
theorem dX12_likeliest_47 : decode cX12_likeliest 47 = .ok (.iload 4, 2) := by decide +kernel
theorem dX12_likeliest_49 : decode cX12_likeliest 49 = .ok (.iload_n 1, 1) := by decide +kernel
theorem dX12_likeliest_50 : decode cX12_likeliest 50 = .ok (.iload_n 2, 1) := by decide +kernel
theorem dX12_likeliest_51 : decode cX12_likeliest 51 = .ok (.invokevirtual 221, 3) := by decide +kernel
theorem dX12_likeliest_54 : decode cX12_likeliest 54 = .ok (.aload_n 0, 1) := by decide +kernel
theorem dX12_likeliest_55 : decode cX12_likeliest 55 = .ok (.iload_n 3, 1) := by decide +kernel
theorem dX12_likeliest_56 : decode cX12_likeliest 56 = .ok (.iload_n 1, 1) := by decide +kernel
theorem dX12_likeliest_57 : decode cX12_likeliest 57 = .ok (.iload_n 2, 1) := by decide +kernel
theorem dX12_likeliest_58 : decode cX12_likeliest 58 = .ok (.invokevirtual 221, 3) := by decide +kernel
theorem dX12_likeliest_61 : decode cX12_likeliest 61 = .ok (.lcmp, 1) := by decide +kernel
theorem dX12_likeliest_62 : decode cX12_likeliest 62 = .ok (.ifCond .le 8, 3) := by decide +kernel
theorem dX12_likeliest_65 : decode cX12_likeliest 65 = .ok (.iload 4, 2) := by decide +kernel
theorem dX12_likeliest_67 : decode cX12_likeliest 67 = .ok (.goto 4, 3) := by decide +kernel
theorem dX12_likeliest_70 : decode cX12_likeliest 70 = .ok (.iload_n 3, 1) := by decide +kernel
theorem dX12_likeliest_71 : decode cX12_likeliest 71 = .ok (.istore_n 3, 1) := by decide +kernel
theorem dX12_likeliest_72 : decode cX12_likeliest 72 = .ok (.iinc 4 1, 3) := by decide +kernel
theorem dX12_likeliest_75 : decode cX12_likeliest 75 = .ok (.goto (-38), 3) := by decide +kernel
theorem dX12_likeliest_78 : decode cX12_likeliest 78 = .ok (.iload_n 3, 1) := by decide +kernel
theorem dX12_likeliest_79 : decode cX12_likeliest 79 = .ok (.ireturn, 1) := by decide +kernel
set_option maxRecDepth 20000 in
theorem ggX12_isRest_X12_laneTime : GoodIn wsX12_isRest wsX12_laneTime := goodIn_r _ [8, 9, 10, 11, 12, 7, 13, 2, 14, 15, 16, 17, 18, 19, 20, 21, 22, 23, 24, 25, 26, 27, 28, 29, 30, 31, 32, 33, 34, 35, 36, 37, 38, 39, 40, 41, 42, 43, 44] (by decide +kernel) (by decide +kernel)
set_option maxRecDepth 20000 in
theorem gX12_isRest_X12_laneTime : GoodIn wsX12_isRest (wsV RX12 190 RX12 yX12_laneTime wsX12_laneTime) := goodIn_app (goodIn_of _ (by decide +kernel)) ggX12_isRest_X12_laneTime
theorem dX12_isRest_0 : decode cX12_isRest 0 = .ok (.iconst 1, 1) := by decide +kernel
theorem dX12_isRest_1 : decode cX12_isRest 1 = .ok (.istore_n 2, 1) := by decide +kernel
theorem dX12_isRest_2 : decode cX12_isRest 2 = .ok (.iconst 0, 1) := by decide +kernel
theorem dX12_isRest_3 : decode cX12_isRest 3 = .ok (.istore_n 3, 1) := by decide +kernel
theorem dX12_isRest_4 : decode cX12_isRest 4 = .ok (.iload_n 3, 1) := by decide +kernel
theorem dX12_isRest_5 : decode cX12_isRest 5 = .ok (.aload_n 0, 1) := by decide +kernel
theorem dX12_isRest_6 : decode cX12_isRest 6 = .ok (.getfield 63, 3) := by decide +kernel
theorem dX12_isRest_9 : decode cX12_isRest 9 = .ok (.if_icmp .ge 151, 3) := by decide +kernel
theorem dX12_isRest_12 : decode cX12_isRest 12 = .ok (.aload_n 0, 1) := by decide +kernel
theorem dX12_isRest_13 : decode cX12_isRest 13 = .ok (.iload_n 3, 1) := by decide +kernel
theorem dX12_isRest_14 : decode cX12_isRest 14 = .ok (.invokevirtual 190, 3) := by decide +kernel
theorem dX12_isRest_17 : decode cX12_isRest 17 = .ok (.ldc 150, 2) := by decide +kernel
theorem dX12_isRest_19 : decode cX12_isRest 19 = .ok (.if_icmp .ge 7, 3) := by decide +kernel
theorem dX12_isRest_22 : decode cX12_isRest 22 = .ok (.iconst 1, 1) := by decide +kernel
theorem dX12_isRest_23 : decode cX12_isRest 23 = .ok (.goto 4, 3) := by decide +kernel
theorem dX12_isRest_26 : decode cX12_isRest 26 = .ok (.iconst 0, 1) := by decide +kernel
theorem dX12_isRest_27 : decode cX12_isRest 27 = .ok (.istore 4, 2) := by decide +kernel
theorem dX12_isRest_29 : decode cX12_isRest 29 = .ok (.iload_n 2, 1) := by decide +kernel
theorem dX12_isRest_30 : decode cX12_isRest 30 = .ok (.ifCond .eq 21, 3) := by decide +kernel
theorem dX12_isRest_33 : decode cX12_isRest 33 = .ok (.iload 4, 2) := by decide +kernel
theorem dX12_isRest_35 : decode cX12_isRest 35 = .ok (.ifCond .ne 12, 3) := by decide +kernel
theorem dX12_isRest_38 : decode cX12_isRest 38 = .ok (.aload_n 0, 1) := by decide +kernel
theorem dX12_isRest_39 : decode cX12_isRest 39 = .ok (.getfield 35, 3) := by decide +kernel
theorem dX12_isRest_42 : decode cX12_isRest 42 = .ok (.iload_n 3, 1) := by decide +kernel
theorem dX12_isRest_43 : decode cX12_isRest 43 = .ok (.iaload, 1) := by decide +kernel
theorem dX12_isRest_44 : decode cX12_isRest 44 = .ok (.ifCond .ne 7, 3) := by decide +kernel
theorem dX12_isRest_47 : decode cX12_isRest 47 = .ok (.iconst 1, 1) := by decide +kernel
theorem dX12_isRest_48 : decode cX12_isRest 48 = .ok (.goto 4, 3) := by decide +kernel
theorem dX12_isRest_51 : decode cX12_isRest 51 = .ok (.iconst 0, 1) := by decide +kernel
theorem dX12_isRest_52 : decode cX12_isRest 52 = .ok (.istore_n 2, 1) := by decide +kernel
theorem dX12_isRest_53 : decode cX12_isRest 53 = .ok (.iconst 0, 1) := by decide +kernel
theorem dX12_isRest_54 : decode cX12_isRest 54 = .ok (.istore 5, 2) := by decide +kernel
theorem dX12_isRest_56 : decode cX12_isRest 56 = .ok (.iload 5, 2) := by decide +kernel
theorem dX12_isRest_58 : decode cX12_isRest 58 = .ok (.aload_n 0, 1) := by decide +kernel
theorem dX12_isRest_59 : decode cX12_isRest 59 = .ok (.getfield 63, 3) := by decide +kernel
theorem dX12_isRest_62 : decode cX12_isRest 62 = .ok (.if_icmp .ge 92, 3) := by decide +kernel
theorem dX12_isRest_65 : decode cX12_isRest 65 = .ok (.iload_n 3, 1) := by decide +kernel
theorem dX12_isRest_66 : decode cX12_isRest 66 = .ok (.iload 5, 2) := by decide +kernel
theorem dX12_isRest_68 : decode cX12_isRest 68 = .ok (.if_icmp .eq 27, 3) := by decide +kernel
theorem dX12_isRest_71 : decode cX12_isRest 71 = .ok (.aload_n 0, 1) := by decide +kernel
theorem dX12_isRest_72 : decode cX12_isRest 72 = .ok (.getfield 35, 3) := by decide +kernel
theorem dX12_isRest_75 : decode cX12_isRest 75 = .ok (.iload_n 3, 1) := by decide +kernel
theorem dX12_isRest_76 : decode cX12_isRest 76 = .ok (.iaload, 1) := by decide +kernel
theorem dX12_isRest_77 : decode cX12_isRest 77 = .ok (.ifCond .le 18, 3) := by decide +kernel
theorem dX12_isRest_80 : decode cX12_isRest 80 = .ok (.aload_n 0, 1) := by decide +kernel
theorem dX12_isRest_81 : decode cX12_isRest 81 = .ok (.iload 5, 2) := by decide +kernel
theorem dX12_isRest_83 : decode cX12_isRest 83 = .ok (.invokevirtual 190, 3) := by decide +kernel
theorem dX12_isRest_86 : decode cX12_isRest 86 = .ok (.ldc 150, 2) := by decide +kernel
theorem dX12_isRest_88 : decode cX12_isRest 88 = .ok (.if_icmp .ge 7, 3) := by decide +kernel
theorem dX12_isRest_91 : decode cX12_isRest 91 = .ok (.iconst 1, 1) := by decide +kernel
theorem dX12_isRest_92 : decode cX12_isRest 92 = .ok (.goto 4, 3) := by decide +kernel
theorem dX12_isRest_95 : decode cX12_isRest 95 = .ok (.iconst 0, 1) := by decide +kernel
theorem dX12_isRest_96 : decode cX12_isRest 96 = .ok (.istore 6, 2) := by decide +kernel
theorem dX12_isRest_98 : decode cX12_isRest 98 = .ok (.iload_n 2, 1) := by decide +kernel
theorem dX12_isRest_99 : decode cX12_isRest 99 = .ok (.ifCond .eq 47, 3) := by decide +kernel
theorem dX12_isRest_102 : decode cX12_isRest 102 = .ok (.iload 6, 2) := by decide +kernel
theorem dX12_isRest_104 : decode cX12_isRest 104 = .ok (.ifCond .eq 38, 3) := by decide +kernel
theorem dX12_isRest_107 : decode cX12_isRest 107 = .ok (.aload_n 0, 1) := by decide +kernel
theorem dX12_isRest_108 : decode cX12_isRest 108 = .ok (.iload_n 3, 1) := by decide +kernel
theorem dX12_isRest_109 : decode cX12_isRest 109 = .ok (.invokevirtual 190, 3) := by decide +kernel
theorem dX12_isRest_112 : decode cX12_isRest 112 = .ok (.iload_n 1, 1) := by decide +kernel
theorem dX12_isRest_113 : decode cX12_isRest 113 = .ok (.aload_n 0, 1) := by decide +kernel
theorem dX12_isRest_114 : decode cX12_isRest 114 = .ok (.getfield 35, 3) := by decide +kernel
theorem dX12_isRest_117 : decode cX12_isRest 117 = .ok (.iload_n 3, 1) := by decide +kernel
theorem dX12_isRest_118 : decode cX12_isRest 118 = .ok (.iaload, 1) := by decide +kernel
theorem dX12_isRest_119 : decode cX12_isRest 119 = .ok (.iconst 1, 1) := by decide +kernel
theorem dX12_isRest_120 : decode cX12_isRest 120 = .ok (.isub, 1) := by decide +kernel
theorem dX12_isRest_121 : decode cX12_isRest 121 = .ok (.imul, 1) := by decide +kernel
theorem dX12_isRest_122 : decode cX12_isRest 122 = .ok (.iadd, 1) := by decide +kernel
theorem dX12_isRest_123 : decode cX12_isRest 123 = .ok (.aload_n 0, 1) := by decide +kernel
theorem dX12_isRest_124 : decode cX12_isRest 124 = .ok (.iload 5, 2) := by decide +kernel
theorem dX12_isRest_126 : decode cX12_isRest 126 = .ok (.invokevirtual 190, 3) := by decide +kernel
theorem dX12_isRest_129 : decode cX12_isRest 129 = .ok (.iload_n 1, 1) := by decide +kernel
theorem dX12_isRest_130 : decode cX12_isRest 130 = .ok (.aload_n 0, 1) := by decide +kernel
theorem dX12_isRest_131 : decode cX12_isRest 131 = .ok (.getfield 35, 3) := by decide +kernel
theorem dX12_isRest_134 : decode cX12_isRest 134 = .ok (.iload 5, 2) := by decide +kernel
theorem dX12_isRest_136 : decode cX12_isRest 136 = .ok (.iaload, 1) := by decide +kernel
theorem dX12_isRest_137 : decode cX12_isRest 137 = .ok (.imul, 1) := by decide +kernel
theorem dX12_isRest_138 : decode cX12_isRest 138 = .ok (.iadd, 1) := by decide +kernel
theorem dX12_isRest_139 : decode cX12_isRest 139 = .ok (.if_icmp .gt 7, 3) := by decide +kernel
theorem dX12_isRest_142 : decode cX12_isRest 142 = .ok (.iconst 1, 1) := by decide +kernel
theorem dX12_isRest_143 : decode cX12_isRest 143 = .ok (.goto 4, 3) := by decide +kernel
theorem dX12_isRest_146 : decode cX12_isRest 146 = .ok (.iconst 0, 1) := by decide +kernel
theorem dX12_isRest_147 : decode cX12_isRest 147 = .ok (.istore_n 2, 1) := by decide +kernel
theorem dX12_isRest_148 : decode cX12_isRest 148 = .ok (.iinc 5 1, 3) := by decide +kernel
theorem dX12_isRest_151 : decode cX12_isRest 151 = .ok (.goto (-95), 3) := by decide +kernel
theorem dX12_isRest_154 : decode cX12_isRest 154 = .ok (.iinc 3 1, 3) := by decide +kernel
theorem dX12_isRest_157 : decode cX12_isRest 157 = .ok (.goto (-153), 3) := by decide +kernel
theorem dX12_isRest_160 : decode cX12_isRest 160 = .ok (.iload_n 2, 1) := by decide +kernel
theorem dX12_isRest_161 : decode cX12_isRest 161 = .ok (.ireturn, 1) := by decide +kernel
set_option maxRecDepth 20000 in
theorem ggX12_laySplits_X12_isRest : GoodIn wsX12_laySplits wsX12_isRest := goodIn_r _ [8, 3, 9, 2, 10, 11, 12, 7, 13, 14, 15, 16, 17, 18, 19, 20, 21, 22, 23, 24, 25, 26, 27, 28, 29, 30, 31, 32, 33, 34, 35, 36, 37, 38, 39, 40, 41, 42, 43, 44, 45, 46, 47, 48, 49] (by decide +kernel) (by decide +kernel)
set_option maxRecDepth 20000 in
theorem gX12_laySplits_X12_isRest : GoodIn wsX12_laySplits (wsV RX12 232 RX12 yX12_isRest wsX12_isRest) := goodIn_app (goodIn_of _ (by decide +kernel)) ggX12_laySplits_X12_isRest
theorem dX12_laySplits_0 : decode cX12_laySplits 0 = .ok (.iconst 0, 1) := by decide +kernel
theorem dX12_laySplits_1 : decode cX12_laySplits 1 = .ok (.istore_n 3, 1) := by decide +kernel
theorem dX12_laySplits_2 : decode cX12_laySplits 2 = .ok (.aload_n 0, 1) := by decide +kernel
theorem dX12_laySplits_3 : decode cX12_laySplits 3 = .ok (.bipush (-9), 2) := by decide +kernel
theorem dX12_laySplits_5 : decode cX12_laySplits 5 = .ok (.putfield 229, 3) := by decide +kernel
theorem dX12_laySplits_8 : decode cX12_laySplits 8 = .ok (.iload_n 1, 1) := by decide +kernel
theorem dX12_laySplits_9 : decode cX12_laySplits 9 = .ok (.istore 4, 2) := by decide +kernel
theorem dX12_laySplits_11 : decode cX12_laySplits 11 = .ok (.iload 4, 2) := by decide +kernel
theorem dX12_laySplits_13 : decode cX12_laySplits 13 = .ok (.ifCond .lt 141, 3) := by decide +kernel
theorem dX12_laySplits_16 : decode cX12_laySplits 16 = .ok (.iload_n 1, 1) := by decide +kernel
theorem dX12_laySplits_17 : decode cX12_laySplits 17 = .ok (.iload 4, 2) := by decide +kernel
theorem dX12_laySplits_19 : decode cX12_laySplits 19 = .ok (.isub, 1) := by decide +kernel
theorem dX12_laySplits_20 : decode cX12_laySplits 20 = .ok (.istore 5, 2) := by decide +kernel
theorem dX12_laySplits_22 : decode cX12_laySplits 22 = .ok (.iload 5, 2) := by decide +kernel
theorem dX12_laySplits_24 : decode cX12_laySplits 24 = .ok (.ifCond .lt 124, 3) := by decide +kernel
theorem dX12_laySplits_27 : decode cX12_laySplits 27 = .ok (.aload_n 0, 1) := by decide +kernel
theorem dX12_laySplits_28 : decode cX12_laySplits 28 = .ok (.getfield 35, 3) := by decide +kernel
theorem dX12_laySplits_31 : decode cX12_laySplits 31 = .ok (.iconst 0, 1) := by decide +kernel
theorem dX12_laySplits_32 : decode cX12_laySplits 32 = .ok (.iload 4, 2) := by decide +kernel
theorem dX12_laySplits_34 : decode cX12_laySplits 34 = .ok (.iastore, 1) := by decide +kernel
theorem dX12_laySplits_35 : decode cX12_laySplits 35 = .ok (.aload_n 0, 1) := by decide +kernel
theorem dX12_laySplits_36 : decode cX12_laySplits 36 = .ok (.getfield 35, 3) := by decide +kernel
theorem dX12_laySplits_39 : decode cX12_laySplits 39 = .ok (.iconst 1, 1) := by decide +kernel
theorem dX12_laySplits_40 : decode cX12_laySplits 40 = .ok (.iload 5, 2) := by decide +kernel
theorem dX12_laySplits_42 : decode cX12_laySplits 42 = .ok (.iastore, 1) := by decide +kernel
theorem dX12_laySplits_43 : decode cX12_laySplits 43 = .ok (.aload_n 0, 1) := by decide +kernel
theorem dX12_laySplits_44 : decode cX12_laySplits 44 = .ok (.getfield 35, 3) := by decide +kernel
theorem dX12_laySplits_47 : decode cX12_laySplits 47 = .ok (.iconst 2, 1) := by decide +kernel
theorem dX12_laySplits_48 : decode cX12_laySplits 48 = .ok (.iload_n 1, 1) := by decide +kernel
theorem dX12_laySplits_49 : decode cX12_laySplits 49 = .ok (.iload 4, 2) := by decide +kernel
theorem dX12_laySplits_51 : decode cX12_laySplits 51 = .ok (.isub, 1) := by decide +kernel
theorem dX12_laySplits_52 : decode cX12_laySplits 52 = .ok (.iload 5, 2) := by decide +kernel
theorem dX12_laySplits_54 : decode cX12_laySplits 54 = .ok (.isub, 1) := by decide +kernel
theorem dX12_laySplits_55 : decode cX12_laySplits 55 = .ok (.iastore, 1) := by decide +kernel
theorem dX12_laySplits_56 : decode cX12_laySplits 56 = .ok (.aload_n 0, 1) := by decide +kernel
theorem dX12_laySplits_57 : decode cX12_laySplits 57 = .ok (.getfield 63, 3) := by decide +kernel
theorem dX12_laySplits_60 : decode cX12_laySplits 60 = .ok (.iconst 1, 1) := by decide +kernel
theorem dX12_laySplits_61 : decode cX12_laySplits 61 = .ok (.if_icmp .gt 8, 3) := by decide +kernel
theorem dX12_laySplits_64 : decode cX12_laySplits 64 = .ok (.iload 5, 2) := by decide +kernel
theorem dX12_laySplits_66 : decode cX12_laySplits 66 = .ok (.ifCond .ne 24, 3) := by decide +kernel
theorem dX12_laySplits_69 : decode cX12_laySplits 69 = .ok (.aload_n 0, 1) := by decide +kernel
theorem dX12_laySplits_70 : decode cX12_laySplits 70 = .ok (.getfield 63, 3) := by decide +kernel
theorem dX12_laySplits_73 : decode cX12_laySplits 73 = .ok (.iconst 2, 1) := by decide +kernel
theorem dX12_laySplits_74 : decode cX12_laySplits 74 = .ok (.if_icmp .gt 12, 3) := by decide +kernel
theorem dX12_laySplits_77 : decode cX12_laySplits 77 = .ok (.aload_n 0, 1) := by decide +kernel
theorem dX12_laySplits_78 : decode cX12_laySplits 78 = .ok (.getfield 35, 3) := by decide +kernel
theorem dX12_laySplits_81 : decode cX12_laySplits 81 = .ok (.iconst 2, 1) := by decide +kernel
theorem dX12_laySplits_82 : decode cX12_laySplits 82 = .ok (.iaload, 1) := by decide +kernel
theorem dX12_laySplits_83 : decode cX12_laySplits 83 = .ok (.ifCond .ne 7, 3) := by decide +kernel
theorem dX12_laySplits_86 : decode cX12_laySplits 86 = .ok (.iconst 1, 1) := by decide +kernel
theorem dX12_laySplits_87 : decode cX12_laySplits 87 = .ok (.goto 4, 3) := by decide +kernel
theorem dX12_laySplits_90 : decode cX12_laySplits 90 = .ok (.iconst 0, 1) := by decide +kernel
theorem dX12_laySplits_91 : decode cX12_laySplits 91 = .ok (.istore 6, 2) := by decide +kernel
theorem dX12_laySplits_93 : decode cX12_laySplits 93 = .ok (.iload 6, 2) := by decide +kernel
theorem dX12_laySplits_95 : decode cX12_laySplits 95 = .ok (.ifCond .eq 47, 3) := by decide +kernel
theorem dX12_laySplits_98 : decode cX12_laySplits 98 = .ok (.aload_n 0, 1) := by decide +kernel
theorem dX12_laySplits_99 : decode cX12_laySplits 99 = .ok (.iload_n 2, 1) := by decide +kernel
theorem dX12_laySplits_100 : decode cX12_laySplits 100 = .ok (.invokevirtual 232, 3) := by decide +kernel
theorem dX12_laySplits_103 : decode cX12_laySplits 103 = .ok (.ifCond .eq 39, 3) := by decide +kernel
theorem dX12_laySplits_106 : decode cX12_laySplits 106 = .ok (.aload_n 0, 1) := by decide +kernel
theorem dX12_laySplits_107 : decode cX12_laySplits 107 = .ok (.iload_n 3, 1) := by decide +kernel
theorem dX12_laySplits_108 : decode cX12_laySplits 108 = .ok (.ifCond .ne 24, 3) := by decide +kernel
theorem dX12_laySplits_111 : decode cX12_laySplits 111 = .ok (.bipush 100, 2) := by decide +kernel
theorem dX12_laySplits_113 : decode cX12_laySplits 113 = .ok (.iload 4, 2) := by decide +kernel
theorem dX12_laySplits_115 : decode cX12_laySplits 115 = .ok (.imul, 1) := by decide +kernel
theorem dX12_laySplits_116 : decode cX12_laySplits 116 = .ok (.bipush 10, 2) := by decide +kernel
theorem dX12_laySplits_118 : decode cX12_laySplits 118 = .ok (.iload 5, 2) := by decide +kernel
theorem dX12_laySplits_120 : decode cX12_laySplits 120 = .ok (.imul, 1) := by decide +kernel
theorem dX12_laySplits_121 : decode cX12_laySplits 121 = .ok (.iadd, 1) := by decide +kernel
theorem dX12_laySplits_122 : decode cX12_laySplits 122 = .ok (.aload_n 0, 1) := by decide +kernel
theorem dX12_laySplits_123 : decode cX12_laySplits 123 = .ok (.getfield 35, 3) := by decide +kernel
theorem dX12_laySplits_126 : decode cX12_laySplits 126 = .ok (.iconst 2, 1) := by decide +kernel
theorem dX12_laySplits_127 : decode cX12_laySplits 127 = .ok (.iaload, 1) := by decide +kernel
theorem dX12_laySplits_128 : decode cX12_laySplits 128 = .ok (.iadd, 1) := by decide +kernel
theorem dX12_laySplits_129 : decode cX12_laySplits 129 = .ok (.goto 7, 3) := by decide +kernel
theorem dX12_laySplits_132 : decode cX12_laySplits 132 = .ok (.aload_n 0, 1) := by decide +kernel
theorem dX12_laySplits_133 : decode cX12_laySplits 133 = .ok (.getfield 229, 3) := by decide +kernel
theorem dX12_laySplits_136 : decode cX12_laySplits 136 = .ok (.putfield 229, 3) := by decide +kernel
theorem dX12_laySplits_139 : decode cX12_laySplits 139 = .ok (.iinc 3 1, 3) := by decide +kernel
theorem dX12_laySplits_142 : decode cX12_laySplits 142 = .ok (.iinc 5 (-1), 3) := by decide +kernel
theorem dX12_laySplits_145 : decode cX12_laySplits 145 = .ok (.goto (-123), 3) := by decide +kernel
theorem dX12_laySplits_148 : decode cX12_laySplits 148 = .ok (.iinc 4 (-1), 3) := by decide +kernel
theorem dX12_laySplits_151 : decode cX12_laySplits 151 = .ok (.goto (-140), 3) := by decide +kernel
theorem dX12_laySplits_154 : decode cX12_laySplits 154 = .ok (.iload_n 3, 1) := by decide +kernel
theorem dX12_laySplits_155 : decode cX12_laySplits 155 = .ok (.ireturn, 1) := by decide +kernel
set_option maxRecDepth 20000 in
theorem ggX12_mayRest_X12_in : GoodIn wsX12_mayRest wsX12_in := goodIn_r _ [7] (by decide +kernel) (by decide +kernel)
set_option maxRecDepth 20000 in
theorem gX12_mayRest_X12_in : GoodIn wsX12_mayRest (va_wsS RX12 78 yX12_in wsX12_in) := goodIn_app (goodIn_of _ (by decide +kernel)) ggX12_mayRest_X12_in
set_option maxRecDepth 20000 in
theorem ggX12_mayRest_X12_laneTime : GoodIn wsX12_mayRest wsX12_laneTime := goodIn_r _ [11, 12, 13, 14, 15, 6, 16, 3, 17, 18, 19, 20, 21, 22, 23, 24, 25, 26, 27, 28, 29, 30, 31, 32, 33, 34, 35, 36, 37, 38, 39, 40, 41, 42, 43, 44, 45, 46, 47] (by decide +kernel) (by decide +kernel)
set_option maxRecDepth 20000 in
theorem gX12_mayRest_X12_laneTime : GoodIn wsX12_mayRest (wsV RX12 190 RX12 yX12_laneTime wsX12_laneTime) := goodIn_app (goodIn_of _ (by decide +kernel)) ggX12_mayRest_X12_laneTime
theorem dX12_mayRest_0 : decode cX12_mayRest 0 = .ok (.iload_n 1, 1) := by decide +kernel
theorem dX12_mayRest_1 : decode cX12_mayRest 1 = .ok (.i2l, 1) := by decide +kernel
theorem dX12_mayRest_2 : decode cX12_mayRest 2 = .ok (.lconst 1, 1) := by decide +kernel
theorem dX12_mayRest_3 : decode cX12_mayRest 3 = .ok (.ldc2_w 112, 3) := by decide +kernel
theorem dX12_mayRest_6 : decode cX12_mayRest 6 = .ok (.invokestatic 78, 3) := by decide +kernel
theorem dX12_mayRest_9 : decode cX12_mayRest 9 = .ok (.ifCond .eq 15, 3) := by decide +kernel
theorem dX12_mayRest_12 : decode cX12_mayRest 12 = .ok (.iload_n 2, 1) := by decide +kernel
theorem dX12_mayRest_13 : decode cX12_mayRest 13 = .ok (.i2l, 1) := by decide +kernel
theorem dX12_mayRest_14 : decode cX12_mayRest 14 = .ok (.lconst 0, 1) := by decide +kernel
theorem dX12_mayRest_15 : decode cX12_mayRest 15 = .ok (.ldc2_w 112, 3) := by decide +kernel
theorem dX12_mayRest_18 : decode cX12_mayRest 18 = .ok (.invokestatic 78, 3) := by decide +kernel
theorem dX12_mayRest_21 : decode cX12_mayRest 21 = .ok (.ifCond .ne 6, 3) := by decide +kernel
theorem dX12_mayRest_24 : decode cX12_mayRest 24 = .ok (.bipush (-2), 2) := by decide +kernel
theorem dX12_mayRest_26 : decode cX12_mayRest 26 = .ok (.ireturn, 1) := by decide +kernel
theorem dX12_mayRest_27 : decode cX12_mayRest 27 = .ok (.iconst 0, 1) := by decide +kernel
theorem dX12_mayRest_28 : decode cX12_mayRest 28 = .ok (.istore_n 3, 1) := by decide +kernel
theorem dX12_mayRest_29 : decode cX12_mayRest 29 = .ok (.iconst 0, 1) := by decide +kernel
theorem dX12_mayRest_30 : decode cX12_mayRest 30 = .ok (.istore 4, 2) := by decide +kernel
theorem dX12_mayRest_32 : decode cX12_mayRest 32 = .ok (.iload 4, 2) := by decide +kernel
theorem dX12_mayRest_34 : decode cX12_mayRest 34 = .ok (.aload_n 0, 1) := by decide +kernel
theorem dX12_mayRest_35 : decode cX12_mayRest 35 = .ok (.getfield 63, 3) := by decide +kernel
theorem dX12_mayRest_38 : decode cX12_mayRest 38 = .ok (.if_icmp .ge 30, 3) := by decide +kernel
theorem dX12_mayRest_41 : decode cX12_mayRest 41 = .ok (.iload_n 3, 1) := by decide +kernel
theorem dX12_mayRest_42 : decode cX12_mayRest 42 = .ok (.ifCond .ne 14, 3) := by decide +kernel
theorem dX12_mayRest_45 : decode cX12_mayRest 45 = .ok (.aload_n 0, 1) := by decide +kernel
theorem dX12_mayRest_46 : decode cX12_mayRest 46 = .ok (.iload 4, 2) := by decide +kernel
theorem dX12_mayRest_48 : decode cX12_mayRest 48 = .ok (.invokevirtual 190, 3) := by decide +kernel
theorem dX12_mayRest_51 : decode cX12_mayRest 51 = .ok (.ldc 150, 2) := by decide +kernel
theorem dX12_mayRest_53 : decode cX12_mayRest 53 = .ok (.if_icmp .ge 7, 3) := by decide +kernel
theorem dX12_mayRest_56 : decode cX12_mayRest 56 = .ok (.iconst 1, 1) := by decide +kernel
theorem dX12_mayRest_57 : decode cX12_mayRest 57 = .ok (.goto 4, 3) := by decide +kernel
theorem dX12_mayRest_60 : decode cX12_mayRest 60 = .ok (.iconst 0, 1) := by decide +kernel
theorem dX12_mayRest_61 : decode cX12_mayRest 61 = .ok (.istore_n 3, 1) := by decide +kernel
theorem dX12_mayRest_62 : decode cX12_mayRest 62 = .ok (.iinc 4 1, 3) := by decide +kernel
theorem dX12_mayRest_65 : decode cX12_mayRest 65 = .ok (.goto (-33), 3) := by decide +kernel
theorem dX12_mayRest_68 : decode cX12_mayRest 68 = .ok (.iload_n 3, 1) := by decide +kernel
theorem dX12_mayRest_69 : decode cX12_mayRest 69 = .ok (.ifCond .eq 7, 3) := by decide +kernel
theorem dX12_mayRest_72 : decode cX12_mayRest 72 = .ok (.iconst 0, 1) := by decide +kernel
theorem dX12_mayRest_73 : decode cX12_mayRest 73 = .ok (.goto 5, 3) := by decide +kernel
theorem dX12_mayRest_76 : decode cX12_mayRest 76 = .ok (.bipush (-3), 2) := by decide +kernel
theorem dX12_mayRest_78 : decode cX12_mayRest 78 = .ok (.ireturn, 1) := by decide +kernel
set_option maxRecDepth 20000 in
theorem ggX12_rests_X12_mayRest : GoodIn wsX12_rests wsX12_mayRest := goodIn_r _ [5, 6, 7, 8, 9, 10, 4, 11, 12, 13, 14, 15, 16, 17, 18, 19, 20, 31, 32, 33, 34, 35, 36, 37, 38, 39, 40, 41, 42, 43, 44, 45, 46, 47, 48, 49, 50, 51, 52, 53, 54, 55, 56, 57, 58, 59, 60, 61] (by decide +kernel) (by decide +kernel)
set_option maxRecDepth 20000 in
theorem gX12_rests_X12_mayRest : GoodIn wsX12_rests (wsV RX12 235 RX12 yX12_mayRest wsX12_mayRest) := goodIn_app (goodIn_of _ (by decide +kernel)) ggX12_rests_X12_mayRest
set_option maxRecDepth 20000 in
theorem ggX12_rests_X12_laySplits : GoodIn wsX12_rests wsX12_laySplits := goodIn_r _ [24, 25, 26, 7, 27, 28, 29, 4, 30, 8, 12, 13, 14, 15, 16, 17, 18, 19, 20, 31, 32, 33, 34, 35, 36, 37, 38, 39, 40, 41, 42, 43, 44, 45, 46, 47, 48, 49, 50, 51, 52, 53, 54, 55, 56, 57, 58, 59, 60, 61] (by decide +kernel) (by decide +kernel)
set_option maxRecDepth 20000 in
theorem gX12_rests_X12_laySplits : GoodIn wsX12_rests (wsV RX12 238 RX12 yX12_laySplits wsX12_laySplits) := goodIn_app (goodIn_of _ (by decide +kernel)) ggX12_rests_X12_laySplits
theorem dX12_rests_0 : decode cX12_rests 0 = .ok (.aload_n 0, 1) := by decide +kernel
theorem dX12_rests_1 : decode cX12_rests 1 = .ok (.iload_n 1, 1) := by decide +kernel
theorem dX12_rests_2 : decode cX12_rests 2 = .ok (.iload_n 2, 1) := by decide +kernel
theorem dX12_rests_3 : decode cX12_rests 3 = .ok (.invokevirtual 235, 3) := by decide +kernel
theorem dX12_rests_6 : decode cX12_rests 6 = .ok (.istore_n 3, 1) := by decide +kernel
theorem dX12_rests_7 : decode cX12_rests 7 = .ok (.iload_n 3, 1) := by decide +kernel
theorem dX12_rests_8 : decode cX12_rests 8 = .ok (.ifCond .ge 7, 3) := by decide +kernel
theorem dX12_rests_11 : decode cX12_rests 11 = .ok (.iload_n 3, 1) := by decide +kernel
theorem dX12_rests_12 : decode cX12_rests 12 = .ok (.goto 9, 3) := by decide +kernel
theorem dX12_rests_15 : decode cX12_rests 15 = .ok (.aload_n 0, 1) := by decide +kernel
theorem dX12_rests_16 : decode cX12_rests 16 = .ok (.iload_n 1, 1) := by decide +kernel
theorem dX12_rests_17 : decode cX12_rests 17 = .ok (.iload_n 2, 1) := by decide +kernel
theorem dX12_rests_18 : decode cX12_rests 18 = .ok (.invokevirtual 238, 3) := by decide +kernel
theorem dX12_rests_21 : decode cX12_rests 21 = .ok (.ireturn, 1) := by decide +kernel
set_option maxRecDepth 20000 in
theorem ggX12_split_X12_mayRest : GoodIn wsX12_split wsX12_mayRest := goodIn_r _ [6, 7, 8, 9, 10, 11, 5, 12, 13, 14, 15, 16, 17, 18, 19, 20, 21, 31, 32, 33, 34, 35, 36, 37, 38, 39, 40, 41, 42, 43, 44, 45, 46, 47, 48, 49, 50, 51, 52, 53, 54, 55, 56, 57, 58, 59, 60, 61] (by decide +kernel) (by decide +kernel)
set_option maxRecDepth 20000 in
theorem gX12_split_X12_mayRest : GoodIn wsX12_split (wsV RX12 235 RX12 yX12_mayRest wsX12_mayRest) := goodIn_app (goodIn_of _ (by decide +kernel)) ggX12_split_X12_mayRest
set_option maxRecDepth 20000 in
theorem ggX12_split_X12_laySplits : GoodIn wsX12_split wsX12_laySplits := goodIn_r _ [25, 1, 26, 8, 27, 28, 29, 5, 30, 9, 13, 14, 15, 16, 17, 18, 19, 20, 21, 31, 32, 33, 34, 35, 36, 37, 38, 39, 40, 41, 42, 43, 44, 45, 46, 47, 48, 49, 50, 51, 52, 53, 54, 55, 56, 57, 58, 59, 60, 61] (by decide +kernel) (by decide +kernel)
set_option maxRecDepth 20000 in
theorem gX12_split_X12_laySplits : GoodIn wsX12_split (wsV RX12 238 RX12 yX12_laySplits wsX12_laySplits) := goodIn_app (goodIn_of _ (by decide +kernel)) ggX12_split_X12_laySplits
theorem dX12_split_0 : decode cX12_split 0 = .ok (.aload_n 0, 1) := by decide +kernel
theorem dX12_split_1 : decode cX12_split 1 = .ok (.iload_n 1, 1) := by decide +kernel
theorem dX12_split_2 : decode cX12_split 2 = .ok (.iload_n 2, 1) := by decide +kernel
theorem dX12_split_3 : decode cX12_split 3 = .ok (.invokevirtual 235, 3) := by decide +kernel
theorem dX12_split_6 : decode cX12_split 6 = .ok (.istore_n 3, 1) := by decide +kernel
theorem dX12_split_7 : decode cX12_split 7 = .ok (.iload_n 3, 1) := by decide +kernel
theorem dX12_split_8 : decode cX12_split 8 = .ok (.ifCond .ge 5, 3) := by decide +kernel
theorem dX12_split_11 : decode cX12_split 11 = .ok (.iload_n 3, 1) := by decide +kernel
theorem dX12_split_12 : decode cX12_split 12 = .ok (.ireturn, 1) := by decide +kernel
theorem dX12_split_13 : decode cX12_split 13 = .ok (.aload_n 0, 1) := by decide +kernel
theorem dX12_split_14 : decode cX12_split 14 = .ok (.iload_n 1, 1) := by decide +kernel
theorem dX12_split_15 : decode cX12_split 15 = .ok (.iload_n 2, 1) := by decide +kernel
theorem dX12_split_16 : decode cX12_split 16 = .ok (.invokevirtual 238, 3) := by decide +kernel
theorem dX12_split_19 : decode cX12_split 19 = .ok (.pop, 1) := by decide +kernel
theorem dX12_split_20 : decode cX12_split 20 = .ok (.aload_n 0, 1) := by decide +kernel
theorem dX12_split_21 : decode cX12_split 21 = .ok (.getfield 229, 3) := by decide +kernel
theorem dX12_split_24 : decode cX12_split 24 = .ok (.ireturn, 1) := by decide +kernel
set_option maxRecDepth 20000 in
theorem ggX12_run_X12_in : GoodIn wsX12_run wsX12_in := goodIn_r _ [8] (by decide +kernel) (by decide +kernel)
set_option maxRecDepth 20000 in
theorem gX12_run_X12_in : GoodIn wsX12_run (va_wsS RX12 78 yX12_in wsX12_in) := goodIn_app (goodIn_of _ (by decide +kernel)) ggX12_run_X12_in
theorem dX12_run_0 : decode cX12_run 0 = .ok (.iload_n 1, 1) := by decide +kernel
theorem dX12_run_1 : decode cX12_run 1 = .ok (.i2l, 1) := by decide +kernel
theorem dX12_run_2 : decode cX12_run 2 = .ok (.lconst 0, 1) := by decide +kernel
theorem dX12_run_3 : decode cX12_run 3 = .ok (.ldc2_w 128, 3) := by decide +kernel
theorem dX12_run_6 : decode cX12_run 6 = .ok (.invokestatic 78, 3) := by decide +kernel
theorem dX12_run_9 : decode cX12_run 9 = .ok (.ifCond .ne 6, 3) := by decide +kernel
theorem dX12_run_12 : decode cX12_run 12 = .ok (.bipush (-2), 2) := by decide +kernel
theorem dX12_run_14 : decode cX12_run 14 = .ok (.ireturn, 1) := by decide +kernel
theorem dX12_run_15 : decode cX12_run 15 = .ok (.aload_n 0, 1) := by decide +kernel
theorem dX12_run_16 : decode cX12_run 16 = .ok (.getfield 241, 3) := by decide +kernel
theorem dX12_run_19 : decode cX12_run 19 = .ok (.bipush 12, 2) := by decide +kernel
theorem dX12_run_21 : decode cX12_run 21 = .ok (.if_icmp .ne 6, 3) := by decide +kernel
theorem dX12_run_24 : decode cX12_run 24 = .ok (.bipush (-4), 2) := by decide +kernel
theorem dX12_run_26 : decode cX12_run 26 = .ok (.ireturn, 1) := by decide +kernel
theorem dX12_run_27 : decode cX12_run 27 = .ok (.aload_n 0, 1) := by decide +kernel
theorem dX12_run_28 : decode cX12_run 28 = .ok (.getfield 38, 3) := by decide +kernel
theorem dX12_run_31 : decode cX12_run 31 = .ok (.aload_n 0, 1) := by decide +kernel
theorem dX12_run_32 : decode cX12_run 32 = .ok (.getfield 241, 3) := by decide +kernel
theorem dX12_run_35 : decode cX12_run 35 = .ok (.iload_n 1, 1) := by decide +kernel
theorem dX12_run_36 : decode cX12_run 36 = .ok (.iastore, 1) := by decide +kernel
theorem dX12_run_37 : decode cX12_run 37 = .ok (.aload_n 0, 1) := by decide +kernel
theorem dX12_run_38 : decode cX12_run 38 = .ok (.getfield 41, 3) := by decide +kernel
theorem dX12_run_41 : decode cX12_run 41 = .ok (.aload_n 0, 1) := by decide +kernel
theorem dX12_run_42 : decode cX12_run 42 = .ok (.getfield 241, 3) := by decide +kernel
theorem dX12_run_45 : decode cX12_run 45 = .ok (.iload_n 2, 1) := by decide +kernel
theorem dX12_run_46 : decode cX12_run 46 = .ok (.bastore, 1) := by decide +kernel
theorem dX12_run_47 : decode cX12_run 47 = .ok (.aload_n 0, 1) := by decide +kernel
theorem dX12_run_48 : decode cX12_run 48 = .ok (.dup, 1) := by decide +kernel
theorem dX12_run_49 : decode cX12_run 49 = .ok (.getfield 241, 3) := by decide +kernel
theorem dX12_run_52 : decode cX12_run 52 = .ok (.iconst 1, 1) := by decide +kernel
theorem dX12_run_53 : decode cX12_run 53 = .ok (.iadd, 1) := by decide +kernel
theorem dX12_run_54 : decode cX12_run 54 = .ok (.putfield 241, 3) := by decide +kernel
theorem dX12_run_57 : decode cX12_run 57 = .ok (.aload_n 0, 1) := by decide +kernel
theorem dX12_run_58 : decode cX12_run 58 = .ok (.getfield 241, 3) := by decide +kernel
theorem dX12_run_61 : decode cX12_run 61 = .ok (.ireturn, 1) := by decide +kernel
theorem dX12_unrun_0 : decode cX12_unrun 0 = .ok (.aload_n 0, 1) := by decide +kernel
theorem dX12_unrun_1 : decode cX12_unrun 1 = .ok (.getfield 241, 3) := by decide +kernel
theorem dX12_unrun_4 : decode cX12_unrun 4 = .ok (.istore_n 1, 1) := by decide +kernel
theorem dX12_unrun_5 : decode cX12_unrun 5 = .ok (.aload_n 0, 1) := by decide +kernel
theorem dX12_unrun_6 : decode cX12_unrun 6 = .ok (.iconst 0, 1) := by decide +kernel
theorem dX12_unrun_7 : decode cX12_unrun 7 = .ok (.putfield 241, 3) := by decide +kernel
theorem dX12_unrun_10 : decode cX12_unrun 10 = .ok (.iload_n 1, 1) := by decide +kernel
theorem dX12_unrun_11 : decode cX12_unrun 11 = .ok (.ireturn, 1) := by decide +kernel
theorem dX12_reds_0 : decode cX12_reds 0 = .ok (.iconst 0, 1) := by decide +kernel
theorem dX12_reds_1 : decode cX12_reds 1 = .ok (.istore_n 1, 1) := by decide +kernel
theorem dX12_reds_2 : decode cX12_reds 2 = .ok (.iconst 0, 1) := by decide +kernel
theorem dX12_reds_3 : decode cX12_reds 3 = .ok (.istore_n 2, 1) := by decide +kernel
theorem dX12_reds_4 : decode cX12_reds 4 = .ok (.iload_n 2, 1) := by decide +kernel
theorem dX12_reds_5 : decode cX12_reds 5 = .ok (.aload_n 0, 1) := by decide +kernel
theorem dX12_reds_6 : decode cX12_reds 6 = .ok (.getfield 241, 3) := by decide +kernel
theorem dX12_reds_9 : decode cX12_reds 9 = .ok (.if_icmp .ge 26, 3) := by decide +kernel
theorem dX12_reds_12 : decode cX12_reds 12 = .ok (.iload_n 1, 1) := by decide +kernel
theorem dX12_reds_13 : decode cX12_reds 13 = .ok (.aload_n 0, 1) := by decide +kernel
theorem dX12_reds_14 : decode cX12_reds 14 = .ok (.getfield 41, 3) := by decide +kernel
theorem dX12_reds_17 : decode cX12_reds 17 = .ok (.iload_n 2, 1) := by decide +kernel
theorem dX12_reds_18 : decode cX12_reds 18 = .ok (.baload, 1) := by decide +kernel
theorem dX12_reds_19 : decode cX12_reds 19 = .ok (.ifCond .eq 7, 3) := by decide +kernel
theorem dX12_reds_22 : decode cX12_reds 22 = .ok (.iconst 1, 1) := by decide +kernel
theorem dX12_reds_23 : decode cX12_reds 23 = .ok (.goto 4, 3) := by decide +kernel
theorem dX12_reds_26 : decode cX12_reds 26 = .ok (.iconst 0, 1) := by decide +kernel
theorem dX12_reds_27 : decode cX12_reds 27 = .ok (.iadd, 1) := by decide +kernel
theorem dX12_reds_28 : decode cX12_reds 28 = .ok (.istore_n 1, 1) := by decide +kernel
theorem dX12_reds_29 : decode cX12_reds 29 = .ok (.iinc 2 1, 3) := by decide +kernel
theorem dX12_reds_32 : decode cX12_reds 32 = .ok (.goto (-28), 3) := by decide +kernel
theorem dX12_reds_35 : decode cX12_reds 35 = .ok (.iload_n 1, 1) := by decide +kernel
theorem dX12_reds_36 : decode cX12_reds 36 = .ok (.ireturn, 1) := by decide +kernel
set_option maxRecDepth 20000 in
theorem ggX12_red_X12_reds : GoodIn wsX12_red wsX12_reds := goodIn_r _ [8, 1, 2, 12, 13, 14, 15, 16, 17, 18, 19, 20, 21, 22, 23, 24, 25, 26, 27, 28, 29, 30, 31, 32, 33, 34, 35, 36, 37, 38, 39, 40, 41, 42] (by decide +kernel) (by decide +kernel)
set_option maxRecDepth 20000 in
theorem gX12_red_X12_reds : GoodIn wsX12_red (wsV RX12 244 RX12 yX12_reds wsX12_reds) := goodIn_app (goodIn_of _ (by decide +kernel)) ggX12_red_X12_reds
set_option maxRecDepth 20000 in
theorem ggX12_red_X12_part : GoodIn wsX12_red wsX12_part := goodIn_r _ [11] (by decide +kernel) (by decide +kernel)
set_option maxRecDepth 20000 in
theorem gX12_red_X12_part : GoodIn wsX12_red (va_wsS RX12 163 yX12_part wsX12_part) := goodIn_app (goodIn_of _ (by decide +kernel)) ggX12_red_X12_part
theorem dX12_red_0 : decode cX12_red 0 = .ok (.iconst 0, 1) := by decide +kernel
theorem dX12_red_1 : decode cX12_red 1 = .ok (.istore_n 2, 1) := by decide +kernel
theorem dX12_red_2 : decode cX12_red 2 = .ok (.iconst 0, 1) := by decide +kernel
theorem dX12_red_3 : decode cX12_red 3 = .ok (.istore_n 3, 1) := by decide +kernel
theorem dX12_red_4 : decode cX12_red 4 = .ok (.iload_n 3, 1) := by decide +kernel
theorem dX12_red_5 : decode cX12_red 5 = .ok (.aload_n 0, 1) := by decide +kernel
theorem dX12_red_6 : decode cX12_red 6 = .ok (.getfield 241, 3) := by decide +kernel
theorem dX12_red_9 : decode cX12_red 9 = .ok (.if_icmp .ge 31, 3) := by decide +kernel
theorem dX12_red_12 : decode cX12_red 12 = .ok (.iload_n 2, 1) := by decide +kernel
theorem dX12_red_13 : decode cX12_red 13 = .ok (.aload_n 0, 1) := by decide +kernel
theorem dX12_red_14 : decode cX12_red 14 = .ok (.getfield 41, 3) := by decide +kernel
theorem dX12_red_17 : decode cX12_red 17 = .ok (.iload_n 3, 1) := by decide +kernel
theorem dX12_red_18 : decode cX12_red 18 = .ok (.baload, 1) := by decide +kernel
theorem dX12_red_19 : decode cX12_red 19 = .ok (.ifCond .eq 12, 3) := by decide +kernel
theorem dX12_red_22 : decode cX12_red 22 = .ok (.aload_n 0, 1) := by decide +kernel
theorem dX12_red_23 : decode cX12_red 23 = .ok (.getfield 38, 3) := by decide +kernel
theorem dX12_red_26 : decode cX12_red 26 = .ok (.iload_n 3, 1) := by decide +kernel
theorem dX12_red_27 : decode cX12_red 27 = .ok (.iaload, 1) := by decide +kernel
theorem dX12_red_28 : decode cX12_red 28 = .ok (.goto 4, 3) := by decide +kernel
theorem dX12_red_31 : decode cX12_red 31 = .ok (.iconst 0, 1) := by decide +kernel
theorem dX12_red_32 : decode cX12_red 32 = .ok (.iadd, 1) := by decide +kernel
theorem dX12_red_33 : decode cX12_red 33 = .ok (.istore_n 2, 1) := by decide +kernel
theorem dX12_red_34 : decode cX12_red 34 = .ok (.iinc 3 1, 3) := by decide +kernel
theorem dX12_red_37 : decode cX12_red 37 = .ok (.goto (-33), 3) := by decide +kernel
theorem dX12_red_40 : decode cX12_red 40 = .ok (.lconst 0, 1) := by decide +kernel
theorem dX12_red_41 : decode cX12_red 41 = .ok (.lstore_n 3, 1) := by decide +kernel
theorem dX12_red_42 : decode cX12_red 42 = .ok (.lconst 0, 1) := by decide +kernel
theorem dX12_red_43 : decode cX12_red 43 = .ok (.lstore 5, 2) := by decide +kernel
theorem dX12_red_45 : decode cX12_red 45 = .ok (.iconst 0, 1) := by decide +kernel
theorem dX12_red_46 : decode cX12_red 46 = .ok (.istore 7, 2) := by decide +kernel
theorem dX12_red_48 : decode cX12_red 48 = .ok (.iload 7, 2) := by decide +kernel
theorem dX12_red_50 : decode cX12_red 50 = .ok (.iconst 1, 1) := by decide +kernel
theorem dX12_red_51 : decode cX12_red 51 = .ok (.aload_n 0, 1) := by decide +kernel
theorem dX12_red_52 : decode cX12_red 52 = .ok (.getfield 241, 3) := by decide +kernel
theorem dX12_red_55 : decode cX12_red 55 = .ok (.ishl, 1) := by decide +kernel
theorem dX12_red_56 : decode cX12_red 56 = .ok (.if_icmp .ge 107, 3) := by decide +kernel
theorem dX12_red_59 : decode cX12_red 59 = .ok (.iconst 0, 1) := by decide +kernel
theorem dX12_red_60 : decode cX12_red 60 = .ok (.istore 8, 2) := by decide +kernel
theorem dX12_red_62 : decode cX12_red 62 = .ok (.iconst 0, 1) := by decide +kernel
theorem dX12_red_63 : decode cX12_red 63 = .ok (.istore 9, 2) := by decide +kernel
theorem dX12_red_65 : decode cX12_red 65 = .ok (.iconst 0, 1) := by decide +kernel
theorem dX12_red_66 : decode cX12_red 66 = .ok (.istore 10, 2) := by decide +kernel
theorem dX12_red_68 : decode cX12_red 68 = .ok (.iload 10, 2) := by decide +kernel
theorem dX12_red_70 : decode cX12_red 70 = .ok (.aload_n 0, 1) := by decide +kernel
theorem dX12_red_71 : decode cX12_red 71 = .ok (.getfield 241, 3) := by decide +kernel
theorem dX12_red_74 : decode cX12_red 74 = .ok (.if_icmp .ge 41, 3) := by decide +kernel
theorem dX12_red_77 : decode cX12_red 77 = .ok (.iload 8, 2) := by decide +kernel
theorem dX12_red_79 : decode cX12_red 79 = .ok (.iload 7, 2) := by decide +kernel
theorem dX12_red_81 : decode cX12_red 81 = .ok (.iload 10, 2) := by decide +kernel
theorem dX12_red_83 : decode cX12_red 83 = .ok (.ishr, 1) := by decide +kernel
theorem dX12_red_84 : decode cX12_red 84 = .ok (.iconst 1, 1) := by decide +kernel
theorem dX12_red_85 : decode cX12_red 85 = .ok (.iand, 1) := by decide +kernel
theorem dX12_red_86 : decode cX12_red 86 = .ok (.iadd, 1) := by decide +kernel
theorem dX12_red_87 : decode cX12_red 87 = .ok (.istore 8, 2) := by decide +kernel
theorem dX12_red_89 : decode cX12_red 89 = .ok (.iload 9, 2) := by decide +kernel
theorem dX12_red_91 : decode cX12_red 91 = .ok (.iload 7, 2) := by decide +kernel
theorem dX12_red_93 : decode cX12_red 93 = .ok (.iload 10, 2) := by decide +kernel
theorem dX12_red_95 : decode cX12_red 95 = .ok (.ishr, 1) := by decide +kernel
theorem dX12_red_96 : decode cX12_red 96 = .ok (.iconst 1, 1) := by decide +kernel
theorem dX12_red_97 : decode cX12_red 97 = .ok (.iand, 1) := by decide +kernel
theorem dX12_red_98 : decode cX12_red 98 = .ok (.aload_n 0, 1) := by decide +kernel
theorem dX12_red_99 : decode cX12_red 99 = .ok (.getfield 38, 3) := by decide +kernel
theorem dX12_red_102 : decode cX12_red 102 = .ok (.iload 10, 2) := by decide +kernel
theorem dX12_red_104 : decode cX12_red 104 = .ok (.iaload, 1) := by decide +kernel
theorem dX12_red_105 : decode cX12_red 105 = .ok (.imul, 1) := by decide +kernel
theorem dX12_red_106 : decode cX12_red 106 = .ok (.iadd, 1) := by decide +kernel
theorem dX12_red_107 : decode cX12_red 107 = .ok (.istore 9, 2) := by decide +kernel
theorem dX12_red_109 : decode cX12_red 109 = .ok (.iinc 10 1, 3) := by decide +kernel
theorem dX12_red_112 : decode cX12_red 112 = .ok (.goto (-44), 3) := by decide +kernel
theorem dX12_red_115 : decode cX12_red 115 = .ok (.lload_n 3, 1) := by decide +kernel
theorem dX12_red_116 : decode cX12_red 116 = .ok (.iload 8, 2) := by decide +kernel
theorem dX12_red_118 : decode cX12_red 118 = .ok (.aload_n 0, 1) := by decide +kernel
theorem dX12_red_119 : decode cX12_red 119 = .ok (.invokevirtual 244, 3) := by decide +kernel
theorem dX12_red_122 : decode cX12_red 122 = .ok (.if_icmp .ne 7, 3) := by decide +kernel
theorem dX12_red_125 : decode cX12_red 125 = .ok (.lconst 1, 1) := by decide +kernel
theorem dX12_red_126 : decode cX12_red 126 = .ok (.goto 4, 3) := by decide +kernel
theorem dX12_red_129 : decode cX12_red 129 = .ok (.lconst 0, 1) := by decide +kernel
theorem dX12_red_130 : decode cX12_red 130 = .ok (.ladd, 1) := by decide +kernel
theorem dX12_red_131 : decode cX12_red 131 = .ok (.lstore_n 3, 1) := by decide +kernel
theorem dX12_red_132 : decode cX12_red 132 = .ok (.lload 5, 2) := by decide +kernel
theorem dX12_red_134 : decode cX12_red 134 = .ok (.iload 8, 2) := by decide +kernel
theorem dX12_red_136 : decode cX12_red 136 = .ok (.aload_n 0, 1) := by decide +kernel
theorem dX12_red_137 : decode cX12_red 137 = .ok (.invokevirtual 244, 3) := by decide +kernel
theorem dX12_red_140 : decode cX12_red 140 = .ok (.if_icmp .ne 13, 3) := by decide +kernel
theorem dX12_red_143 : decode cX12_red 143 = .ok (.iload 9, 2) := by decide +kernel
theorem dX12_red_145 : decode cX12_red 145 = .ok (.iload_n 2, 1) := by decide +kernel
theorem dX12_red_146 : decode cX12_red 146 = .ok (.if_icmp .lt 7, 3) := by decide +kernel
theorem dX12_red_149 : decode cX12_red 149 = .ok (.lconst 1, 1) := by decide +kernel
theorem dX12_red_150 : decode cX12_red 150 = .ok (.goto 4, 3) := by decide +kernel
theorem dX12_red_153 : decode cX12_red 153 = .ok (.lconst 0, 1) := by decide +kernel
theorem dX12_red_154 : decode cX12_red 154 = .ok (.ladd, 1) := by decide +kernel
theorem dX12_red_155 : decode cX12_red 155 = .ok (.lstore 5, 2) := by decide +kernel
theorem dX12_red_157 : decode cX12_red 157 = .ok (.iinc 7 1, 3) := by decide +kernel
theorem dX12_red_160 : decode cX12_red 160 = .ok (.goto (-112), 3) := by decide +kernel
theorem dX12_red_163 : decode cX12_red 163 = .ok (.lload 5, 2) := by decide +kernel
theorem dX12_red_165 : decode cX12_red 165 = .ok (.lload_n 3, 1) := by decide +kernel
theorem dX12_red_166 : decode cX12_red 166 = .ok (.iload_n 1, 1) := by decide +kernel
theorem dX12_red_167 : decode cX12_red 167 = .ok (.invokestatic 163, 3) := by decide +kernel
theorem dX12_red_170 : decode cX12_red 170 = .ok (.lreturn, 1) := by decide +kernel
set_option maxRecDepth 20000 in
theorem ggX12_keep_X12_in : GoodIn wsX12_keep wsX12_in := goodIn_r _ [16] (by decide +kernel) (by decide +kernel)
set_option maxRecDepth 20000 in
theorem gX12_keep_X12_in : GoodIn wsX12_keep (va_wsS RX12 78 yX12_in wsX12_in) := goodIn_app (goodIn_of _ (by decide +kernel)) ggX12_keep_X12_in
theorem dX12_keep_0 : decode cX12_keep 0 = .ok (.iload_n 1, 1) := by decide +kernel
theorem dX12_keep_1 : decode cX12_keep 1 = .ok (.i2l, 1) := by decide +kernel
theorem dX12_keep_2 : decode cX12_keep 2 = .ok (.lconst 0, 1) := by decide +kernel
theorem dX12_keep_3 : decode cX12_keep 3 = .ok (.lconst 1, 1) := by decide +kernel
theorem dX12_keep_4 : decode cX12_keep 4 = .ok (.invokestatic 78, 3) := by decide +kernel
theorem dX12_keep_7 : decode cX12_keep 7 = .ok (.ifCond .ne 5, 3) := by decide +kernel
theorem dX12_keep_10 : decode cX12_keep 10 = .ok (.iconst (-1), 1) := by decide +kernel
theorem dX12_keep_11 : decode cX12_keep 11 = .ok (.ireturn, 1) := by decide +kernel
theorem dX12_keep_12 : decode cX12_keep 12 = .ok (.aload_n 0, 1) := by decide +kernel
theorem dX12_keep_13 : decode cX12_keep 13 = .ok (.getfield 45, 3) := by decide +kernel
theorem dX12_keep_16 : decode cX12_keep 16 = .ok (.iload_n 1, 1) := by decide +kernel
theorem dX12_keep_17 : decode cX12_keep 17 = .ok (.iconst 1, 1) := by decide +kernel
theorem dX12_keep_18 : decode cX12_keep 18 = .ok (.bastore, 1) := by decide +kernel
theorem dX12_keep_19 : decode cX12_keep 19 = .ok (.aload_n 0, 1) := by decide +kernel
theorem dX12_keep_20 : decode cX12_keep 20 = .ok (.getfield 48, 3) := by decide +kernel
theorem dX12_keep_23 : decode cX12_keep 23 = .ok (.iconst 2, 1) := by decide +kernel
theorem dX12_keep_24 : decode cX12_keep 24 = .ok (.iload_n 1, 1) := by decide +kernel
theorem dX12_keep_25 : decode cX12_keep 25 = .ok (.imul, 1) := by decide +kernel
theorem dX12_keep_26 : decode cX12_keep 26 = .ok (.aload_n 0, 1) := by decide +kernel
theorem dX12_keep_27 : decode cX12_keep 27 = .ok (.getfield 114, 3) := by decide +kernel
theorem dX12_keep_30 : decode cX12_keep 30 = .ok (.iastore, 1) := by decide +kernel
theorem dX12_keep_31 : decode cX12_keep 31 = .ok (.aload_n 0, 1) := by decide +kernel
theorem dX12_keep_32 : decode cX12_keep 32 = .ok (.getfield 48, 3) := by decide +kernel
theorem dX12_keep_35 : decode cX12_keep 35 = .ok (.iconst 2, 1) := by decide +kernel
theorem dX12_keep_36 : decode cX12_keep 36 = .ok (.iload_n 1, 1) := by decide +kernel
theorem dX12_keep_37 : decode cX12_keep 37 = .ok (.imul, 1) := by decide +kernel
theorem dX12_keep_38 : decode cX12_keep 38 = .ok (.iconst 1, 1) := by decide +kernel
theorem dX12_keep_39 : decode cX12_keep 39 = .ok (.iadd, 1) := by decide +kernel
theorem dX12_keep_40 : decode cX12_keep 40 = .ok (.aload_n 0, 1) := by decide +kernel
theorem dX12_keep_41 : decode cX12_keep 41 = .ok (.getfield 241, 3) := by decide +kernel
theorem dX12_keep_44 : decode cX12_keep 44 = .ok (.iastore, 1) := by decide +kernel
theorem dX12_keep_45 : decode cX12_keep 45 = .ok (.iconst 0, 1) := by decide +kernel
theorem dX12_keep_46 : decode cX12_keep 46 = .ok (.istore_n 2, 1) := by decide +kernel
theorem dX12_keep_47 : decode cX12_keep 47 = .ok (.iload_n 2, 1) := by decide +kernel
theorem dX12_keep_48 : decode cX12_keep 48 = .ok (.bipush 42, 2) := by decide +kernel
theorem dX12_keep_50 : decode cX12_keep 50 = .ok (.if_icmp .ge 26, 3) := by decide +kernel
theorem dX12_keep_53 : decode cX12_keep 53 = .ok (.aload_n 0, 1) := by decide +kernel
theorem dX12_keep_54 : decode cX12_keep 54 = .ok (.getfield 51, 3) := by decide +kernel
theorem dX12_keep_57 : decode cX12_keep 57 = .ok (.bipush 42, 2) := by decide +kernel
theorem dX12_keep_59 : decode cX12_keep 59 = .ok (.iload_n 1, 1) := by decide +kernel
theorem dX12_keep_60 : decode cX12_keep 60 = .ok (.imul, 1) := by decide +kernel
theorem dX12_keep_61 : decode cX12_keep 61 = .ok (.iload_n 2, 1) := by decide +kernel
theorem dX12_keep_62 : decode cX12_keep 62 = .ok (.iadd, 1) := by decide +kernel
theorem dX12_keep_63 : decode cX12_keep 63 = .ok (.aload_n 0, 1) := by decide +kernel
theorem dX12_keep_64 : decode cX12_keep 64 = .ok (.getfield 19, 3) := by decide +kernel
theorem dX12_keep_67 : decode cX12_keep 67 = .ok (.iload_n 2, 1) := by decide +kernel
theorem dX12_keep_68 : decode cX12_keep 68 = .ok (.iaload, 1) := by decide +kernel
theorem dX12_keep_69 : decode cX12_keep 69 = .ok (.iastore, 1) := by decide +kernel
theorem dX12_keep_70 : decode cX12_keep 70 = .ok (.iinc 2 1, 3) := by decide +kernel
theorem dX12_keep_73 : decode cX12_keep 73 = .ok (.goto (-26), 3) := by decide +kernel
theorem dX12_keep_76 : decode cX12_keep 76 = .ok (.iconst 0, 1) := by decide +kernel
theorem dX12_keep_77 : decode cX12_keep 77 = .ok (.istore_n 2, 1) := by decide +kernel
theorem dX12_keep_78 : decode cX12_keep 78 = .ok (.iload_n 2, 1) := by decide +kernel
theorem dX12_keep_79 : decode cX12_keep 79 = .ok (.sipush 144, 3) := by decide +kernel
theorem dX12_keep_82 : decode cX12_keep 82 = .ok (.if_icmp .ge 27, 3) := by decide +kernel
theorem dX12_keep_85 : decode cX12_keep 85 = .ok (.aload_n 0, 1) := by decide +kernel
theorem dX12_keep_86 : decode cX12_keep 86 = .ok (.getfield 54, 3) := by decide +kernel
theorem dX12_keep_89 : decode cX12_keep 89 = .ok (.sipush 144, 3) := by decide +kernel
theorem dX12_keep_92 : decode cX12_keep 92 = .ok (.iload_n 1, 1) := by decide +kernel
theorem dX12_keep_93 : decode cX12_keep 93 = .ok (.imul, 1) := by decide +kernel
theorem dX12_keep_94 : decode cX12_keep 94 = .ok (.iload_n 2, 1) := by decide +kernel
theorem dX12_keep_95 : decode cX12_keep 95 = .ok (.iadd, 1) := by decide +kernel
theorem dX12_keep_96 : decode cX12_keep 96 = .ok (.aload_n 0, 1) := by decide +kernel
theorem dX12_keep_97 : decode cX12_keep 97 = .ok (.getfield 22, 3) := by decide +kernel
theorem dX12_keep_100 : decode cX12_keep 100 = .ok (.iload_n 2, 1) := by decide +kernel
theorem dX12_keep_101 : decode cX12_keep 101 = .ok (.iaload, 1) := by decide +kernel
theorem dX12_keep_102 : decode cX12_keep 102 = .ok (.iastore, 1) := by decide +kernel
theorem dX12_keep_103 : decode cX12_keep 103 = .ok (.iinc 2 1, 3) := by decide +kernel
theorem dX12_keep_106 : decode cX12_keep 106 = .ok (.goto (-28), 3) := by decide +kernel
theorem dX12_keep_109 : decode cX12_keep 109 = .ok (.iconst 0, 1) := by decide +kernel
theorem dX12_keep_110 : decode cX12_keep 110 = .ok (.istore_n 2, 1) := by decide +kernel
theorem dX12_keep_111 : decode cX12_keep 111 = .ok (.iload_n 2, 1) := by decide +kernel
theorem dX12_keep_112 : decode cX12_keep 112 = .ok (.bipush 12, 2) := by decide +kernel
theorem dX12_keep_114 : decode cX12_keep 114 = .ok (.if_icmp .ge 43, 3) := by decide +kernel
theorem dX12_keep_117 : decode cX12_keep 117 = .ok (.aload_n 0, 1) := by decide +kernel
theorem dX12_keep_118 : decode cX12_keep 118 = .ok (.getfield 57, 3) := by decide +kernel
theorem dX12_keep_121 : decode cX12_keep 121 = .ok (.bipush 12, 2) := by decide +kernel
theorem dX12_keep_123 : decode cX12_keep 123 = .ok (.iload_n 1, 1) := by decide +kernel
theorem dX12_keep_124 : decode cX12_keep 124 = .ok (.imul, 1) := by decide +kernel
theorem dX12_keep_125 : decode cX12_keep 125 = .ok (.iload_n 2, 1) := by decide +kernel
theorem dX12_keep_126 : decode cX12_keep 126 = .ok (.iadd, 1) := by decide +kernel
theorem dX12_keep_127 : decode cX12_keep 127 = .ok (.aload_n 0, 1) := by decide +kernel
theorem dX12_keep_128 : decode cX12_keep 128 = .ok (.getfield 38, 3) := by decide +kernel
theorem dX12_keep_131 : decode cX12_keep 131 = .ok (.iload_n 2, 1) := by decide +kernel
theorem dX12_keep_132 : decode cX12_keep 132 = .ok (.iaload, 1) := by decide +kernel
theorem dX12_keep_133 : decode cX12_keep 133 = .ok (.iastore, 1) := by decide +kernel
theorem dX12_keep_134 : decode cX12_keep 134 = .ok (.aload_n 0, 1) := by decide +kernel
theorem dX12_keep_135 : decode cX12_keep 135 = .ok (.getfield 60, 3) := by decide +kernel
theorem dX12_keep_138 : decode cX12_keep 138 = .ok (.bipush 12, 2) := by decide +kernel
theorem dX12_keep_140 : decode cX12_keep 140 = .ok (.iload_n 1, 1) := by decide +kernel
theorem dX12_keep_141 : decode cX12_keep 141 = .ok (.imul, 1) := by decide +kernel
theorem dX12_keep_142 : decode cX12_keep 142 = .ok (.iload_n 2, 1) := by decide +kernel
theorem dX12_keep_143 : decode cX12_keep 143 = .ok (.iadd, 1) := by decide +kernel
theorem dX12_keep_144 : decode cX12_keep 144 = .ok (.aload_n 0, 1) := by decide +kernel
theorem dX12_keep_145 : decode cX12_keep 145 = .ok (.getfield 41, 3) := by decide +kernel
theorem dX12_keep_148 : decode cX12_keep 148 = .ok (.iload_n 2, 1) := by decide +kernel
theorem dX12_keep_149 : decode cX12_keep 149 = .ok (.baload, 1) := by decide +kernel
theorem dX12_keep_150 : decode cX12_keep 150 = .ok (.bastore, 1) := by decide +kernel
theorem dX12_keep_151 : decode cX12_keep 151 = .ok (.iinc 2 1, 3) := by decide +kernel
theorem dX12_keep_154 : decode cX12_keep 154 = .ok (.goto (-43), 3) := by decide +kernel
theorem dX12_keep_157 : decode cX12_keep 157 = .ok (.aload_n 0, 1) := by decide +kernel
theorem dX12_keep_158 : decode cX12_keep 158 = .ok (.getfield 114, 3) := by decide +kernel
theorem dX12_keep_161 : decode cX12_keep 161 = .ok (.ireturn, 1) := by decide +kernel
set_option maxRecDepth 20000 in
theorem ggX12_again_X12_in : GoodIn wsX12_again wsX12_in := goodIn_r _ [16] (by decide +kernel) (by decide +kernel)
set_option maxRecDepth 20000 in
theorem gX12_again_X12_in : GoodIn wsX12_again (va_wsS RX12 78 yX12_in wsX12_in) := goodIn_app (goodIn_of _ (by decide +kernel)) ggX12_again_X12_in
theorem dX12_again_0 : decode cX12_again 0 = .ok (.iload_n 1, 1) := by decide +kernel
theorem dX12_again_1 : decode cX12_again 1 = .ok (.i2l, 1) := by decide +kernel
theorem dX12_again_2 : decode cX12_again 2 = .ok (.lconst 0, 1) := by decide +kernel
theorem dX12_again_3 : decode cX12_again 3 = .ok (.lconst 1, 1) := by decide +kernel
theorem dX12_again_4 : decode cX12_again 4 = .ok (.invokestatic 78, 3) := by decide +kernel
theorem dX12_again_7 : decode cX12_again 7 = .ok (.ifCond .ne 5, 3) := by decide +kernel
theorem dX12_again_10 : decode cX12_again 10 = .ok (.iconst (-1), 1) := by decide +kernel
theorem dX12_again_11 : decode cX12_again 11 = .ok (.ireturn, 1) := by decide +kernel
theorem dX12_again_12 : decode cX12_again 12 = .ok (.aload_n 0, 1) := by decide +kernel
theorem dX12_again_13 : decode cX12_again 13 = .ok (.getfield 45, 3) := by decide +kernel
theorem dX12_again_16 : decode cX12_again 16 = .ok (.iload_n 1, 1) := by decide +kernel
theorem dX12_again_17 : decode cX12_again 17 = .ok (.baload, 1) := by decide +kernel
theorem dX12_again_18 : decode cX12_again 18 = .ok (.ifCond .ne 6, 3) := by decide +kernel
theorem dX12_again_21 : decode cX12_again 21 = .ok (.bipush (-3), 2) := by decide +kernel
theorem dX12_again_23 : decode cX12_again 23 = .ok (.ireturn, 1) := by decide +kernel
theorem dX12_again_24 : decode cX12_again 24 = .ok (.aload_n 0, 1) := by decide +kernel
theorem dX12_again_25 : decode cX12_again 25 = .ok (.aload_n 0, 1) := by decide +kernel
theorem dX12_again_26 : decode cX12_again 26 = .ok (.getfield 48, 3) := by decide +kernel
theorem dX12_again_29 : decode cX12_again 29 = .ok (.iconst 2, 1) := by decide +kernel
theorem dX12_again_30 : decode cX12_again 30 = .ok (.iload_n 1, 1) := by decide +kernel
theorem dX12_again_31 : decode cX12_again 31 = .ok (.imul, 1) := by decide +kernel
theorem dX12_again_32 : decode cX12_again 32 = .ok (.iaload, 1) := by decide +kernel
theorem dX12_again_33 : decode cX12_again 33 = .ok (.putfield 114, 3) := by decide +kernel
theorem dX12_again_36 : decode cX12_again 36 = .ok (.aload_n 0, 1) := by decide +kernel
theorem dX12_again_37 : decode cX12_again 37 = .ok (.aload_n 0, 1) := by decide +kernel
theorem dX12_again_38 : decode cX12_again 38 = .ok (.getfield 48, 3) := by decide +kernel
theorem dX12_again_41 : decode cX12_again 41 = .ok (.iconst 2, 1) := by decide +kernel
theorem dX12_again_42 : decode cX12_again 42 = .ok (.iload_n 1, 1) := by decide +kernel
theorem dX12_again_43 : decode cX12_again 43 = .ok (.imul, 1) := by decide +kernel
theorem dX12_again_44 : decode cX12_again 44 = .ok (.iconst 1, 1) := by decide +kernel
theorem dX12_again_45 : decode cX12_again 45 = .ok (.iadd, 1) := by decide +kernel
theorem dX12_again_46 : decode cX12_again 46 = .ok (.iaload, 1) := by decide +kernel
theorem dX12_again_47 : decode cX12_again 47 = .ok (.putfield 241, 3) := by decide +kernel
theorem dX12_again_50 : decode cX12_again 50 = .ok (.iconst 0, 1) := by decide +kernel
theorem dX12_again_51 : decode cX12_again 51 = .ok (.istore_n 2, 1) := by decide +kernel
theorem dX12_again_52 : decode cX12_again 52 = .ok (.iload_n 2, 1) := by decide +kernel
theorem dX12_again_53 : decode cX12_again 53 = .ok (.bipush 42, 2) := by decide +kernel
theorem dX12_again_55 : decode cX12_again 55 = .ok (.if_icmp .ge 26, 3) := by decide +kernel
theorem dX12_again_58 : decode cX12_again 58 = .ok (.aload_n 0, 1) := by decide +kernel
theorem dX12_again_59 : decode cX12_again 59 = .ok (.getfield 19, 3) := by decide +kernel
theorem dX12_again_62 : decode cX12_again 62 = .ok (.iload_n 2, 1) := by decide +kernel
theorem dX12_again_63 : decode cX12_again 63 = .ok (.aload_n 0, 1) := by decide +kernel
theorem dX12_again_64 : decode cX12_again 64 = .ok (.getfield 51, 3) := by decide +kernel
theorem dX12_again_67 : decode cX12_again 67 = .ok (.bipush 42, 2) := by decide +kernel
theorem dX12_again_69 : decode cX12_again 69 = .ok (.iload_n 1, 1) := by decide +kernel
theorem dX12_again_70 : decode cX12_again 70 = .ok (.imul, 1) := by decide +kernel
theorem dX12_again_71 : decode cX12_again 71 = .ok (.iload_n 2, 1) := by decide +kernel
theorem dX12_again_72 : decode cX12_again 72 = .ok (.iadd, 1) := by decide +kernel
theorem dX12_again_73 : decode cX12_again 73 = .ok (.iaload, 1) := by decide +kernel
theorem dX12_again_74 : decode cX12_again 74 = .ok (.iastore, 1) := by decide +kernel
theorem dX12_again_75 : decode cX12_again 75 = .ok (.iinc 2 1, 3) := by decide +kernel
theorem dX12_again_78 : decode cX12_again 78 = .ok (.goto (-26), 3) := by decide +kernel
theorem dX12_again_81 : decode cX12_again 81 = .ok (.iconst 0, 1) := by decide +kernel
theorem dX12_again_82 : decode cX12_again 82 = .ok (.istore_n 2, 1) := by decide +kernel
theorem dX12_again_83 : decode cX12_again 83 = .ok (.iload_n 2, 1) := by decide +kernel
theorem dX12_again_84 : decode cX12_again 84 = .ok (.sipush 144, 3) := by decide +kernel
theorem dX12_again_87 : decode cX12_again 87 = .ok (.if_icmp .ge 27, 3) := by decide +kernel
theorem dX12_again_90 : decode cX12_again 90 = .ok (.aload_n 0, 1) := by decide +kernel
theorem dX12_again_91 : decode cX12_again 91 = .ok (.getfield 22, 3) := by decide +kernel
theorem dX12_again_94 : decode cX12_again 94 = .ok (.iload_n 2, 1) := by decide +kernel
theorem dX12_again_95 : decode cX12_again 95 = .ok (.aload_n 0, 1) := by decide +kernel
theorem dX12_again_96 : decode cX12_again 96 = .ok (.getfield 54, 3) := by decide +kernel
theorem dX12_again_99 : decode cX12_again 99 = .ok (.sipush 144, 3) := by decide +kernel
theorem dX12_again_102 : decode cX12_again 102 = .ok (.iload_n 1, 1) := by decide +kernel
theorem dX12_again_103 : decode cX12_again 103 = .ok (.imul, 1) := by decide +kernel
theorem dX12_again_104 : decode cX12_again 104 = .ok (.iload_n 2, 1) := by decide +kernel
theorem dX12_again_105 : decode cX12_again 105 = .ok (.iadd, 1) := by decide +kernel
theorem dX12_again_106 : decode cX12_again 106 = .ok (.iaload, 1) := by decide +kernel
theorem dX12_again_107 : decode cX12_again 107 = .ok (.iastore, 1) := by decide +kernel
theorem dX12_again_108 : decode cX12_again 108 = .ok (.iinc 2 1, 3) := by decide +kernel
theorem dX12_again_111 : decode cX12_again 111 = .ok (.goto (-28), 3) := by decide +kernel
theorem dX12_again_114 : decode cX12_again 114 = .ok (.iconst 0, 1) := by decide +kernel
theorem dX12_again_115 : decode cX12_again 115 = .ok (.istore_n 2, 1) := by decide +kernel
theorem dX12_again_116 : decode cX12_again 116 = .ok (.iload_n 2, 1) := by decide +kernel
theorem dX12_again_117 : decode cX12_again 117 = .ok (.bipush 12, 2) := by decide +kernel
theorem dX12_again_119 : decode cX12_again 119 = .ok (.if_icmp .ge 43, 3) := by decide +kernel
theorem dX12_again_122 : decode cX12_again 122 = .ok (.aload_n 0, 1) := by decide +kernel
theorem dX12_again_123 : decode cX12_again 123 = .ok (.getfield 38, 3) := by decide +kernel
theorem dX12_again_126 : decode cX12_again 126 = .ok (.iload_n 2, 1) := by decide +kernel
theorem dX12_again_127 : decode cX12_again 127 = .ok (.aload_n 0, 1) := by decide +kernel
theorem dX12_again_128 : decode cX12_again 128 = .ok (.getfield 57, 3) := by decide +kernel
theorem dX12_again_131 : decode cX12_again 131 = .ok (.bipush 12, 2) := by decide +kernel
theorem dX12_again_133 : decode cX12_again 133 = .ok (.iload_n 1, 1) := by decide +kernel
theorem dX12_again_134 : decode cX12_again 134 = .ok (.imul, 1) := by decide +kernel
theorem dX12_again_135 : decode cX12_again 135 = .ok (.iload_n 2, 1) := by decide +kernel
theorem dX12_again_136 : decode cX12_again 136 = .ok (.iadd, 1) := by decide +kernel
theorem dX12_again_137 : decode cX12_again 137 = .ok (.iaload, 1) := by decide +kernel
theorem dX12_again_138 : decode cX12_again 138 = .ok (.iastore, 1) := by decide +kernel
theorem dX12_again_139 : decode cX12_again 139 = .ok (.aload_n 0, 1) := by decide +kernel
theorem dX12_again_140 : decode cX12_again 140 = .ok (.getfield 41, 3) := by decide +kernel
theorem dX12_again_143 : decode cX12_again 143 = .ok (.iload_n 2, 1) := by decide +kernel
theorem dX12_again_144 : decode cX12_again 144 = .ok (.aload_n 0, 1) := by decide +kernel
theorem dX12_again_145 : decode cX12_again 145 = .ok (.getfield 60, 3) := by decide +kernel
theorem dX12_again_148 : decode cX12_again 148 = .ok (.bipush 12, 2) := by decide +kernel
theorem dX12_again_150 : decode cX12_again 150 = .ok (.iload_n 1, 1) := by decide +kernel
theorem dX12_again_151 : decode cX12_again 151 = .ok (.imul, 1) := by decide +kernel
theorem dX12_again_152 : decode cX12_again 152 = .ok (.iload_n 2, 1) := by decide +kernel
theorem dX12_again_153 : decode cX12_again 153 = .ok (.iadd, 1) := by decide +kernel
theorem dX12_again_154 : decode cX12_again 154 = .ok (.baload, 1) := by decide +kernel
theorem dX12_again_155 : decode cX12_again 155 = .ok (.bastore, 1) := by decide +kernel
theorem dX12_again_156 : decode cX12_again 156 = .ok (.iinc 2 1, 3) := by decide +kernel
theorem dX12_again_159 : decode cX12_again 159 = .ok (.goto (-43), 3) := by decide +kernel
theorem dX12_again_162 : decode cX12_again 162 = .ok (.aload_n 0, 1) := by decide +kernel
theorem dX12_again_163 : decode cX12_again 163 = .ok (.getfield 114, 3) := by decide +kernel
theorem dX12_again_166 : decode cX12_again 166 = .ok (.ireturn, 1) := by decide +kernel
set_option maxRecDepth 20000 in
theorem ggX12_count_X12_reds : GoodIn wsX12_count wsX12_reds := goodIn_r _ [9, 4, 10, 11, 12, 13, 14, 15, 16, 17, 18, 19, 20, 21, 22, 23, 24, 25, 26, 27, 28, 29, 30, 31, 32, 33, 34, 35, 36, 37, 38, 39, 40, 41] (by decide +kernel) (by decide +kernel)
set_option maxRecDepth 20000 in
theorem gX12_count_X12_reds : GoodIn wsX12_count (wsV RX12 244 RX12 yX12_reds wsX12_reds) := goodIn_app (goodIn_of _ (by decide +kernel)) ggX12_count_X12_reds
theorem dX12_count_0 : decode cX12_count 0 = .ok (.iconst 0, 1) := by decide +kernel
theorem dX12_count_1 : decode cX12_count 1 = .ok (.istore_n 2, 1) := by decide +kernel
theorem dX12_count_2 : decode cX12_count 2 = .ok (.iconst 0, 1) := by decide +kernel
theorem dX12_count_3 : decode cX12_count 3 = .ok (.istore_n 3, 1) := by decide +kernel
theorem dX12_count_4 : decode cX12_count 4 = .ok (.iload_n 3, 1) := by decide +kernel
theorem dX12_count_5 : decode cX12_count 5 = .ok (.aload_n 0, 1) := by decide +kernel
theorem dX12_count_6 : decode cX12_count 6 = .ok (.getfield 114, 3) := by decide +kernel
theorem dX12_count_9 : decode cX12_count 9 = .ok (.if_icmp .ge 24, 3) := by decide +kernel
theorem dX12_count_12 : decode cX12_count 12 = .ok (.iload_n 2, 1) := by decide +kernel
theorem dX12_count_13 : decode cX12_count 13 = .ok (.aload_n 0, 1) := by decide +kernel
theorem dX12_count_14 : decode cX12_count 14 = .ok (.getfield 19, 3) := by decide +kernel
theorem dX12_count_17 : decode cX12_count 17 = .ok (.bipush 7, 2) := by decide +kernel
theorem dX12_count_19 : decode cX12_count 19 = .ok (.iload_n 3, 1) := by decide +kernel
theorem dX12_count_20 : decode cX12_count 20 = .ok (.imul, 1) := by decide +kernel
theorem dX12_count_21 : decode cX12_count 21 = .ok (.bipush 6, 2) := by decide +kernel
theorem dX12_count_23 : decode cX12_count 23 = .ok (.iadd, 1) := by decide +kernel
theorem dX12_count_24 : decode cX12_count 24 = .ok (.iaload, 1) := by decide +kernel
theorem dX12_count_25 : decode cX12_count 25 = .ok (.iadd, 1) := by decide +kernel
theorem dX12_count_26 : decode cX12_count 26 = .ok (.istore_n 2, 1) := by decide +kernel
theorem dX12_count_27 : decode cX12_count 27 = .ok (.iinc 3 1, 3) := by decide +kernel
theorem dX12_count_30 : decode cX12_count 30 = .ok (.goto (-26), 3) := by decide +kernel
theorem dX12_count_33 : decode cX12_count 33 = .ok (.iload_n 1, 1) := by decide +kernel
theorem dX12_count_34 : decode cX12_count 34 = .ok (.tableswitch 56 0 4 #[34, 39, 44, 46, 51], 34) := by decide +kernel
theorem dX12_count_68 : decode cX12_count 68 = .ok (.aload_n 0, 1) := by decide +kernel
theorem dX12_count_69 : decode cX12_count 69 = .ok (.getfield 82, 3) := by decide +kernel
theorem dX12_count_72 : decode cX12_count 72 = .ok (.ireturn, 1) := by decide +kernel
theorem dX12_count_73 : decode cX12_count 73 = .ok (.aload_n 0, 1) := by decide +kernel
theorem dX12_count_74 : decode cX12_count 74 = .ok (.getfield 114, 3) := by decide +kernel
theorem dX12_count_77 : decode cX12_count 77 = .ok (.ireturn, 1) := by decide +kernel
theorem dX12_count_78 : decode cX12_count 78 = .ok (.iload_n 2, 1) := by decide +kernel
theorem dX12_count_79 : decode cX12_count 79 = .ok (.ireturn, 1) := by decide +kernel
theorem dX12_count_80 : decode cX12_count 80 = .ok (.aload_n 0, 1) := by decide +kernel
theorem dX12_count_81 : decode cX12_count 81 = .ok (.getfield 241, 3) := by decide +kernel
theorem dX12_count_84 : decode cX12_count 84 = .ok (.ireturn, 1) := by decide +kernel
theorem dX12_count_85 : decode cX12_count 85 = .ok (.aload_n 0, 1) := by decide +kernel
theorem dX12_count_86 : decode cX12_count 86 = .ok (.invokevirtual 244, 3) := by decide +kernel
theorem dX12_count_89 : decode cX12_count 89 = .ok (.ireturn, 1) := by decide +kernel
theorem dX12_count_90 : decode cX12_count 90 = .ok (.bipush (-2), 2) := by decide +kernel
theorem dX12_count_92 : decode cX12_count 92 = .ok (.ireturn, 1) := by decide +kernel
