theorem dX8_stumbles_103 : decode cX8_stumbles 103 = .ok (.getfield 66, 3) := by decide +kernel
theorem dX8_stumbles_106 : decode cX8_stumbles 106 = .ok (.iload 6, 2) := by decide +kernel
theorem dX8_stumbles_108 : decode cX8_stumbles 108 = .ok (.isub, 1) := by decide +kernel
theorem dX8_stumbles_109 : decode cX8_stumbles 109 = .ok (.invokestatic 192, 3) := by decide +kernel
theorem dX8_stumbles_112 : decode cX8_stumbles 112 = .ok (.imul, 1) := by decide +kernel
theorem dX8_stumbles_113 : decode cX8_stumbles 113 = .ok (.goto 4, 3) := by decide +kernel
theorem dX8_stumbles_116 : decode cX8_stumbles 116 = .ok (.iconst 0, 1) := by decide +kernel
theorem dX8_stumbles_117 : decode cX8_stumbles 117 = .ok (.iadd, 1) := by decide +kernel
theorem dX8_stumbles_118 : decode cX8_stumbles 118 = .ok (.istore 4, 2) := by decide +kernel
theorem dX8_stumbles_120 : decode cX8_stumbles 120 = .ok (.iinc 5 1, 3) := by decide +kernel
theorem dX8_stumbles_123 : decode cX8_stumbles 123 = .ok (.goto (-85), 3) := by decide +kernel
theorem dX8_stumbles_126 : decode cX8_stumbles 126 = .ok (.aload_n 0, 1) := by decide +kernel
theorem dX8_stumbles_127 : decode cX8_stumbles 127 = .ok (.iconst 0, 1) := by decide +kernel
theorem dX8_stumbles_128 : decode cX8_stumbles 128 = .ok (.putfield 110, 3) := by decide +kernel
theorem dX8_stumbles_131 : decode cX8_stumbles 131 = .ok (.iload 4, 2) := by decide +kernel
theorem dX8_stumbles_133 : decode cX8_stumbles 133 = .ok (.bipush 10, 2) := by decide +kernel
theorem dX8_stumbles_135 : decode cX8_stumbles 135 = .ok (.aload_n 0, 1) := by decide +kernel
theorem dX8_stumbles_136 : decode cX8_stumbles 136 = .ok (.getfield 66, 3) := by decide +kernel
theorem dX8_stumbles_139 : decode cX8_stumbles 139 = .ok (.invokestatic 192, 3) := by decide +kernel
theorem dX8_stumbles_142 : decode cX8_stumbles 142 = .ok (.iload_n 3, 1) := by decide +kernel
theorem dX8_stumbles_143 : decode cX8_stumbles 143 = .ok (.invokestatic 215, 3) := by decide +kernel
theorem dX8_stumbles_146 : decode cX8_stumbles 146 = .ok (.ireturn, 1) := by decide +kernel
theorem dX8_seed_0 : decode cX8_seed 0 = .ok (.aload_n 0, 1) := by decide +kernel
theorem dX8_seed_1 : decode cX8_seed 1 = .ok (.iconst 0, 1) := by decide +kernel
theorem dX8_seed_2 : decode cX8_seed 2 = .ok (.putfield 63, 3) := by decide +kernel
theorem dX8_seed_5 : decode cX8_seed 5 = .ok (.aload_n 0, 1) := by decide +kernel
theorem dX8_seed_6 : decode cX8_seed 6 = .ok (.getfield 244, 3) := by decide +kernel
theorem dX8_seed_9 : decode cX8_seed 9 = .ok (.lstore_n 3, 1) := by decide +kernel
theorem dX8_seed_10 : decode cX8_seed 10 = .ok (.aload_n 0, 1) := by decide +kernel
theorem dX8_seed_11 : decode cX8_seed 11 = .ok (.lload_n 1, 1) := by decide +kernel
theorem dX8_seed_12 : decode cX8_seed 12 = .ok (.putfield 244, 3) := by decide +kernel
theorem dX8_seed_15 : decode cX8_seed 15 = .ok (.lload_n 3, 1) := by decide +kernel
theorem dX8_seed_16 : decode cX8_seed 16 = .ok (.lreturn, 1) := by decide +kernel
set_option maxRecDepth 20000 in
theorem ggX8_winters_X8_in : GoodIn wsX8_winters wsX8_in := goodIn_r _ [11] (by decide +kernel) (by decide +kernel)
set_option maxRecDepth 20000 in
theorem gX8_winters_X8_in : GoodIn wsX8_winters (va_wsS RX8 69 yX8_in wsX8_in) := goodIn_app (goodIn_of _ (by decide +kernel)) ggX8_winters_X8_in
set_option maxRecDepth 20000 in
theorem ggX8_winters_X8_begin : GoodIn wsX8_winters wsX8_begin := goodIn_r _ [15, 16, 7, 17, 78, 79, 80, 81, 82, 83, 84, 85, 86, 87, 88, 89, 90, 91, 92, 93, 94, 95, 96, 97, 98, 99, 100, 101, 102, 103, 104, 105, 106, 107, 108, 109, 110] (by decide +kernel) (by decide +kernel)
set_option maxRecDepth 20000 in
theorem gX8_winters_X8_begin : GoodIn wsX8_winters (wsV RX8 170 RX8 yX8_begin wsX8_begin) := goodIn_app (goodIn_of _ (by decide +kernel)) ggX8_winters_X8_begin
set_option maxRecDepth 20000 in
theorem ggX8_winters_X8_does : GoodIn wsX8_winters wsX8_does := goodIn_r _ [21, 7, 22, 23, 24, 25, 10, 26, 27, 28, 29, 30, 31, 32, 33, 34, 16, 35, 36, 37, 38, 39, 40, 41, 42, 43, 44, 45, 46, 47, 48, 49, 8, 9, 11, 50, 51, 52, 53, 54, 55, 56, 57, 58, 59, 60, 61, 62, 63, 64, 65, 66, 67, 68, 69, 70, 78, 79, 80, 81, 82, 83, 84, 85, 86, 87, 88, 89, 90, 91, 92, 93, 94, 95, 96, 97, 98, 99, 100, 101, 102, 103, 104, 105, 106, 107, 108, 109, 110] (by decide +kernel) (by decide +kernel)
set_option maxRecDepth 20000 in
theorem gX8_winters_X8_does : GoodIn wsX8_winters (wsV RX8 206 RX8 yX8_does wsX8_does) := goodIn_app (goodIn_of _ (by decide +kernel)) ggX8_winters_X8_does
set_option maxRecDepth 20000 in
theorem ggX8_winters_X8_up : GoodIn wsX8_winters wsX8_up := goodIn_r _ [74, 22, 78, 79, 80, 81, 82, 83, 84, 85, 86, 87, 88, 89, 90, 91, 92, 93, 94, 95, 96, 97, 98, 99, 100, 101, 102, 103, 104, 105, 106, 107, 108, 109, 110] (by decide +kernel) (by decide +kernel)
set_option maxRecDepth 20000 in
theorem gX8_winters_X8_up : GoodIn wsX8_winters (wsV RX8 177 RX8 yX8_up wsX8_up) := goodIn_app (goodIn_of _ (by decide +kernel)) ggX8_winters_X8_up
set_option maxRecDepth 20000 in
theorem ggX8_winters_X8_many : GoodIn wsX8_winters wsX8_many := goodIn_r _ [77] (by decide +kernel) (by decide +kernel)
set_option maxRecDepth 20000 in
theorem gX8_winters_X8_many : GoodIn wsX8_winters (va_wsS RX8 165 yX8_many wsX8_many) := goodIn_app (goodIn_of _ (by decide +kernel)) ggX8_winters_X8_many
theorem dX8_winters_0 : decode cX8_winters 0 = .ok (.aload_n 0, 1) := by decide +kernel
theorem dX8_winters_1 : decode cX8_winters 1 = .ok (.iconst 0, 1) := by decide +kernel
theorem dX8_winters_2 : decode cX8_winters 2 = .ok (.putfield 63, 3) := by decide +kernel
theorem dX8_winters_5 : decode cX8_winters 5 = .ok (.iload_n 1, 1) := by decide +kernel
theorem dX8_winters_6 : decode cX8_winters 6 = .ok (.i2l, 1) := by decide +kernel
theorem dX8_winters_7 : decode cX8_winters 7 = .ok (.lconst 1, 1) := by decide +kernel
theorem dX8_winters_8 : decode cX8_winters 8 = .ok (.ldc2_w 248, 3) := by decide +kernel
theorem dX8_winters_11 : decode cX8_winters 11 = .ok (.invokestatic 69, 3) := by decide +kernel
theorem dX8_winters_14 : decode cX8_winters 14 = .ok (.ifCond .ne 6, 3) := by decide +kernel
theorem dX8_winters_17 : decode cX8_winters 17 = .ok (.bipush (-2), 2) := by decide +kernel
theorem dX8_winters_19 : decode cX8_winters 19 = .ok (.ireturn, 1) := by decide +kernel
theorem dX8_winters_20 : decode cX8_winters 20 = .ok (.aload_n 0, 1) := by decide +kernel
theorem dX8_winters_21 : decode cX8_winters 21 = .ok (.invokevirtual 170, 3) := by decide +kernel
theorem dX8_winters_24 : decode cX8_winters 24 = .ok (.iconst 0, 1) := by decide +kernel
theorem dX8_winters_25 : decode cX8_winters 25 = .ok (.istore_n 2, 1) := by decide +kernel
theorem dX8_winters_26 : decode cX8_winters 26 = .ok (.iconst 0, 1) := by decide +kernel
theorem dX8_winters_27 : decode cX8_winters 27 = .ok (.istore_n 3, 1) := by decide +kernel
theorem dX8_winters_28 : decode cX8_winters 28 = .ok (.iload_n 3, 1) := by decide +kernel
theorem dX8_winters_29 : decode cX8_winters 29 = .ok (.iload_n 1, 1) := by decide +kernel
theorem dX8_winters_30 : decode cX8_winters 30 = .ok (.if_icmp .ge 108, 3) := by decide +kernel
theorem dX8_winters_33 : decode cX8_winters 33 = .ok (.aload_n 0, 1) := by decide +kernel
theorem dX8_winters_34 : decode cX8_winters 34 = .ok (.aload_n 0, 1) := by decide +kernel
theorem dX8_winters_35 : decode cX8_winters 35 = .ok (.getfield 244, 3) := by decide +kernel
theorem dX8_winters_38 : decode cX8_winters 38 = .ok (.ldc2_w 250, 3) := by decide +kernel
theorem dX8_winters_41 : decode cX8_winters 41 = .ok (.lmul, 1) := by decide +kernel
theorem dX8_winters_42 : decode cX8_winters 42 = .ok (.ldc2_w 252, 3) := by decide +kernel
theorem dX8_winters_45 : decode cX8_winters 45 = .ok (.ladd, 1) := by decide +kernel
theorem dX8_winters_46 : decode cX8_winters 46 = .ok (.putfield 244, 3) := by decide +kernel
theorem dX8_winters_49 : decode cX8_winters 49 = .ok (.aload_n 0, 1) := by decide +kernel
theorem dX8_winters_50 : decode cX8_winters 50 = .ok (.getfield 244, 3) := by decide +kernel
theorem dX8_winters_53 : decode cX8_winters 53 = .ok (.bipush 33, 2) := by decide +kernel
theorem dX8_winters_55 : decode cX8_winters 55 = .ok (.lushr, 1) := by decide +kernel
theorem dX8_winters_56 : decode cX8_winters 56 = .ok (.ldc2_w 168, 3) := by decide +kernel
theorem dX8_winters_59 : decode cX8_winters 59 = .ok (.lrem, 1) := by decide +kernel
theorem dX8_winters_60 : decode cX8_winters 60 = .ok (.l2i, 1) := by decide +kernel
theorem dX8_winters_61 : decode cX8_winters 61 = .ok (.istore 4, 2) := by decide +kernel
theorem dX8_winters_63 : decode cX8_winters 63 = .ok (.aload_n 0, 1) := by decide +kernel
theorem dX8_winters_64 : decode cX8_winters 64 = .ok (.iload 4, 2) := by decide +kernel
theorem dX8_winters_66 : decode cX8_winters 66 = .ok (.iconst 5, 1) := by decide +kernel
theorem dX8_winters_67 : decode cX8_winters 67 = .ok (.if_icmp .ge 15, 3) := by decide +kernel
theorem dX8_winters_70 : decode cX8_winters 70 = .ok (.sipush 201, 3) := by decide +kernel
theorem dX8_winters_73 : decode cX8_winters 73 = .ok (.bipush 10, 2) := by decide +kernel
theorem dX8_winters_75 : decode cX8_winters 75 = .ok (.iload 4, 2) := by decide +kernel
theorem dX8_winters_77 : decode cX8_winters 77 = .ok (.imul, 1) := by decide +kernel
theorem dX8_winters_78 : decode cX8_winters 78 = .ok (.iadd, 1) := by decide +kernel
theorem dX8_winters_79 : decode cX8_winters 79 = .ok (.goto 35, 3) := by decide +kernel
theorem dX8_winters_82 : decode cX8_winters 82 = .ok (.iload 4, 2) := by decide +kernel
theorem dX8_winters_84 : decode cX8_winters 84 = .ok (.bipush 9, 2) := by decide +kernel
theorem dX8_winters_86 : decode cX8_winters 86 = .ok (.if_icmp .ge 11, 3) := by decide +kernel
theorem dX8_winters_89 : decode cX8_winters 89 = .ok (.bipush 95, 2) := by decide +kernel
theorem dX8_winters_91 : decode cX8_winters 91 = .ok (.iload 4, 2) := by decide +kernel
theorem dX8_winters_93 : decode cX8_winters 93 = .ok (.iadd, 1) := by decide +kernel
theorem dX8_winters_94 : decode cX8_winters 94 = .ok (.goto 20, 3) := by decide +kernel
theorem dX8_winters_97 : decode cX8_winters 97 = .ok (.iload 4, 2) := by decide +kernel
theorem dX8_winters_99 : decode cX8_winters 99 = .ok (.bipush 14, 2) := by decide +kernel
theorem dX8_winters_101 : decode cX8_winters 101 = .ok (.if_icmp .ge 12, 3) := by decide +kernel
theorem dX8_winters_104 : decode cX8_winters 104 = .ok (.sipush 291, 3) := by decide +kernel
theorem dX8_winters_107 : decode cX8_winters 107 = .ok (.iload 4, 2) := by decide +kernel
theorem dX8_winters_109 : decode cX8_winters 109 = .ok (.iadd, 1) := by decide +kernel
theorem dX8_winters_110 : decode cX8_winters 110 = .ok (.goto 4, 3) := by decide +kernel
theorem dX8_winters_113 : decode cX8_winters 113 = .ok (.iconst 0, 1) := by decide +kernel
theorem dX8_winters_114 : decode cX8_winters 114 = .ok (.invokevirtual 206, 3) := by decide +kernel
theorem dX8_winters_117 : decode cX8_winters 117 = .ok (.pop, 1) := by decide +kernel
theorem dX8_winters_118 : decode cX8_winters 118 = .ok (.iload_n 2, 1) := by decide +kernel
theorem dX8_winters_119 : decode cX8_winters 119 = .ok (.aload_n 0, 1) := by decide +kernel
theorem dX8_winters_120 : decode cX8_winters 120 = .ok (.aload_n 0, 1) := by decide +kernel
theorem dX8_winters_121 : decode cX8_winters 121 = .ok (.getfield 35, 3) := by decide +kernel
theorem dX8_winters_124 : decode cX8_winters 124 = .ok (.invokevirtual 177, 3) := by decide +kernel
theorem dX8_winters_127 : decode cX8_winters 127 = .ok (.invokestatic 165, 3) := by decide +kernel
theorem dX8_winters_130 : decode cX8_winters 130 = .ok (.iadd, 1) := by decide +kernel
theorem dX8_winters_131 : decode cX8_winters 131 = .ok (.istore_n 2, 1) := by decide +kernel
theorem dX8_winters_132 : decode cX8_winters 132 = .ok (.iinc 3 1, 3) := by decide +kernel
theorem dX8_winters_135 : decode cX8_winters 135 = .ok (.goto (-107), 3) := by decide +kernel
theorem dX8_winters_138 : decode cX8_winters 138 = .ok (.iload_n 2, 1) := by decide +kernel
theorem dX8_winters_139 : decode cX8_winters 139 = .ok (.ireturn, 1) := by decide +kernel
set_option maxRecDepth 20000 in
theorem ggX8_keep_X8_in : GoodIn wsX8_keep wsX8_in := goodIn_r _ [8] (by decide +kernel) (by decide +kernel)
set_option maxRecDepth 20000 in
theorem gX8_keep_X8_in : GoodIn wsX8_keep (va_wsS RX8 69 yX8_in wsX8_in) := goodIn_app (goodIn_of _ (by decide +kernel)) ggX8_keep_X8_in
theorem dX8_keep_0 : decode cX8_keep 0 = .ok (.aload_n 0, 1) := by decide +kernel
theorem dX8_keep_1 : decode cX8_keep 1 = .ok (.iconst 0, 1) := by decide +kernel
theorem dX8_keep_2 : decode cX8_keep 2 = .ok (.putfield 63, 3) := by decide +kernel
theorem dX8_keep_5 : decode cX8_keep 5 = .ok (.iload_n 1, 1) := by decide +kernel
theorem dX8_keep_6 : decode cX8_keep 6 = .ok (.i2l, 1) := by decide +kernel
theorem dX8_keep_7 : decode cX8_keep 7 = .ok (.lconst 0, 1) := by decide +kernel
theorem dX8_keep_8 : decode cX8_keep 8 = .ok (.lconst 1, 1) := by decide +kernel
theorem dX8_keep_9 : decode cX8_keep 9 = .ok (.invokestatic 69, 3) := by decide +kernel
theorem dX8_keep_12 : decode cX8_keep 12 = .ok (.ifCond .ne 5, 3) := by decide +kernel
theorem dX8_keep_15 : decode cX8_keep 15 = .ok (.iconst (-1), 1) := by decide +kernel
theorem dX8_keep_16 : decode cX8_keep 16 = .ok (.ireturn, 1) := by decide +kernel
theorem dX8_keep_17 : decode cX8_keep 17 = .ok (.aload_n 0, 1) := by decide +kernel
theorem dX8_keep_18 : decode cX8_keep 18 = .ok (.getfield 44, 3) := by decide +kernel
theorem dX8_keep_21 : decode cX8_keep 21 = .ok (.iload_n 1, 1) := by decide +kernel
theorem dX8_keep_22 : decode cX8_keep 22 = .ok (.iconst 1, 1) := by decide +kernel
theorem dX8_keep_23 : decode cX8_keep 23 = .ok (.bastore, 1) := by decide +kernel
theorem dX8_keep_24 : decode cX8_keep 24 = .ok (.iconst 0, 1) := by decide +kernel
theorem dX8_keep_25 : decode cX8_keep 25 = .ok (.istore_n 2, 1) := by decide +kernel
theorem dX8_keep_26 : decode cX8_keep 26 = .ok (.iload_n 2, 1) := by decide +kernel
theorem dX8_keep_27 : decode cX8_keep 27 = .ok (.bipush 17, 2) := by decide +kernel
theorem dX8_keep_29 : decode cX8_keep 29 = .ok (.if_icmp .ge 26, 3) := by decide +kernel
theorem dX8_keep_32 : decode cX8_keep 32 = .ok (.aload_n 0, 1) := by decide +kernel
theorem dX8_keep_33 : decode cX8_keep 33 = .ok (.getfield 41, 3) := by decide +kernel
theorem dX8_keep_36 : decode cX8_keep 36 = .ok (.bipush 17, 2) := by decide +kernel
theorem dX8_keep_38 : decode cX8_keep 38 = .ok (.iload_n 1, 1) := by decide +kernel
theorem dX8_keep_39 : decode cX8_keep 39 = .ok (.imul, 1) := by decide +kernel
theorem dX8_keep_40 : decode cX8_keep 40 = .ok (.iload_n 2, 1) := by decide +kernel
theorem dX8_keep_41 : decode cX8_keep 41 = .ok (.iadd, 1) := by decide +kernel
theorem dX8_keep_42 : decode cX8_keep 42 = .ok (.aload_n 0, 1) := by decide +kernel
theorem dX8_keep_43 : decode cX8_keep 43 = .ok (.getfield 32, 3) := by decide +kernel
theorem dX8_keep_46 : decode cX8_keep 46 = .ok (.iload_n 2, 1) := by decide +kernel
theorem dX8_keep_47 : decode cX8_keep 47 = .ok (.iaload, 1) := by decide +kernel
theorem dX8_keep_48 : decode cX8_keep 48 = .ok (.iastore, 1) := by decide +kernel
theorem dX8_keep_49 : decode cX8_keep 49 = .ok (.iinc 2 1, 3) := by decide +kernel
theorem dX8_keep_52 : decode cX8_keep 52 = .ok (.goto (-26), 3) := by decide +kernel
theorem dX8_keep_55 : decode cX8_keep 55 = .ok (.aload_n 0, 1) := by decide +kernel
theorem dX8_keep_56 : decode cX8_keep 56 = .ok (.getfield 32, 3) := by decide +kernel
theorem dX8_keep_59 : decode cX8_keep 59 = .ok (.bipush 16, 2) := by decide +kernel
theorem dX8_keep_61 : decode cX8_keep 61 = .ok (.iaload, 1) := by decide +kernel
theorem dX8_keep_62 : decode cX8_keep 62 = .ok (.ireturn, 1) := by decide +kernel
set_option maxRecDepth 20000 in
theorem ggX8_again_X8_in : GoodIn wsX8_again wsX8_in := goodIn_r _ [9] (by decide +kernel) (by decide +kernel)
set_option maxRecDepth 20000 in
theorem gX8_again_X8_in : GoodIn wsX8_again (va_wsS RX8 69 yX8_in wsX8_in) := goodIn_app (goodIn_of _ (by decide +kernel)) ggX8_again_X8_in
theorem dX8_again_0 : decode cX8_again 0 = .ok (.aload_n 0, 1) := by decide +kernel
theorem dX8_again_1 : decode cX8_again 1 = .ok (.iconst 0, 1) := by decide +kernel
theorem dX8_again_2 : decode cX8_again 2 = .ok (.putfield 63, 3) := by decide +kernel
theorem dX8_again_5 : decode cX8_again 5 = .ok (.iload_n 1, 1) := by decide +kernel
theorem dX8_again_6 : decode cX8_again 6 = .ok (.i2l, 1) := by decide +kernel
theorem dX8_again_7 : decode cX8_again 7 = .ok (.lconst 0, 1) := by decide +kernel
theorem dX8_again_8 : decode cX8_again 8 = .ok (.lconst 1, 1) := by decide +kernel
theorem dX8_again_9 : decode cX8_again 9 = .ok (.invokestatic 69, 3) := by decide +kernel
theorem dX8_again_12 : decode cX8_again 12 = .ok (.ifCond .ne 5, 3) := by decide +kernel
theorem dX8_again_15 : decode cX8_again 15 = .ok (.iconst (-1), 1) := by decide +kernel
theorem dX8_again_16 : decode cX8_again 16 = .ok (.ireturn, 1) := by decide +kernel
theorem dX8_again_17 : decode cX8_again 17 = .ok (.aload_n 0, 1) := by decide +kernel
theorem dX8_again_18 : decode cX8_again 18 = .ok (.getfield 44, 3) := by decide +kernel
theorem dX8_again_21 : decode cX8_again 21 = .ok (.iload_n 1, 1) := by decide +kernel
theorem dX8_again_22 : decode cX8_again 22 = .ok (.baload, 1) := by decide +kernel
theorem dX8_again_23 : decode cX8_again 23 = .ok (.ifCond .ne 6, 3) := by decide +kernel
theorem dX8_again_26 : decode cX8_again 26 = .ok (.bipush (-3), 2) := by decide +kernel
theorem dX8_again_28 : decode cX8_again 28 = .ok (.ireturn, 1) := by decide +kernel
theorem dX8_again_29 : decode cX8_again 29 = .ok (.iconst 0, 1) := by decide +kernel
theorem dX8_again_30 : decode cX8_again 30 = .ok (.istore_n 2, 1) := by decide +kernel
theorem dX8_again_31 : decode cX8_again 31 = .ok (.iload_n 2, 1) := by decide +kernel
theorem dX8_again_32 : decode cX8_again 32 = .ok (.bipush 17, 2) := by decide +kernel
theorem dX8_again_34 : decode cX8_again 34 = .ok (.if_icmp .ge 26, 3) := by decide +kernel
theorem dX8_again_37 : decode cX8_again 37 = .ok (.aload_n 0, 1) := by decide +kernel
theorem dX8_again_38 : decode cX8_again 38 = .ok (.getfield 32, 3) := by decide +kernel
theorem dX8_again_41 : decode cX8_again 41 = .ok (.iload_n 2, 1) := by decide +kernel
theorem dX8_again_42 : decode cX8_again 42 = .ok (.aload_n 0, 1) := by decide +kernel
theorem dX8_again_43 : decode cX8_again 43 = .ok (.getfield 41, 3) := by decide +kernel
theorem dX8_again_46 : decode cX8_again 46 = .ok (.bipush 17, 2) := by decide +kernel
theorem dX8_again_48 : decode cX8_again 48 = .ok (.iload_n 1, 1) := by decide +kernel
theorem dX8_again_49 : decode cX8_again 49 = .ok (.imul, 1) := by decide +kernel
theorem dX8_again_50 : decode cX8_again 50 = .ok (.iload_n 2, 1) := by decide +kernel
theorem dX8_again_51 : decode cX8_again 51 = .ok (.iadd, 1) := by decide +kernel
theorem dX8_again_52 : decode cX8_again 52 = .ok (.iaload, 1) := by decide +kernel
theorem dX8_again_53 : decode cX8_again 53 = .ok (.iastore, 1) := by decide +kernel
theorem dX8_again_54 : decode cX8_again 54 = .ok (.iinc 2 1, 3) := by decide +kernel
theorem dX8_again_57 : decode cX8_again 57 = .ok (.goto (-26), 3) := by decide +kernel
theorem dX8_again_60 : decode cX8_again 60 = .ok (.aload_n 0, 1) := by decide +kernel
theorem dX8_again_61 : decode cX8_again 61 = .ok (.iconst 0, 1) := by decide +kernel
theorem dX8_again_62 : decode cX8_again 62 = .ok (.putfield 99, 3) := by decide +kernel
theorem dX8_again_65 : decode cX8_again 65 = .ok (.aload_n 0, 1) := by decide +kernel
theorem dX8_again_66 : decode cX8_again 66 = .ok (.getfield 32, 3) := by decide +kernel
theorem dX8_again_69 : decode cX8_again 69 = .ok (.bipush 16, 2) := by decide +kernel
theorem dX8_again_71 : decode cX8_again 71 = .ok (.iaload, 1) := by decide +kernel
theorem dX8_again_72 : decode cX8_again 72 = .ok (.ireturn, 1) := by decide +kernel
theorem dJ6_bitCount_0f7a4_0 : decode cJ6_bitCount_0f7a4 0 = .ok (.iload_n 0, 1) := by decide +kernel
theorem dJ6_bitCount_0f7a4_1 : decode cJ6_bitCount_0f7a4 1 = .ok (.iload_n 0, 1) := by decide +kernel
theorem dJ6_bitCount_0f7a4_2 : decode cJ6_bitCount_0f7a4 2 = .ok (.iconst 1, 1) := by decide +kernel
theorem dJ6_bitCount_0f7a4_3 : decode cJ6_bitCount_0f7a4 3 = .ok (.iushr, 1) := by decide +kernel
theorem dJ6_bitCount_0f7a4_4 : decode cJ6_bitCount_0f7a4 4 = .ok (.ldc_w 265, 3) := by decide +kernel
theorem dJ6_bitCount_0f7a4_7 : decode cJ6_bitCount_0f7a4 7 = .ok (.iand, 1) := by decide +kernel
theorem dJ6_bitCount_0f7a4_8 : decode cJ6_bitCount_0f7a4 8 = .ok (.isub, 1) := by decide +kernel
theorem dJ6_bitCount_0f7a4_9 : decode cJ6_bitCount_0f7a4 9 = .ok (.istore_n 0, 1) := by decide +kernel
theorem dJ6_bitCount_0f7a4_10 : decode cJ6_bitCount_0f7a4 10 = .ok (.iload_n 0, 1) := by decide +kernel
theorem dJ6_bitCount_0f7a4_11 : decode cJ6_bitCount_0f7a4 11 = .ok (.ldc_w 266, 3) := by decide +kernel
theorem dJ6_bitCount_0f7a4_14 : decode cJ6_bitCount_0f7a4 14 = .ok (.iand, 1) := by decide +kernel
theorem dJ6_bitCount_0f7a4_15 : decode cJ6_bitCount_0f7a4 15 = .ok (.iload_n 0, 1) := by decide +kernel
theorem dJ6_bitCount_0f7a4_16 : decode cJ6_bitCount_0f7a4 16 = .ok (.iconst 2, 1) := by decide +kernel
theorem dJ6_bitCount_0f7a4_17 : decode cJ6_bitCount_0f7a4 17 = .ok (.iushr, 1) := by decide +kernel
theorem dJ6_bitCount_0f7a4_18 : decode cJ6_bitCount_0f7a4 18 = .ok (.ldc_w 266, 3) := by decide +kernel
theorem dJ6_bitCount_0f7a4_21 : decode cJ6_bitCount_0f7a4 21 = .ok (.iand, 1) := by decide +kernel
theorem dJ6_bitCount_0f7a4_22 : decode cJ6_bitCount_0f7a4 22 = .ok (.iadd, 1) := by decide +kernel
theorem dJ6_bitCount_0f7a4_23 : decode cJ6_bitCount_0f7a4 23 = .ok (.istore_n 0, 1) := by decide +kernel
theorem dJ6_bitCount_0f7a4_24 : decode cJ6_bitCount_0f7a4 24 = .ok (.iload_n 0, 1) := by decide +kernel
theorem dJ6_bitCount_0f7a4_25 : decode cJ6_bitCount_0f7a4 25 = .ok (.iload_n 0, 1) := by decide +kernel
theorem dJ6_bitCount_0f7a4_26 : decode cJ6_bitCount_0f7a4 26 = .ok (.iconst 4, 1) := by decide +kernel
theorem dJ6_bitCount_0f7a4_27 : decode cJ6_bitCount_0f7a4 27 = .ok (.iushr, 1) := by decide +kernel
theorem dJ6_bitCount_0f7a4_28 : decode cJ6_bitCount_0f7a4 28 = .ok (.iadd, 1) := by decide +kernel
theorem dJ6_bitCount_0f7a4_29 : decode cJ6_bitCount_0f7a4 29 = .ok (.ldc_w 267, 3) := by decide +kernel
theorem dJ6_bitCount_0f7a4_32 : decode cJ6_bitCount_0f7a4 32 = .ok (.iand, 1) := by decide +kernel
theorem dJ6_bitCount_0f7a4_33 : decode cJ6_bitCount_0f7a4 33 = .ok (.istore_n 0, 1) := by decide +kernel
theorem dJ6_bitCount_0f7a4_34 : decode cJ6_bitCount_0f7a4 34 = .ok (.iload_n 0, 1) := by decide +kernel
theorem dJ6_bitCount_0f7a4_35 : decode cJ6_bitCount_0f7a4 35 = .ok (.iload_n 0, 1) := by decide +kernel
theorem dJ6_bitCount_0f7a4_36 : decode cJ6_bitCount_0f7a4 36 = .ok (.bipush 8, 2) := by decide +kernel
theorem dJ6_bitCount_0f7a4_38 : decode cJ6_bitCount_0f7a4 38 = .ok (.iushr, 1) := by decide +kernel
theorem dJ6_bitCount_0f7a4_39 : decode cJ6_bitCount_0f7a4 39 = .ok (.iadd, 1) := by decide +kernel
theorem dJ6_bitCount_0f7a4_40 : decode cJ6_bitCount_0f7a4 40 = .ok (.istore_n 0, 1) := by decide +kernel
theorem dJ6_bitCount_0f7a4_41 : decode cJ6_bitCount_0f7a4 41 = .ok (.iload_n 0, 1) := by decide +kernel
theorem dJ6_bitCount_0f7a4_42 : decode cJ6_bitCount_0f7a4 42 = .ok (.iload_n 0, 1) := by decide +kernel
theorem dJ6_bitCount_0f7a4_43 : decode cJ6_bitCount_0f7a4 43 = .ok (.bipush 16, 2) := by decide +kernel
theorem dJ6_bitCount_0f7a4_45 : decode cJ6_bitCount_0f7a4 45 = .ok (.iushr, 1) := by decide +kernel
theorem dJ6_bitCount_0f7a4_46 : decode cJ6_bitCount_0f7a4 46 = .ok (.iadd, 1) := by decide +kernel
theorem dJ6_bitCount_0f7a4_47 : decode cJ6_bitCount_0f7a4 47 = .ok (.istore_n 0, 1) := by decide +kernel
theorem dJ6_bitCount_0f7a4_48 : decode cJ6_bitCount_0f7a4 48 = .ok (.iload_n 0, 1) := by decide +kernel
theorem dJ6_bitCount_0f7a4_49 : decode cJ6_bitCount_0f7a4 49 = .ok (.bipush 63, 2) := by decide +kernel
theorem dJ6_bitCount_0f7a4_51 : decode cJ6_bitCount_0f7a4 51 = .ok (.iand, 1) := by decide +kernel
theorem dJ6_bitCount_0f7a4_52 : decode cJ6_bitCount_0f7a4 52 = .ok (.ireturn, 1) := by decide +kernel
theorem dJ9_abs_0f7a4_0 : decode cJ9_abs_0f7a4 0 = .ok (.iload_n 0, 1) := by decide +kernel
theorem dJ9_abs_0f7a4_1 : decode cJ9_abs_0f7a4 1 = .ok (.ifCond .ge 8, 3) := by decide +kernel
theorem dJ9_abs_0f7a4_4 : decode cJ9_abs_0f7a4 4 = .ok (.iload_n 0, 1) := by decide +kernel
theorem dJ9_abs_0f7a4_5 : decode cJ9_abs_0f7a4 5 = .ok (.ineg, 1) := by decide +kernel
theorem dJ9_abs_0f7a4_6 : decode cJ9_abs_0f7a4 6 = .ok (.goto 4, 3) := by decide +kernel
theorem dJ9_abs_0f7a4_9 : decode cJ9_abs_0f7a4 9 = .ok (.iload_n 0, 1) := by decide +kernel
theorem dJ9_abs_0f7a4_10 : decode cJ9_abs_0f7a4 10 = .ok (.ireturn, 1) := by decide +kernel
theorem dJ9_max_7cf53_0 : decode cJ9_max_7cf53 0 = .ok (.iload_n 0, 1) := by decide +kernel
theorem dJ9_max_7cf53_1 : decode cJ9_max_7cf53 1 = .ok (.iload_n 1, 1) := by decide +kernel
theorem dJ9_max_7cf53_2 : decode cJ9_max_7cf53 2 = .ok (.if_icmp .lt 7, 3) := by decide +kernel
theorem dJ9_max_7cf53_5 : decode cJ9_max_7cf53 5 = .ok (.iload_n 0, 1) := by decide +kernel
theorem dJ9_max_7cf53_6 : decode cJ9_max_7cf53 6 = .ok (.goto 4, 3) := by decide +kernel
theorem dJ9_max_7cf53_9 : decode cJ9_max_7cf53 9 = .ok (.iload_n 1, 1) := by decide +kernel
theorem dJ9_max_7cf53_10 : decode cJ9_max_7cf53 10 = .ok (.ireturn, 1) := by decide +kernel
theorem dJ9_min_7cf53_0 : decode cJ9_min_7cf53 0 = .ok (.iload_n 0, 1) := by decide +kernel
theorem dJ9_min_7cf53_1 : decode cJ9_min_7cf53 1 = .ok (.iload_n 1, 1) := by decide +kernel
theorem dJ9_min_7cf53_2 : decode cJ9_min_7cf53 2 = .ok (.if_icmp .gt 7, 3) := by decide +kernel
theorem dJ9_min_7cf53_5 : decode cJ9_min_7cf53 5 = .ok (.iload_n 0, 1) := by decide +kernel
theorem dJ9_min_7cf53_6 : decode cJ9_min_7cf53 6 = .ok (.goto 4, 3) := by decide +kernel
theorem dJ9_min_7cf53_9 : decode cJ9_min_7cf53 9 = .ok (.iload_n 1, 1) := by decide +kernel
theorem dJ9_min_7cf53_10 : decode cJ9_min_7cf53 10 = .ok (.ireturn, 1) := by decide +kernel
