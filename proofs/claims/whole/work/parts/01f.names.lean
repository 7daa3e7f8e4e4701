theorem dX8_findLines_53 : decode cX8_findLines 53 = .ok (.goto 4, 3) := by decide +kernel
theorem dX8_findLines_56 : decode cX8_findLines 56 = .ok (.iconst 0, 1) := by decide +kernel
theorem dX8_findLines_57 : decode cX8_findLines 57 = .ok (.istore_n 1, 1) := by decide +kernel
theorem dX8_findLines_58 : decode cX8_findLines 58 = .ok (.iload_n 1, 1) := by decide +kernel
theorem dX8_findLines_59 : decode cX8_findLines 59 = .ok (.ifCond .eq 97, 3) := by decide +kernel
theorem dX8_findLines_62 : decode cX8_findLines 62 = .ok (.aload_n 0, 1) := by decide +kernel
theorem dX8_findLines_63 : decode cX8_findLines 63 = .ok (.invokevirtual 170, 3) := by decide +kernel
theorem dX8_findLines_66 : decode cX8_findLines 66 = .ok (.iconst 0, 1) := by decide +kernel
theorem dX8_findLines_67 : decode cX8_findLines 67 = .ok (.istore_n 2, 1) := by decide +kernel
theorem dX8_findLines_68 : decode cX8_findLines 68 = .ok (.iconst 0, 1) := by decide +kernel
theorem dX8_findLines_69 : decode cX8_findLines 69 = .ok (.istore_n 3, 1) := by decide +kernel
theorem dX8_findLines_70 : decode cX8_findLines 70 = .ok (.iload_n 3, 1) := by decide +kernel
theorem dX8_findLines_71 : decode cX8_findLines 71 = .ok (.aload_n 0, 1) := by decide +kernel
theorem dX8_findLines_72 : decode cX8_findLines 72 = .ok (.getfield 66, 3) := by decide +kernel
theorem dX8_findLines_75 : decode cX8_findLines 75 = .ok (.if_icmp .ge 37, 3) := by decide +kernel
theorem dX8_findLines_78 : decode cX8_findLines 78 = .ok (.aload_n 0, 1) := by decide +kernel
theorem dX8_findLines_79 : decode cX8_findLines 79 = .ok (.getfield 35, 3) := by decide +kernel
theorem dX8_findLines_82 : decode cX8_findLines 82 = .ok (.iconst 0, 1) := by decide +kernel
theorem dX8_findLines_83 : decode cX8_findLines 83 = .ok (.iload_n 3, 1) := by decide +kernel
theorem dX8_findLines_84 : decode cX8_findLines 84 = .ok (.iadd, 1) := by decide +kernel
theorem dX8_findLines_85 : decode cX8_findLines 85 = .ok (.aload_n 0, 1) := by decide +kernel
theorem dX8_findLines_86 : decode cX8_findLines 86 = .ok (.getfield 54, 3) := by decide +kernel
theorem dX8_findLines_89 : decode cX8_findLines 89 = .ok (.iload_n 3, 1) := by decide +kernel
theorem dX8_findLines_90 : decode cX8_findLines 90 = .ok (.iaload, 1) := by decide +kernel
theorem dX8_findLines_91 : decode cX8_findLines 91 = .ok (.iastore, 1) := by decide +kernel
theorem dX8_findLines_92 : decode cX8_findLines 92 = .ok (.bipush 10, 2) := by decide +kernel
theorem dX8_findLines_94 : decode cX8_findLines 94 = .ok (.iload_n 2, 1) := by decide +kernel
theorem dX8_findLines_95 : decode cX8_findLines 95 = .ok (.imul, 1) := by decide +kernel
theorem dX8_findLines_96 : decode cX8_findLines 96 = .ok (.aload_n 0, 1) := by decide +kernel
theorem dX8_findLines_97 : decode cX8_findLines 97 = .ok (.getfield 54, 3) := by decide +kernel
theorem dX8_findLines_100 : decode cX8_findLines 100 = .ok (.iload_n 3, 1) := by decide +kernel
theorem dX8_findLines_101 : decode cX8_findLines 101 = .ok (.iaload, 1) := by decide +kernel
theorem dX8_findLines_102 : decode cX8_findLines 102 = .ok (.iadd, 1) := by decide +kernel
theorem dX8_findLines_103 : decode cX8_findLines 103 = .ok (.iconst 1, 1) := by decide +kernel
theorem dX8_findLines_104 : decode cX8_findLines 104 = .ok (.iadd, 1) := by decide +kernel
theorem dX8_findLines_105 : decode cX8_findLines 105 = .ok (.istore_n 2, 1) := by decide +kernel
theorem dX8_findLines_106 : decode cX8_findLines 106 = .ok (.iinc 3 1, 3) := by decide +kernel
theorem dX8_findLines_109 : decode cX8_findLines 109 = .ok (.goto (-39), 3) := by decide +kernel
theorem dX8_findLines_112 : decode cX8_findLines 112 = .ok (.aload_n 0, 1) := by decide +kernel
theorem dX8_findLines_113 : decode cX8_findLines 113 = .ok (.bipush 6, 2) := by decide +kernel
theorem dX8_findLines_115 : decode cX8_findLines 115 = .ok (.invokevirtual 173, 3) := by decide +kernel
theorem dX8_findLines_118 : decode cX8_findLines 118 = .ok (.aload_n 0, 1) := by decide +kernel
theorem dX8_findLines_119 : decode cX8_findLines 119 = .ok (.aload_n 0, 1) := by decide +kernel
theorem dX8_findLines_120 : decode cX8_findLines 120 = .ok (.getfield 35, 3) := by decide +kernel
theorem dX8_findLines_123 : decode cX8_findLines 123 = .ok (.invokevirtual 177, 3) := by decide +kernel
theorem dX8_findLines_126 : decode cX8_findLines 126 = .ok (.invokestatic 165, 3) := by decide +kernel
theorem dX8_findLines_129 : decode cX8_findLines 129 = .ok (.istore_n 3, 1) := by decide +kernel
theorem dX8_findLines_130 : decode cX8_findLines 130 = .ok (.iload_n 3, 1) := by decide +kernel
theorem dX8_findLines_131 : decode cX8_findLines 131 = .ok (.aload_n 0, 1) := by decide +kernel
theorem dX8_findLines_132 : decode cX8_findLines 132 = .ok (.getfield 180, 3) := by decide +kernel
theorem dX8_findLines_135 : decode cX8_findLines 135 = .ok (.if_icmp .le 13, 3) := by decide +kernel
theorem dX8_findLines_138 : decode cX8_findLines 138 = .ok (.aload_n 0, 1) := by decide +kernel
theorem dX8_findLines_139 : decode cX8_findLines 139 = .ok (.iload_n 3, 1) := by decide +kernel
theorem dX8_findLines_140 : decode cX8_findLines 140 = .ok (.putfield 180, 3) := by decide +kernel
theorem dX8_findLines_143 : decode cX8_findLines 143 = .ok (.aload_n 0, 1) := by decide +kernel
theorem dX8_findLines_144 : decode cX8_findLines 144 = .ok (.iload_n 2, 1) := by decide +kernel
theorem dX8_findLines_145 : decode cX8_findLines 145 = .ok (.putfield 183, 3) := by decide +kernel
theorem dX8_findLines_148 : decode cX8_findLines 148 = .ok (.aload_n 0, 1) := by decide +kernel
theorem dX8_findLines_149 : decode cX8_findLines 149 = .ok (.invokevirtual 186, 3) := by decide +kernel
theorem dX8_findLines_152 : decode cX8_findLines 152 = .ok (.istore_n 1, 1) := by decide +kernel
theorem dX8_findLines_153 : decode cX8_findLines 153 = .ok (.goto (-95), 3) := by decide +kernel
theorem dX8_findLines_156 : decode cX8_findLines 156 = .ok (.return_, 1) := by decide +kernel
set_option maxRecDepth 20000 in
theorem ggX8_lines_X8_findLines : GoodIn wsX8_lines wsX8_findLines := goodIn_r _ [8, 9, 3, 2, 10, 11, 12, 13, 14, 7, 15, 16, 17, 18, 19, 20, 21, 22, 23, 24, 25, 26, 27, 28, 29, 30, 31, 32, 33, 34, 35, 36, 37, 38, 39, 40, 41, 42, 43, 44, 45, 46, 47, 48, 49, 50, 51, 52, 53, 54, 55, 56, 57, 58, 59, 60, 61, 62, 63, 64, 65, 66, 67, 68, 69, 70, 71, 72, 73, 74, 75, 76, 77, 78, 79, 80, 81, 82, 83, 84, 85, 86, 87, 88, 89, 90, 91, 92] (by decide +kernel) (by decide +kernel)
set_option maxRecDepth 20000 in
theorem gX8_lines_X8_findLines : GoodIn wsX8_lines (wsV RX8 189 RX8 yX8_findLines wsX8_findLines) := goodIn_app (goodIn_of _ (by decide +kernel)) ggX8_lines_X8_findLines
theorem dX8_lines_0 : decode cX8_lines 0 = .ok (.aload_n 0, 1) := by decide +kernel
theorem dX8_lines_1 : decode cX8_lines 1 = .ok (.iconst 0, 1) := by decide +kernel
theorem dX8_lines_2 : decode cX8_lines 2 = .ok (.putfield 63, 3) := by decide +kernel
theorem dX8_lines_5 : decode cX8_lines 5 = .ok (.aload_n 0, 1) := by decide +kernel
theorem dX8_lines_6 : decode cX8_lines 6 = .ok (.invokevirtual 189, 3) := by decide +kernel
theorem dX8_lines_9 : decode cX8_lines 9 = .ok (.iload_n 1, 1) := by decide +kernel
theorem dX8_lines_10 : decode cX8_lines 10 = .ok (.ifCond .eq 10, 3) := by decide +kernel
theorem dX8_lines_13 : decode cX8_lines 13 = .ok (.aload_n 0, 1) := by decide +kernel
theorem dX8_lines_14 : decode cX8_lines 14 = .ok (.getfield 183, 3) := by decide +kernel
theorem dX8_lines_17 : decode cX8_lines 17 = .ok (.goto 7, 3) := by decide +kernel
theorem dX8_lines_20 : decode cX8_lines 20 = .ok (.aload_n 0, 1) := by decide +kernel
theorem dX8_lines_21 : decode cX8_lines 21 = .ok (.getfield 180, 3) := by decide +kernel
theorem dX8_lines_24 : decode cX8_lines 24 = .ok (.ireturn, 1) := by decide +kernel
set_option maxRecDepth 20000 in
theorem ggX8_drillsBy_X8_begin : GoodIn wsX8_drillsBy wsX8_begin := goodIn_r _ [9, 10, 2, 4, 48, 49, 50, 51, 52, 53, 54, 55, 56, 57, 58, 59, 60, 61, 62, 63, 64, 65, 66, 67, 68, 69, 70, 71, 72, 73, 74, 75, 76, 77, 78, 79, 80] (by decide +kernel) (by decide +kernel)
set_option maxRecDepth 20000 in
theorem gX8_drillsBy_X8_begin : GoodIn wsX8_drillsBy (wsV RX8 170 RX8 yX8_begin wsX8_begin) := goodIn_app (goodIn_of _ (by decide +kernel)) ggX8_drillsBy_X8_begin
set_option maxRecDepth 20000 in
theorem ggX8_drillsBy_X8_power : GoodIn wsX8_drillsBy wsX8_power := goodIn_r _ [13] (by decide +kernel) (by decide +kernel)
set_option maxRecDepth 20000 in
theorem gX8_drillsBy_X8_power : GoodIn wsX8_drillsBy (va_wsS RX8 192 yX8_power wsX8_power) := goodIn_app (goodIn_of _ (by decide +kernel)) ggX8_drillsBy_X8_power
set_option maxRecDepth 20000 in
theorem ggX8_drillsBy_X8_in : GoodIn wsX8_drillsBy wsX8_in := goodIn_r _ [16] (by decide +kernel) (by decide +kernel)
set_option maxRecDepth 20000 in
theorem gX8_drillsBy_X8_in : GoodIn wsX8_drillsBy (va_wsS RX8 69 yX8_in wsX8_in) := goodIn_app (goodIn_of _ (by decide +kernel)) ggX8_drillsBy_X8_in
set_option maxRecDepth 20000 in
theorem ggX8_drillsBy_X8_has : GoodIn wsX8_drillsBy wsX8_has := goodIn_r _ [19] (by decide +kernel) (by decide +kernel)
set_option maxRecDepth 20000 in
theorem gX8_drillsBy_X8_has : GoodIn wsX8_drillsBy (va_wsS RX8 113 yX8_has wsX8_has) := goodIn_app (goodIn_of _ (by decide +kernel)) ggX8_drillsBy_X8_has
set_option maxRecDepth 20000 in
theorem ggX8_drillsBy_X8_goSteps : GoodIn wsX8_drillsBy wsX8_goSteps := goodIn_r _ [23, 2, 24, 25, 26, 8, 27, 1, 17, 18, 19, 28, 29, 30, 31, 32, 10, 33, 34, 35, 36, 37, 38, 39, 40, 41, 42, 43, 44, 45, 46, 47, 48, 49, 50, 51, 52, 53, 54, 55, 56, 57, 58, 59, 60, 61, 62, 63, 64, 65, 66, 67, 68, 69, 70, 71, 72, 73, 74, 75, 76, 77, 78, 79, 80] (by decide +kernel) (by decide +kernel)
set_option maxRecDepth 20000 in
theorem gX8_drillsBy_X8_goSteps : GoodIn wsX8_drillsBy (wsV RX8 173 RX8 yX8_goSteps wsX8_goSteps) := goodIn_app (goodIn_of _ (by decide +kernel)) ggX8_drillsBy_X8_goSteps
theorem dX8_drillsBy_0 : decode cX8_drillsBy 0 = .ok (.aload_n 0, 1) := by decide +kernel
theorem dX8_drillsBy_1 : decode cX8_drillsBy 1 = .ok (.invokevirtual 170, 3) := by decide +kernel
theorem dX8_drillsBy_4 : decode cX8_drillsBy 4 = .ok (.iconst 0, 1) := by decide +kernel
theorem dX8_drillsBy_5 : decode cX8_drillsBy 5 = .ok (.istore_n 2, 1) := by decide +kernel
theorem dX8_drillsBy_6 : decode cX8_drillsBy 6 = .ok (.iconst 1, 1) := by decide +kernel
theorem dX8_drillsBy_7 : decode cX8_drillsBy 7 = .ok (.istore_n 3, 1) := by decide +kernel
theorem dX8_drillsBy_8 : decode cX8_drillsBy 8 = .ok (.iconst 0, 1) := by decide +kernel
theorem dX8_drillsBy_9 : decode cX8_drillsBy 9 = .ok (.istore 4, 2) := by decide +kernel
theorem dX8_drillsBy_11 : decode cX8_drillsBy 11 = .ok (.iload 4, 2) := by decide +kernel
theorem dX8_drillsBy_13 : decode cX8_drillsBy 13 = .ok (.aload_n 0, 1) := by decide +kernel
theorem dX8_drillsBy_14 : decode cX8_drillsBy 14 = .ok (.getfield 66, 3) := by decide +kernel
theorem dX8_drillsBy_17 : decode cX8_drillsBy 17 = .ok (.if_icmp .ge 103, 3) := by decide +kernel
theorem dX8_drillsBy_20 : decode cX8_drillsBy 20 = .ok (.iload_n 1, 1) := by decide +kernel
theorem dX8_drillsBy_21 : decode cX8_drillsBy 21 = .ok (.iconst 5, 1) := by decide +kernel
theorem dX8_drillsBy_22 : decode cX8_drillsBy 22 = .ok (.iload 4, 2) := by decide +kernel
theorem dX8_drillsBy_24 : decode cX8_drillsBy 24 = .ok (.invokestatic 192, 3) := by decide +kernel
theorem dX8_drillsBy_27 : decode cX8_drillsBy 27 = .ok (.idiv, 1) := by decide +kernel
theorem dX8_drillsBy_28 : decode cX8_drillsBy 28 = .ok (.iconst 5, 1) := by decide +kernel
theorem dX8_drillsBy_29 : decode cX8_drillsBy 29 = .ok (.irem, 1) := by decide +kernel
theorem dX8_drillsBy_30 : decode cX8_drillsBy 30 = .ok (.iconst 2, 1) := by decide +kernel
theorem dX8_drillsBy_31 : decode cX8_drillsBy 31 = .ok (.isub, 1) := by decide +kernel
theorem dX8_drillsBy_32 : decode cX8_drillsBy 32 = .ok (.istore 5, 2) := by decide +kernel
theorem dX8_drillsBy_34 : decode cX8_drillsBy 34 = .ok (.iload_n 2, 1) := by decide +kernel
theorem dX8_drillsBy_35 : decode cX8_drillsBy 35 = .ok (.iload 5, 2) := by decide +kernel
theorem dX8_drillsBy_37 : decode cX8_drillsBy 37 = .ok (.ifCond .ge 9, 3) := by decide +kernel
theorem dX8_drillsBy_40 : decode cX8_drillsBy 40 = .ok (.iload 5, 2) := by decide +kernel
theorem dX8_drillsBy_42 : decode cX8_drillsBy 42 = .ok (.ineg, 1) := by decide +kernel
theorem dX8_drillsBy_43 : decode cX8_drillsBy 43 = .ok (.goto 5, 3) := by decide +kernel
theorem dX8_drillsBy_46 : decode cX8_drillsBy 46 = .ok (.iload 5, 2) := by decide +kernel
theorem dX8_drillsBy_48 : decode cX8_drillsBy 48 = .ok (.iadd, 1) := by decide +kernel
theorem dX8_drillsBy_49 : decode cX8_drillsBy 49 = .ok (.istore_n 2, 1) := by decide +kernel
theorem dX8_drillsBy_50 : decode cX8_drillsBy 50 = .ok (.aload_n 0, 1) := by decide +kernel
theorem dX8_drillsBy_51 : decode cX8_drillsBy 51 = .ok (.getfield 35, 3) := by decide +kernel
theorem dX8_drillsBy_54 : decode cX8_drillsBy 54 = .ok (.iconst 5, 1) := by decide +kernel
theorem dX8_drillsBy_55 : decode cX8_drillsBy 55 = .ok (.iload 4, 2) := by decide +kernel
theorem dX8_drillsBy_57 : decode cX8_drillsBy 57 = .ok (.iadd, 1) := by decide +kernel
theorem dX8_drillsBy_58 : decode cX8_drillsBy 58 = .ok (.dup2, 1) := by decide +kernel
theorem dX8_drillsBy_59 : decode cX8_drillsBy 59 = .ok (.iaload, 1) := by decide +kernel
theorem dX8_drillsBy_60 : decode cX8_drillsBy 60 = .ok (.iload 5, 2) := by decide +kernel
theorem dX8_drillsBy_62 : decode cX8_drillsBy 62 = .ok (.iadd, 1) := by decide +kernel
theorem dX8_drillsBy_63 : decode cX8_drillsBy 63 = .ok (.iastore, 1) := by decide +kernel
theorem dX8_drillsBy_64 : decode cX8_drillsBy 64 = .ok (.iload_n 3, 1) := by decide +kernel
theorem dX8_drillsBy_65 : decode cX8_drillsBy 65 = .ok (.ifCond .eq 47, 3) := by decide +kernel
theorem dX8_drillsBy_68 : decode cX8_drillsBy 68 = .ok (.aload_n 0, 1) := by decide +kernel
theorem dX8_drillsBy_69 : decode cX8_drillsBy 69 = .ok (.getfield 35, 3) := by decide +kernel
theorem dX8_drillsBy_72 : decode cX8_drillsBy 72 = .ok (.iconst 5, 1) := by decide +kernel
theorem dX8_drillsBy_73 : decode cX8_drillsBy 73 = .ok (.iload 4, 2) := by decide +kernel
theorem dX8_drillsBy_75 : decode cX8_drillsBy 75 = .ok (.iadd, 1) := by decide +kernel
theorem dX8_drillsBy_76 : decode cX8_drillsBy 76 = .ok (.iaload, 1) := by decide +kernel
theorem dX8_drillsBy_77 : decode cX8_drillsBy 77 = .ok (.i2l, 1) := by decide +kernel
theorem dX8_drillsBy_78 : decode cX8_drillsBy 78 = .ok (.lconst 1, 1) := by decide +kernel
theorem dX8_drillsBy_79 : decode cX8_drillsBy 79 = .ok (.ldc2_w 152, 3) := by decide +kernel
theorem dX8_drillsBy_82 : decode cX8_drillsBy 82 = .ok (.invokestatic 69, 3) := by decide +kernel
theorem dX8_drillsBy_85 : decode cX8_drillsBy 85 = .ok (.ifCond .eq 27, 3) := by decide +kernel
theorem dX8_drillsBy_88 : decode cX8_drillsBy 88 = .ok (.iload 5, 2) := by decide +kernel
theorem dX8_drillsBy_90 : decode cX8_drillsBy 90 = .ok (.ifCond .eq 18, 3) := by decide +kernel
theorem dX8_drillsBy_93 : decode cX8_drillsBy 93 = .ok (.aload_n 0, 1) := by decide +kernel
theorem dX8_drillsBy_94 : decode cX8_drillsBy 94 = .ok (.getfield 32, 3) := by decide +kernel
theorem dX8_drillsBy_97 : decode cX8_drillsBy 97 = .ok (.bipush 15, 2) := by decide +kernel
theorem dX8_drillsBy_99 : decode cX8_drillsBy 99 = .ok (.iaload, 1) := by decide +kernel
theorem dX8_drillsBy_100 : decode cX8_drillsBy 100 = .ok (.iload 4, 2) := by decide +kernel
theorem dX8_drillsBy_102 : decode cX8_drillsBy 102 = .ok (.invokestatic 113, 3) := by decide +kernel
theorem dX8_drillsBy_105 : decode cX8_drillsBy 105 = .ok (.ifCond .ne 7, 3) := by decide +kernel
theorem dX8_drillsBy_108 : decode cX8_drillsBy 108 = .ok (.iconst 1, 1) := by decide +kernel
theorem dX8_drillsBy_109 : decode cX8_drillsBy 109 = .ok (.goto 4, 3) := by decide +kernel
theorem dX8_drillsBy_112 : decode cX8_drillsBy 112 = .ok (.iconst 0, 1) := by decide +kernel
theorem dX8_drillsBy_113 : decode cX8_drillsBy 113 = .ok (.istore_n 3, 1) := by decide +kernel
theorem dX8_drillsBy_114 : decode cX8_drillsBy 114 = .ok (.iinc 4 1, 3) := by decide +kernel
theorem dX8_drillsBy_117 : decode cX8_drillsBy 117 = .ok (.goto (-106), 3) := by decide +kernel
theorem dX8_drillsBy_120 : decode cX8_drillsBy 120 = .ok (.iload_n 3, 1) := by decide +kernel
theorem dX8_drillsBy_121 : decode cX8_drillsBy 121 = .ok (.ifCond .eq 9, 3) := by decide +kernel
theorem dX8_drillsBy_124 : decode cX8_drillsBy 124 = .ok (.aload_n 0, 1) := by decide +kernel
theorem dX8_drillsBy_125 : decode cX8_drillsBy 125 = .ok (.bipush 6, 2) := by decide +kernel
theorem dX8_drillsBy_127 : decode cX8_drillsBy 127 = .ok (.invokevirtual 173, 3) := by decide +kernel
theorem dX8_drillsBy_130 : decode cX8_drillsBy 130 = .ok (.iload_n 3, 1) := by decide +kernel
theorem dX8_drillsBy_131 : decode cX8_drillsBy 131 = .ok (.ifCond .eq 24, 3) := by decide +kernel
theorem dX8_drillsBy_134 : decode cX8_drillsBy 134 = .ok (.aload_n 0, 1) := by decide +kernel
theorem dX8_drillsBy_135 : decode cX8_drillsBy 135 = .ok (.getfield 35, 3) := by decide +kernel
theorem dX8_drillsBy_138 : decode cX8_drillsBy 138 = .ok (.bipush 15, 2) := by decide +kernel
theorem dX8_drillsBy_140 : decode cX8_drillsBy 140 = .ok (.iaload, 1) := by decide +kernel
theorem dX8_drillsBy_141 : decode cX8_drillsBy 141 = .ok (.aload_n 0, 1) := by decide +kernel
theorem dX8_drillsBy_142 : decode cX8_drillsBy 142 = .ok (.getfield 32, 3) := by decide +kernel
theorem dX8_drillsBy_145 : decode cX8_drillsBy 145 = .ok (.bipush 15, 2) := by decide +kernel
theorem dX8_drillsBy_147 : decode cX8_drillsBy 147 = .ok (.iaload, 1) := by decide +kernel
theorem dX8_drillsBy_148 : decode cX8_drillsBy 148 = .ok (.if_icmp .ne 7, 3) := by decide +kernel
theorem dX8_drillsBy_151 : decode cX8_drillsBy 151 = .ok (.iload_n 2, 1) := by decide +kernel
theorem dX8_drillsBy_152 : decode cX8_drillsBy 152 = .ok (.goto 5, 3) := by decide +kernel
theorem dX8_drillsBy_155 : decode cX8_drillsBy 155 = .ok (.bipush (-9), 2) := by decide +kernel
theorem dX8_drillsBy_157 : decode cX8_drillsBy 157 = .ok (.ireturn, 1) := by decide +kernel
set_option maxRecDepth 20000 in
theorem ggX8_drills_X8_power : GoodIn wsX8_drills wsX8_power := goodIn_r _ [6] (by decide +kernel) (by decide +kernel)
set_option maxRecDepth 20000 in
theorem gX8_drills_X8_power : GoodIn wsX8_drills (va_wsS RX8 192 yX8_power wsX8_power) := goodIn_app (goodIn_of _ (by decide +kernel)) ggX8_drills_X8_power
set_option maxRecDepth 20000 in
theorem ggX8_drills_X8_drillsBy : GoodIn wsX8_drills wsX8_drillsBy := goodIn_r _ [10, 2, 11, 12, 13, 14, 15, 16, 5, 17, 18, 3, 4, 6, 19, 20, 21, 22, 23, 24, 25, 26, 27, 28, 29, 30, 31, 32, 33, 34, 35, 36, 37, 38, 39, 40, 41, 42, 43, 44, 45, 46, 47, 48, 49, 50, 51, 52, 53, 54, 55, 56, 57, 58, 59, 60, 61, 62, 63, 64, 65, 66, 67, 68, 69, 70, 71, 72, 73, 74, 75, 76, 77, 78, 79, 80, 81, 82, 83, 84, 85] (by decide +kernel) (by decide +kernel)
set_option maxRecDepth 20000 in
theorem gX8_drills_X8_drillsBy : GoodIn wsX8_drills (wsV RX8 195 RX8 yX8_drillsBy wsX8_drillsBy) := goodIn_app (goodIn_of _ (by decide +kernel)) ggX8_drills_X8_drillsBy
theorem dX8_drills_0 : decode cX8_drills 0 = .ok (.aload_n 0, 1) := by decide +kernel
theorem dX8_drills_1 : decode cX8_drills 1 = .ok (.iconst 0, 1) := by decide +kernel
theorem dX8_drills_2 : decode cX8_drills 2 = .ok (.putfield 63, 3) := by decide +kernel
theorem dX8_drills_5 : decode cX8_drills 5 = .ok (.bipush (-9), 2) := by decide +kernel
theorem dX8_drills_7 : decode cX8_drills 7 = .ok (.istore_n 1, 1) := by decide +kernel
theorem dX8_drills_8 : decode cX8_drills 8 = .ok (.iconst 0, 1) := by decide +kernel
theorem dX8_drills_9 : decode cX8_drills 9 = .ok (.istore_n 2, 1) := by decide +kernel
theorem dX8_drills_10 : decode cX8_drills 10 = .ok (.iload_n 2, 1) := by decide +kernel
theorem dX8_drills_11 : decode cX8_drills 11 = .ok (.iconst 5, 1) := by decide +kernel
theorem dX8_drills_12 : decode cX8_drills 12 = .ok (.aload_n 0, 1) := by decide +kernel
theorem dX8_drills_13 : decode cX8_drills 13 = .ok (.getfield 66, 3) := by decide +kernel
theorem dX8_drills_16 : decode cX8_drills 16 = .ok (.invokestatic 192, 3) := by decide +kernel
theorem dX8_drills_19 : decode cX8_drills 19 = .ok (.if_icmp .ge 38, 3) := by decide +kernel
theorem dX8_drills_22 : decode cX8_drills 22 = .ok (.aload_n 0, 1) := by decide +kernel
theorem dX8_drills_23 : decode cX8_drills 23 = .ok (.iload_n 2, 1) := by decide +kernel
theorem dX8_drills_24 : decode cX8_drills 24 = .ok (.invokevirtual 195, 3) := by decide +kernel
theorem dX8_drills_27 : decode cX8_drills 27 = .ok (.istore_n 3, 1) := by decide +kernel
theorem dX8_drills_28 : decode cX8_drills 28 = .ok (.iload_n 3, 1) := by decide +kernel
theorem dX8_drills_29 : decode cX8_drills 29 = .ok (.bipush (-9), 2) := by decide +kernel
theorem dX8_drills_31 : decode cX8_drills 31 = .ok (.if_icmp .eq 18, 3) := by decide +kernel
theorem dX8_drills_34 : decode cX8_drills 34 = .ok (.iload_n 1, 1) := by decide +kernel
theorem dX8_drills_35 : decode cX8_drills 35 = .ok (.bipush (-9), 2) := by decide +kernel
theorem dX8_drills_37 : decode cX8_drills 37 = .ok (.if_icmp .eq 8, 3) := by decide +kernel
theorem dX8_drills_40 : decode cX8_drills 40 = .ok (.iload_n 3, 1) := by decide +kernel
theorem dX8_drills_41 : decode cX8_drills 41 = .ok (.iload_n 1, 1) := by decide +kernel
theorem dX8_drills_42 : decode cX8_drills 42 = .ok (.if_icmp .ge 7, 3) := by decide +kernel
theorem dX8_drills_45 : decode cX8_drills 45 = .ok (.iload_n 3, 1) := by decide +kernel
theorem dX8_drills_46 : decode cX8_drills 46 = .ok (.goto 4, 3) := by decide +kernel
theorem dX8_drills_49 : decode cX8_drills 49 = .ok (.iload_n 1, 1) := by decide +kernel
theorem dX8_drills_50 : decode cX8_drills 50 = .ok (.istore_n 1, 1) := by decide +kernel
theorem dX8_drills_51 : decode cX8_drills 51 = .ok (.iinc 2 1, 3) := by decide +kernel
theorem dX8_drills_54 : decode cX8_drills 54 = .ok (.goto (-44), 3) := by decide +kernel
theorem dX8_drills_57 : decode cX8_drills 57 = .ok (.iload_n 1, 1) := by decide +kernel
theorem dX8_drills_58 : decode cX8_drills 58 = .ok (.ireturn, 1) := by decide +kernel
set_option maxRecDepth 20000 in
theorem ggX8_fallsIn_X8_noWalker : GoodIn wsX8_fallsIn wsX8_noWalker := goodIn_r _ [7, 8, 9, 10, 6, 11, 21, 22, 23, 24, 25, 26, 27, 28, 29, 30, 31, 32, 33, 34, 35, 36, 37, 38, 39, 40, 41, 42, 43, 44, 45, 46, 47, 48, 49, 50, 51, 52, 53] (by decide +kernel) (by decide +kernel)
set_option maxRecDepth 20000 in
theorem gX8_fallsIn_X8_noWalker : GoodIn wsX8_fallsIn (wsV RX8 134 RX8 yX8_noWalker wsX8_noWalker) := goodIn_app (goodIn_of _ (by decide +kernel)) ggX8_fallsIn_X8_noWalker
set_option maxRecDepth 20000 in
theorem ggX8_fallsIn_X8_alone : GoodIn wsX8_fallsIn wsX8_alone := goodIn_r _ [15, 16, 17, 18, 19, 6, 20, 21, 22, 23, 24, 25, 26, 27, 28, 29, 30, 31, 32, 33, 34, 35, 36, 37, 38, 39, 40, 41, 42, 43, 44, 45, 46, 47, 48, 49, 50, 51, 52, 53] (by decide +kernel) (by decide +kernel)
set_option maxRecDepth 20000 in
theorem gX8_fallsIn_X8_alone : GoodIn wsX8_fallsIn (wsV RX8 106 RX8 yX8_alone wsX8_alone) := goodIn_app (goodIn_of _ (by decide +kernel)) ggX8_fallsIn_X8_alone
theorem dX8_fallsIn_0 : decode cX8_fallsIn 0 = .ok (.aload_n 0, 1) := by decide +kernel
theorem dX8_fallsIn_1 : decode cX8_fallsIn 1 = .ok (.iconst 0, 1) := by decide +kernel
theorem dX8_fallsIn_2 : decode cX8_fallsIn 2 = .ok (.putfield 63, 3) := by decide +kernel
theorem dX8_fallsIn_5 : decode cX8_fallsIn 5 = .ok (.aload_n 0, 1) := by decide +kernel
theorem dX8_fallsIn_6 : decode cX8_fallsIn 6 = .ok (.iload_n 1, 1) := by decide +kernel
theorem dX8_fallsIn_7 : decode cX8_fallsIn 7 = .ok (.invokevirtual 134, 3) := by decide +kernel
theorem dX8_fallsIn_10 : decode cX8_fallsIn 10 = .ok (.ifCond .ne 11, 3) := by decide +kernel
theorem dX8_fallsIn_13 : decode cX8_fallsIn 13 = .ok (.aload_n 0, 1) := by decide +kernel
theorem dX8_fallsIn_14 : decode cX8_fallsIn 14 = .ok (.iload_n 2, 1) := by decide +kernel
theorem dX8_fallsIn_15 : decode cX8_fallsIn 15 = .ok (.invokevirtual 134, 3) := by decide +kernel
theorem dX8_fallsIn_18 : decode cX8_fallsIn 18 = .ok (.ifCond .eq 5, 3) := by decide +kernel
theorem dX8_fallsIn_21 : decode cX8_fallsIn 21 = .ok (.iconst (-1), 1) := by decide +kernel
theorem dX8_fallsIn_22 : decode cX8_fallsIn 22 = .ok (.ireturn, 1) := by decide +kernel
theorem dX8_fallsIn_23 : decode cX8_fallsIn 23 = .ok (.iload_n 1, 1) := by decide +kernel
theorem dX8_fallsIn_24 : decode cX8_fallsIn 24 = .ok (.iload_n 2, 1) := by decide +kernel
theorem dX8_fallsIn_25 : decode cX8_fallsIn 25 = .ok (.if_icmp .ne 6, 3) := by decide +kernel
theorem dX8_fallsIn_28 : decode cX8_fallsIn 28 = .ok (.bipush (-2), 2) := by decide +kernel
theorem dX8_fallsIn_30 : decode cX8_fallsIn 30 = .ok (.ireturn, 1) := by decide +kernel
theorem dX8_fallsIn_31 : decode cX8_fallsIn 31 = .ok (.iconst 0, 1) := by decide +kernel
theorem dX8_fallsIn_32 : decode cX8_fallsIn 32 = .ok (.istore_n 3, 1) := by decide +kernel
theorem dX8_fallsIn_33 : decode cX8_fallsIn 33 = .ok (.iload_n 3, 1) := by decide +kernel
theorem dX8_fallsIn_34 : decode cX8_fallsIn 34 = .ok (.bipush 24, 2) := by decide +kernel
theorem dX8_fallsIn_36 : decode cX8_fallsIn 36 = .ok (.if_icmp .gt 50, 3) := by decide +kernel
theorem dX8_fallsIn_39 : decode cX8_fallsIn 39 = .ok (.aload_n 0, 1) := by decide +kernel
theorem dX8_fallsIn_40 : decode cX8_fallsIn 40 = .ok (.aload_n 0, 1) := by decide +kernel
theorem dX8_fallsIn_41 : decode cX8_fallsIn 41 = .ok (.getfield 32, 3) := by decide +kernel
theorem dX8_fallsIn_44 : decode cX8_fallsIn 44 = .ok (.iload_n 1, 1) := by decide +kernel
theorem dX8_fallsIn_45 : decode cX8_fallsIn 45 = .ok (.aload_n 0, 1) := by decide +kernel
theorem dX8_fallsIn_46 : decode cX8_fallsIn 46 = .ok (.getfield 32, 3) := by decide +kernel
theorem dX8_fallsIn_49 : decode cX8_fallsIn 49 = .ok (.bipush 16, 2) := by decide +kernel
theorem dX8_fallsIn_51 : decode cX8_fallsIn 51 = .ok (.iaload, 1) := by decide +kernel
theorem dX8_fallsIn_52 : decode cX8_fallsIn 52 = .ok (.iload_n 3, 1) := by decide +kernel
theorem dX8_fallsIn_53 : decode cX8_fallsIn 53 = .ok (.iadd, 1) := by decide +kernel
theorem dX8_fallsIn_54 : decode cX8_fallsIn 54 = .ok (.invokevirtual 106, 3) := by decide +kernel
theorem dX8_fallsIn_57 : decode cX8_fallsIn 57 = .ok (.aload_n 0, 1) := by decide +kernel
theorem dX8_fallsIn_58 : decode cX8_fallsIn 58 = .ok (.aload_n 0, 1) := by decide +kernel
theorem dX8_fallsIn_59 : decode cX8_fallsIn 59 = .ok (.getfield 32, 3) := by decide +kernel
theorem dX8_fallsIn_62 : decode cX8_fallsIn 62 = .ok (.iload_n 2, 1) := by decide +kernel
theorem dX8_fallsIn_63 : decode cX8_fallsIn 63 = .ok (.aload_n 0, 1) := by decide +kernel
theorem dX8_fallsIn_64 : decode cX8_fallsIn 64 = .ok (.getfield 32, 3) := by decide +kernel
theorem dX8_fallsIn_67 : decode cX8_fallsIn 67 = .ok (.bipush 16, 2) := by decide +kernel
theorem dX8_fallsIn_69 : decode cX8_fallsIn 69 = .ok (.iaload, 1) := by decide +kernel
theorem dX8_fallsIn_70 : decode cX8_fallsIn 70 = .ok (.iload_n 3, 1) := by decide +kernel
theorem dX8_fallsIn_71 : decode cX8_fallsIn 71 = .ok (.iadd, 1) := by decide +kernel
theorem dX8_fallsIn_72 : decode cX8_fallsIn 72 = .ok (.invokevirtual 106, 3) := by decide +kernel
theorem dX8_fallsIn_75 : decode cX8_fallsIn 75 = .ok (.if_icmp .ne 5, 3) := by decide +kernel
theorem dX8_fallsIn_78 : decode cX8_fallsIn 78 = .ok (.iload_n 3, 1) := by decide +kernel
theorem dX8_fallsIn_79 : decode cX8_fallsIn 79 = .ok (.ireturn, 1) := by decide +kernel
theorem dX8_fallsIn_80 : decode cX8_fallsIn 80 = .ok (.iinc 3 1, 3) := by decide +kernel
theorem dX8_fallsIn_83 : decode cX8_fallsIn 83 = .ok (.goto (-50), 3) := by decide +kernel
theorem dX8_fallsIn_86 : decode cX8_fallsIn 86 = .ok (.bipush (-9), 2) := by decide +kernel
theorem dX8_fallsIn_88 : decode cX8_fallsIn 88 = .ok (.ireturn, 1) := by decide +kernel
set_option maxRecDepth 20000 in
theorem ggX8_likes_X8_snowAt : GoodIn wsX8_likes wsX8_snowAt := goodIn_r _ [7, 8, 9, 10, 11, 12, 13, 14, 15, 16, 17, 18, 19, 20, 21, 22, 23, 24, 25, 26, 27, 28, 29, 30, 31, 32, 33, 34, 35, 36, 37, 38, 39, 40, 41, 42, 43] (by decide +kernel) (by decide +kernel)
set_option maxRecDepth 20000 in
theorem gX8_likes_X8_snowAt : GoodIn wsX8_likes (wsV RX8 120 RX8 yX8_snowAt wsX8_snowAt) := goodIn_app (goodIn_of _ (by decide +kernel)) ggX8_likes_X8_snowAt
theorem dX8_likes_0 : decode cX8_likes 0 = .ok (.aload_n 0, 1) := by decide +kernel
theorem dX8_likes_1 : decode cX8_likes 1 = .ok (.iconst 0, 1) := by decide +kernel
theorem dX8_likes_2 : decode cX8_likes 2 = .ok (.putfield 63, 3) := by decide +kernel
theorem dX8_likes_5 : decode cX8_likes 5 = .ok (.bipush 9, 2) := by decide +kernel
theorem dX8_likes_7 : decode cX8_likes 7 = .ok (.istore_n 1, 1) := by decide +kernel
theorem dX8_likes_8 : decode cX8_likes 8 = .ok (.iconst 0, 1) := by decide +kernel
theorem dX8_likes_9 : decode cX8_likes 9 = .ok (.istore_n 2, 1) := by decide +kernel
theorem dX8_likes_10 : decode cX8_likes 10 = .ok (.iload_n 2, 1) := by decide +kernel
theorem dX8_likes_11 : decode cX8_likes 11 = .ok (.bipush 6, 2) := by decide +kernel
theorem dX8_likes_13 : decode cX8_likes 13 = .ok (.if_icmp .ge 34, 3) := by decide +kernel
theorem dX8_likes_16 : decode cX8_likes 16 = .ok (.aload_n 0, 1) := by decide +kernel
theorem dX8_likes_17 : decode cX8_likes 17 = .ok (.aload_n 0, 1) := by decide +kernel
theorem dX8_likes_18 : decode cX8_likes 18 = .ok (.getfield 32, 3) := by decide +kernel
theorem dX8_likes_21 : decode cX8_likes 21 = .ok (.bipush 16, 2) := by decide +kernel
theorem dX8_likes_23 : decode cX8_likes 23 = .ok (.iaload, 1) := by decide +kernel
theorem dX8_likes_24 : decode cX8_likes 24 = .ok (.iload_n 2, 1) := by decide +kernel
theorem dX8_likes_25 : decode cX8_likes 25 = .ok (.iadd, 1) := by decide +kernel
theorem dX8_likes_26 : decode cX8_likes 26 = .ok (.invokevirtual 120, 3) := by decide +kernel
theorem dX8_likes_29 : decode cX8_likes 29 = .ok (.istore_n 3, 1) := by decide +kernel
theorem dX8_likes_30 : decode cX8_likes 30 = .ok (.iload_n 3, 1) := by decide +kernel
theorem dX8_likes_31 : decode cX8_likes 31 = .ok (.iload_n 1, 1) := by decide +kernel
theorem dX8_likes_32 : decode cX8_likes 32 = .ok (.if_icmp .ge 7, 3) := by decide +kernel
theorem dX8_likes_35 : decode cX8_likes 35 = .ok (.iload_n 3, 1) := by decide +kernel
theorem dX8_likes_36 : decode cX8_likes 36 = .ok (.goto 4, 3) := by decide +kernel
theorem dX8_likes_39 : decode cX8_likes 39 = .ok (.iload_n 1, 1) := by decide +kernel
theorem dX8_likes_40 : decode cX8_likes 40 = .ok (.istore_n 1, 1) := by decide +kernel
theorem dX8_likes_41 : decode cX8_likes 41 = .ok (.iinc 2 1, 3) := by decide +kernel
theorem dX8_likes_44 : decode cX8_likes 44 = .ok (.goto (-34), 3) := by decide +kernel
theorem dX8_likes_47 : decode cX8_likes 47 = .ok (.iload_n 1, 1) := by decide +kernel
theorem dX8_likes_48 : decode cX8_likes 48 = .ok (.ireturn, 1) := by decide +kernel
theorem dX8_longPower_0 : decode cX8_longPower 0 = .ok (.lconst 1, 1) := by decide +kernel
theorem dX8_longPower_1 : decode cX8_longPower 1 = .ok (.lstore_n 3, 1) := by decide +kernel
theorem dX8_longPower_2 : decode cX8_longPower 2 = .ok (.iconst 0, 1) := by decide +kernel
theorem dX8_longPower_3 : decode cX8_longPower 3 = .ok (.istore 5, 2) := by decide +kernel
theorem dX8_longPower_5 : decode cX8_longPower 5 = .ok (.iload 5, 2) := by decide +kernel
theorem dX8_longPower_7 : decode cX8_longPower 7 = .ok (.iload_n 2, 1) := by decide +kernel
theorem dX8_longPower_8 : decode cX8_longPower 8 = .ok (.if_icmp .ge 13, 3) := by decide +kernel
theorem dX8_longPower_11 : decode cX8_longPower 11 = .ok (.lload_n 3, 1) := by decide +kernel
theorem dX8_longPower_12 : decode cX8_longPower 12 = .ok (.lload_n 0, 1) := by decide +kernel
theorem dX8_longPower_13 : decode cX8_longPower 13 = .ok (.lmul, 1) := by decide +kernel
theorem dX8_longPower_14 : decode cX8_longPower 14 = .ok (.lstore_n 3, 1) := by decide +kernel
theorem dX8_longPower_15 : decode cX8_longPower 15 = .ok (.iinc 5 1, 3) := by decide +kernel
theorem dX8_longPower_18 : decode cX8_longPower 18 = .ok (.goto (-13), 3) := by decide +kernel
theorem dX8_longPower_21 : decode cX8_longPower 21 = .ok (.lload_n 3, 1) := by decide +kernel
theorem dX8_longPower_22 : decode cX8_longPower 22 = .ok (.lreturn, 1) := by decide +kernel
set_option maxRecDepth 20000 in
theorem ggX8_does_X8_goStep : GoodIn wsX8_does wsX8_goStep := goodIn_r _ [7, 2, 8, 9, 6, 10, 11, 12, 13, 14, 15, 16, 17, 18, 19, 20, 21, 22, 23, 24, 25, 26, 27, 28, 29, 30, 31, 56, 57, 58, 59, 60, 61, 62, 63, 64, 65, 66, 67, 68, 69, 70, 71, 72, 73, 74, 75, 76, 77, 78, 79, 80, 81, 82, 83, 84, 85, 86, 87, 88] (by decide +kernel) (by decide +kernel)
set_option maxRecDepth 20000 in
theorem gX8_does_X8_goStep : GoodIn wsX8_does (wsV RX8 124 RX8 yX8_goStep wsX8_goStep) := goodIn_app (goodIn_of _ (by decide +kernel)) ggX8_does_X8_goStep
set_option maxRecDepth 20000 in
theorem ggX8_does_X8_in : GoodIn wsX8_does wsX8_in := goodIn_r _ [34] (by decide +kernel) (by decide +kernel)
set_option maxRecDepth 20000 in
theorem gX8_does_X8_in : GoodIn wsX8_does (va_wsS RX8 69 yX8_in wsX8_in) := goodIn_app (goodIn_of _ (by decide +kernel)) ggX8_does_X8_in
set_option maxRecDepth 20000 in
theorem ggX8_does_X8_goChange : GoodIn wsX8_does wsX8_goChange := goodIn_r _ [37] (by decide +kernel) (by decide +kernel)
set_option maxRecDepth 20000 in
theorem gX8_does_X8_goChange : GoodIn wsX8_does (va_wsS RX8 148 yX8_goChange wsX8_goChange) := goodIn_app (goodIn_of _ (by decide +kernel)) ggX8_does_X8_goChange
set_option maxRecDepth 20000 in
theorem ggX8_does_X8_noWalker : GoodIn wsX8_does wsX8_noWalker := goodIn_r _ [41, 2, 32, 33, 6, 34, 56, 57, 58, 59, 60, 61, 62, 63, 64, 65, 66, 67, 68, 69, 70, 71, 72, 73, 74, 75, 76, 77, 78, 79, 80, 81, 82, 83, 84, 85, 86, 87, 88] (by decide +kernel) (by decide +kernel)
set_option maxRecDepth 20000 in
theorem gX8_does_X8_noWalker : GoodIn wsX8_does (wsV RX8 134 RX8 yX8_noWalker wsX8_noWalker) := goodIn_app (goodIn_of _ (by decide +kernel)) ggX8_does_X8_noWalker
set_option maxRecDepth 20000 in
theorem ggX8_does_X8_canDrill : GoodIn wsX8_does wsX8_canDrill := goodIn_r _ [44, 45, 32, 33, 6, 34, 8, 9, 10] (by decide +kernel) (by decide +kernel)
set_option maxRecDepth 20000 in
theorem gX8_does_X8_canDrill : GoodIn wsX8_does (va_wsS RX8 154 yX8_canDrill wsX8_canDrill) := goodIn_app (goodIn_of _ (by decide +kernel)) ggX8_does_X8_canDrill
set_option maxRecDepth 20000 in
theorem ggX8_does_X8_goDrill : GoodIn wsX8_does wsX8_goDrill := goodIn_r _ [48] (by decide +kernel) (by decide +kernel)
set_option maxRecDepth 20000 in
theorem gX8_does_X8_goDrill : GoodIn wsX8_does (va_wsS RX8 158 yX8_goDrill wsX8_goDrill) := goodIn_app (goodIn_of _ (by decide +kernel)) ggX8_does_X8_goDrill
set_option maxRecDepth 20000 in
theorem ggX8_does_X8_has : GoodIn wsX8_does wsX8_has := goodIn_r _ [10] (by decide +kernel) (by decide +kernel)
set_option maxRecDepth 20000 in
theorem gX8_does_X8_has : GoodIn wsX8_does (va_wsS RX8 113 yX8_has wsX8_has) := goodIn_app (goodIn_of _ (by decide +kernel)) ggX8_does_X8_has
set_option maxRecDepth 20000 in
theorem ggX8_does_X8_goRescue : GoodIn wsX8_does wsX8_goRescue := goodIn_r _ [52, 2, 53, 54, 6, 55, 35, 36, 37, 56, 57, 58, 59, 60, 61, 62, 63, 64, 65, 66, 67, 68, 69, 70, 71, 72, 73, 74, 75, 76, 77, 78, 79, 80, 81, 82, 83, 84, 85, 86, 87, 88] (by decide +kernel) (by decide +kernel)
set_option maxRecDepth 20000 in
theorem gX8_does_X8_goRescue : GoodIn wsX8_does (wsV RX8 162 RX8 yX8_goRescue wsX8_goRescue) := goodIn_app (goodIn_of _ (by decide +kernel)) ggX8_does_X8_goRescue
theorem dX8_does_0 : decode cX8_does 0 = .ok (.iload_n 1, 1) := by decide +kernel
theorem dX8_does_1 : decode cX8_does 1 = .ok (.bipush 100, 2) := by decide +kernel
theorem dX8_does_3 : decode cX8_does 3 = .ok (.idiv, 1) := by decide +kernel
theorem dX8_does_4 : decode cX8_does 4 = .ok (.istore_n 2, 1) := by decide +kernel
theorem dX8_does_5 : decode cX8_does 5 = .ok (.iload_n 1, 1) := by decide +kernel
theorem dX8_does_6 : decode cX8_does 6 = .ok (.bipush 10, 2) := by decide +kernel
theorem dX8_does_8 : decode cX8_does 8 = .ok (.idiv, 1) := by decide +kernel
theorem dX8_does_9 : decode cX8_does 9 = .ok (.bipush 10, 2) := by decide +kernel
theorem dX8_does_11 : decode cX8_does 11 = .ok (.irem, 1) := by decide +kernel
theorem dX8_does_12 : decode cX8_does 12 = .ok (.istore_n 3, 1) := by decide +kernel
theorem dX8_does_13 : decode cX8_does 13 = .ok (.iload_n 1, 1) := by decide +kernel
theorem dX8_does_14 : decode cX8_does 14 = .ok (.bipush 10, 2) := by decide +kernel
theorem dX8_does_16 : decode cX8_does 16 = .ok (.irem, 1) := by decide +kernel
theorem dX8_does_17 : decode cX8_does 17 = .ok (.istore 4, 2) := by decide +kernel
theorem dX8_does_19 : decode cX8_does 19 = .ok (.iload_n 1, 1) := by decide +kernel
theorem dX8_does_20 : decode cX8_does 20 = .ok (.ifCond .ne 14, 3) := by decide +kernel
theorem dX8_does_23 : decode cX8_does 23 = .ok (.aload_n 0, 1) := by decide +kernel
theorem dX8_does_24 : decode cX8_does 24 = .ok (.aload_n 0, 1) := by decide +kernel
theorem dX8_does_25 : decode cX8_does 25 = .ok (.getfield 35, 3) := by decide +kernel
theorem dX8_does_28 : decode cX8_does 28 = .ok (.invokevirtual 124, 3) := by decide +kernel
theorem dX8_does_31 : decode cX8_does 31 = .ok (.pop, 1) := by decide +kernel
theorem dX8_does_32 : decode cX8_does 32 = .ok (.iconst 1, 1) := by decide +kernel
theorem dX8_does_33 : decode cX8_does 33 = .ok (.ireturn, 1) := by decide +kernel
theorem dX8_does_34 : decode cX8_does 34 = .ok (.iload_n 2, 1) := by decide +kernel
theorem dX8_does_35 : decode cX8_does 35 = .ok (.iconst 1, 1) := by decide +kernel
theorem dX8_does_36 : decode cX8_does 36 = .ok (.if_icmp .ne 35, 3) := by decide +kernel
theorem dX8_does_39 : decode cX8_does 39 = .ok (.iload_n 3, 1) := by decide +kernel
theorem dX8_does_40 : decode cX8_does 40 = .ok (.ifCond .ne 31, 3) := by decide +kernel
theorem dX8_does_43 : decode cX8_does 43 = .ok (.iload 4, 2) := by decide +kernel
theorem dX8_does_45 : decode cX8_does 45 = .ok (.i2l, 1) := by decide +kernel
theorem dX8_does_46 : decode cX8_does 46 = .ok (.lconst 0, 1) := by decide +kernel
theorem dX8_does_47 : decode cX8_does 47 = .ok (.aload_n 0, 1) := by decide +kernel
theorem dX8_does_48 : decode cX8_does 48 = .ok (.getfield 66, 3) := by decide +kernel
theorem dX8_does_51 : decode cX8_does 51 = .ok (.iconst 2, 1) := by decide +kernel
theorem dX8_does_52 : decode cX8_does 52 = .ok (.isub, 1) := by decide +kernel
theorem dX8_does_53 : decode cX8_does 53 = .ok (.i2l, 1) := by decide +kernel
theorem dX8_does_54 : decode cX8_does 54 = .ok (.invokestatic 69, 3) := by decide +kernel
theorem dX8_does_57 : decode cX8_does 57 = .ok (.ifCond .eq 14, 3) := by decide +kernel
theorem dX8_does_60 : decode cX8_does 60 = .ok (.aload_n 0, 1) := by decide +kernel
theorem dX8_does_61 : decode cX8_does 61 = .ok (.getfield 35, 3) := by decide +kernel
theorem dX8_does_64 : decode cX8_does 64 = .ok (.iload 4, 2) := by decide +kernel
theorem dX8_does_66 : decode cX8_does 66 = .ok (.invokestatic 148, 3) := by decide +kernel
theorem dX8_does_69 : decode cX8_does 69 = .ok (.iconst 1, 1) := by decide +kernel
theorem dX8_does_70 : decode cX8_does 70 = .ok (.ireturn, 1) := by decide +kernel
theorem dX8_does_71 : decode cX8_does 71 = .ok (.iload_n 2, 1) := by decide +kernel
theorem dX8_does_72 : decode cX8_does 72 = .ok (.iconst 2, 1) := by decide +kernel
theorem dX8_does_73 : decode cX8_does 73 = .ok (.if_icmp .ne 50, 3) := by decide +kernel
theorem dX8_does_76 : decode cX8_does 76 = .ok (.aload_n 0, 1) := by decide +kernel
theorem dX8_does_77 : decode cX8_does 77 = .ok (.iload_n 3, 1) := by decide +kernel
theorem dX8_does_78 : decode cX8_does 78 = .ok (.invokevirtual 134, 3) := by decide +kernel
theorem dX8_does_81 : decode cX8_does 81 = .ok (.ifCond .ne 42, 3) := by decide +kernel
theorem dX8_does_84 : decode cX8_does 84 = .ok (.iload 4, 2) := by decide +kernel
theorem dX8_does_86 : decode cX8_does 86 = .ok (.iconst 2, 1) := by decide +kernel
theorem dX8_does_87 : decode cX8_does 87 = .ok (.if_icmp .ge 36, 3) := by decide +kernel
theorem dX8_does_90 : decode cX8_does 90 = .ok (.aload_n 0, 1) := by decide +kernel
theorem dX8_does_91 : decode cX8_does 91 = .ok (.getfield 35, 3) := by decide +kernel
theorem dX8_does_94 : decode cX8_does 94 = .ok (.iload_n 3, 1) := by decide +kernel
theorem dX8_does_95 : decode cX8_does 95 = .ok (.iconst 2, 1) := by decide +kernel
theorem dX8_does_96 : decode cX8_does 96 = .ok (.iload 4, 2) := by decide +kernel
theorem dX8_does_98 : decode cX8_does 98 = .ok (.imul, 1) := by decide +kernel
theorem dX8_does_99 : decode cX8_does 99 = .ok (.iconst 1, 1) := by decide +kernel
theorem dX8_does_100 : decode cX8_does 100 = .ok (.isub, 1) := by decide +kernel
theorem dX8_does_101 : decode cX8_does 101 = .ok (.invokestatic 154, 3) := by decide +kernel
theorem dX8_does_104 : decode cX8_does 104 = .ok (.ifCond .eq 19, 3) := by decide +kernel
theorem dX8_does_107 : decode cX8_does 107 = .ok (.aload_n 0, 1) := by decide +kernel
theorem dX8_does_108 : decode cX8_does 108 = .ok (.getfield 35, 3) := by decide +kernel
theorem dX8_does_111 : decode cX8_does 111 = .ok (.iload_n 3, 1) := by decide +kernel
theorem dX8_does_112 : decode cX8_does 112 = .ok (.iconst 2, 1) := by decide +kernel
theorem dX8_does_113 : decode cX8_does 113 = .ok (.iload 4, 2) := by decide +kernel
theorem dX8_does_115 : decode cX8_does 115 = .ok (.imul, 1) := by decide +kernel
theorem dX8_does_116 : decode cX8_does 116 = .ok (.iconst 1, 1) := by decide +kernel
theorem dX8_does_117 : decode cX8_does 117 = .ok (.isub, 1) := by decide +kernel
theorem dX8_does_118 : decode cX8_does 118 = .ok (.invokestatic 158, 3) := by decide +kernel
theorem dX8_does_121 : decode cX8_does 121 = .ok (.iconst 1, 1) := by decide +kernel
theorem dX8_does_122 : decode cX8_does 122 = .ok (.ireturn, 1) := by decide +kernel
theorem dX8_does_123 : decode cX8_does 123 = .ok (.iload_n 2, 1) := by decide +kernel
theorem dX8_does_124 : decode cX8_does 124 = .ok (.iconst 3, 1) := by decide +kernel
theorem dX8_does_125 : decode cX8_does 125 = .ok (.if_icmp .ne 43, 3) := by decide +kernel
theorem dX8_does_128 : decode cX8_does 128 = .ok (.iload_n 3, 1) := by decide +kernel
theorem dX8_does_129 : decode cX8_does 129 = .ok (.ifCond .ne 39, 3) := by decide +kernel
theorem dX8_does_132 : decode cX8_does 132 = .ok (.aload_n 0, 1) := by decide +kernel
theorem dX8_does_133 : decode cX8_does 133 = .ok (.iload 4, 2) := by decide +kernel
theorem dX8_does_135 : decode cX8_does 135 = .ok (.invokevirtual 134, 3) := by decide +kernel
theorem dX8_does_138 : decode cX8_does 138 = .ok (.ifCond .ne 30, 3) := by decide +kernel
theorem dX8_does_141 : decode cX8_does 141 = .ok (.aload_n 0, 1) := by decide +kernel
theorem dX8_does_142 : decode cX8_does 142 = .ok (.getfield 35, 3) := by decide +kernel
theorem dX8_does_145 : decode cX8_does 145 = .ok (.bipush 15, 2) := by decide +kernel
theorem dX8_does_147 : decode cX8_does 147 = .ok (.iaload, 1) := by decide +kernel
theorem dX8_does_148 : decode cX8_does 148 = .ok (.iload 4, 2) := by decide +kernel
theorem dX8_does_150 : decode cX8_does 150 = .ok (.invokestatic 113, 3) := by decide +kernel
theorem dX8_does_153 : decode cX8_does 153 = .ok (.ifCond .eq 15, 3) := by decide +kernel
theorem dX8_does_156 : decode cX8_does 156 = .ok (.aload_n 0, 1) := by decide +kernel
theorem dX8_does_157 : decode cX8_does 157 = .ok (.aload_n 0, 1) := by decide +kernel
theorem dX8_does_158 : decode cX8_does 158 = .ok (.getfield 35, 3) := by decide +kernel
theorem dX8_does_161 : decode cX8_does 161 = .ok (.iload 4, 2) := by decide +kernel
theorem dX8_does_163 : decode cX8_does 163 = .ok (.invokevirtual 162, 3) := by decide +kernel
theorem dX8_does_166 : decode cX8_does 166 = .ok (.iconst 1, 1) := by decide +kernel
theorem dX8_does_167 : decode cX8_does 167 = .ok (.ireturn, 1) := by decide +kernel
theorem dX8_does_168 : decode cX8_does 168 = .ok (.iload_n 2, 1) := by decide +kernel
theorem dX8_does_169 : decode cX8_does 169 = .ok (.iconst 4, 1) := by decide +kernel
theorem dX8_does_170 : decode cX8_does 170 = .ok (.if_icmp .ne 35, 3) := by decide +kernel
theorem dX8_does_173 : decode cX8_does 173 = .ok (.iload_n 3, 1) := by decide +kernel
theorem dX8_does_174 : decode cX8_does 174 = .ok (.ifCond .ne 31, 3) := by decide +kernel
theorem dX8_does_177 : decode cX8_does 177 = .ok (.aload_n 0, 1) := by decide +kernel
theorem dX8_does_178 : decode cX8_does 178 = .ok (.iload 4, 2) := by decide +kernel
theorem dX8_does_180 : decode cX8_does 180 = .ok (.invokevirtual 134, 3) := by decide +kernel
theorem dX8_does_183 : decode cX8_does 183 = .ok (.ifCond .ne 22, 3) := by decide +kernel
theorem dX8_does_186 : decode cX8_does 186 = .ok (.aload_n 0, 1) := by decide +kernel
theorem dX8_does_187 : decode cX8_does 187 = .ok (.getfield 35, 3) := by decide +kernel
theorem dX8_does_190 : decode cX8_does 190 = .ok (.bipush 15, 2) := by decide +kernel
theorem dX8_does_192 : decode cX8_does 192 = .ok (.iaload, 1) := by decide +kernel
theorem dX8_does_193 : decode cX8_does 193 = .ok (.iload 4, 2) := by decide +kernel
theorem dX8_does_195 : decode cX8_does 195 = .ok (.invokestatic 113, 3) := by decide +kernel
theorem dX8_does_198 : decode cX8_does 198 = .ok (.ifCond .ne 7, 3) := by decide +kernel
theorem dX8_does_201 : decode cX8_does 201 = .ok (.iconst 1, 1) := by decide +kernel
theorem dX8_does_202 : decode cX8_does 202 = .ok (.goto 4, 3) := by decide +kernel
theorem dX8_does_205 : decode cX8_does 205 = .ok (.iconst 0, 1) := by decide +kernel
theorem dX8_does_206 : decode cX8_does 206 = .ok (.ireturn, 1) := by decide +kernel
set_option maxRecDepth 20000 in
theorem ggX8_judge_X8_in : GoodIn wsX8_judge wsX8_in := goodIn_r _ [7] (by decide +kernel) (by decide +kernel)
set_option maxRecDepth 20000 in
theorem gX8_judge_X8_in : GoodIn wsX8_judge (va_wsS RX8 69 yX8_in wsX8_in) := goodIn_app (goodIn_of _ (by decide +kernel)) ggX8_judge_X8_in
set_option maxRecDepth 20000 in
theorem ggX8_judge_X8_longPower : GoodIn wsX8_judge wsX8_longPower := goodIn_r _ [10] (by decide +kernel) (by decide +kernel)
set_option maxRecDepth 20000 in
theorem gX8_judge_X8_longPower : GoodIn wsX8_judge (va_wsS RX8 202 yX8_longPower wsX8_longPower) := goodIn_app (goodIn_of _ (by decide +kernel)) ggX8_judge_X8_longPower
set_option maxRecDepth 20000 in
theorem ggX8_judge_X8_begin : GoodIn wsX8_judge wsX8_begin := goodIn_r _ [14, 15, 16, 17, 71, 72, 73, 74, 75, 76, 77, 78, 79, 80, 81, 82, 83, 84, 85, 86, 87, 88, 89, 90, 91, 92, 93, 94, 95, 96, 97, 98, 99, 100, 101, 102, 103] (by decide +kernel) (by decide +kernel)
set_option maxRecDepth 20000 in
theorem gX8_judge_X8_begin : GoodIn wsX8_judge (wsV RX8 170 RX8 yX8_begin wsX8_begin) := goodIn_app (goodIn_of _ (by decide +kernel)) ggX8_judge_X8_begin
set_option maxRecDepth 20000 in
theorem ggX8_judge_X8_does : GoodIn wsX8_judge wsX8_does := goodIn_r _ [21, 16, 22, 23, 24, 25, 6, 26, 27, 28, 29, 30, 31, 32, 33, 34, 15, 35, 36, 37, 38, 39, 40, 41, 42, 43, 44, 45, 46, 47, 48, 49, 4, 5, 7, 50, 51, 52, 53, 54, 55, 56, 57, 58, 59, 60, 61, 62, 63, 64, 65, 66, 67, 68, 69, 70, 71, 72, 73, 74, 75, 76, 77, 78, 79, 80, 81, 82, 83, 84, 85, 86, 87, 88, 89, 90, 91, 92, 93, 94, 95, 96, 97, 98, 99, 100, 101, 102, 103] (by decide +kernel) (by decide +kernel)
set_option maxRecDepth 20000 in
theorem gX8_judge_X8_does : GoodIn wsX8_judge (wsV RX8 206 RX8 yX8_does wsX8_does) := goodIn_app (goodIn_of _ (by decide +kernel)) ggX8_judge_X8_does
theorem dX8_judge_0 : decode cX8_judge 0 = .ok (.aload_n 0, 1) := by decide +kernel
theorem dX8_judge_1 : decode cX8_judge 1 = .ok (.iconst 0, 1) := by decide +kernel
theorem dX8_judge_2 : decode cX8_judge 2 = .ok (.putfield 63, 3) := by decide +kernel
theorem dX8_judge_5 : decode cX8_judge 5 = .ok (.iload_n 1, 1) := by decide +kernel
theorem dX8_judge_6 : decode cX8_judge 6 = .ok (.i2l, 1) := by decide +kernel
theorem dX8_judge_7 : decode cX8_judge 7 = .ok (.lconst 1, 1) := by decide +kernel
theorem dX8_judge_8 : decode cX8_judge 8 = .ok (.ldc2_w 198, 3) := by decide +kernel
theorem dX8_judge_11 : decode cX8_judge 11 = .ok (.invokestatic 69, 3) := by decide +kernel
theorem dX8_judge_14 : decode cX8_judge 14 = .ok (.ifCond .eq 20, 3) := by decide +kernel
theorem dX8_judge_17 : decode cX8_judge 17 = .ok (.lload_n 2, 1) := by decide +kernel
theorem dX8_judge_18 : decode cX8_judge 18 = .ok (.lconst 0, 1) := by decide +kernel
theorem dX8_judge_19 : decode cX8_judge 19 = .ok (.ldc2_w 200, 3) := by decide +kernel
theorem dX8_judge_22 : decode cX8_judge 22 = .ok (.iload_n 1, 1) := by decide +kernel
theorem dX8_judge_23 : decode cX8_judge 23 = .ok (.invokestatic 202, 3) := by decide +kernel
theorem dX8_judge_26 : decode cX8_judge 26 = .ok (.lconst 1, 1) := by decide +kernel
theorem dX8_judge_27 : decode cX8_judge 27 = .ok (.lsub, 1) := by decide +kernel
theorem dX8_judge_28 : decode cX8_judge 28 = .ok (.invokestatic 69, 3) := by decide +kernel
theorem dX8_judge_31 : decode cX8_judge 31 = .ok (.ifCond .ne 6, 3) := by decide +kernel
theorem dX8_judge_34 : decode cX8_judge 34 = .ok (.bipush (-2), 2) := by decide +kernel
theorem dX8_judge_36 : decode cX8_judge 36 = .ok (.ireturn, 1) := by decide +kernel
theorem dX8_judge_37 : decode cX8_judge 37 = .ok (.aload_n 0, 1) := by decide +kernel
theorem dX8_judge_38 : decode cX8_judge 38 = .ok (.invokevirtual 170, 3) := by decide +kernel
theorem dX8_judge_41 : decode cX8_judge 41 = .ok (.iconst 0, 1) := by decide +kernel
theorem dX8_judge_42 : decode cX8_judge 42 = .ok (.istore 4, 2) := by decide +kernel
theorem dX8_judge_44 : decode cX8_judge 44 = .ok (.iload 4, 2) := by decide +kernel
theorem dX8_judge_46 : decode cX8_judge 46 = .ok (.iload_n 1, 1) := by decide +kernel
theorem dX8_judge_47 : decode cX8_judge 47 = .ok (.if_icmp .ge 38, 3) := by decide +kernel
theorem dX8_judge_50 : decode cX8_judge 50 = .ok (.aload_n 0, 1) := by decide +kernel
theorem dX8_judge_51 : decode cX8_judge 51 = .ok (.lload_n 2, 1) := by decide +kernel
theorem dX8_judge_52 : decode cX8_judge 52 = .ok (.ldc2_w 200, 3) := by decide +kernel
theorem dX8_judge_55 : decode cX8_judge 55 = .ok (.iload_n 1, 1) := by decide +kernel
theorem dX8_judge_56 : decode cX8_judge 56 = .ok (.iconst 1, 1) := by decide +kernel
theorem dX8_judge_57 : decode cX8_judge 57 = .ok (.isub, 1) := by decide +kernel
theorem dX8_judge_58 : decode cX8_judge 58 = .ok (.iload 4, 2) := by decide +kernel
theorem dX8_judge_60 : decode cX8_judge 60 = .ok (.isub, 1) := by decide +kernel
theorem dX8_judge_61 : decode cX8_judge 61 = .ok (.invokestatic 202, 3) := by decide +kernel
theorem dX8_judge_64 : decode cX8_judge 64 = .ok (.ldiv, 1) := by decide +kernel
theorem dX8_judge_65 : decode cX8_judge 65 = .ok (.ldc2_w 200, 3) := by decide +kernel
theorem dX8_judge_68 : decode cX8_judge 68 = .ok (.lrem, 1) := by decide +kernel
theorem dX8_judge_69 : decode cX8_judge 69 = .ok (.l2i, 1) := by decide +kernel
theorem dX8_judge_70 : decode cX8_judge 70 = .ok (.invokevirtual 206, 3) := by decide +kernel
theorem dX8_judge_73 : decode cX8_judge 73 = .ok (.ifCond .ne 6, 3) := by decide +kernel
theorem dX8_judge_76 : decode cX8_judge 76 = .ok (.iload 4, 2) := by decide +kernel
theorem dX8_judge_78 : decode cX8_judge 78 = .ok (.ireturn, 1) := by decide +kernel
theorem dX8_judge_79 : decode cX8_judge 79 = .ok (.iinc 4 1, 3) := by decide +kernel
theorem dX8_judge_82 : decode cX8_judge 82 = .ok (.goto (-38), 3) := by decide +kernel
theorem dX8_judge_85 : decode cX8_judge 85 = .ok (.bipush (-9), 2) := by decide +kernel
theorem dX8_judge_87 : decode cX8_judge 87 = .ok (.ireturn, 1) := by decide +kernel
theorem dX8_ways_0 : decode cX8_ways 0 = .ok (.iconst 1, 1) := by decide +kernel
theorem dX8_ways_1 : decode cX8_ways 1 = .ok (.istore_n 1, 1) := by decide +kernel
theorem dX8_ways_2 : decode cX8_ways 2 = .ok (.iconst 2, 1) := by decide +kernel
theorem dX8_ways_3 : decode cX8_ways 3 = .ok (.istore_n 2, 1) := by decide +kernel
theorem dX8_ways_4 : decode cX8_ways 4 = .ok (.iload_n 2, 1) := by decide +kernel
theorem dX8_ways_5 : decode cX8_ways 5 = .ok (.iload_n 0, 1) := by decide +kernel
theorem dX8_ways_6 : decode cX8_ways 6 = .ok (.if_icmp .gt 13, 3) := by decide +kernel
theorem dX8_ways_9 : decode cX8_ways 9 = .ok (.iload_n 1, 1) := by decide +kernel
theorem dX8_ways_10 : decode cX8_ways 10 = .ok (.iload_n 2, 1) := by decide +kernel
theorem dX8_ways_11 : decode cX8_ways 11 = .ok (.imul, 1) := by decide +kernel
theorem dX8_ways_12 : decode cX8_ways 12 = .ok (.istore_n 1, 1) := by decide +kernel
theorem dX8_ways_13 : decode cX8_ways 13 = .ok (.iinc 2 1, 3) := by decide +kernel
theorem dX8_ways_16 : decode cX8_ways 16 = .ok (.goto (-12), 3) := by decide +kernel
theorem dX8_ways_19 : decode cX8_ways 19 = .ok (.iload_n 1, 1) := by decide +kernel
theorem dX8_ways_20 : decode cX8_ways 20 = .ok (.ireturn, 1) := by decide +kernel
theorem dX8_divisor_0 : decode cX8_divisor 0 = .ok (.iload_n 0, 1) := by decide +kernel
theorem dX8_divisor_1 : decode cX8_divisor 1 = .ok (.ifCond .ge 8, 3) := by decide +kernel
theorem dX8_divisor_4 : decode cX8_divisor 4 = .ok (.iload_n 0, 1) := by decide +kernel
theorem dX8_divisor_5 : decode cX8_divisor 5 = .ok (.ineg, 1) := by decide +kernel
theorem dX8_divisor_6 : decode cX8_divisor 6 = .ok (.goto 4, 3) := by decide +kernel
theorem dX8_divisor_9 : decode cX8_divisor 9 = .ok (.iload_n 0, 1) := by decide +kernel
theorem dX8_divisor_10 : decode cX8_divisor 10 = .ok (.istore_n 2, 1) := by decide +kernel
theorem dX8_divisor_11 : decode cX8_divisor 11 = .ok (.iload_n 1, 1) := by decide +kernel
theorem dX8_divisor_12 : decode cX8_divisor 12 = .ok (.istore_n 3, 1) := by decide +kernel
theorem dX8_divisor_13 : decode cX8_divisor 13 = .ok (.iload_n 3, 1) := by decide +kernel
theorem dX8_divisor_14 : decode cX8_divisor 14 = .ok (.ifCond .eq 16, 3) := by decide +kernel
theorem dX8_divisor_17 : decode cX8_divisor 17 = .ok (.iload_n 2, 1) := by decide +kernel
theorem dX8_divisor_18 : decode cX8_divisor 18 = .ok (.iload_n 3, 1) := by decide +kernel
theorem dX8_divisor_19 : decode cX8_divisor 19 = .ok (.irem, 1) := by decide +kernel
theorem dX8_divisor_20 : decode cX8_divisor 20 = .ok (.istore 4, 2) := by decide +kernel
theorem dX8_divisor_22 : decode cX8_divisor 22 = .ok (.iload_n 3, 1) := by decide +kernel
theorem dX8_divisor_23 : decode cX8_divisor 23 = .ok (.istore_n 2, 1) := by decide +kernel
theorem dX8_divisor_24 : decode cX8_divisor 24 = .ok (.iload 4, 2) := by decide +kernel
theorem dX8_divisor_26 : decode cX8_divisor 26 = .ok (.istore_n 3, 1) := by decide +kernel
theorem dX8_divisor_27 : decode cX8_divisor 27 = .ok (.goto (-14), 3) := by decide +kernel
theorem dX8_divisor_30 : decode cX8_divisor 30 = .ok (.iload_n 2, 1) := by decide +kernel
theorem dX8_divisor_31 : decode cX8_divisor 31 = .ok (.ireturn, 1) := by decide +kernel
set_option maxRecDepth 20000 in
theorem ggX8_fraction_X8_divisor : GoodIn wsX8_fraction wsX8_divisor := goodIn_r _ [4] (by decide +kernel) (by decide +kernel)
set_option maxRecDepth 20000 in
theorem gX8_fraction_X8_divisor : GoodIn wsX8_fraction (va_wsS RX8 209 yX8_divisor wsX8_divisor) := goodIn_app (goodIn_of _ (by decide +kernel)) ggX8_fraction_X8_divisor
theorem dX8_fraction_0 : decode cX8_fraction 0 = .ok (.iload_n 0, 1) := by decide +kernel
theorem dX8_fraction_1 : decode cX8_fraction 1 = .ok (.iload_n 1, 1) := by decide +kernel
theorem dX8_fraction_2 : decode cX8_fraction 2 = .ok (.invokestatic 209, 3) := by decide +kernel
theorem dX8_fraction_5 : decode cX8_fraction 5 = .ok (.istore_n 3, 1) := by decide +kernel
theorem dX8_fraction_6 : decode cX8_fraction 6 = .ok (.iload_n 2, 1) := by decide +kernel
theorem dX8_fraction_7 : decode cX8_fraction 7 = .ok (.ifCond .eq 9, 3) := by decide +kernel
theorem dX8_fraction_10 : decode cX8_fraction 10 = .ok (.iload_n 0, 1) := by decide +kernel
theorem dX8_fraction_11 : decode cX8_fraction 11 = .ok (.iload_n 3, 1) := by decide +kernel
theorem dX8_fraction_12 : decode cX8_fraction 12 = .ok (.idiv, 1) := by decide +kernel
theorem dX8_fraction_13 : decode cX8_fraction 13 = .ok (.goto 6, 3) := by decide +kernel
theorem dX8_fraction_16 : decode cX8_fraction 16 = .ok (.iload_n 1, 1) := by decide +kernel
theorem dX8_fraction_17 : decode cX8_fraction 17 = .ok (.iload_n 3, 1) := by decide +kernel
theorem dX8_fraction_18 : decode cX8_fraction 18 = .ok (.idiv, 1) := by decide +kernel
theorem dX8_fraction_19 : decode cX8_fraction 19 = .ok (.ireturn, 1) := by decide +kernel
set_option maxRecDepth 20000 in
theorem ggX8_share_X8_noWalker : GoodIn wsX8_share wsX8_noWalker := goodIn_r _ [9, 2, 10, 11, 8, 12, 66, 67, 68, 69, 70, 71, 72, 73, 74, 75, 76, 77, 78, 79, 80, 81, 82, 83, 84, 85, 86, 87, 88, 89, 90, 91, 92, 93, 94, 95, 96, 97, 98] (by decide +kernel) (by decide +kernel)
set_option maxRecDepth 20000 in
theorem gX8_share_X8_noWalker : GoodIn wsX8_share (wsV RX8 134 RX8 yX8_noWalker wsX8_noWalker) := goodIn_app (goodIn_of _ (by decide +kernel)) ggX8_share_X8_noWalker
set_option maxRecDepth 20000 in
theorem ggX8_share_X8_begin : GoodIn wsX8_share wsX8_begin := goodIn_r _ [16, 17, 3, 18, 66, 67, 68, 69, 70, 71, 72, 73, 74, 75, 76, 77, 78, 79, 80, 81, 82, 83, 84, 85, 86, 87, 88, 89, 90, 91, 92, 93, 94, 95, 96, 97, 98] (by decide +kernel) (by decide +kernel)
set_option maxRecDepth 20000 in
theorem gX8_share_X8_begin : GoodIn wsX8_share (wsV RX8 170 RX8 yX8_begin wsX8_begin) := goodIn_app (goodIn_of _ (by decide +kernel)) ggX8_share_X8_begin
set_option maxRecDepth 20000 in
theorem ggX8_share_X8_goSteps : GoodIn wsX8_share wsX8_goSteps := goodIn_r _ [22, 3, 23, 24, 25, 8, 26, 2, 27, 28, 29, 30, 31, 32, 33, 34, 17, 35, 36, 37, 38, 39, 40, 41, 42, 43, 44, 45, 46, 47, 48, 49, 66, 67, 68, 69, 70, 71, 72, 73, 74, 75, 76, 77, 78, 79, 80, 81, 82, 83, 84, 85, 86, 87, 88, 89, 90, 91, 92, 93, 94, 95, 96, 97, 98] (by decide +kernel) (by decide +kernel)
set_option maxRecDepth 20000 in
theorem gX8_share_X8_goSteps : GoodIn wsX8_share (wsV RX8 173 RX8 yX8_goSteps wsX8_goSteps) := goodIn_app (goodIn_of _ (by decide +kernel)) ggX8_share_X8_goSteps
set_option maxRecDepth 20000 in
theorem ggX8_share_X8_up : GoodIn wsX8_share wsX8_up := goodIn_r _ [53, 2, 66, 67, 68, 69, 70, 71, 72, 73, 74, 75, 76, 77, 78, 79, 80, 81, 82, 83, 84, 85, 86, 87, 88, 89, 90, 91, 92, 93, 94, 95, 96, 97, 98] (by decide +kernel) (by decide +kernel)
set_option maxRecDepth 20000 in
theorem gX8_share_X8_up : GoodIn wsX8_share (wsV RX8 177 RX8 yX8_up wsX8_up) := goodIn_app (goodIn_of _ (by decide +kernel)) ggX8_share_X8_up
set_option maxRecDepth 20000 in
theorem ggX8_share_X8_many : GoodIn wsX8_share wsX8_many := goodIn_r _ [56] (by decide +kernel) (by decide +kernel)
set_option maxRecDepth 20000 in
theorem gX8_share_X8_many : GoodIn wsX8_share (va_wsS RX8 165 yX8_many wsX8_many) := goodIn_app (goodIn_of _ (by decide +kernel)) ggX8_share_X8_many
set_option maxRecDepth 20000 in
theorem ggX8_share_X8_has : GoodIn wsX8_share wsX8_has := goodIn_r _ [29] (by decide +kernel) (by decide +kernel)
set_option maxRecDepth 20000 in
theorem gX8_share_X8_has : GoodIn wsX8_share (va_wsS RX8 113 yX8_has wsX8_has) := goodIn_app (goodIn_of _ (by decide +kernel)) ggX8_share_X8_has
set_option maxRecDepth 20000 in
theorem ggX8_share_X8_ways : GoodIn wsX8_share wsX8_ways := goodIn_r _ [59] (by decide +kernel) (by decide +kernel)
set_option maxRecDepth 20000 in
theorem gX8_share_X8_ways : GoodIn wsX8_share (va_wsS RX8 212 yX8_ways wsX8_ways) := goodIn_app (goodIn_of _ (by decide +kernel)) ggX8_share_X8_ways
set_option maxRecDepth 20000 in
theorem ggX8_share_X8_fraction : GoodIn wsX8_share wsX8_fraction := goodIn_r _ [62, 63, 64, 8, 65] (by decide +kernel) (by decide +kernel)
set_option maxRecDepth 20000 in
theorem gX8_share_X8_fraction : GoodIn wsX8_share (va_wsS RX8 215 yX8_fraction wsX8_fraction) := goodIn_app (goodIn_of _ (by decide +kernel)) ggX8_share_X8_fraction
theorem dX8_share_0 : decode cX8_share 0 = .ok (.aload_n 0, 1) := by decide +kernel
theorem dX8_share_1 : decode cX8_share 1 = .ok (.iconst 0, 1) := by decide +kernel
theorem dX8_share_2 : decode cX8_share 2 = .ok (.putfield 63, 3) := by decide +kernel
theorem dX8_share_5 : decode cX8_share 5 = .ok (.aload_n 0, 1) := by decide +kernel
theorem dX8_share_6 : decode cX8_share 6 = .ok (.iload_n 1, 1) := by decide +kernel
theorem dX8_share_7 : decode cX8_share 7 = .ok (.invokevirtual 134, 3) := by decide +kernel
theorem dX8_share_10 : decode cX8_share 10 = .ok (.ifCond .eq 5, 3) := by decide +kernel
theorem dX8_share_13 : decode cX8_share 13 = .ok (.iconst (-1), 1) := by decide +kernel
theorem dX8_share_14 : decode cX8_share 14 = .ok (.ireturn, 1) := by decide +kernel
theorem dX8_share_15 : decode cX8_share 15 = .ok (.iconst 0, 1) := by decide +kernel
theorem dX8_share_16 : decode cX8_share 16 = .ok (.istore_n 3, 1) := by decide +kernel
theorem dX8_share_17 : decode cX8_share 17 = .ok (.iload_n 3, 1) := by decide +kernel
theorem dX8_share_18 : decode cX8_share 18 = .ok (.iconst 1, 1) := by decide +kernel
theorem dX8_share_19 : decode cX8_share 19 = .ok (.aload_n 0, 1) := by decide +kernel
theorem dX8_share_20 : decode cX8_share 20 = .ok (.getfield 66, 3) := by decide +kernel
theorem dX8_share_23 : decode cX8_share 23 = .ok (.ishl, 1) := by decide +kernel
theorem dX8_share_24 : decode cX8_share 24 = .ok (.if_icmp .ge 58, 3) := by decide +kernel
theorem dX8_share_27 : decode cX8_share 27 = .ok (.aload_n 0, 1) := by decide +kernel
theorem dX8_share_28 : decode cX8_share 28 = .ok (.invokevirtual 170, 3) := by decide +kernel
theorem dX8_share_31 : decode cX8_share 31 = .ok (.aload_n 0, 1) := by decide +kernel
theorem dX8_share_32 : decode cX8_share 32 = .ok (.getfield 35, 3) := by decide +kernel
theorem dX8_share_35 : decode cX8_share 35 = .ok (.bipush 15, 2) := by decide +kernel
theorem dX8_share_37 : decode cX8_share 37 = .ok (.dup2, 1) := by decide +kernel
theorem dX8_share_38 : decode cX8_share 38 = .ok (.iaload, 1) := by decide +kernel
theorem dX8_share_39 : decode cX8_share 39 = .ok (.iconst 1, 1) := by decide +kernel
theorem dX8_share_40 : decode cX8_share 40 = .ok (.aload_n 0, 1) := by decide +kernel
theorem dX8_share_41 : decode cX8_share 41 = .ok (.getfield 66, 3) := by decide +kernel
theorem dX8_share_44 : decode cX8_share 44 = .ok (.ishl, 1) := by decide +kernel
theorem dX8_share_45 : decode cX8_share 45 = .ok (.iconst 1, 1) := by decide +kernel
theorem dX8_share_46 : decode cX8_share 46 = .ok (.isub, 1) := by decide +kernel
theorem dX8_share_47 : decode cX8_share 47 = .ok (.iload_n 3, 1) := by decide +kernel
theorem dX8_share_48 : decode cX8_share 48 = .ok (.iconst (-1), 1) := by decide +kernel
theorem dX8_share_49 : decode cX8_share 49 = .ok (.ixor, 1) := by decide +kernel
theorem dX8_share_50 : decode cX8_share 50 = .ok (.iand, 1) := by decide +kernel
theorem dX8_share_51 : decode cX8_share 51 = .ok (.ior, 1) := by decide +kernel
theorem dX8_share_52 : decode cX8_share 52 = .ok (.iastore, 1) := by decide +kernel
theorem dX8_share_53 : decode cX8_share 53 = .ok (.aload_n 0, 1) := by decide +kernel
theorem dX8_share_54 : decode cX8_share 54 = .ok (.bipush 6, 2) := by decide +kernel
theorem dX8_share_56 : decode cX8_share 56 = .ok (.invokevirtual 173, 3) := by decide +kernel
theorem dX8_share_59 : decode cX8_share 59 = .ok (.aload_n 0, 1) := by decide +kernel
theorem dX8_share_60 : decode cX8_share 60 = .ok (.getfield 60, 3) := by decide +kernel
theorem dX8_share_63 : decode cX8_share 63 = .ok (.iload_n 3, 1) := by decide +kernel
theorem dX8_share_64 : decode cX8_share 64 = .ok (.aload_n 0, 1) := by decide +kernel
theorem dX8_share_65 : decode cX8_share 65 = .ok (.aload_n 0, 1) := by decide +kernel
theorem dX8_share_66 : decode cX8_share 66 = .ok (.getfield 35, 3) := by decide +kernel
theorem dX8_share_69 : decode cX8_share 69 = .ok (.invokevirtual 177, 3) := by decide +kernel
theorem dX8_share_72 : decode cX8_share 72 = .ok (.invokestatic 165, 3) := by decide +kernel
theorem dX8_share_75 : decode cX8_share 75 = .ok (.iastore, 1) := by decide +kernel
theorem dX8_share_76 : decode cX8_share 76 = .ok (.iinc 3 1, 3) := by decide +kernel
theorem dX8_share_79 : decode cX8_share 79 = .ok (.goto (-62), 3) := by decide +kernel
theorem dX8_share_82 : decode cX8_share 82 = .ok (.iconst 0, 1) := by decide +kernel
theorem dX8_share_83 : decode cX8_share 83 = .ok (.istore_n 3, 1) := by decide +kernel
theorem dX8_share_84 : decode cX8_share 84 = .ok (.iconst 0, 1) := by decide +kernel
theorem dX8_share_85 : decode cX8_share 85 = .ok (.istore 4, 2) := by decide +kernel
theorem dX8_share_87 : decode cX8_share 87 = .ok (.iload 4, 2) := by decide +kernel
theorem dX8_share_89 : decode cX8_share 89 = .ok (.iconst 1, 1) := by decide +kernel
theorem dX8_share_90 : decode cX8_share 90 = .ok (.aload_n 0, 1) := by decide +kernel
theorem dX8_share_91 : decode cX8_share 91 = .ok (.getfield 66, 3) := by decide +kernel
theorem dX8_share_94 : decode cX8_share 94 = .ok (.ishl, 1) := by decide +kernel
theorem dX8_share_95 : decode cX8_share 95 = .ok (.if_icmp .ge 66, 3) := by decide +kernel
theorem dX8_share_98 : decode cX8_share 98 = .ok (.iload 4, 2) := by decide +kernel
theorem dX8_share_100 : decode cX8_share 100 = .ok (.iload_n 1, 1) := by decide +kernel
theorem dX8_share_101 : decode cX8_share 101 = .ok (.invokestatic 113, 3) := by decide +kernel
theorem dX8_share_104 : decode cX8_share 104 = .ok (.ifCond .ne 51, 3) := by decide +kernel
theorem dX8_share_107 : decode cX8_share 107 = .ok (.iload 4, 2) := by decide +kernel
theorem dX8_share_109 : decode cX8_share 109 = .ok (.invokestatic 165, 3) := by decide +kernel
theorem dX8_share_112 : decode cX8_share 112 = .ok (.istore 5, 2) := by decide +kernel
theorem dX8_share_114 : decode cX8_share 114 = .ok (.iload_n 3, 1) := by decide +kernel
theorem dX8_share_115 : decode cX8_share 115 = .ok (.iload 5, 2) := by decide +kernel
theorem dX8_share_117 : decode cX8_share 117 = .ok (.invokestatic 212, 3) := by decide +kernel
theorem dX8_share_120 : decode cX8_share 120 = .ok (.aload_n 0, 1) := by decide +kernel
theorem dX8_share_121 : decode cX8_share 121 = .ok (.getfield 66, 3) := by decide +kernel
theorem dX8_share_124 : decode cX8_share 124 = .ok (.iconst 1, 1) := by decide +kernel
theorem dX8_share_125 : decode cX8_share 125 = .ok (.isub, 1) := by decide +kernel
theorem dX8_share_126 : decode cX8_share 126 = .ok (.iload 5, 2) := by decide +kernel
theorem dX8_share_128 : decode cX8_share 128 = .ok (.isub, 1) := by decide +kernel
theorem dX8_share_129 : decode cX8_share 129 = .ok (.invokestatic 212, 3) := by decide +kernel
theorem dX8_share_132 : decode cX8_share 132 = .ok (.imul, 1) := by decide +kernel
theorem dX8_share_133 : decode cX8_share 133 = .ok (.aload_n 0, 1) := by decide +kernel
theorem dX8_share_134 : decode cX8_share 134 = .ok (.getfield 60, 3) := by decide +kernel
theorem dX8_share_137 : decode cX8_share 137 = .ok (.iload 4, 2) := by decide +kernel
theorem dX8_share_139 : decode cX8_share 139 = .ok (.iconst 1, 1) := by decide +kernel
theorem dX8_share_140 : decode cX8_share 140 = .ok (.iload_n 1, 1) := by decide +kernel
theorem dX8_share_141 : decode cX8_share 141 = .ok (.ishl, 1) := by decide +kernel
theorem dX8_share_142 : decode cX8_share 142 = .ok (.ior, 1) := by decide +kernel
theorem dX8_share_143 : decode cX8_share 143 = .ok (.iaload, 1) := by decide +kernel
theorem dX8_share_144 : decode cX8_share 144 = .ok (.aload_n 0, 1) := by decide +kernel
theorem dX8_share_145 : decode cX8_share 145 = .ok (.getfield 60, 3) := by decide +kernel
theorem dX8_share_148 : decode cX8_share 148 = .ok (.iload 4, 2) := by decide +kernel
theorem dX8_share_150 : decode cX8_share 150 = .ok (.iaload, 1) := by decide +kernel
theorem dX8_share_151 : decode cX8_share 151 = .ok (.isub, 1) := by decide +kernel
theorem dX8_share_152 : decode cX8_share 152 = .ok (.imul, 1) := by decide +kernel
theorem dX8_share_153 : decode cX8_share 153 = .ok (.iadd, 1) := by decide +kernel
theorem dX8_share_154 : decode cX8_share 154 = .ok (.istore_n 3, 1) := by decide +kernel
theorem dX8_share_155 : decode cX8_share 155 = .ok (.iinc 4 1, 3) := by decide +kernel
theorem dX8_share_158 : decode cX8_share 158 = .ok (.goto (-71), 3) := by decide +kernel
theorem dX8_share_161 : decode cX8_share 161 = .ok (.iload_n 3, 1) := by decide +kernel
theorem dX8_share_162 : decode cX8_share 162 = .ok (.aload_n 0, 1) := by decide +kernel
theorem dX8_share_163 : decode cX8_share 163 = .ok (.getfield 66, 3) := by decide +kernel
theorem dX8_share_166 : decode cX8_share 166 = .ok (.invokestatic 212, 3) := by decide +kernel
theorem dX8_share_169 : decode cX8_share 169 = .ok (.iload_n 2, 1) := by decide +kernel
theorem dX8_share_170 : decode cX8_share 170 = .ok (.invokestatic 215, 3) := by decide +kernel
theorem dX8_share_173 : decode cX8_share 173 = .ok (.ireturn, 1) := by decide +kernel
set_option maxRecDepth 20000 in
theorem ggX8_mark_X8_in : GoodIn wsX8_mark wsX8_in := goodIn_r _ [10] (by decide +kernel) (by decide +kernel)
set_option maxRecDepth 20000 in
theorem gX8_mark_X8_in : GoodIn wsX8_mark (va_wsS RX8 69 yX8_in wsX8_in) := goodIn_app (goodIn_of _ (by decide +kernel)) ggX8_mark_X8_in
theorem dX8_mark_0 : decode cX8_mark 0 = .ok (.aload_n 0, 1) := by decide +kernel
theorem dX8_mark_1 : decode cX8_mark 1 = .ok (.iconst 0, 1) := by decide +kernel
theorem dX8_mark_2 : decode cX8_mark 2 = .ok (.putfield 63, 3) := by decide +kernel
theorem dX8_mark_5 : decode cX8_mark 5 = .ok (.iload_n 1, 1) := by decide +kernel
theorem dX8_mark_6 : decode cX8_mark 6 = .ok (.i2l, 1) := by decide +kernel
theorem dX8_mark_7 : decode cX8_mark 7 = .ok (.lconst 0, 1) := by decide +kernel
theorem dX8_mark_8 : decode cX8_mark 8 = .ok (.ldc2_w 168, 3) := by decide +kernel
theorem dX8_mark_11 : decode cX8_mark 11 = .ok (.invokestatic 69, 3) := by decide +kernel
theorem dX8_mark_14 : decode cX8_mark 14 = .ok (.ifCond .eq 15, 3) := by decide +kernel
theorem dX8_mark_17 : decode cX8_mark 17 = .ok (.iload_n 2, 1) := by decide +kernel
theorem dX8_mark_18 : decode cX8_mark 18 = .ok (.i2l, 1) := by decide +kernel
theorem dX8_mark_19 : decode cX8_mark 19 = .ok (.lconst 0, 1) := by decide +kernel
theorem dX8_mark_20 : decode cX8_mark 20 = .ok (.ldc2_w 219, 3) := by decide +kernel
theorem dX8_mark_23 : decode cX8_mark 23 = .ok (.invokestatic 69, 3) := by decide +kernel
theorem dX8_mark_26 : decode cX8_mark 26 = .ok (.ifCond .ne 6, 3) := by decide +kernel
theorem dX8_mark_29 : decode cX8_mark 29 = .ok (.bipush (-2), 2) := by decide +kernel
theorem dX8_mark_31 : decode cX8_mark 31 = .ok (.ireturn, 1) := by decide +kernel
theorem dX8_mark_32 : decode cX8_mark 32 = .ok (.aload_n 0, 1) := by decide +kernel
theorem dX8_mark_33 : decode cX8_mark 33 = .ok (.getfield 131, 3) := by decide +kernel
theorem dX8_mark_36 : decode cX8_mark 36 = .ok (.bipush 6, 2) := by decide +kernel
theorem dX8_mark_38 : decode cX8_mark 38 = .ok (.if_icmp .ne 6, 3) := by decide +kernel
theorem dX8_mark_41 : decode cX8_mark 41 = .ok (.bipush (-4), 2) := by decide +kernel
theorem dX8_mark_43 : decode cX8_mark 43 = .ok (.ireturn, 1) := by decide +kernel
theorem dX8_mark_44 : decode cX8_mark 44 = .ok (.aload_n 0, 1) := by decide +kernel
theorem dX8_mark_45 : decode cX8_mark 45 = .ok (.getfield 48, 3) := by decide +kernel
theorem dX8_mark_48 : decode cX8_mark 48 = .ok (.aload_n 0, 1) := by decide +kernel
theorem dX8_mark_49 : decode cX8_mark 49 = .ok (.getfield 131, 3) := by decide +kernel
theorem dX8_mark_52 : decode cX8_mark 52 = .ok (.iload_n 1, 1) := by decide +kernel
theorem dX8_mark_53 : decode cX8_mark 53 = .ok (.iastore, 1) := by decide +kernel
theorem dX8_mark_54 : decode cX8_mark 54 = .ok (.aload_n 0, 1) := by decide +kernel
theorem dX8_mark_55 : decode cX8_mark 55 = .ok (.getfield 51, 3) := by decide +kernel
theorem dX8_mark_58 : decode cX8_mark 58 = .ok (.aload_n 0, 1) := by decide +kernel
theorem dX8_mark_59 : decode cX8_mark 59 = .ok (.getfield 131, 3) := by decide +kernel
theorem dX8_mark_62 : decode cX8_mark 62 = .ok (.iload_n 2, 1) := by decide +kernel
theorem dX8_mark_63 : decode cX8_mark 63 = .ok (.iastore, 1) := by decide +kernel
theorem dX8_mark_64 : decode cX8_mark 64 = .ok (.aload_n 0, 1) := by decide +kernel
theorem dX8_mark_65 : decode cX8_mark 65 = .ok (.dup, 1) := by decide +kernel
theorem dX8_mark_66 : decode cX8_mark 66 = .ok (.getfield 131, 3) := by decide +kernel
theorem dX8_mark_69 : decode cX8_mark 69 = .ok (.iconst 1, 1) := by decide +kernel
theorem dX8_mark_70 : decode cX8_mark 70 = .ok (.iadd, 1) := by decide +kernel
theorem dX8_mark_71 : decode cX8_mark 71 = .ok (.putfield 131, 3) := by decide +kernel
theorem dX8_mark_74 : decode cX8_mark 74 = .ok (.aload_n 0, 1) := by decide +kernel
theorem dX8_mark_75 : decode cX8_mark 75 = .ok (.getfield 131, 3) := by decide +kernel
theorem dX8_mark_78 : decode cX8_mark 78 = .ok (.ireturn, 1) := by decide +kernel
theorem dX8_snowed_0 : decode cX8_snowed 0 = .ok (.aload_n 0, 1) := by decide +kernel
theorem dX8_snowed_1 : decode cX8_snowed 1 = .ok (.iconst 0, 1) := by decide +kernel
theorem dX8_snowed_2 : decode cX8_snowed 2 = .ok (.putfield 63, 3) := by decide +kernel
theorem dX8_snowed_5 : decode cX8_snowed 5 = .ok (.aload_n 0, 1) := by decide +kernel
theorem dX8_snowed_6 : decode cX8_snowed 6 = .ok (.getfield 131, 3) := by decide +kernel
theorem dX8_snowed_9 : decode cX8_snowed 9 = .ok (.istore_n 1, 1) := by decide +kernel
theorem dX8_snowed_10 : decode cX8_snowed 10 = .ok (.aload_n 0, 1) := by decide +kernel
theorem dX8_snowed_11 : decode cX8_snowed 11 = .ok (.iconst 0, 1) := by decide +kernel
theorem dX8_snowed_12 : decode cX8_snowed 12 = .ok (.putfield 131, 3) := by decide +kernel
theorem dX8_snowed_15 : decode cX8_snowed 15 = .ok (.iload_n 1, 1) := by decide +kernel
theorem dX8_snowed_16 : decode cX8_snowed 16 = .ok (.ireturn, 1) := by decide +kernel
set_option maxRecDepth 20000 in
theorem ggX8_findWhose_X8_treadBy : GoodIn wsX8_findWhose wsX8_treadBy := goodIn_r _ [9] (by decide +kernel) (by decide +kernel)
set_option maxRecDepth 20000 in
theorem gX8_findWhose_X8_treadBy : GoodIn wsX8_findWhose (va_wsS RX8 102 yX8_treadBy wsX8_treadBy) := goodIn_app (goodIn_of _ (by decide +kernel)) ggX8_findWhose_X8_treadBy
theorem dX8_findWhose_0 : decode cX8_findWhose 0 = .ok (.aload_n 0, 1) := by decide +kernel
theorem dX8_findWhose_1 : decode cX8_findWhose 1 = .ok (.iconst 0, 1) := by decide +kernel
theorem dX8_findWhose_2 : decode cX8_findWhose 2 = .ok (.putfield 221, 3) := by decide +kernel
theorem dX8_findWhose_5 : decode cX8_findWhose 5 = .ok (.aload_n 0, 1) := by decide +kernel
theorem dX8_findWhose_6 : decode cX8_findWhose 6 = .ok (.bipush (-9), 2) := by decide +kernel
theorem dX8_findWhose_8 : decode cX8_findWhose 8 = .ok (.putfield 224, 3) := by decide +kernel
theorem dX8_findWhose_11 : decode cX8_findWhose 11 = .ok (.iconst 0, 1) := by decide +kernel
theorem dX8_findWhose_12 : decode cX8_findWhose 12 = .ok (.istore_n 1, 1) := by decide +kernel
theorem dX8_findWhose_13 : decode cX8_findWhose 13 = .ok (.iload_n 1, 1) := by decide +kernel
theorem dX8_findWhose_14 : decode cX8_findWhose 14 = .ok (.iconst 4, 1) := by decide +kernel
theorem dX8_findWhose_15 : decode cX8_findWhose 15 = .ok (.if_icmp .ge 150, 3) := by decide +kernel
theorem dX8_findWhose_18 : decode cX8_findWhose 18 = .ok (.iconst 1, 1) := by decide +kernel
theorem dX8_findWhose_19 : decode cX8_findWhose 19 = .ok (.istore_n 2, 1) := by decide +kernel
theorem dX8_findWhose_20 : decode cX8_findWhose 20 = .ok (.iload_n 2, 1) := by decide +kernel
theorem dX8_findWhose_21 : decode cX8_findWhose 21 = .ok (.bipush 9, 2) := by decide +kernel
theorem dX8_findWhose_23 : decode cX8_findWhose 23 = .ok (.if_icmp .gt 136, 3) := by decide +kernel
theorem dX8_findWhose_26 : decode cX8_findWhose 26 = .ok (.iload_n 1, 1) := by decide +kernel
theorem dX8_findWhose_27 : decode cX8_findWhose 27 = .ok (.iconst 2, 1) := by decide +kernel
theorem dX8_findWhose_28 : decode cX8_findWhose 28 = .ok (.if_icmp .eq 131, 3) := by decide +kernel
theorem dX8_findWhose_31 : decode cX8_findWhose 31 = .ok (.iconst 1, 1) := by decide +kernel
theorem dX8_findWhose_32 : decode cX8_findWhose 32 = .ok (.istore_n 3, 1) := by decide +kernel
theorem dX8_findWhose_33 : decode cX8_findWhose 33 = .ok (.iload_n 3, 1) := by decide +kernel
theorem dX8_findWhose_34 : decode cX8_findWhose 34 = .ok (.iconst 4, 1) := by decide +kernel
theorem dX8_findWhose_35 : decode cX8_findWhose 35 = .ok (.if_icmp .gt 118, 3) := by decide +kernel
theorem dX8_findWhose_38 : decode cX8_findWhose 38 = .ok (.iconst 1, 1) := by decide +kernel
theorem dX8_findWhose_39 : decode cX8_findWhose 39 = .ok (.istore 4, 2) := by decide +kernel
theorem dX8_findWhose_41 : decode cX8_findWhose 41 = .ok (.iconst 0, 1) := by decide +kernel
theorem dX8_findWhose_42 : decode cX8_findWhose 42 = .ok (.istore 5, 2) := by decide +kernel
theorem dX8_findWhose_44 : decode cX8_findWhose 44 = .ok (.iload 5, 2) := by decide +kernel
theorem dX8_findWhose_46 : decode cX8_findWhose 46 = .ok (.aload_n 0, 1) := by decide +kernel
theorem dX8_findWhose_47 : decode cX8_findWhose 47 = .ok (.getfield 131, 3) := by decide +kernel
theorem dX8_findWhose_50 : decode cX8_findWhose 50 = .ok (.if_icmp .ge 44, 3) := by decide +kernel
theorem dX8_findWhose_53 : decode cX8_findWhose 53 = .ok (.iload 4, 2) := by decide +kernel
theorem dX8_findWhose_55 : decode cX8_findWhose 55 = .ok (.ifCond .eq 30, 3) := by decide +kernel
theorem dX8_findWhose_58 : decode cX8_findWhose 58 = .ok (.iload_n 1, 1) := by decide +kernel
theorem dX8_findWhose_59 : decode cX8_findWhose 59 = .ok (.iload_n 2, 1) := by decide +kernel
theorem dX8_findWhose_60 : decode cX8_findWhose 60 = .ok (.iload_n 3, 1) := by decide +kernel
theorem dX8_findWhose_61 : decode cX8_findWhose 61 = .ok (.aload_n 0, 1) := by decide +kernel
theorem dX8_findWhose_62 : decode cX8_findWhose 62 = .ok (.getfield 48, 3) := by decide +kernel
theorem dX8_findWhose_65 : decode cX8_findWhose 65 = .ok (.iload 5, 2) := by decide +kernel
theorem dX8_findWhose_67 : decode cX8_findWhose 67 = .ok (.iaload, 1) := by decide +kernel
theorem dX8_findWhose_68 : decode cX8_findWhose 68 = .ok (.invokestatic 102, 3) := by decide +kernel
theorem dX8_findWhose_71 : decode cX8_findWhose 71 = .ok (.aload_n 0, 1) := by decide +kernel
theorem dX8_findWhose_72 : decode cX8_findWhose 72 = .ok (.getfield 51, 3) := by decide +kernel
theorem dX8_findWhose_75 : decode cX8_findWhose 75 = .ok (.iload 5, 2) := by decide +kernel
theorem dX8_findWhose_77 : decode cX8_findWhose 77 = .ok (.iaload, 1) := by decide +kernel
theorem dX8_findWhose_78 : decode cX8_findWhose 78 = .ok (.if_icmp .ne 7, 3) := by decide +kernel
theorem dX8_findWhose_81 : decode cX8_findWhose 81 = .ok (.iconst 1, 1) := by decide +kernel
theorem dX8_findWhose_82 : decode cX8_findWhose 82 = .ok (.goto 4, 3) := by decide +kernel
theorem dX8_findWhose_85 : decode cX8_findWhose 85 = .ok (.iconst 0, 1) := by decide +kernel
theorem dX8_findWhose_86 : decode cX8_findWhose 86 = .ok (.istore 4, 2) := by decide +kernel
theorem dX8_findWhose_88 : decode cX8_findWhose 88 = .ok (.iinc 5 1, 3) := by decide +kernel
theorem dX8_findWhose_91 : decode cX8_findWhose 91 = .ok (.goto (-47), 3) := by decide +kernel
theorem dX8_findWhose_94 : decode cX8_findWhose 94 = .ok (.aload_n 0, 1) := by decide +kernel
theorem dX8_findWhose_95 : decode cX8_findWhose 95 = .ok (.iload 4, 2) := by decide +kernel
theorem dX8_findWhose_97 : decode cX8_findWhose 97 = .ok (.ifCond .eq 24, 3) := by decide +kernel
theorem dX8_findWhose_100 : decode cX8_findWhose 100 = .ok (.aload_n 0, 1) := by decide +kernel
theorem dX8_findWhose_101 : decode cX8_findWhose 101 = .ok (.getfield 221, 3) := by decide +kernel
theorem dX8_findWhose_104 : decode cX8_findWhose 104 = .ok (.ifCond .ne 17, 3) := by decide +kernel
theorem dX8_findWhose_107 : decode cX8_findWhose 107 = .ok (.bipush 100, 2) := by decide +kernel
theorem dX8_findWhose_109 : decode cX8_findWhose 109 = .ok (.iload_n 1, 1) := by decide +kernel
theorem dX8_findWhose_110 : decode cX8_findWhose 110 = .ok (.imul, 1) := by decide +kernel
theorem dX8_findWhose_111 : decode cX8_findWhose 111 = .ok (.bipush 10, 2) := by decide +kernel
theorem dX8_findWhose_113 : decode cX8_findWhose 113 = .ok (.iload_n 2, 1) := by decide +kernel
theorem dX8_findWhose_114 : decode cX8_findWhose 114 = .ok (.imul, 1) := by decide +kernel
theorem dX8_findWhose_115 : decode cX8_findWhose 115 = .ok (.iadd, 1) := by decide +kernel
theorem dX8_findWhose_116 : decode cX8_findWhose 116 = .ok (.iload_n 3, 1) := by decide +kernel
theorem dX8_findWhose_117 : decode cX8_findWhose 117 = .ok (.iadd, 1) := by decide +kernel
theorem dX8_findWhose_118 : decode cX8_findWhose 118 = .ok (.goto 7, 3) := by decide +kernel
theorem dX8_findWhose_121 : decode cX8_findWhose 121 = .ok (.aload_n 0, 1) := by decide +kernel
theorem dX8_findWhose_122 : decode cX8_findWhose 122 = .ok (.getfield 224, 3) := by decide +kernel
theorem dX8_findWhose_125 : decode cX8_findWhose 125 = .ok (.putfield 224, 3) := by decide +kernel
theorem dX8_findWhose_128 : decode cX8_findWhose 128 = .ok (.aload_n 0, 1) := by decide +kernel
theorem dX8_findWhose_129 : decode cX8_findWhose 129 = .ok (.dup, 1) := by decide +kernel
theorem dX8_findWhose_130 : decode cX8_findWhose 130 = .ok (.getfield 221, 3) := by decide +kernel
theorem dX8_findWhose_133 : decode cX8_findWhose 133 = .ok (.iload 4, 2) := by decide +kernel
theorem dX8_findWhose_135 : decode cX8_findWhose 135 = .ok (.ifCond .eq 7, 3) := by decide +kernel
theorem dX8_findWhose_138 : decode cX8_findWhose 138 = .ok (.iconst 1, 1) := by decide +kernel
theorem dX8_findWhose_139 : decode cX8_findWhose 139 = .ok (.goto 4, 3) := by decide +kernel
theorem dX8_findWhose_142 : decode cX8_findWhose 142 = .ok (.iconst 0, 1) := by decide +kernel
theorem dX8_findWhose_143 : decode cX8_findWhose 143 = .ok (.iadd, 1) := by decide +kernel
theorem dX8_findWhose_144 : decode cX8_findWhose 144 = .ok (.putfield 221, 3) := by decide +kernel
theorem dX8_findWhose_147 : decode cX8_findWhose 147 = .ok (.iinc 3 1, 3) := by decide +kernel
theorem dX8_findWhose_150 : decode cX8_findWhose 150 = .ok (.goto (-117), 3) := by decide +kernel
theorem dX8_findWhose_153 : decode cX8_findWhose 153 = .ok (.iinc 2 1, 3) := by decide +kernel
theorem dX8_findWhose_156 : decode cX8_findWhose 156 = .ok (.goto (-136), 3) := by decide +kernel
theorem dX8_findWhose_159 : decode cX8_findWhose 159 = .ok (.iinc 1 1, 3) := by decide +kernel
theorem dX8_findWhose_162 : decode cX8_findWhose 162 = .ok (.goto (-149), 3) := by decide +kernel
theorem dX8_findWhose_165 : decode cX8_findWhose 165 = .ok (.return_, 1) := by decide +kernel
set_option maxRecDepth 20000 in
theorem ggX8_whose_X8_in : GoodIn wsX8_whose wsX8_in := goodIn_r _ [7] (by decide +kernel) (by decide +kernel)
set_option maxRecDepth 20000 in
theorem gX8_whose_X8_in : GoodIn wsX8_whose (va_wsS RX8 69 yX8_in wsX8_in) := goodIn_app (goodIn_of _ (by decide +kernel)) ggX8_whose_X8_in
set_option maxRecDepth 20000 in
theorem ggX8_whose_X8_findWhose : GoodIn wsX8_whose wsX8_findWhose := goodIn_r _ [11, 2, 3, 12, 13, 14, 15, 16, 6, 17, 18, 19, 20, 21, 22, 23, 24, 25, 26, 27, 28, 29, 30, 31, 32, 33, 34, 35, 36, 37, 38, 39, 40, 41, 42, 43, 44, 45, 46, 47, 48, 49, 50] (by decide +kernel) (by decide +kernel)
set_option maxRecDepth 20000 in
theorem gX8_whose_X8_findWhose : GoodIn wsX8_whose (wsV RX8 227 RX8 yX8_findWhose wsX8_findWhose) := goodIn_app (goodIn_of _ (by decide +kernel)) ggX8_whose_X8_findWhose
theorem dX8_whose_0 : decode cX8_whose 0 = .ok (.aload_n 0, 1) := by decide +kernel
theorem dX8_whose_1 : decode cX8_whose 1 = .ok (.iconst 0, 1) := by decide +kernel
theorem dX8_whose_2 : decode cX8_whose 2 = .ok (.putfield 63, 3) := by decide +kernel
theorem dX8_whose_5 : decode cX8_whose 5 = .ok (.iload_n 1, 1) := by decide +kernel
theorem dX8_whose_6 : decode cX8_whose 6 = .ok (.i2l, 1) := by decide +kernel
theorem dX8_whose_7 : decode cX8_whose 7 = .ok (.lconst 0, 1) := by decide +kernel
theorem dX8_whose_8 : decode cX8_whose 8 = .ok (.lconst 1, 1) := by decide +kernel
theorem dX8_whose_9 : decode cX8_whose 9 = .ok (.invokestatic 69, 3) := by decide +kernel
theorem dX8_whose_12 : decode cX8_whose 12 = .ok (.ifCond .ne 6, 3) := by decide +kernel
theorem dX8_whose_15 : decode cX8_whose 15 = .ok (.bipush (-2), 2) := by decide +kernel
theorem dX8_whose_17 : decode cX8_whose 17 = .ok (.ireturn, 1) := by decide +kernel
theorem dX8_whose_18 : decode cX8_whose 18 = .ok (.aload_n 0, 1) := by decide +kernel
theorem dX8_whose_19 : decode cX8_whose 19 = .ok (.invokevirtual 227, 3) := by decide +kernel
theorem dX8_whose_22 : decode cX8_whose 22 = .ok (.iload_n 1, 1) := by decide +kernel
theorem dX8_whose_23 : decode cX8_whose 23 = .ok (.ifCond .ne 10, 3) := by decide +kernel
theorem dX8_whose_26 : decode cX8_whose 26 = .ok (.aload_n 0, 1) := by decide +kernel
theorem dX8_whose_27 : decode cX8_whose 27 = .ok (.getfield 221, 3) := by decide +kernel
theorem dX8_whose_30 : decode cX8_whose 30 = .ok (.goto 7, 3) := by decide +kernel
theorem dX8_whose_33 : decode cX8_whose 33 = .ok (.aload_n 0, 1) := by decide +kernel
theorem dX8_whose_34 : decode cX8_whose 34 = .ok (.getfield 224, 3) := by decide +kernel
theorem dX8_whose_37 : decode cX8_whose 37 = .ok (.ireturn, 1) := by decide +kernel
set_option maxRecDepth 20000 in
theorem ggX8_layGains_X8_begin : GoodIn wsX8_layGains wsX8_begin := goodIn_r _ [7, 8, 1, 9, 38, 39, 40, 41, 42, 43, 44, 45, 46, 47, 48, 49, 50, 51, 52, 53, 54, 55, 56, 57, 58, 59, 60, 61, 62, 63, 64, 65, 66, 67, 68, 69, 70] (by decide +kernel) (by decide +kernel)
set_option maxRecDepth 20000 in
theorem gX8_layGains_X8_begin : GoodIn wsX8_layGains (wsV RX8 170 RX8 yX8_begin wsX8_begin) := goodIn_app (goodIn_of _ (by decide +kernel)) ggX8_layGains_X8_begin
set_option maxRecDepth 20000 in
theorem ggX8_layGains_X8_goStep : GoodIn wsX8_layGains wsX8_goStep := goodIn_r _ [13, 14, 15, 16, 6, 17, 18, 19, 20, 21, 22, 8, 23, 24, 25, 26, 27, 28, 29, 30, 31, 32, 33, 34, 35, 36, 37, 38, 39, 40, 41, 42, 43, 44, 45, 46, 47, 48, 49, 50, 51, 52, 53, 54, 55, 56, 57, 58, 59, 60, 61, 62, 63, 64, 65, 66, 67, 68, 69, 70] (by decide +kernel) (by decide +kernel)
set_option maxRecDepth 20000 in
theorem gX8_layGains_X8_goStep : GoodIn wsX8_layGains (wsV RX8 124 RX8 yX8_goStep wsX8_goStep) := goodIn_app (goodIn_of _ (by decide +kernel)) ggX8_layGains_X8_goStep
set_option maxRecDepth 20000 in
theorem ggX8_layGains_X8_has : GoodIn wsX8_layGains wsX8_has := goodIn_r _ [17] (by decide +kernel) (by decide +kernel)
set_option maxRecDepth 20000 in
theorem gX8_layGains_X8_has : GoodIn wsX8_layGains (va_wsS RX8 113 yX8_has wsX8_has) := goodIn_app (goodIn_of _ (by decide +kernel)) ggX8_layGains_X8_has
theorem dX8_layGains_0 : decode cX8_layGains 0 = .ok (.aload_n 0, 1) := by decide +kernel
theorem dX8_layGains_1 : decode cX8_layGains 1 = .ok (.invokevirtual 170, 3) := by decide +kernel
theorem dX8_layGains_4 : decode cX8_layGains 4 = .ok (.aload_n 0, 1) := by decide +kernel
theorem dX8_layGains_5 : decode cX8_layGains 5 = .ok (.getfield 35, 3) := by decide +kernel
theorem dX8_layGains_8 : decode cX8_layGains 8 = .ok (.iconst 5, 1) := by decide +kernel
theorem dX8_layGains_9 : decode cX8_layGains 9 = .ok (.iload_n 1, 1) := by decide +kernel
theorem dX8_layGains_10 : decode cX8_layGains 10 = .ok (.iadd, 1) := by decide +kernel
theorem dX8_layGains_11 : decode cX8_layGains 11 = .ok (.dup2, 1) := by decide +kernel
theorem dX8_layGains_12 : decode cX8_layGains 12 = .ok (.iaload, 1) := by decide +kernel
theorem dX8_layGains_13 : decode cX8_layGains 13 = .ok (.iload_n 3, 1) := by decide +kernel
theorem dX8_layGains_14 : decode cX8_layGains 14 = .ok (.iconst 1, 1) := by decide +kernel
theorem dX8_layGains_15 : decode cX8_layGains 15 = .ok (.if_icmp .le 20, 3) := by decide +kernel
theorem dX8_layGains_18 : decode cX8_layGains 18 = .ok (.aload_n 0, 1) := by decide +kernel
theorem dX8_layGains_19 : decode cX8_layGains 19 = .ok (.getfield 35, 3) := by decide +kernel
theorem dX8_layGains_22 : decode cX8_layGains 22 = .ok (.iconst 5, 1) := by decide +kernel
theorem dX8_layGains_23 : decode cX8_layGains 23 = .ok (.iload_n 1, 1) := by decide +kernel
theorem dX8_layGains_24 : decode cX8_layGains 24 = .ok (.iadd, 1) := by decide +kernel
theorem dX8_layGains_25 : decode cX8_layGains 25 = .ok (.iaload, 1) := by decide +kernel
theorem dX8_layGains_26 : decode cX8_layGains 26 = .ok (.bipush 9, 2) := by decide +kernel
theorem dX8_layGains_28 : decode cX8_layGains 28 = .ok (.if_icmp .ge 7, 3) := by decide +kernel
theorem dX8_layGains_31 : decode cX8_layGains 31 = .ok (.iconst 1, 1) := by decide +kernel
theorem dX8_layGains_32 : decode cX8_layGains 32 = .ok (.goto 4, 3) := by decide +kernel
theorem dX8_layGains_35 : decode cX8_layGains 35 = .ok (.iconst 0, 1) := by decide +kernel
theorem dX8_layGains_36 : decode cX8_layGains 36 = .ok (.iadd, 1) := by decide +kernel
theorem dX8_layGains_37 : decode cX8_layGains 37 = .ok (.iastore, 1) := by decide +kernel
theorem dX8_layGains_38 : decode cX8_layGains 38 = .ok (.aload_n 0, 1) := by decide +kernel
theorem dX8_layGains_39 : decode cX8_layGains 39 = .ok (.getfield 35, 3) := by decide +kernel
theorem dX8_layGains_42 : decode cX8_layGains 42 = .ok (.iconst 5, 1) := by decide +kernel
theorem dX8_layGains_43 : decode cX8_layGains 43 = .ok (.iload_n 2, 1) := by decide +kernel
theorem dX8_layGains_44 : decode cX8_layGains 44 = .ok (.iadd, 1) := by decide +kernel
theorem dX8_layGains_45 : decode cX8_layGains 45 = .ok (.dup2, 1) := by decide +kernel
theorem dX8_layGains_46 : decode cX8_layGains 46 = .ok (.iaload, 1) := by decide +kernel
theorem dX8_layGains_47 : decode cX8_layGains 47 = .ok (.iload_n 3, 1) := by decide +kernel
theorem dX8_layGains_48 : decode cX8_layGains 48 = .ok (.iconst 2, 1) := by decide +kernel
theorem dX8_layGains_49 : decode cX8_layGains 49 = .ok (.irem, 1) := by decide +kernel
theorem dX8_layGains_50 : decode cX8_layGains 50 = .ok (.iconst 1, 1) := by decide +kernel
theorem dX8_layGains_51 : decode cX8_layGains 51 = .ok (.if_icmp .ne 20, 3) := by decide +kernel
theorem dX8_layGains_54 : decode cX8_layGains 54 = .ok (.aload_n 0, 1) := by decide +kernel
theorem dX8_layGains_55 : decode cX8_layGains 55 = .ok (.getfield 35, 3) := by decide +kernel
theorem dX8_layGains_58 : decode cX8_layGains 58 = .ok (.iconst 5, 1) := by decide +kernel
theorem dX8_layGains_59 : decode cX8_layGains 59 = .ok (.iload_n 2, 1) := by decide +kernel
theorem dX8_layGains_60 : decode cX8_layGains 60 = .ok (.iadd, 1) := by decide +kernel
theorem dX8_layGains_61 : decode cX8_layGains 61 = .ok (.iaload, 1) := by decide +kernel
theorem dX8_layGains_62 : decode cX8_layGains 62 = .ok (.bipush 9, 2) := by decide +kernel
theorem dX8_layGains_64 : decode cX8_layGains 64 = .ok (.if_icmp .ge 7, 3) := by decide +kernel
theorem dX8_layGains_67 : decode cX8_layGains 67 = .ok (.iconst 1, 1) := by decide +kernel
theorem dX8_layGains_68 : decode cX8_layGains 68 = .ok (.goto 4, 3) := by decide +kernel
theorem dX8_layGains_71 : decode cX8_layGains 71 = .ok (.iconst 0, 1) := by decide +kernel
theorem dX8_layGains_72 : decode cX8_layGains 72 = .ok (.iadd, 1) := by decide +kernel
theorem dX8_layGains_73 : decode cX8_layGains 73 = .ok (.iastore, 1) := by decide +kernel
theorem dX8_layGains_74 : decode cX8_layGains 74 = .ok (.aload_n 0, 1) := by decide +kernel
theorem dX8_layGains_75 : decode cX8_layGains 75 = .ok (.getfield 57, 3) := by decide +kernel
theorem dX8_layGains_78 : decode cX8_layGains 78 = .ok (.iconst 2, 1) := by decide +kernel
theorem dX8_layGains_79 : decode cX8_layGains 79 = .ok (.iload_n 3, 1) := by decide +kernel
theorem dX8_layGains_80 : decode cX8_layGains 80 = .ok (.imul, 1) := by decide +kernel
theorem dX8_layGains_81 : decode cX8_layGains 81 = .ok (.iload_n 3, 1) := by decide +kernel
theorem dX8_layGains_82 : decode cX8_layGains 82 = .ok (.iconst 2, 1) := by decide +kernel
theorem dX8_layGains_83 : decode cX8_layGains 83 = .ok (.idiv, 1) := by decide +kernel
theorem dX8_layGains_84 : decode cX8_layGains 84 = .ok (.ineg, 1) := by decide +kernel
theorem dX8_layGains_85 : decode cX8_layGains 85 = .ok (.iastore, 1) := by decide +kernel
theorem dX8_layGains_86 : decode cX8_layGains 86 = .ok (.aload_n 0, 1) := by decide +kernel
theorem dX8_layGains_87 : decode cX8_layGains 87 = .ok (.getfield 57, 3) := by decide +kernel
theorem dX8_layGains_90 : decode cX8_layGains 90 = .ok (.iconst 2, 1) := by decide +kernel
theorem dX8_layGains_91 : decode cX8_layGains 91 = .ok (.iload_n 3, 1) := by decide +kernel
theorem dX8_layGains_92 : decode cX8_layGains 92 = .ok (.imul, 1) := by decide +kernel
theorem dX8_layGains_93 : decode cX8_layGains 93 = .ok (.iconst 1, 1) := by decide +kernel
theorem dX8_layGains_94 : decode cX8_layGains 94 = .ok (.iadd, 1) := by decide +kernel
theorem dX8_layGains_95 : decode cX8_layGains 95 = .ok (.iload_n 3, 1) := by decide +kernel
theorem dX8_layGains_96 : decode cX8_layGains 96 = .ok (.iconst 2, 1) := by decide +kernel
theorem dX8_layGains_97 : decode cX8_layGains 97 = .ok (.irem, 1) := by decide +kernel
theorem dX8_layGains_98 : decode cX8_layGains 98 = .ok (.ineg, 1) := by decide +kernel
theorem dX8_layGains_99 : decode cX8_layGains 99 = .ok (.iastore, 1) := by decide +kernel
theorem dX8_layGains_100 : decode cX8_layGains 100 = .ok (.iconst 0, 1) := by decide +kernel
theorem dX8_layGains_101 : decode cX8_layGains 101 = .ok (.istore 4, 2) := by decide +kernel
theorem dX8_layGains_103 : decode cX8_layGains 103 = .ok (.iload 4, 2) := by decide +kernel
theorem dX8_layGains_105 : decode cX8_layGains 105 = .ok (.bipush 8, 2) := by decide +kernel
theorem dX8_layGains_107 : decode cX8_layGains 107 = .ok (.if_icmp .ge 80, 3) := by decide +kernel
theorem dX8_layGains_110 : decode cX8_layGains 110 = .ok (.aload_n 0, 1) := by decide +kernel
theorem dX8_layGains_111 : decode cX8_layGains 111 = .ok (.aload_n 0, 1) := by decide +kernel
theorem dX8_layGains_112 : decode cX8_layGains 112 = .ok (.getfield 35, 3) := by decide +kernel
theorem dX8_layGains_115 : decode cX8_layGains 115 = .ok (.invokevirtual 124, 3) := by decide +kernel
theorem dX8_layGains_118 : decode cX8_layGains 118 = .ok (.pop, 1) := by decide +kernel
theorem dX8_layGains_119 : decode cX8_layGains 119 = .ok (.aload_n 0, 1) := by decide +kernel
theorem dX8_layGains_120 : decode cX8_layGains 120 = .ok (.getfield 57, 3) := by decide +kernel
theorem dX8_layGains_123 : decode cX8_layGains 123 = .ok (.iconst 2, 1) := by decide +kernel
theorem dX8_layGains_124 : decode cX8_layGains 124 = .ok (.iload_n 3, 1) := by decide +kernel
theorem dX8_layGains_125 : decode cX8_layGains 125 = .ok (.imul, 1) := by decide +kernel
theorem dX8_layGains_126 : decode cX8_layGains 126 = .ok (.dup2, 1) := by decide +kernel
theorem dX8_layGains_127 : decode cX8_layGains 127 = .ok (.iaload, 1) := by decide +kernel
theorem dX8_layGains_128 : decode cX8_layGains 128 = .ok (.aload_n 0, 1) := by decide +kernel
theorem dX8_layGains_129 : decode cX8_layGains 129 = .ok (.getfield 35, 3) := by decide +kernel
theorem dX8_layGains_132 : decode cX8_layGains 132 = .ok (.bipush 15, 2) := by decide +kernel
theorem dX8_layGains_134 : decode cX8_layGains 134 = .ok (.iaload, 1) := by decide +kernel
theorem dX8_layGains_135 : decode cX8_layGains 135 = .ok (.iload_n 1, 1) := by decide +kernel
theorem dX8_layGains_136 : decode cX8_layGains 136 = .ok (.invokestatic 113, 3) := by decide +kernel
theorem dX8_layGains_139 : decode cX8_layGains 139 = .ok (.ifCond .eq 7, 3) := by decide +kernel
theorem dX8_layGains_142 : decode cX8_layGains 142 = .ok (.iconst 0, 1) := by decide +kernel
theorem dX8_layGains_143 : decode cX8_layGains 143 = .ok (.goto 4, 3) := by decide +kernel
theorem dX8_layGains_146 : decode cX8_layGains 146 = .ok (.iconst 1, 1) := by decide +kernel
theorem dX8_layGains_147 : decode cX8_layGains 147 = .ok (.iadd, 1) := by decide +kernel
theorem dX8_layGains_148 : decode cX8_layGains 148 = .ok (.iastore, 1) := by decide +kernel
theorem dX8_layGains_149 : decode cX8_layGains 149 = .ok (.aload_n 0, 1) := by decide +kernel
theorem dX8_layGains_150 : decode cX8_layGains 150 = .ok (.getfield 57, 3) := by decide +kernel
theorem dX8_layGains_153 : decode cX8_layGains 153 = .ok (.iconst 2, 1) := by decide +kernel
theorem dX8_layGains_154 : decode cX8_layGains 154 = .ok (.iload_n 3, 1) := by decide +kernel
theorem dX8_layGains_155 : decode cX8_layGains 155 = .ok (.imul, 1) := by decide +kernel
theorem dX8_layGains_156 : decode cX8_layGains 156 = .ok (.iconst 1, 1) := by decide +kernel
theorem dX8_layGains_157 : decode cX8_layGains 157 = .ok (.iadd, 1) := by decide +kernel
theorem dX8_layGains_158 : decode cX8_layGains 158 = .ok (.dup2, 1) := by decide +kernel
theorem dX8_layGains_159 : decode cX8_layGains 159 = .ok (.iaload, 1) := by decide +kernel
theorem dX8_layGains_160 : decode cX8_layGains 160 = .ok (.aload_n 0, 1) := by decide +kernel
theorem dX8_layGains_161 : decode cX8_layGains 161 = .ok (.getfield 35, 3) := by decide +kernel
theorem dX8_layGains_164 : decode cX8_layGains 164 = .ok (.bipush 15, 2) := by decide +kernel
theorem dX8_layGains_166 : decode cX8_layGains 166 = .ok (.iaload, 1) := by decide +kernel
theorem dX8_layGains_167 : decode cX8_layGains 167 = .ok (.iload_n 2, 1) := by decide +kernel
theorem dX8_layGains_168 : decode cX8_layGains 168 = .ok (.invokestatic 113, 3) := by decide +kernel
theorem dX8_layGains_171 : decode cX8_layGains 171 = .ok (.ifCond .eq 7, 3) := by decide +kernel
theorem dX8_layGains_174 : decode cX8_layGains 174 = .ok (.iconst 0, 1) := by decide +kernel
theorem dX8_layGains_175 : decode cX8_layGains 175 = .ok (.goto 4, 3) := by decide +kernel
theorem dX8_layGains_178 : decode cX8_layGains 178 = .ok (.iconst 1, 1) := by decide +kernel
theorem dX8_layGains_179 : decode cX8_layGains 179 = .ok (.iadd, 1) := by decide +kernel
theorem dX8_layGains_180 : decode cX8_layGains 180 = .ok (.iastore, 1) := by decide +kernel
theorem dX8_layGains_181 : decode cX8_layGains 181 = .ok (.iinc 4 1, 3) := by decide +kernel
theorem dX8_layGains_184 : decode cX8_layGains 184 = .ok (.goto (-81), 3) := by decide +kernel
theorem dX8_layGains_187 : decode cX8_layGains 187 = .ok (.return_, 1) := by decide +kernel
set_option maxRecDepth 20000 in
theorem ggX8_rests_X8_noWalker : GoodIn wsX8_rests wsX8_noWalker := goodIn_r _ [10, 11, 12, 13, 9, 14, 52, 53, 54, 55, 56, 57, 58, 59, 60, 61, 62, 63, 64, 65, 66, 67, 68, 69, 70, 71, 72, 73, 74, 75, 76, 77, 78, 79, 80, 81, 82, 83, 84] (by decide +kernel) (by decide +kernel)
set_option maxRecDepth 20000 in
theorem gX8_rests_X8_noWalker : GoodIn wsX8_rests (wsV RX8 134 RX8 yX8_noWalker wsX8_noWalker) := goodIn_app (goodIn_of _ (by decide +kernel)) ggX8_rests_X8_noWalker
set_option maxRecDepth 20000 in
theorem ggX8_rests_X8_in : GoodIn wsX8_rests wsX8_in := goodIn_r _ [14] (by decide +kernel) (by decide +kernel)
set_option maxRecDepth 20000 in
theorem gX8_rests_X8_in : GoodIn wsX8_rests (va_wsS RX8 69 yX8_in wsX8_in) := goodIn_app (goodIn_of _ (by decide +kernel)) ggX8_rests_X8_in
set_option maxRecDepth 20000 in
theorem ggX8_rests_X8_has : GoodIn wsX8_rests wsX8_has := goodIn_r _ [17] (by decide +kernel) (by decide +kernel)
set_option maxRecDepth 20000 in
theorem gX8_rests_X8_has : GoodIn wsX8_rests (va_wsS RX8 113 yX8_has wsX8_has) := goodIn_app (goodIn_of _ (by decide +kernel)) ggX8_rests_X8_has
set_option maxRecDepth 20000 in
theorem ggX8_rests_X8_layGains : GoodIn wsX8_rests wsX8_layGains := goodIn_r _ [21, 22, 5, 23, 24, 25, 9, 26, 27, 2, 28, 29, 30, 31, 11, 15, 16, 17, 32, 33, 34, 35, 36, 37, 38, 39, 40, 41, 42, 43, 44, 45, 46, 47, 48, 49, 50, 51, 52, 53, 54, 55, 56, 57, 58, 59, 60, 61, 62, 63, 64, 65, 66, 67, 68, 69, 70, 71, 72, 73, 74, 75, 76, 77, 78, 79, 80, 81, 82, 83, 84] (by decide +kernel) (by decide +kernel)
set_option maxRecDepth 20000 in
theorem gX8_rests_X8_layGains : GoodIn wsX8_rests (wsV RX8 230 RX8 yX8_layGains wsX8_layGains) := goodIn_app (goodIn_of _ (by decide +kernel)) ggX8_rests_X8_layGains
theorem dX8_rests_0 : decode cX8_rests 0 = .ok (.aload_n 0, 1) := by decide +kernel
theorem dX8_rests_1 : decode cX8_rests 1 = .ok (.iconst 0, 1) := by decide +kernel
theorem dX8_rests_2 : decode cX8_rests 2 = .ok (.putfield 63, 3) := by decide +kernel
theorem dX8_rests_5 : decode cX8_rests 5 = .ok (.aload_n 0, 1) := by decide +kernel
theorem dX8_rests_6 : decode cX8_rests 6 = .ok (.iload_n 1, 1) := by decide +kernel
theorem dX8_rests_7 : decode cX8_rests 7 = .ok (.invokevirtual 134, 3) := by decide +kernel
theorem dX8_rests_10 : decode cX8_rests 10 = .ok (.ifCond .ne 11, 3) := by decide +kernel
theorem dX8_rests_13 : decode cX8_rests 13 = .ok (.aload_n 0, 1) := by decide +kernel
theorem dX8_rests_14 : decode cX8_rests 14 = .ok (.iload_n 2, 1) := by decide +kernel
theorem dX8_rests_15 : decode cX8_rests 15 = .ok (.invokevirtual 134, 3) := by decide +kernel
theorem dX8_rests_18 : decode cX8_rests 18 = .ok (.ifCond .eq 5, 3) := by decide +kernel
theorem dX8_rests_21 : decode cX8_rests 21 = .ok (.iconst (-1), 1) := by decide +kernel
theorem dX8_rests_22 : decode cX8_rests 22 = .ok (.ireturn, 1) := by decide +kernel
theorem dX8_rests_23 : decode cX8_rests 23 = .ok (.iload_n 1, 1) := by decide +kernel
theorem dX8_rests_24 : decode cX8_rests 24 = .ok (.iload_n 2, 1) := by decide +kernel
theorem dX8_rests_25 : decode cX8_rests 25 = .ok (.if_icmp .eq 13, 3) := by decide +kernel
theorem dX8_rests_28 : decode cX8_rests 28 = .ok (.iload_n 3, 1) := by decide +kernel
theorem dX8_rests_29 : decode cX8_rests 29 = .ok (.i2l, 1) := by decide +kernel
theorem dX8_rests_30 : decode cX8_rests 30 = .ok (.lconst 0, 1) := by decide +kernel
theorem dX8_rests_31 : decode cX8_rests 31 = .ok (.lconst 1, 1) := by decide +kernel
theorem dX8_rests_32 : decode cX8_rests 32 = .ok (.invokestatic 69, 3) := by decide +kernel
theorem dX8_rests_35 : decode cX8_rests 35 = .ok (.ifCond .ne 6, 3) := by decide +kernel
theorem dX8_rests_38 : decode cX8_rests 38 = .ok (.bipush (-2), 2) := by decide +kernel
theorem dX8_rests_40 : decode cX8_rests 40 = .ok (.ireturn, 1) := by decide +kernel
theorem dX8_rests_41 : decode cX8_rests 41 = .ok (.aload_n 0, 1) := by decide +kernel
theorem dX8_rests_42 : decode cX8_rests 42 = .ok (.getfield 32, 3) := by decide +kernel
theorem dX8_rests_45 : decode cX8_rests 45 = .ok (.bipush 15, 2) := by decide +kernel
theorem dX8_rests_47 : decode cX8_rests 47 = .ok (.iaload, 1) := by decide +kernel
theorem dX8_rests_48 : decode cX8_rests 48 = .ok (.iload_n 1, 1) := by decide +kernel
theorem dX8_rests_49 : decode cX8_rests 49 = .ok (.invokestatic 113, 3) := by decide +kernel
theorem dX8_rests_52 : decode cX8_rests 52 = .ok (.ifCond .ne 17, 3) := by decide +kernel
theorem dX8_rests_55 : decode cX8_rests 55 = .ok (.aload_n 0, 1) := by decide +kernel
theorem dX8_rests_56 : decode cX8_rests 56 = .ok (.getfield 32, 3) := by decide +kernel
theorem dX8_rests_59 : decode cX8_rests 59 = .ok (.bipush 15, 2) := by decide +kernel
theorem dX8_rests_61 : decode cX8_rests 61 = .ok (.iaload, 1) := by decide +kernel
theorem dX8_rests_62 : decode cX8_rests 62 = .ok (.iload_n 2, 1) := by decide +kernel
theorem dX8_rests_63 : decode cX8_rests 63 = .ok (.invokestatic 113, 3) := by decide +kernel
theorem dX8_rests_66 : decode cX8_rests 66 = .ok (.ifCond .eq 6, 3) := by decide +kernel
theorem dX8_rests_69 : decode cX8_rests 69 = .ok (.bipush (-3), 2) := by decide +kernel
theorem dX8_rests_71 : decode cX8_rests 71 = .ok (.ireturn, 1) := by decide +kernel
theorem dX8_rests_72 : decode cX8_rests 72 = .ok (.iconst 0, 1) := by decide +kernel
theorem dX8_rests_73 : decode cX8_rests 73 = .ok (.istore 4, 2) := by decide +kernel
theorem dX8_rests_75 : decode cX8_rests 75 = .ok (.iload 4, 2) := by decide +kernel
theorem dX8_rests_77 : decode cX8_rests 77 = .ok (.iconst 4, 1) := by decide +kernel
theorem dX8_rests_78 : decode cX8_rests 78 = .ok (.if_icmp .ge 17, 3) := by decide +kernel
theorem dX8_rests_81 : decode cX8_rests 81 = .ok (.aload_n 0, 1) := by decide +kernel
theorem dX8_rests_82 : decode cX8_rests 82 = .ok (.iload_n 1, 1) := by decide +kernel
theorem dX8_rests_83 : decode cX8_rests 83 = .ok (.iload_n 2, 1) := by decide +kernel
theorem dX8_rests_84 : decode cX8_rests 84 = .ok (.iload 4, 2) := by decide +kernel
theorem dX8_rests_86 : decode cX8_rests 86 = .ok (.invokevirtual 230, 3) := by decide +kernel
theorem dX8_rests_89 : decode cX8_rests 89 = .ok (.iinc 4 1, 3) := by decide +kernel
theorem dX8_rests_92 : decode cX8_rests 92 = .ok (.goto (-17), 3) := by decide +kernel
theorem dX8_rests_95 : decode cX8_rests 95 = .ok (.aload_n 0, 1) := by decide +kernel
theorem dX8_rests_96 : decode cX8_rests 96 = .ok (.iconst 0, 1) := by decide +kernel
theorem dX8_rests_97 : decode cX8_rests 97 = .ok (.putfield 234, 3) := by decide +kernel
theorem dX8_rests_100 : decode cX8_rests 100 = .ok (.aload_n 0, 1) := by decide +kernel
theorem dX8_rests_101 : decode cX8_rests 101 = .ok (.bipush (-9), 2) := by decide +kernel
theorem dX8_rests_103 : decode cX8_rests 103 = .ok (.putfield 237, 3) := by decide +kernel
theorem dX8_rests_106 : decode cX8_rests 106 = .ok (.iconst 0, 1) := by decide +kernel
theorem dX8_rests_107 : decode cX8_rests 107 = .ok (.istore 4, 2) := by decide +kernel
theorem dX8_rests_109 : decode cX8_rests 109 = .ok (.iload 4, 2) := by decide +kernel
theorem dX8_rests_111 : decode cX8_rests 111 = .ok (.iconst 4, 1) := by decide +kernel
theorem dX8_rests_112 : decode cX8_rests 112 = .ok (.if_icmp .ge 120, 3) := by decide +kernel
theorem dX8_rests_115 : decode cX8_rests 115 = .ok (.aload_n 0, 1) := by decide +kernel
theorem dX8_rests_116 : decode cX8_rests 116 = .ok (.getfield 57, 3) := by decide +kernel
theorem dX8_rests_119 : decode cX8_rests 119 = .ok (.iconst 2, 1) := by decide +kernel
theorem dX8_rests_120 : decode cX8_rests 120 = .ok (.iload 4, 2) := by decide +kernel
theorem dX8_rests_122 : decode cX8_rests 122 = .ok (.iconst 2, 1) := by decide +kernel
theorem dX8_rests_123 : decode cX8_rests 123 = .ok (.ixor, 1) := by decide +kernel
theorem dX8_rests_124 : decode cX8_rests 124 = .ok (.imul, 1) := by decide +kernel
theorem dX8_rests_125 : decode cX8_rests 125 = .ok (.iaload, 1) := by decide +kernel
theorem dX8_rests_126 : decode cX8_rests 126 = .ok (.aload_n 0, 1) := by decide +kernel
theorem dX8_rests_127 : decode cX8_rests 127 = .ok (.getfield 57, 3) := by decide +kernel
theorem dX8_rests_130 : decode cX8_rests 130 = .ok (.iconst 2, 1) := by decide +kernel
theorem dX8_rests_131 : decode cX8_rests 131 = .ok (.iload 4, 2) := by decide +kernel
theorem dX8_rests_133 : decode cX8_rests 133 = .ok (.imul, 1) := by decide +kernel
theorem dX8_rests_134 : decode cX8_rests 134 = .ok (.iaload, 1) := by decide +kernel
theorem dX8_rests_135 : decode cX8_rests 135 = .ok (.if_icmp .gt 34, 3) := by decide +kernel
theorem dX8_rests_138 : decode cX8_rests 138 = .ok (.aload_n 0, 1) := by decide +kernel
theorem dX8_rests_139 : decode cX8_rests 139 = .ok (.getfield 57, 3) := by decide +kernel
theorem dX8_rests_142 : decode cX8_rests 142 = .ok (.iconst 2, 1) := by decide +kernel
theorem dX8_rests_143 : decode cX8_rests 143 = .ok (.iload 4, 2) := by decide +kernel
theorem dX8_rests_145 : decode cX8_rests 145 = .ok (.iconst 1, 1) := by decide +kernel
theorem dX8_rests_146 : decode cX8_rests 146 = .ok (.ixor, 1) := by decide +kernel
theorem dX8_rests_147 : decode cX8_rests 147 = .ok (.imul, 1) := by decide +kernel
theorem dX8_rests_148 : decode cX8_rests 148 = .ok (.iconst 1, 1) := by decide +kernel
theorem dX8_rests_149 : decode cX8_rests 149 = .ok (.iadd, 1) := by decide +kernel
theorem dX8_rests_150 : decode cX8_rests 150 = .ok (.iaload, 1) := by decide +kernel
theorem dX8_rests_151 : decode cX8_rests 151 = .ok (.aload_n 0, 1) := by decide +kernel
theorem dX8_rests_152 : decode cX8_rests 152 = .ok (.getfield 57, 3) := by decide +kernel
theorem dX8_rests_155 : decode cX8_rests 155 = .ok (.iconst 2, 1) := by decide +kernel
theorem dX8_rests_156 : decode cX8_rests 156 = .ok (.iload 4, 2) := by decide +kernel
theorem dX8_rests_158 : decode cX8_rests 158 = .ok (.imul, 1) := by decide +kernel
theorem dX8_rests_159 : decode cX8_rests 159 = .ok (.iconst 1, 1) := by decide +kernel
theorem dX8_rests_160 : decode cX8_rests 160 = .ok (.iadd, 1) := by decide +kernel
theorem dX8_rests_161 : decode cX8_rests 161 = .ok (.iaload, 1) := by decide +kernel
theorem dX8_rests_162 : decode cX8_rests 162 = .ok (.if_icmp .gt 7, 3) := by decide +kernel
theorem dX8_rests_165 : decode cX8_rests 165 = .ok (.iconst 1, 1) := by decide +kernel
theorem dX8_rests_166 : decode cX8_rests 166 = .ok (.goto 4, 3) := by decide +kernel
theorem dX8_rests_169 : decode cX8_rests 169 = .ok (.iconst 0, 1) := by decide +kernel
theorem dX8_rests_170 : decode cX8_rests 170 = .ok (.istore 5, 2) := by decide +kernel
theorem dX8_rests_172 : decode cX8_rests 172 = .ok (.aload_n 0, 1) := by decide +kernel
theorem dX8_rests_173 : decode cX8_rests 173 = .ok (.iload 5, 2) := by decide +kernel
theorem dX8_rests_175 : decode cX8_rests 175 = .ok (.ifCond .eq 25, 3) := by decide +kernel
theorem dX8_rests_178 : decode cX8_rests 178 = .ok (.aload_n 0, 1) := by decide +kernel
theorem dX8_rests_179 : decode cX8_rests 179 = .ok (.getfield 234, 3) := by decide +kernel
theorem dX8_rests_182 : decode cX8_rests 182 = .ok (.ifCond .ne 18, 3) := by decide +kernel
theorem dX8_rests_185 : decode cX8_rests 185 = .ok (.bipush 10, 2) := by decide +kernel
theorem dX8_rests_187 : decode cX8_rests 187 = .ok (.iload 4, 2) := by decide +kernel
theorem dX8_rests_189 : decode cX8_rests 189 = .ok (.iconst 2, 1) := by decide +kernel
theorem dX8_rests_190 : decode cX8_rests 190 = .ok (.idiv, 1) := by decide +kernel
theorem dX8_rests_191 : decode cX8_rests 191 = .ok (.imul, 1) := by decide +kernel
theorem dX8_rests_192 : decode cX8_rests 192 = .ok (.iload 4, 2) := by decide +kernel
theorem dX8_rests_194 : decode cX8_rests 194 = .ok (.iconst 2, 1) := by decide +kernel
theorem dX8_rests_195 : decode cX8_rests 195 = .ok (.irem, 1) := by decide +kernel
theorem dX8_rests_196 : decode cX8_rests 196 = .ok (.iadd, 1) := by decide +kernel
theorem dX8_rests_197 : decode cX8_rests 197 = .ok (.goto 7, 3) := by decide +kernel
theorem dX8_rests_200 : decode cX8_rests 200 = .ok (.aload_n 0, 1) := by decide +kernel
theorem dX8_rests_201 : decode cX8_rests 201 = .ok (.getfield 237, 3) := by decide +kernel
theorem dX8_rests_204 : decode cX8_rests 204 = .ok (.putfield 237, 3) := by decide +kernel
theorem dX8_rests_207 : decode cX8_rests 207 = .ok (.aload_n 0, 1) := by decide +kernel
theorem dX8_rests_208 : decode cX8_rests 208 = .ok (.dup, 1) := by decide +kernel
theorem dX8_rests_209 : decode cX8_rests 209 = .ok (.getfield 234, 3) := by decide +kernel
theorem dX8_rests_212 : decode cX8_rests 212 = .ok (.iload 5, 2) := by decide +kernel
theorem dX8_rests_214 : decode cX8_rests 214 = .ok (.ifCond .eq 7, 3) := by decide +kernel
theorem dX8_rests_217 : decode cX8_rests 217 = .ok (.iconst 1, 1) := by decide +kernel
theorem dX8_rests_218 : decode cX8_rests 218 = .ok (.goto 4, 3) := by decide +kernel
theorem dX8_rests_221 : decode cX8_rests 221 = .ok (.iconst 0, 1) := by decide +kernel
theorem dX8_rests_222 : decode cX8_rests 222 = .ok (.iadd, 1) := by decide +kernel
theorem dX8_rests_223 : decode cX8_rests 223 = .ok (.putfield 234, 3) := by decide +kernel
theorem dX8_rests_226 : decode cX8_rests 226 = .ok (.iinc 4 1, 3) := by decide +kernel
theorem dX8_rests_229 : decode cX8_rests 229 = .ok (.goto (-120), 3) := by decide +kernel
theorem dX8_rests_232 : decode cX8_rests 232 = .ok (.iload_n 3, 1) := by decide +kernel
theorem dX8_rests_233 : decode cX8_rests 233 = .ok (.ifCond .ne 10, 3) := by decide +kernel
theorem dX8_rests_236 : decode cX8_rests 236 = .ok (.aload_n 0, 1) := by decide +kernel
theorem dX8_rests_237 : decode cX8_rests 237 = .ok (.getfield 234, 3) := by decide +kernel
theorem dX8_rests_240 : decode cX8_rests 240 = .ok (.goto 7, 3) := by decide +kernel
theorem dX8_rests_243 : decode cX8_rests 243 = .ok (.aload_n 0, 1) := by decide +kernel
theorem dX8_rests_244 : decode cX8_rests 244 = .ok (.getfield 237, 3) := by decide +kernel
theorem dX8_rests_247 : decode cX8_rests 247 = .ok (.ireturn, 1) := by decide +kernel
set_option maxRecDepth 20000 in
theorem ggX8_stumbles_X8_in : GoodIn wsX8_stumbles wsX8_in := goodIn_r _ [10] (by decide +kernel) (by decide +kernel)
set_option maxRecDepth 20000 in
theorem gX8_stumbles_X8_in : GoodIn wsX8_stumbles (va_wsS RX8 69 yX8_in wsX8_in) := goodIn_app (goodIn_of _ (by decide +kernel)) ggX8_stumbles_X8_in
set_option maxRecDepth 20000 in
theorem ggX8_stumbles_X8_begin : GoodIn wsX8_stumbles wsX8_begin := goodIn_r _ [14, 5, 6, 15, 59, 60, 61, 62, 63, 64, 65, 66, 67, 68, 69, 70, 71, 72, 73, 74, 75, 76, 77, 78, 79, 80, 81, 82, 83, 84, 85, 86, 87, 88, 89, 90, 91] (by decide +kernel) (by decide +kernel)
set_option maxRecDepth 20000 in
theorem gX8_stumbles_X8_begin : GoodIn wsX8_stumbles (wsV RX8 170 RX8 yX8_begin wsX8_begin) := goodIn_app (goodIn_of _ (by decide +kernel)) ggX8_stumbles_X8_begin
set_option maxRecDepth 20000 in
theorem ggX8_stumbles_X8_goStep : GoodIn wsX8_stumbles wsX8_goStep := goodIn_r _ [19, 4, 20, 21, 9, 22, 23, 24, 25, 26, 27, 5, 28, 29, 30, 31, 32, 33, 34, 35, 36, 37, 38, 39, 40, 41, 42, 59, 60, 61, 62, 63, 64, 65, 66, 67, 68, 69, 70, 71, 72, 73, 74, 75, 76, 77, 78, 79, 80, 81, 82, 83, 84, 85, 86, 87, 88, 89, 90, 91] (by decide +kernel) (by decide +kernel)
set_option maxRecDepth 20000 in
theorem gX8_stumbles_X8_goStep : GoodIn wsX8_stumbles (wsV RX8 124 RX8 yX8_goStep wsX8_goStep) := goodIn_app (goodIn_of _ (by decide +kernel)) ggX8_stumbles_X8_goStep
set_option maxRecDepth 20000 in
theorem ggX8_stumbles_X8_many : GoodIn wsX8_stumbles wsX8_many := goodIn_r _ [45] (by decide +kernel) (by decide +kernel)
set_option maxRecDepth 20000 in
theorem gX8_stumbles_X8_many : GoodIn wsX8_stumbles (va_wsS RX8 165 yX8_many wsX8_many) := goodIn_app (goodIn_of _ (by decide +kernel)) ggX8_stumbles_X8_many
set_option maxRecDepth 20000 in
theorem ggX8_stumbles_X8_up : GoodIn wsX8_stumbles wsX8_up := goodIn_r _ [49, 4, 59, 60, 61, 62, 63, 64, 65, 66, 67, 68, 69, 70, 71, 72, 73, 74, 75, 76, 77, 78, 79, 80, 81, 82, 83, 84, 85, 86, 87, 88, 89, 90, 91] (by decide +kernel) (by decide +kernel)
set_option maxRecDepth 20000 in
theorem gX8_stumbles_X8_up : GoodIn wsX8_stumbles (wsV RX8 177 RX8 yX8_up wsX8_up) := goodIn_app (goodIn_of _ (by decide +kernel)) ggX8_stumbles_X8_up
set_option maxRecDepth 20000 in
theorem ggX8_stumbles_X8_power : GoodIn wsX8_stumbles wsX8_power := goodIn_r _ [52] (by decide +kernel) (by decide +kernel)
set_option maxRecDepth 20000 in
theorem gX8_stumbles_X8_power : GoodIn wsX8_stumbles (va_wsS RX8 192 yX8_power wsX8_power) := goodIn_app (goodIn_of _ (by decide +kernel)) ggX8_stumbles_X8_power
set_option maxRecDepth 20000 in
theorem ggX8_stumbles_X8_fraction : GoodIn wsX8_stumbles wsX8_fraction := goodIn_r _ [55, 56, 57, 9, 58] (by decide +kernel) (by decide +kernel)
set_option maxRecDepth 20000 in
theorem gX8_stumbles_X8_fraction : GoodIn wsX8_stumbles (va_wsS RX8 215 yX8_fraction wsX8_fraction) := goodIn_app (goodIn_of _ (by decide +kernel)) ggX8_stumbles_X8_fraction
theorem dX8_stumbles_0 : decode cX8_stumbles 0 = .ok (.aload_n 0, 1) := by decide +kernel
theorem dX8_stumbles_1 : decode cX8_stumbles 1 = .ok (.iconst 0, 1) := by decide +kernel
theorem dX8_stumbles_2 : decode cX8_stumbles 2 = .ok (.putfield 63, 3) := by decide +kernel
theorem dX8_stumbles_5 : decode cX8_stumbles 5 = .ok (.iload_n 1, 1) := by decide +kernel
theorem dX8_stumbles_6 : decode cX8_stumbles 6 = .ok (.i2l, 1) := by decide +kernel
theorem dX8_stumbles_7 : decode cX8_stumbles 7 = .ok (.lconst 0, 1) := by decide +kernel
theorem dX8_stumbles_8 : decode cX8_stumbles 8 = .ok (.ldc2_w 240, 3) := by decide +kernel
theorem dX8_stumbles_11 : decode cX8_stumbles 11 = .ok (.invokestatic 69, 3) := by decide +kernel
theorem dX8_stumbles_14 : decode cX8_stumbles 14 = .ok (.ifCond .eq 15, 3) := by decide +kernel
theorem dX8_stumbles_17 : decode cX8_stumbles 17 = .ok (.iload_n 2, 1) := by decide +kernel
theorem dX8_stumbles_18 : decode cX8_stumbles 18 = .ok (.i2l, 1) := by decide +kernel
theorem dX8_stumbles_19 : decode cX8_stumbles 19 = .ok (.lconst 0, 1) := by decide +kernel
theorem dX8_stumbles_20 : decode cX8_stumbles 20 = .ok (.ldc2_w 242, 3) := by decide +kernel
theorem dX8_stumbles_23 : decode cX8_stumbles 23 = .ok (.invokestatic 69, 3) := by decide +kernel
theorem dX8_stumbles_26 : decode cX8_stumbles 26 = .ok (.ifCond .ne 6, 3) := by decide +kernel
theorem dX8_stumbles_29 : decode cX8_stumbles 29 = .ok (.bipush (-2), 2) := by decide +kernel
theorem dX8_stumbles_31 : decode cX8_stumbles 31 = .ok (.ireturn, 1) := by decide +kernel
theorem dX8_stumbles_32 : decode cX8_stumbles 32 = .ok (.iconst 0, 1) := by decide +kernel
theorem dX8_stumbles_33 : decode cX8_stumbles 33 = .ok (.istore 4, 2) := by decide +kernel
theorem dX8_stumbles_35 : decode cX8_stumbles 35 = .ok (.iconst 0, 1) := by decide +kernel
theorem dX8_stumbles_36 : decode cX8_stumbles 36 = .ok (.istore 5, 2) := by decide +kernel
theorem dX8_stumbles_38 : decode cX8_stumbles 38 = .ok (.iload 5, 2) := by decide +kernel
theorem dX8_stumbles_40 : decode cX8_stumbles 40 = .ok (.iconst 1, 1) := by decide +kernel
theorem dX8_stumbles_41 : decode cX8_stumbles 41 = .ok (.aload_n 0, 1) := by decide +kernel
theorem dX8_stumbles_42 : decode cX8_stumbles 42 = .ok (.getfield 66, 3) := by decide +kernel
theorem dX8_stumbles_45 : decode cX8_stumbles 45 = .ok (.ishl, 1) := by decide +kernel
theorem dX8_stumbles_46 : decode cX8_stumbles 46 = .ok (.if_icmp .ge 80, 3) := by decide +kernel
theorem dX8_stumbles_49 : decode cX8_stumbles 49 = .ok (.aload_n 0, 1) := by decide +kernel
theorem dX8_stumbles_50 : decode cX8_stumbles 50 = .ok (.invokevirtual 170, 3) := by decide +kernel
theorem dX8_stumbles_53 : decode cX8_stumbles 53 = .ok (.aload_n 0, 1) := by decide +kernel
theorem dX8_stumbles_54 : decode cX8_stumbles 54 = .ok (.iload 5, 2) := by decide +kernel
theorem dX8_stumbles_56 : decode cX8_stumbles 56 = .ok (.putfield 110, 3) := by decide +kernel
theorem dX8_stumbles_59 : decode cX8_stumbles 59 = .ok (.aload_n 0, 1) := by decide +kernel
theorem dX8_stumbles_60 : decode cX8_stumbles 60 = .ok (.aload_n 0, 1) := by decide +kernel
theorem dX8_stumbles_61 : decode cX8_stumbles 61 = .ok (.getfield 35, 3) := by decide +kernel
theorem dX8_stumbles_64 : decode cX8_stumbles 64 = .ok (.invokevirtual 124, 3) := by decide +kernel
theorem dX8_stumbles_67 : decode cX8_stumbles 67 = .ok (.pop, 1) := by decide +kernel
theorem dX8_stumbles_68 : decode cX8_stumbles 68 = .ok (.iload 5, 2) := by decide +kernel
theorem dX8_stumbles_70 : decode cX8_stumbles 70 = .ok (.invokestatic 165, 3) := by decide +kernel
theorem dX8_stumbles_73 : decode cX8_stumbles 73 = .ok (.istore 6, 2) := by decide +kernel
theorem dX8_stumbles_75 : decode cX8_stumbles 75 = .ok (.iload 4, 2) := by decide +kernel
theorem dX8_stumbles_77 : decode cX8_stumbles 77 = .ok (.aload_n 0, 1) := by decide +kernel
theorem dX8_stumbles_78 : decode cX8_stumbles 78 = .ok (.aload_n 0, 1) := by decide +kernel
theorem dX8_stumbles_79 : decode cX8_stumbles 79 = .ok (.getfield 35, 3) := by decide +kernel
theorem dX8_stumbles_82 : decode cX8_stumbles 82 = .ok (.invokevirtual 177, 3) := by decide +kernel
theorem dX8_stumbles_85 : decode cX8_stumbles 85 = .ok (.invokestatic 165, 3) := by decide +kernel
theorem dX8_stumbles_88 : decode cX8_stumbles 88 = .ok (.iload_n 1, 1) := by decide +kernel
theorem dX8_stumbles_89 : decode cX8_stumbles 89 = .ok (.if_icmp .lt 27, 3) := by decide +kernel
theorem dX8_stumbles_92 : decode cX8_stumbles 92 = .ok (.iload_n 2, 1) := by decide +kernel
theorem dX8_stumbles_93 : decode cX8_stumbles 93 = .ok (.iload 6, 2) := by decide +kernel
theorem dX8_stumbles_95 : decode cX8_stumbles 95 = .ok (.invokestatic 192, 3) := by decide +kernel
theorem dX8_stumbles_98 : decode cX8_stumbles 98 = .ok (.bipush 10, 2) := by decide +kernel
theorem dX8_stumbles_100 : decode cX8_stumbles 100 = .ok (.iload_n 2, 1) := by decide +kernel
theorem dX8_stumbles_101 : decode cX8_stumbles 101 = .ok (.isub, 1) := by decide +kernel
theorem dX8_stumbles_102 : decode cX8_stumbles 102 = .ok (.aload_n 0, 1) := by decide +kernel
