theorem dX0_init_0 : decode cX0_init 0 = .ok (.aload_n 0, 1) := by decide +kernel
theorem dX0_init_1 : decode cX0_init 1 = .ok (.invokespecial 3, 3) := by decide +kernel
theorem dX0_init_4 : decode cX0_init 4 = .ok (.aload_n 0, 1) := by decide +kernel
theorem dX0_init_5 : decode cX0_init 5 = .ok (.iconst 4, 1) := by decide +kernel
theorem dX0_init_6 : decode cX0_init 6 = .ok (.newarray .int, 2) := by decide +kernel
theorem dX0_init_8 : decode cX0_init 8 = .ok (.putfield 9, 3) := by decide +kernel
theorem dX0_init_11 : decode cX0_init 11 = .ok (.aload_n 0, 1) := by decide +kernel
theorem dX0_init_12 : decode cX0_init 12 = .ok (.iconst 4, 1) := by decide +kernel
theorem dX0_init_13 : decode cX0_init 13 = .ok (.newarray .int, 2) := by decide +kernel
theorem dX0_init_15 : decode cX0_init 15 = .ok (.putfield 15, 3) := by decide +kernel
theorem dX0_init_18 : decode cX0_init 18 = .ok (.aload_n 0, 1) := by decide +kernel
theorem dX0_init_19 : decode cX0_init 19 = .ok (.aload_n 1, 1) := by decide +kernel
theorem dX0_init_20 : decode cX0_init 20 = .ok (.putfield 18, 3) := by decide +kernel
theorem dX0_init_23 : decode cX0_init 23 = .ok (.aload_n 0, 1) := by decide +kernel
theorem dX0_init_24 : decode cX0_init 24 = .ok (.aload_n 2, 1) := by decide +kernel
theorem dX0_init_25 : decode cX0_init 25 = .ok (.putfield 22, 3) := by decide +kernel
theorem dX0_init_28 : decode cX0_init 28 = .ok (.aload_n 0, 1) := by decide +kernel
theorem dX0_init_29 : decode cX0_init 29 = .ok (.aload_n 3, 1) := by decide +kernel
theorem dX0_init_30 : decode cX0_init 30 = .ok (.putfield 26, 3) := by decide +kernel
theorem dX0_init_33 : decode cX0_init 33 = .ok (.return_, 1) := by decide +kernel
set_option maxRecDepth 20000 in
theorem ggX0_restingPairs_X0_tryRest : GoodIn wsX0_restingPairs wsX0_tryRest := goodIn_r _ [7, 8, 9, 10, 11, 12, 13, 1, 2, 14, 15, 16, 17, 18, 19, 20, 21, 22, 23, 24, 25, 26, 27, 28, 29, 30, 31, 32, 33, 34, 35, 36, 37, 38, 39, 40, 41, 42, 43, 44, 45, 46, 47, 48, 49, 50, 51, 52, 53, 54, 55, 56, 57, 58, 59, 60, 61, 62, 63, 64, 65, 66, 67, 68, 69, 70, 71, 72, 73, 74, 75, 76, 77, 78, 79, 80, 81, 82, 83, 84, 85, 86, 87, 88, 89, 90, 91, 92, 93, 94, 95, 96, 97, 98, 99] (by decide +kernel) (by decide +kernel)
set_option maxRecDepth 20000 in
theorem gX0_restingPairs_X0_tryRest : GoodIn wsX0_restingPairs (wsV RX0 29 RX0 yX0_tryRest wsX0_tryRest) := goodIn_app (goodIn_of _ (by decide +kernel)) ggX0_restingPairs_X0_tryRest
set_option maxRecDepth 20000 in
theorem ggX0_restingPairs_X7_at : GoodIn wsX0_restingPairs wsX7_at := goodIn_r _ [26] (by decide +kernel) (by decide +kernel)
set_option maxRecDepth 20000 in
theorem gX0_restingPairs_X7_at_n33 : GoodIn wsX0_restingPairs (wsX7_at) := ggX0_restingPairs_X7_at
theorem dX0_restingPairs_0 : decode cX0_restingPairs 0 = .ok (.iconst 0, 1) := by decide +kernel
theorem dX0_restingPairs_1 : decode cX0_restingPairs 1 = .ok (.istore 4, 2) := by decide +kernel
theorem dX0_restingPairs_3 : decode cX0_restingPairs 3 = .ok (.iload 4, 2) := by decide +kernel
theorem dX0_restingPairs_5 : decode cX0_restingPairs 5 = .ok (.iconst 4, 1) := by decide +kernel
theorem dX0_restingPairs_6 : decode cX0_restingPairs 6 = .ok (.if_icmp .ge 17, 3) := by decide +kernel
theorem dX0_restingPairs_9 : decode cX0_restingPairs 9 = .ok (.aload_n 0, 1) := by decide +kernel
theorem dX0_restingPairs_10 : decode cX0_restingPairs 10 = .ok (.iload_n 1, 1) := by decide +kernel
theorem dX0_restingPairs_11 : decode cX0_restingPairs 11 = .ok (.iload_n 2, 1) := by decide +kernel
theorem dX0_restingPairs_12 : decode cX0_restingPairs 12 = .ok (.iload 4, 2) := by decide +kernel
theorem dX0_restingPairs_14 : decode cX0_restingPairs 14 = .ok (.invokevirtual 29, 3) := by decide +kernel
theorem dX0_restingPairs_17 : decode cX0_restingPairs 17 = .ok (.iinc 4 1, 3) := by decide +kernel
theorem dX0_restingPairs_20 : decode cX0_restingPairs 20 = .ok (.goto (-17), 3) := by decide +kernel
theorem dX0_restingPairs_23 : decode cX0_restingPairs 23 = .ok (.iconst 0, 1) := by decide +kernel
theorem dX0_restingPairs_24 : decode cX0_restingPairs 24 = .ok (.istore 4, 2) := by decide +kernel
theorem dX0_restingPairs_26 : decode cX0_restingPairs 26 = .ok (.bipush (-9), 2) := by decide +kernel
theorem dX0_restingPairs_28 : decode cX0_restingPairs 28 = .ok (.istore 5, 2) := by decide +kernel
theorem dX0_restingPairs_30 : decode cX0_restingPairs 30 = .ok (.iconst 3, 1) := by decide +kernel
theorem dX0_restingPairs_31 : decode cX0_restingPairs 31 = .ok (.istore 6, 2) := by decide +kernel
theorem dX0_restingPairs_33 : decode cX0_restingPairs 33 = .ok (.iload 6, 2) := by decide +kernel
theorem dX0_restingPairs_35 : decode cX0_restingPairs 35 = .ok (.ifCond .lt 84, 3) := by decide +kernel
theorem dX0_restingPairs_38 : decode cX0_restingPairs 38 = .ok (.aload_n 0, 1) := by decide +kernel
theorem dX0_restingPairs_39 : decode cX0_restingPairs 39 = .ok (.getfield 9, 3) := by decide +kernel
theorem dX0_restingPairs_42 : decode cX0_restingPairs 42 = .ok (.iload 6, 2) := by decide +kernel
theorem dX0_restingPairs_44 : decode cX0_restingPairs 44 = .ok (.iconst 2, 1) := by decide +kernel
theorem dX0_restingPairs_45 : decode cX0_restingPairs 45 = .ok (.ixor, 1) := by decide +kernel
theorem dX0_restingPairs_46 : decode cX0_restingPairs 46 = .ok (.invokestatic 33, 3) := by decide +kernel
theorem dX0_restingPairs_49 : decode cX0_restingPairs 49 = .ok (.aload_n 0, 1) := by decide +kernel
theorem dX0_restingPairs_50 : decode cX0_restingPairs 50 = .ok (.getfield 9, 3) := by decide +kernel
theorem dX0_restingPairs_53 : decode cX0_restingPairs 53 = .ok (.iload 6, 2) := by decide +kernel
theorem dX0_restingPairs_55 : decode cX0_restingPairs 55 = .ok (.invokestatic 33, 3) := by decide +kernel
theorem dX0_restingPairs_58 : decode cX0_restingPairs 58 = .ok (.if_icmp .gt 30, 3) := by decide +kernel
theorem dX0_restingPairs_61 : decode cX0_restingPairs 61 = .ok (.aload_n 0, 1) := by decide +kernel
theorem dX0_restingPairs_62 : decode cX0_restingPairs 62 = .ok (.getfield 15, 3) := by decide +kernel
theorem dX0_restingPairs_65 : decode cX0_restingPairs 65 = .ok (.iload 6, 2) := by decide +kernel
theorem dX0_restingPairs_67 : decode cX0_restingPairs 67 = .ok (.iconst 1, 1) := by decide +kernel
theorem dX0_restingPairs_68 : decode cX0_restingPairs 68 = .ok (.ixor, 1) := by decide +kernel
theorem dX0_restingPairs_69 : decode cX0_restingPairs 69 = .ok (.invokestatic 33, 3) := by decide +kernel
theorem dX0_restingPairs_72 : decode cX0_restingPairs 72 = .ok (.aload_n 0, 1) := by decide +kernel
theorem dX0_restingPairs_73 : decode cX0_restingPairs 73 = .ok (.getfield 15, 3) := by decide +kernel
theorem dX0_restingPairs_76 : decode cX0_restingPairs 76 = .ok (.iload 6, 2) := by decide +kernel
theorem dX0_restingPairs_78 : decode cX0_restingPairs 78 = .ok (.invokestatic 33, 3) := by decide +kernel
theorem dX0_restingPairs_81 : decode cX0_restingPairs 81 = .ok (.if_icmp .gt 7, 3) := by decide +kernel
theorem dX0_restingPairs_84 : decode cX0_restingPairs 84 = .ok (.iconst 1, 1) := by decide +kernel
theorem dX0_restingPairs_85 : decode cX0_restingPairs 85 = .ok (.goto 4, 3) := by decide +kernel
theorem dX0_restingPairs_88 : decode cX0_restingPairs 88 = .ok (.iconst 0, 1) := by decide +kernel
theorem dX0_restingPairs_89 : decode cX0_restingPairs 89 = .ok (.istore 7, 2) := by decide +kernel
theorem dX0_restingPairs_91 : decode cX0_restingPairs 91 = .ok (.iload 7, 2) := by decide +kernel
theorem dX0_restingPairs_93 : decode cX0_restingPairs 93 = .ok (.ifCond .eq 20, 3) := by decide +kernel
theorem dX0_restingPairs_96 : decode cX0_restingPairs 96 = .ok (.iinc 4 1, 3) := by decide +kernel
theorem dX0_restingPairs_99 : decode cX0_restingPairs 99 = .ok (.iload 6, 2) := by decide +kernel
theorem dX0_restingPairs_101 : decode cX0_restingPairs 101 = .ok (.iconst 2, 1) := by decide +kernel
theorem dX0_restingPairs_102 : decode cX0_restingPairs 102 = .ok (.idiv, 1) := by decide +kernel
theorem dX0_restingPairs_103 : decode cX0_restingPairs 103 = .ok (.bipush 10, 2) := by decide +kernel
theorem dX0_restingPairs_105 : decode cX0_restingPairs 105 = .ok (.imul, 1) := by decide +kernel
theorem dX0_restingPairs_106 : decode cX0_restingPairs 106 = .ok (.iload 6, 2) := by decide +kernel
theorem dX0_restingPairs_108 : decode cX0_restingPairs 108 = .ok (.iconst 2, 1) := by decide +kernel
theorem dX0_restingPairs_109 : decode cX0_restingPairs 109 = .ok (.irem, 1) := by decide +kernel
theorem dX0_restingPairs_110 : decode cX0_restingPairs 110 = .ok (.iadd, 1) := by decide +kernel
theorem dX0_restingPairs_111 : decode cX0_restingPairs 111 = .ok (.istore 5, 2) := by decide +kernel
theorem dX0_restingPairs_113 : decode cX0_restingPairs 113 = .ok (.iinc 6 (-1), 3) := by decide +kernel
theorem dX0_restingPairs_116 : decode cX0_restingPairs 116 = .ok (.goto (-83), 3) := by decide +kernel
theorem dX0_restingPairs_119 : decode cX0_restingPairs 119 = .ok (.iload_n 3, 1) := by decide +kernel
theorem dX0_restingPairs_120 : decode cX0_restingPairs 120 = .ok (.ifCond .eq 8, 3) := by decide +kernel
theorem dX0_restingPairs_123 : decode cX0_restingPairs 123 = .ok (.iload 5, 2) := by decide +kernel
theorem dX0_restingPairs_125 : decode cX0_restingPairs 125 = .ok (.goto 5, 3) := by decide +kernel
theorem dX0_restingPairs_128 : decode cX0_restingPairs 128 = .ok (.iload 4, 2) := by decide +kernel
theorem dX0_restingPairs_130 : decode cX0_restingPairs 130 = .ok (.ireturn, 1) := by decide +kernel
set_option maxRecDepth 20000 in
theorem ggX0_tryRest_X6_copyFrom : GoodIn wsX0_tryRest wsX6_copyFrom := goodIn_r _ [13, 14, 15, 16, 17, 18, 19, 20, 21, 22, 23, 83, 84, 85, 86, 87, 88] (by decide +kernel) (by decide +kernel)
set_option maxRecDepth 20000 in
theorem gX0_tryRest_X6_copyFrom : GoodIn wsX0_tryRest (wsV RX0 37 RX6 yX6_copyFrom wsX6_copyFrom) := goodIn_app (goodIn_of _ (by decide +kernel)) ggX0_tryRest_X6_copyFrom
set_option maxRecDepth 20000 in
theorem ggX0_tryRest_X6_strideOf : GoodIn wsX0_tryRest wsX6_strideOf := goodIn_r _ [27, 15, 19, 20, 21, 83, 84, 85, 86, 87, 88] (by decide +kernel) (by decide +kernel)
set_option maxRecDepth 20000 in
theorem gX0_tryRest_X6_strideOf : GoodIn wsX0_tryRest (wsV RX0 43 RX6 yX6_strideOf wsX6_strideOf) := goodIn_app (goodIn_of _ (by decide +kernel)) ggX0_tryRest_X6_strideOf
set_option maxRecDepth 20000 in
theorem ggX0_tryRest_X6_setStride : GoodIn wsX0_tryRest wsX6_setStride := goodIn_r _ [31, 15, 22, 20, 23, 83, 84, 85, 86, 87, 88] (by decide +kernel) (by decide +kernel)
set_option maxRecDepth 20000 in
theorem gX0_tryRest_X6_setStride : GoodIn wsX0_tryRest (wsV RX0 53 RX6 yX6_setStride wsX6_setStride) := goodIn_app (goodIn_of _ (by decide +kernel)) ggX0_tryRest_X6_setStride
set_option maxRecDepth 20000 in
theorem ggX0_tryRest_X6_takeStep : GoodIn wsX0_tryRest wsX6_takeStep := goodIn_r _ [35, 36, 18, 17, 37, 38, 39, 40, 41, 42, 43, 44, 45, 46, 47, 48, 49, 50, 51, 52, 12, 53, 14, 19, 20, 21, 54, 55, 56, 57, 58, 59, 60, 61, 62, 63, 64, 65, 66, 67, 25, 26, 27, 15, 68, 69, 70, 71, 72, 73, 74, 75, 76, 83, 84, 85, 86, 87, 88, 89, 90, 91, 92, 93, 94] (by decide +kernel) (by decide +kernel)
set_option maxRecDepth 20000 in
theorem gX0_tryRest_X6_takeStep : GoodIn wsX0_tryRest (wsV RX0 57 RX6 yX6_takeStep wsX6_takeStep) := goodIn_app (goodIn_of _ (by decide +kernel)) ggX0_tryRest_X6_takeStep
set_option maxRecDepth 20000 in
theorem ggX0_tryRest_X6_isDown : GoodIn wsX0_tryRest wsX6_isDown := goodIn_r _ [57, 17, 83, 84, 85, 86, 87, 88] (by decide +kernel) (by decide +kernel)
set_option maxRecDepth 20000 in
theorem gX0_tryRest_X6_isDown : GoodIn wsX0_tryRest (wsV RX0 60 RX6 yX6_isDown wsX6_isDown) := goodIn_app (goodIn_of _ (by decide +kernel)) ggX0_tryRest_X6_isDown
set_option maxRecDepth 20000 in
theorem ggX0_tryRest_X7_put : GoodIn wsX0_tryRest wsX7_put := goodIn_r _ [23] (by decide +kernel) (by decide +kernel)
set_option maxRecDepth 20000 in
theorem gX0_tryRest_X7_put_n64 : GoodIn wsX0_tryRest (wsX7_put) := ggX0_tryRest_X7_put
theorem dX0_tryRest_0 : decode cX0_tryRest 0 = .ok (.aload_n 0, 1) := by decide +kernel
theorem dX0_tryRest_1 : decode cX0_tryRest 1 = .ok (.getfield 26, 3) := by decide +kernel
theorem dX0_tryRest_4 : decode cX0_tryRest 4 = .ok (.aload_n 0, 1) := by decide +kernel
theorem dX0_tryRest_5 : decode cX0_tryRest 5 = .ok (.getfield 22, 3) := by decide +kernel
theorem dX0_tryRest_8 : decode cX0_tryRest 8 = .ok (.invokevirtual 37, 3) := by decide +kernel
theorem dX0_tryRest_11 : decode cX0_tryRest 11 = .ok (.aload_n 0, 1) := by decide +kernel
theorem dX0_tryRest_12 : decode cX0_tryRest 12 = .ok (.getfield 26, 3) := by decide +kernel
theorem dX0_tryRest_15 : decode cX0_tryRest 15 = .ok (.iload_n 1, 1) := by decide +kernel
theorem dX0_tryRest_16 : decode cX0_tryRest 16 = .ok (.bipush 9, 2) := by decide +kernel
theorem dX0_tryRest_18 : decode cX0_tryRest 18 = .ok (.aload_n 0, 1) := by decide +kernel
theorem dX0_tryRest_19 : decode cX0_tryRest 19 = .ok (.getfield 22, 3) := by decide +kernel
theorem dX0_tryRest_22 : decode cX0_tryRest 22 = .ok (.iload_n 1, 1) := by decide +kernel
theorem dX0_tryRest_23 : decode cX0_tryRest 23 = .ok (.invokevirtual 43, 3) := by decide +kernel
theorem dX0_tryRest_26 : decode cX0_tryRest 26 = .ok (.iload_n 3, 1) := by decide +kernel
theorem dX0_tryRest_27 : decode cX0_tryRest 27 = .ok (.iconst 2, 1) := by decide +kernel
theorem dX0_tryRest_28 : decode cX0_tryRest 28 = .ok (.idiv, 1) := by decide +kernel
theorem dX0_tryRest_29 : decode cX0_tryRest 29 = .ok (.iadd, 1) := by decide +kernel
theorem dX0_tryRest_30 : decode cX0_tryRest 30 = .ok (.invokestatic 47, 3) := by decide +kernel
theorem dX0_tryRest_33 : decode cX0_tryRest 33 = .ok (.invokevirtual 53, 3) := by decide +kernel
theorem dX0_tryRest_36 : decode cX0_tryRest 36 = .ok (.aload_n 0, 1) := by decide +kernel
theorem dX0_tryRest_37 : decode cX0_tryRest 37 = .ok (.getfield 26, 3) := by decide +kernel
theorem dX0_tryRest_40 : decode cX0_tryRest 40 = .ok (.iload_n 2, 1) := by decide +kernel
theorem dX0_tryRest_41 : decode cX0_tryRest 41 = .ok (.bipush 9, 2) := by decide +kernel
theorem dX0_tryRest_43 : decode cX0_tryRest 43 = .ok (.aload_n 0, 1) := by decide +kernel
theorem dX0_tryRest_44 : decode cX0_tryRest 44 = .ok (.getfield 22, 3) := by decide +kernel
theorem dX0_tryRest_47 : decode cX0_tryRest 47 = .ok (.iload_n 2, 1) := by decide +kernel
theorem dX0_tryRest_48 : decode cX0_tryRest 48 = .ok (.invokevirtual 43, 3) := by decide +kernel
theorem dX0_tryRest_51 : decode cX0_tryRest 51 = .ok (.iload_n 3, 1) := by decide +kernel
theorem dX0_tryRest_52 : decode cX0_tryRest 52 = .ok (.iconst 2, 1) := by decide +kernel
theorem dX0_tryRest_53 : decode cX0_tryRest 53 = .ok (.irem, 1) := by decide +kernel
theorem dX0_tryRest_54 : decode cX0_tryRest 54 = .ok (.iadd, 1) := by decide +kernel
theorem dX0_tryRest_55 : decode cX0_tryRest 55 = .ok (.invokestatic 47, 3) := by decide +kernel
theorem dX0_tryRest_58 : decode cX0_tryRest 58 = .ok (.invokevirtual 53, 3) := by decide +kernel
theorem dX0_tryRest_61 : decode cX0_tryRest 61 = .ok (.iload_n 3, 1) := by decide +kernel
theorem dX0_tryRest_62 : decode cX0_tryRest 62 = .ok (.iconst 2, 1) := by decide +kernel
theorem dX0_tryRest_63 : decode cX0_tryRest 63 = .ok (.idiv, 1) := by decide +kernel
theorem dX0_tryRest_64 : decode cX0_tryRest 64 = .ok (.ineg, 1) := by decide +kernel
theorem dX0_tryRest_65 : decode cX0_tryRest 65 = .ok (.istore 4, 2) := by decide +kernel
theorem dX0_tryRest_67 : decode cX0_tryRest 67 = .ok (.iload_n 3, 1) := by decide +kernel
theorem dX0_tryRest_68 : decode cX0_tryRest 68 = .ok (.iconst 2, 1) := by decide +kernel
theorem dX0_tryRest_69 : decode cX0_tryRest 69 = .ok (.irem, 1) := by decide +kernel
theorem dX0_tryRest_70 : decode cX0_tryRest 70 = .ok (.ineg, 1) := by decide +kernel
theorem dX0_tryRest_71 : decode cX0_tryRest 71 = .ok (.istore 5, 2) := by decide +kernel
theorem dX0_tryRest_73 : decode cX0_tryRest 73 = .ok (.iconst 0, 1) := by decide +kernel
theorem dX0_tryRest_74 : decode cX0_tryRest 74 = .ok (.istore 6, 2) := by decide +kernel
theorem dX0_tryRest_76 : decode cX0_tryRest 76 = .ok (.iload 6, 2) := by decide +kernel
theorem dX0_tryRest_78 : decode cX0_tryRest 78 = .ok (.bipush 8, 2) := by decide +kernel
theorem dX0_tryRest_80 : decode cX0_tryRest 80 = .ok (.if_icmp .ge 60, 3) := by decide +kernel
theorem dX0_tryRest_83 : decode cX0_tryRest 83 = .ok (.aload_n 0, 1) := by decide +kernel
theorem dX0_tryRest_84 : decode cX0_tryRest 84 = .ok (.getfield 26, 3) := by decide +kernel
theorem dX0_tryRest_87 : decode cX0_tryRest 87 = .ok (.iconst 0, 1) := by decide +kernel
theorem dX0_tryRest_88 : decode cX0_tryRest 88 = .ok (.invokevirtual 57, 3) := by decide +kernel
theorem dX0_tryRest_91 : decode cX0_tryRest 91 = .ok (.pop, 1) := by decide +kernel
theorem dX0_tryRest_92 : decode cX0_tryRest 92 = .ok (.iload 4, 2) := by decide +kernel
theorem dX0_tryRest_94 : decode cX0_tryRest 94 = .ok (.aload_n 0, 1) := by decide +kernel
theorem dX0_tryRest_95 : decode cX0_tryRest 95 = .ok (.getfield 26, 3) := by decide +kernel
theorem dX0_tryRest_98 : decode cX0_tryRest 98 = .ok (.iload_n 1, 1) := by decide +kernel
theorem dX0_tryRest_99 : decode cX0_tryRest 99 = .ok (.invokevirtual 60, 3) := by decide +kernel
theorem dX0_tryRest_102 : decode cX0_tryRest 102 = .ok (.ifCond .eq 7, 3) := by decide +kernel
theorem dX0_tryRest_105 : decode cX0_tryRest 105 = .ok (.iconst 0, 1) := by decide +kernel
theorem dX0_tryRest_106 : decode cX0_tryRest 106 = .ok (.goto 4, 3) := by decide +kernel
theorem dX0_tryRest_109 : decode cX0_tryRest 109 = .ok (.iconst 1, 1) := by decide +kernel
theorem dX0_tryRest_110 : decode cX0_tryRest 110 = .ok (.iadd, 1) := by decide +kernel
theorem dX0_tryRest_111 : decode cX0_tryRest 111 = .ok (.istore 4, 2) := by decide +kernel
theorem dX0_tryRest_113 : decode cX0_tryRest 113 = .ok (.iload 5, 2) := by decide +kernel
theorem dX0_tryRest_115 : decode cX0_tryRest 115 = .ok (.aload_n 0, 1) := by decide +kernel
theorem dX0_tryRest_116 : decode cX0_tryRest 116 = .ok (.getfield 26, 3) := by decide +kernel
theorem dX0_tryRest_119 : decode cX0_tryRest 119 = .ok (.iload_n 2, 1) := by decide +kernel
theorem dX0_tryRest_120 : decode cX0_tryRest 120 = .ok (.invokevirtual 60, 3) := by decide +kernel
theorem dX0_tryRest_123 : decode cX0_tryRest 123 = .ok (.ifCond .eq 7, 3) := by decide +kernel
theorem dX0_tryRest_126 : decode cX0_tryRest 126 = .ok (.iconst 0, 1) := by decide +kernel
theorem dX0_tryRest_127 : decode cX0_tryRest 127 = .ok (.goto 4, 3) := by decide +kernel
theorem dX0_tryRest_130 : decode cX0_tryRest 130 = .ok (.iconst 1, 1) := by decide +kernel
theorem dX0_tryRest_131 : decode cX0_tryRest 131 = .ok (.iadd, 1) := by decide +kernel
theorem dX0_tryRest_132 : decode cX0_tryRest 132 = .ok (.istore 5, 2) := by decide +kernel
theorem dX0_tryRest_134 : decode cX0_tryRest 134 = .ok (.iinc 6 1, 3) := by decide +kernel
theorem dX0_tryRest_137 : decode cX0_tryRest 137 = .ok (.goto (-61), 3) := by decide +kernel
theorem dX0_tryRest_140 : decode cX0_tryRest 140 = .ok (.aload_n 0, 1) := by decide +kernel
theorem dX0_tryRest_141 : decode cX0_tryRest 141 = .ok (.getfield 9, 3) := by decide +kernel
theorem dX0_tryRest_144 : decode cX0_tryRest 144 = .ok (.iload_n 3, 1) := by decide +kernel
theorem dX0_tryRest_145 : decode cX0_tryRest 145 = .ok (.iload 4, 2) := by decide +kernel
theorem dX0_tryRest_147 : decode cX0_tryRest 147 = .ok (.invokestatic 64, 3) := by decide +kernel
theorem dX0_tryRest_150 : decode cX0_tryRest 150 = .ok (.aload_n 0, 1) := by decide +kernel
theorem dX0_tryRest_151 : decode cX0_tryRest 151 = .ok (.getfield 15, 3) := by decide +kernel
theorem dX0_tryRest_154 : decode cX0_tryRest 154 = .ok (.iload_n 3, 1) := by decide +kernel
theorem dX0_tryRest_155 : decode cX0_tryRest 155 = .ok (.iload 5, 2) := by decide +kernel
theorem dX0_tryRest_157 : decode cX0_tryRest 157 = .ok (.invokestatic 64, 3) := by decide +kernel
theorem dX0_tryRest_160 : decode cX0_tryRest 160 = .ok (.return_, 1) := by decide +kernel
set_option maxRecDepth 20000 in
theorem ggX0_stumblesBelow_X3_size : GoodIn wsX0_stumblesBelow wsX3_size := goodIn_r _ [6, 7, 13, 14, 15, 16, 17, 18] (by decide +kernel) (by decide +kernel)
set_option maxRecDepth 20000 in
theorem gX0_stumblesBelow_X3_size : GoodIn wsX0_stumblesBelow (wsV RX0 68 RX3 yX3_size wsX3_size) := goodIn_app (goodIn_of _ (by decide +kernel)) ggX0_stumblesBelow_X3_size
theorem dX0_stumblesBelow_0 : decode cX0_stumblesBelow 0 = .ok (.iconst 1, 1) := by decide +kernel
theorem dX0_stumblesBelow_1 : decode cX0_stumblesBelow 1 = .ok (.istore_n 1, 1) := by decide +kernel
theorem dX0_stumblesBelow_2 : decode cX0_stumblesBelow 2 = .ok (.iconst 0, 1) := by decide +kernel
theorem dX0_stumblesBelow_3 : decode cX0_stumblesBelow 3 = .ok (.istore_n 2, 1) := by decide +kernel
theorem dX0_stumblesBelow_4 : decode cX0_stumblesBelow 4 = .ok (.iload_n 2, 1) := by decide +kernel
theorem dX0_stumblesBelow_5 : decode cX0_stumblesBelow 5 = .ok (.aload_n 0, 1) := by decide +kernel
theorem dX0_stumblesBelow_6 : decode cX0_stumblesBelow 6 = .ok (.getfield 18, 3) := by decide +kernel
theorem dX0_stumblesBelow_9 : decode cX0_stumblesBelow 9 = .ok (.invokevirtual 68, 3) := by decide +kernel
theorem dX0_stumblesBelow_12 : decode cX0_stumblesBelow 12 = .ok (.if_icmp .ge 14, 3) := by decide +kernel
theorem dX0_stumblesBelow_15 : decode cX0_stumblesBelow 15 = .ok (.iload_n 1, 1) := by decide +kernel
theorem dX0_stumblesBelow_16 : decode cX0_stumblesBelow 16 = .ok (.bipush 10, 2) := by decide +kernel
theorem dX0_stumblesBelow_18 : decode cX0_stumblesBelow 18 = .ok (.imul, 1) := by decide +kernel
theorem dX0_stumblesBelow_19 : decode cX0_stumblesBelow 19 = .ok (.istore_n 1, 1) := by decide +kernel
theorem dX0_stumblesBelow_20 : decode cX0_stumblesBelow 20 = .ok (.iinc 2 1, 3) := by decide +kernel
theorem dX0_stumblesBelow_23 : decode cX0_stumblesBelow 23 = .ok (.goto (-19), 3) := by decide +kernel
theorem dX0_stumblesBelow_26 : decode cX0_stumblesBelow 26 = .ok (.iload_n 1, 1) := by decide +kernel
theorem dX0_stumblesBelow_27 : decode cX0_stumblesBelow 27 = .ok (.ireturn, 1) := by decide +kernel
set_option maxRecDepth 20000 in
theorem ggX0_stumblesAbove_X3_size : GoodIn wsX0_stumblesAbove wsX3_size := goodIn_r _ [8, 9, 93, 94, 95, 96, 97, 98] (by decide +kernel) (by decide +kernel)
set_option maxRecDepth 20000 in
theorem gX0_stumblesAbove_X3_size : GoodIn wsX0_stumblesAbove (wsV RX0 68 RX3 yX3_size wsX3_size) := goodIn_app (goodIn_of _ (by decide +kernel)) ggX0_stumblesAbove_X3_size
set_option maxRecDepth 20000 in
theorem ggX0_stumblesAbove_X6_copyFrom : GoodIn wsX0_stumblesAbove wsX6_copyFrom := goodIn_r _ [14, 15, 16, 17, 18, 19, 20, 21, 22, 23, 24, 99, 100, 101, 102, 103, 104] (by decide +kernel) (by decide +kernel)
set_option maxRecDepth 20000 in
theorem gX0_stumblesAbove_X6_copyFrom : GoodIn wsX0_stumblesAbove (wsV RX0 37 RX6 yX6_copyFrom wsX6_copyFrom) := goodIn_app (goodIn_of _ (by decide +kernel)) ggX0_stumblesAbove_X6_copyFrom
set_option maxRecDepth 20000 in
theorem ggX0_stumblesAbove_X6_takeStep : GoodIn wsX0_stumblesAbove wsX6_takeStep := goodIn_r _ [28, 29, 19, 18, 30, 31, 32, 7, 33, 34, 35, 36, 37, 5, 6, 8, 9, 38, 39, 40, 13, 41, 15, 20, 21, 22, 42, 43, 44, 45, 46, 47, 48, 49, 50, 51, 52, 53, 54, 55, 56, 57, 58, 16, 59, 60, 61, 62, 63, 64, 65, 66, 67, 99, 100, 101, 102, 103, 104, 93, 94, 95, 96, 97, 98] (by decide +kernel) (by decide +kernel)
set_option maxRecDepth 20000 in
theorem gX0_stumblesAbove_X6_takeStep : GoodIn wsX0_stumblesAbove (wsV RX0 57 RX6 yX6_takeStep wsX6_takeStep) := goodIn_app (goodIn_of _ (by decide +kernel)) ggX0_stumblesAbove_X6_takeStep
set_option maxRecDepth 20000 in
theorem ggX0_stumblesAbove_X6_standing : GoodIn wsX0_stumblesAbove wsX6_standing := goodIn_r _ [71, 72, 73, 74, 13, 75, 29, 18, 37, 5, 6, 7, 8, 9, 76, 77, 78, 79, 80, 81, 82, 99, 100, 101, 102, 103, 104, 93, 94, 95, 96, 97, 98] (by decide +kernel) (by decide +kernel)
set_option maxRecDepth 20000 in
theorem gX0_stumblesAbove_X6_standing : GoodIn wsX0_stumblesAbove (wsV RX0 74 RX6 yX6_standing wsX6_standing) := goodIn_app (goodIn_of _ (by decide +kernel)) ggX0_stumblesAbove_X6_standing
set_option maxRecDepth 20000 in
theorem ggX0_stumblesAbove_X0_likelihood : GoodIn wsX0_stumblesAbove wsX0_likelihood := goodIn_r _ [87, 1, 4, 5, 6, 7, 8, 9, 88, 89, 90, 91, 92, 93, 94, 95, 96, 97, 98] (by decide +kernel) (by decide +kernel)
set_option maxRecDepth 20000 in
theorem gX0_stumblesAbove_X0_likelihood : GoodIn wsX0_stumblesAbove (wsV RX0 77 RX0 yX0_likelihood wsX0_likelihood) := goodIn_app (goodIn_of _ (by decide +kernel)) ggX0_stumblesAbove_X0_likelihood
theorem dX0_stumblesAbove_0 : decode cX0_stumblesAbove 0 = .ok (.iconst 0, 1) := by decide +kernel
theorem dX0_stumblesAbove_1 : decode cX0_stumblesAbove 1 = .ok (.istore_n 3, 1) := by decide +kernel
theorem dX0_stumblesAbove_2 : decode cX0_stumblesAbove 2 = .ok (.iconst 0, 1) := by decide +kernel
theorem dX0_stumblesAbove_3 : decode cX0_stumblesAbove 3 = .ok (.istore 4, 2) := by decide +kernel
theorem dX0_stumblesAbove_5 : decode cX0_stumblesAbove 5 = .ok (.iload 4, 2) := by decide +kernel
theorem dX0_stumblesAbove_7 : decode cX0_stumblesAbove 7 = .ok (.iconst 1, 1) := by decide +kernel
theorem dX0_stumblesAbove_8 : decode cX0_stumblesAbove 8 = .ok (.aload_n 0, 1) := by decide +kernel
theorem dX0_stumblesAbove_9 : decode cX0_stumblesAbove 9 = .ok (.getfield 18, 3) := by decide +kernel
theorem dX0_stumblesAbove_12 : decode cX0_stumblesAbove 12 = .ok (.invokevirtual 68, 3) := by decide +kernel
theorem dX0_stumblesAbove_15 : decode cX0_stumblesAbove 15 = .ok (.ishl, 1) := by decide +kernel
theorem dX0_stumblesAbove_16 : decode cX0_stumblesAbove 16 = .ok (.if_icmp .ge 51, 3) := by decide +kernel
theorem dX0_stumblesAbove_19 : decode cX0_stumblesAbove 19 = .ok (.aload_n 0, 1) := by decide +kernel
theorem dX0_stumblesAbove_20 : decode cX0_stumblesAbove 20 = .ok (.getfield 26, 3) := by decide +kernel
theorem dX0_stumblesAbove_23 : decode cX0_stumblesAbove 23 = .ok (.aload_n 0, 1) := by decide +kernel
theorem dX0_stumblesAbove_24 : decode cX0_stumblesAbove 24 = .ok (.getfield 22, 3) := by decide +kernel
theorem dX0_stumblesAbove_27 : decode cX0_stumblesAbove 27 = .ok (.invokevirtual 37, 3) := by decide +kernel
theorem dX0_stumblesAbove_30 : decode cX0_stumblesAbove 30 = .ok (.aload_n 0, 1) := by decide +kernel
theorem dX0_stumblesAbove_31 : decode cX0_stumblesAbove 31 = .ok (.getfield 26, 3) := by decide +kernel
theorem dX0_stumblesAbove_34 : decode cX0_stumblesAbove 34 = .ok (.iload 4, 2) := by decide +kernel
theorem dX0_stumblesAbove_36 : decode cX0_stumblesAbove 36 = .ok (.invokevirtual 57, 3) := by decide +kernel
theorem dX0_stumblesAbove_39 : decode cX0_stumblesAbove 39 = .ok (.pop, 1) := by decide +kernel
theorem dX0_stumblesAbove_40 : decode cX0_stumblesAbove 40 = .ok (.aload_n 0, 1) := by decide +kernel
theorem dX0_stumblesAbove_41 : decode cX0_stumblesAbove 41 = .ok (.getfield 26, 3) := by decide +kernel
theorem dX0_stumblesAbove_44 : decode cX0_stumblesAbove 44 = .ok (.invokevirtual 74, 3) := by decide +kernel
theorem dX0_stumblesAbove_47 : decode cX0_stumblesAbove 47 = .ok (.iload_n 1, 1) := by decide +kernel
theorem dX0_stumblesAbove_48 : decode cX0_stumblesAbove 48 = .ok (.if_icmp .lt 13, 3) := by decide +kernel
theorem dX0_stumblesAbove_51 : decode cX0_stumblesAbove 51 = .ok (.iload_n 3, 1) := by decide +kernel
theorem dX0_stumblesAbove_52 : decode cX0_stumblesAbove 52 = .ok (.aload_n 0, 1) := by decide +kernel
theorem dX0_stumblesAbove_53 : decode cX0_stumblesAbove 53 = .ok (.iload 4, 2) := by decide +kernel
theorem dX0_stumblesAbove_55 : decode cX0_stumblesAbove 55 = .ok (.iload_n 2, 1) := by decide +kernel
theorem dX0_stumblesAbove_56 : decode cX0_stumblesAbove 56 = .ok (.invokevirtual 77, 3) := by decide +kernel
theorem dX0_stumblesAbove_59 : decode cX0_stumblesAbove 59 = .ok (.iadd, 1) := by decide +kernel
theorem dX0_stumblesAbove_60 : decode cX0_stumblesAbove 60 = .ok (.istore_n 3, 1) := by decide +kernel
theorem dX0_stumblesAbove_61 : decode cX0_stumblesAbove 61 = .ok (.iinc 4 1, 3) := by decide +kernel
theorem dX0_stumblesAbove_64 : decode cX0_stumblesAbove 64 = .ok (.goto (-59), 3) := by decide +kernel
theorem dX0_stumblesAbove_67 : decode cX0_stumblesAbove 67 = .ok (.iload_n 3, 1) := by decide +kernel
theorem dX0_stumblesAbove_68 : decode cX0_stumblesAbove 68 = .ok (.ireturn, 1) := by decide +kernel
set_option maxRecDepth 20000 in
theorem ggX0_likelihood_X3_size : GoodIn wsX0_likelihood wsX3_size := goodIn_r _ [6, 7, 13, 14, 15, 16, 17, 18] (by decide +kernel) (by decide +kernel)
set_option maxRecDepth 20000 in
theorem gX0_likelihood_X3_size : GoodIn wsX0_likelihood (wsV RX0 68 RX3 yX3_size wsX3_size) := goodIn_app (goodIn_of _ (by decide +kernel)) ggX0_likelihood_X3_size
theorem dX0_likelihood_0 : decode cX0_likelihood 0 = .ok (.iconst 1, 1) := by decide +kernel
theorem dX0_likelihood_1 : decode cX0_likelihood 1 = .ok (.istore_n 3, 1) := by decide +kernel
theorem dX0_likelihood_2 : decode cX0_likelihood 2 = .ok (.iconst 0, 1) := by decide +kernel
theorem dX0_likelihood_3 : decode cX0_likelihood 3 = .ok (.istore 4, 2) := by decide +kernel
theorem dX0_likelihood_5 : decode cX0_likelihood 5 = .ok (.iload 4, 2) := by decide +kernel
theorem dX0_likelihood_7 : decode cX0_likelihood 7 = .ok (.aload_n 0, 1) := by decide +kernel
theorem dX0_likelihood_8 : decode cX0_likelihood 8 = .ok (.getfield 18, 3) := by decide +kernel
theorem dX0_likelihood_11 : decode cX0_likelihood 11 = .ok (.invokevirtual 68, 3) := by decide +kernel
theorem dX0_likelihood_14 : decode cX0_likelihood 14 = .ok (.if_icmp .ge 29, 3) := by decide +kernel
theorem dX0_likelihood_17 : decode cX0_likelihood 17 = .ok (.iload_n 3, 1) := by decide +kernel
theorem dX0_likelihood_18 : decode cX0_likelihood 18 = .ok (.iload_n 1, 1) := by decide +kernel
theorem dX0_likelihood_19 : decode cX0_likelihood 19 = .ok (.iload 4, 2) := by decide +kernel
theorem dX0_likelihood_21 : decode cX0_likelihood 21 = .ok (.ishr, 1) := by decide +kernel
theorem dX0_likelihood_22 : decode cX0_likelihood 22 = .ok (.iconst 1, 1) := by decide +kernel
theorem dX0_likelihood_23 : decode cX0_likelihood 23 = .ok (.iand, 1) := by decide +kernel
theorem dX0_likelihood_24 : decode cX0_likelihood 24 = .ok (.ifCond .eq 7, 3) := by decide +kernel
theorem dX0_likelihood_27 : decode cX0_likelihood 27 = .ok (.iload_n 2, 1) := by decide +kernel
theorem dX0_likelihood_28 : decode cX0_likelihood 28 = .ok (.goto 7, 3) := by decide +kernel
theorem dX0_likelihood_31 : decode cX0_likelihood 31 = .ok (.bipush 10, 2) := by decide +kernel
theorem dX0_likelihood_33 : decode cX0_likelihood 33 = .ok (.iload_n 2, 1) := by decide +kernel
theorem dX0_likelihood_34 : decode cX0_likelihood 34 = .ok (.isub, 1) := by decide +kernel
theorem dX0_likelihood_35 : decode cX0_likelihood 35 = .ok (.imul, 1) := by decide +kernel
theorem dX0_likelihood_36 : decode cX0_likelihood 36 = .ok (.istore_n 3, 1) := by decide +kernel
theorem dX0_likelihood_37 : decode cX0_likelihood 37 = .ok (.iinc 4 1, 3) := by decide +kernel
theorem dX0_likelihood_40 : decode cX0_likelihood 40 = .ok (.goto (-35), 3) := by decide +kernel
theorem dX0_likelihood_43 : decode cX0_likelihood 43 = .ok (.iload_n 3, 1) := by decide +kernel
theorem dX0_likelihood_44 : decode cX0_likelihood 44 = .ok (.ireturn, 1) := by decide +kernel
set_option maxRecDepth 20000 in
theorem ggX0_beginWinters_X6_copyFrom : GoodIn wsX0_beginWinters wsX6_copyFrom := goodIn_r _ [7, 8, 9, 10, 11, 12, 13, 14, 15, 16, 17, 23, 24, 25, 26, 27, 28] (by decide +kernel) (by decide +kernel)
set_option maxRecDepth 20000 in
theorem gX0_beginWinters_X6_copyFrom : GoodIn wsX0_beginWinters (wsV RX0 37 RX6 yX6_copyFrom wsX6_copyFrom) := goodIn_app (goodIn_of _ (by decide +kernel)) ggX0_beginWinters_X6_copyFrom
theorem dX0_beginWinters_0 : decode cX0_beginWinters 0 = .ok (.aload_n 0, 1) := by decide +kernel
theorem dX0_beginWinters_1 : decode cX0_beginWinters 1 = .ok (.getfield 26, 3) := by decide +kernel
theorem dX0_beginWinters_4 : decode cX0_beginWinters 4 = .ok (.aload_n 0, 1) := by decide +kernel
theorem dX0_beginWinters_5 : decode cX0_beginWinters 5 = .ok (.getfield 22, 3) := by decide +kernel
theorem dX0_beginWinters_8 : decode cX0_beginWinters 8 = .ok (.invokevirtual 37, 3) := by decide +kernel
theorem dX0_beginWinters_11 : decode cX0_beginWinters 11 = .ok (.return_, 1) := by decide +kernel
set_option maxRecDepth 20000 in
theorem ggX0_winter_X6_tryDrill : GoodIn wsX0_winter wsX6_tryDrill := goodIn_r _ [6, 7, 8, 9, 10, 5, 11, 12, 13, 14, 15, 16, 17, 18, 19, 20, 21, 22, 23, 24, 25, 26, 27, 28, 29, 30, 31, 32, 33, 34, 35, 36, 37, 38, 39, 40, 41, 42, 43, 118, 119, 120, 121, 122, 123, 124, 125, 126, 127, 128, 129] (by decide +kernel) (by decide +kernel)
set_option maxRecDepth 20000 in
theorem gX0_winter_X6_tryDrill : GoodIn wsX0_winter (wsV RX0 80 RX6 yX6_tryDrill wsX6_tryDrill) := goodIn_app (goodIn_of _ (by decide +kernel)) ggX0_winter_X6_tryDrill
set_option maxRecDepth 20000 in
theorem ggX0_winter_X6_trySwap : GoodIn wsX0_winter wsX6_trySwap := goodIn_r _ [47, 48, 49, 50, 51, 5, 52, 12, 53, 54, 55, 16, 56, 18, 57, 58, 59, 60, 28, 29, 30, 42, 43, 118, 119, 120, 121, 122, 123, 124, 125, 126, 127, 128, 129] (by decide +kernel) (by decide +kernel)
set_option maxRecDepth 20000 in
theorem gX0_winter_X6_trySwap : GoodIn wsX0_winter (wsV RX0 84 RX6 yX6_trySwap wsX6_trySwap) := goodIn_app (goodIn_of _ (by decide +kernel)) ggX0_winter_X6_trySwap
set_option maxRecDepth 20000 in
theorem ggX0_winter_X6_tryRescue : GoodIn wsX0_winter wsX6_tryRescue := goodIn_r _ [64, 12, 23, 13, 14, 15, 16, 17, 18, 19, 20, 21, 5, 22, 65, 66, 67, 68, 53, 54, 55, 56, 57, 58, 59, 60, 48, 28, 29, 30, 69, 45, 46, 47, 49, 50, 51, 52, 42, 43, 118, 119, 120, 121, 122, 123, 124, 125, 126, 127, 128, 129] (by decide +kernel) (by decide +kernel)
set_option maxRecDepth 20000 in
theorem gX0_winter_X6_tryRescue : GoodIn wsX0_winter (wsV RX0 87 RX6 yX6_tryRescue wsX6_tryRescue) := goodIn_app (goodIn_of _ (by decide +kernel)) ggX0_winter_X6_tryRescue
set_option maxRecDepth 20000 in
theorem ggX0_winter_X6_takeStep : GoodIn wsX0_winter wsX6_takeStep := goodIn_r _ [73, 12, 74, 23, 75, 76, 77, 16, 78, 79, 80, 81, 53, 54, 55, 56, 18, 57, 58, 59, 5, 60, 48, 28, 29, 30, 19, 20, 21, 22, 82, 83, 84, 85, 86, 87, 88, 89, 90, 31, 32, 33, 34, 35, 91, 92, 93, 94, 95, 96, 97, 36, 37, 118, 119, 120, 121, 122, 123, 124, 125, 126, 127, 128, 129] (by decide +kernel) (by decide +kernel)
set_option maxRecDepth 20000 in
theorem gX0_winter_X6_takeStep : GoodIn wsX0_winter (wsV RX0 57 RX6 yX6_takeStep wsX6_takeStep) := goodIn_app (goodIn_of _ (by decide +kernel)) ggX0_winter_X6_takeStep
set_option maxRecDepth 20000 in
theorem ggX0_winter_X6_standing : GoodIn wsX0_winter wsX6_standing := goodIn_r _ [101, 102, 103, 104, 5, 105, 12, 23, 53, 54, 55, 16, 56, 18, 106, 107, 108, 109, 110, 111, 112, 118, 119, 120, 121, 122, 123, 124, 125, 126, 127, 128, 129] (by decide +kernel) (by decide +kernel)
set_option maxRecDepth 20000 in
theorem gX0_winter_X6_standing : GoodIn wsX0_winter (wsV RX0 74 RX6 yX6_standing wsX6_standing) := goodIn_app (goodIn_of _ (by decide +kernel)) ggX0_winter_X6_standing
theorem dX0_winter_0 : decode cX0_winter 0 = .ok (.iload_n 1, 1) := by decide +kernel
theorem dX0_winter_1 : decode cX0_winter 1 = .ok (.iconst 5, 1) := by decide +kernel
theorem dX0_winter_2 : decode cX0_winter 2 = .ok (.if_icmp .ge 16, 3) := by decide +kernel
theorem dX0_winter_5 : decode cX0_winter 5 = .ok (.aload_n 0, 1) := by decide +kernel
theorem dX0_winter_6 : decode cX0_winter 6 = .ok (.getfield 26, 3) := by decide +kernel
theorem dX0_winter_9 : decode cX0_winter 9 = .ok (.iload_n 1, 1) := by decide +kernel
theorem dX0_winter_10 : decode cX0_winter 10 = .ok (.iconst 1, 1) := by decide +kernel
theorem dX0_winter_11 : decode cX0_winter 11 = .ok (.invokevirtual 80, 3) := by decide +kernel
theorem dX0_winter_14 : decode cX0_winter 14 = .ok (.pop, 1) := by decide +kernel
theorem dX0_winter_15 : decode cX0_winter 15 = .ok (.goto 53, 3) := by decide +kernel
theorem dX0_winter_18 : decode cX0_winter 18 = .ok (.iload_n 1, 1) := by decide +kernel
theorem dX0_winter_19 : decode cX0_winter 19 = .ok (.bipush 9, 2) := by decide +kernel
theorem dX0_winter_21 : decode cX0_winter 21 = .ok (.if_icmp .ge 17, 3) := by decide +kernel
theorem dX0_winter_24 : decode cX0_winter 24 = .ok (.aload_n 0, 1) := by decide +kernel
theorem dX0_winter_25 : decode cX0_winter 25 = .ok (.getfield 26, 3) := by decide +kernel
theorem dX0_winter_28 : decode cX0_winter 28 = .ok (.iload_n 1, 1) := by decide +kernel
theorem dX0_winter_29 : decode cX0_winter 29 = .ok (.iconst 5, 1) := by decide +kernel
theorem dX0_winter_30 : decode cX0_winter 30 = .ok (.isub, 1) := by decide +kernel
theorem dX0_winter_31 : decode cX0_winter 31 = .ok (.invokevirtual 84, 3) := by decide +kernel
theorem dX0_winter_34 : decode cX0_winter 34 = .ok (.pop, 1) := by decide +kernel
theorem dX0_winter_35 : decode cX0_winter 35 = .ok (.goto 33, 3) := by decide +kernel
theorem dX0_winter_38 : decode cX0_winter 38 = .ok (.iload_n 1, 1) := by decide +kernel
theorem dX0_winter_39 : decode cX0_winter 39 = .ok (.bipush 14, 2) := by decide +kernel
theorem dX0_winter_41 : decode cX0_winter 41 = .ok (.if_icmp .ge 18, 3) := by decide +kernel
theorem dX0_winter_44 : decode cX0_winter 44 = .ok (.aload_n 0, 1) := by decide +kernel
theorem dX0_winter_45 : decode cX0_winter 45 = .ok (.getfield 26, 3) := by decide +kernel
theorem dX0_winter_48 : decode cX0_winter 48 = .ok (.iload_n 1, 1) := by decide +kernel
theorem dX0_winter_49 : decode cX0_winter 49 = .ok (.bipush 9, 2) := by decide +kernel
theorem dX0_winter_51 : decode cX0_winter 51 = .ok (.isub, 1) := by decide +kernel
theorem dX0_winter_52 : decode cX0_winter 52 = .ok (.invokevirtual 87, 3) := by decide +kernel
theorem dX0_winter_55 : decode cX0_winter 55 = .ok (.pop, 1) := by decide +kernel
theorem dX0_winter_56 : decode cX0_winter 56 = .ok (.goto 12, 3) := by decide +kernel
theorem dX0_winter_59 : decode cX0_winter 59 = .ok (.aload_n 0, 1) := by decide +kernel
theorem dX0_winter_60 : decode cX0_winter 60 = .ok (.getfield 26, 3) := by decide +kernel
theorem dX0_winter_63 : decode cX0_winter 63 = .ok (.iconst 0, 1) := by decide +kernel
theorem dX0_winter_64 : decode cX0_winter 64 = .ok (.invokevirtual 57, 3) := by decide +kernel
theorem dX0_winter_67 : decode cX0_winter 67 = .ok (.pop, 1) := by decide +kernel
theorem dX0_winter_68 : decode cX0_winter 68 = .ok (.aload_n 0, 1) := by decide +kernel
theorem dX0_winter_69 : decode cX0_winter 69 = .ok (.getfield 26, 3) := by decide +kernel
theorem dX0_winter_72 : decode cX0_winter 72 = .ok (.invokevirtual 74, 3) := by decide +kernel
theorem dX0_winter_75 : decode cX0_winter 75 = .ok (.ireturn, 1) := by decide +kernel
theorem dX1_init_0 : decode cX1_init 0 = .ok (.aload_n 0, 1) := by decide +kernel
theorem dX1_init_1 : decode cX1_init 1 = .ok (.invokespecial 3, 3) := by decide +kernel
theorem dX1_init_4 : decode cX1_init 4 = .ok (.aload_n 0, 1) := by decide +kernel
theorem dX1_init_5 : decode cX1_init 5 = .ok (.aload_n 1, 1) := by decide +kernel
theorem dX1_init_6 : decode cX1_init 6 = .ok (.putfield 9, 3) := by decide +kernel
theorem dX1_init_9 : decode cX1_init 9 = .ok (.aload_n 0, 1) := by decide +kernel
theorem dX1_init_10 : decode cX1_init 10 = .ok (.aload_n 2, 1) := by decide +kernel
theorem dX1_init_11 : decode cX1_init 11 = .ok (.putfield 15, 3) := by decide +kernel
theorem dX1_init_14 : decode cX1_init 14 = .ok (.aload_n 0, 1) := by decide +kernel
theorem dX1_init_15 : decode cX1_init 15 = .ok (.aload_n 3, 1) := by decide +kernel
theorem dX1_init_16 : decode cX1_init 16 = .ok (.putfield 19, 3) := by decide +kernel
theorem dX1_init_19 : decode cX1_init 19 = .ok (.return_, 1) := by decide +kernel
set_option maxRecDepth 20000 in
theorem ggX1_standingBehind_X6_copyFrom : GoodIn wsX1_standingBehind wsX6_copyFrom := goodIn_r _ [7, 8, 9, 10, 11, 12, 13, 14, 15, 16, 17, 78, 79, 80, 81, 82, 83] (by decide +kernel) (by decide +kernel)
set_option maxRecDepth 20000 in
theorem gX1_standingBehind_X6_copyFrom : GoodIn wsX1_standingBehind (wsV RX1 22 RX6 yX6_copyFrom wsX6_copyFrom) := goodIn_app (goodIn_of _ (by decide +kernel)) ggX1_standingBehind_X6_copyFrom
set_option maxRecDepth 20000 in
theorem ggX1_standingBehind_X1_goOn : GoodIn wsX1_standingBehind wsX1_goOn := goodIn_r _ [22, 1, 23, 24, 25, 6, 26, 27, 12, 11, 28, 29, 30, 31, 32, 33, 34, 35, 36, 37, 38, 39, 40, 41, 42, 43, 44, 8, 13, 14, 15, 45, 46, 47, 48, 49, 50, 51, 52, 53, 54, 55, 56, 57, 58, 59, 60, 61, 9, 62, 63, 64, 65, 66, 67, 68, 69, 70, 75, 76, 77, 78, 79, 80, 81, 82, 83, 84, 85, 86, 87, 88, 89] (by decide +kernel) (by decide +kernel)
set_option maxRecDepth 20000 in
theorem gX1_standingBehind_X1_goOn : GoodIn wsX1_standingBehind (wsV RX1 28 RX1 yX1_goOn wsX1_goOn) := goodIn_app (goodIn_of _ (by decide +kernel)) ggX1_standingBehind_X1_goOn
set_option maxRecDepth 20000 in
theorem ggX1_standingBehind_X6_standingBits : GoodIn wsX1_standingBehind wsX6_standingBits := goodIn_r _ [74, 27, 11, 36, 37, 38, 31, 39, 40, 78, 79, 80, 81, 82, 83, 84, 85, 86, 87, 88, 89] (by decide +kernel) (by decide +kernel)
set_option maxRecDepth 20000 in
theorem gX1_standingBehind_X6_standingBits : GoodIn wsX1_standingBehind (wsV RX1 32 RX6 yX6_standingBits wsX6_standingBits) := goodIn_app (goodIn_of _ (by decide +kernel)) ggX1_standingBehind_X6_standingBits
theorem dX1_standingBehind_0 : decode cX1_standingBehind 0 = .ok (.aload_n 0, 1) := by decide +kernel
theorem dX1_standingBehind_1 : decode cX1_standingBehind 1 = .ok (.getfield 19, 3) := by decide +kernel
theorem dX1_standingBehind_4 : decode cX1_standingBehind 4 = .ok (.aload_n 0, 1) := by decide +kernel
theorem dX1_standingBehind_5 : decode cX1_standingBehind 5 = .ok (.getfield 15, 3) := by decide +kernel
theorem dX1_standingBehind_8 : decode cX1_standingBehind 8 = .ok (.invokevirtual 22, 3) := by decide +kernel
theorem dX1_standingBehind_11 : decode cX1_standingBehind 11 = .ok (.aload_n 0, 1) := by decide +kernel
theorem dX1_standingBehind_12 : decode cX1_standingBehind 12 = .ok (.iload_n 1, 1) := by decide +kernel
theorem dX1_standingBehind_13 : decode cX1_standingBehind 13 = .ok (.invokevirtual 28, 3) := by decide +kernel
theorem dX1_standingBehind_16 : decode cX1_standingBehind 16 = .ok (.aload_n 0, 1) := by decide +kernel
theorem dX1_standingBehind_17 : decode cX1_standingBehind 17 = .ok (.getfield 19, 3) := by decide +kernel
theorem dX1_standingBehind_20 : decode cX1_standingBehind 20 = .ok (.invokevirtual 32, 3) := by decide +kernel
theorem dX1_standingBehind_23 : decode cX1_standingBehind 23 = .ok (.ireturn, 1) := by decide +kernel
set_option maxRecDepth 20000 in
theorem ggX1_goOn_X6_takeStep : GoodIn wsX1_goOn wsX6_takeStep := goodIn_r _ [6, 7, 8, 9, 10, 11, 12, 13, 14, 15, 16, 17, 18, 19, 20, 21, 22, 23, 24, 25, 5, 26, 27, 28, 29, 30, 31, 32, 33, 34, 35, 36, 37, 38, 39, 40, 41, 42, 43, 44, 45, 46, 47, 48, 49, 50, 51, 52, 53, 54, 55, 56, 57, 61, 62, 63, 64, 65, 66, 67, 68, 69, 70, 71, 72] (by decide +kernel) (by decide +kernel)
set_option maxRecDepth 20000 in
theorem gX1_goOn_X6_takeStep : GoodIn wsX1_goOn (wsV RX1 36 RX6 yX6_takeStep wsX6_takeStep) := goodIn_app (goodIn_of _ (by decide +kernel)) ggX1_goOn_X6_takeStep
theorem dX1_goOn_0 : decode cX1_goOn 0 = .ok (.iconst 0, 1) := by decide +kernel
theorem dX1_goOn_1 : decode cX1_goOn 1 = .ok (.istore_n 2, 1) := by decide +kernel
theorem dX1_goOn_2 : decode cX1_goOn 2 = .ok (.iload_n 2, 1) := by decide +kernel
theorem dX1_goOn_3 : decode cX1_goOn 3 = .ok (.iload_n 1, 1) := by decide +kernel
theorem dX1_goOn_4 : decode cX1_goOn 4 = .ok (.if_icmp .ge 18, 3) := by decide +kernel
theorem dX1_goOn_7 : decode cX1_goOn 7 = .ok (.aload_n 0, 1) := by decide +kernel
theorem dX1_goOn_8 : decode cX1_goOn 8 = .ok (.getfield 19, 3) := by decide +kernel
theorem dX1_goOn_11 : decode cX1_goOn 11 = .ok (.iconst 0, 1) := by decide +kernel
theorem dX1_goOn_12 : decode cX1_goOn 12 = .ok (.invokevirtual 36, 3) := by decide +kernel
theorem dX1_goOn_15 : decode cX1_goOn 15 = .ok (.pop, 1) := by decide +kernel
theorem dX1_goOn_16 : decode cX1_goOn 16 = .ok (.iinc 2 1, 3) := by decide +kernel
theorem dX1_goOn_19 : decode cX1_goOn 19 = .ok (.goto (-17), 3) := by decide +kernel
theorem dX1_goOn_22 : decode cX1_goOn 22 = .ok (.return_, 1) := by decide +kernel
set_option maxRecDepth 20000 in
theorem ggX1_dropOf_X6_copyFrom : GoodIn wsX1_dropOf wsX6_copyFrom := goodIn_r _ [7, 8, 9, 10, 11, 12, 13, 14, 15, 16, 17, 70, 71, 72, 73, 74, 75] (by decide +kernel) (by decide +kernel)
set_option maxRecDepth 20000 in
theorem gX1_dropOf_X6_copyFrom : GoodIn wsX1_dropOf (wsV RX1 22 RX6 yX6_copyFrom wsX6_copyFrom) := goodIn_app (goodIn_of _ (by decide +kernel)) ggX1_dropOf_X6_copyFrom
set_option maxRecDepth 20000 in
theorem ggX1_dropOf_X6_isDown : GoodIn wsX1_dropOf wsX6_isDown := goodIn_r _ [21, 11, 70, 71, 72, 73, 74, 75] (by decide +kernel) (by decide +kernel)
set_option maxRecDepth 20000 in
theorem gX1_dropOf_X6_isDown : GoodIn wsX1_dropOf (wsV RX1 40 RX6 yX6_isDown wsX6_isDown) := goodIn_app (goodIn_of _ (by decide +kernel)) ggX1_dropOf_X6_isDown
set_option maxRecDepth 20000 in
theorem ggX1_dropOf_X6_takeStep : GoodIn wsX1_dropOf wsX6_takeStep := goodIn_r _ [25, 26, 12, 11, 27, 28, 29, 30, 31, 32, 33, 34, 35, 36, 37, 38, 39, 40, 41, 42, 6, 43, 8, 13, 14, 15, 44, 19, 20, 21, 45, 46, 47, 48, 49, 50, 51, 52, 53, 54, 55, 56, 57, 9, 58, 59, 60, 61, 62, 63, 64, 65, 66, 70, 71, 72, 73, 74, 75, 76, 77, 78, 79, 80, 81] (by decide +kernel) (by decide +kernel)
set_option maxRecDepth 20000 in
theorem gX1_dropOf_X6_takeStep : GoodIn wsX1_dropOf (wsV RX1 36 RX6 yX6_takeStep wsX6_takeStep) := goodIn_app (goodIn_of _ (by decide +kernel)) ggX1_dropOf_X6_takeStep
theorem dX1_dropOf_0 : decode cX1_dropOf 0 = .ok (.aload_n 0, 1) := by decide +kernel
theorem dX1_dropOf_1 : decode cX1_dropOf 1 = .ok (.getfield 19, 3) := by decide +kernel
theorem dX1_dropOf_4 : decode cX1_dropOf 4 = .ok (.aload_n 0, 1) := by decide +kernel
theorem dX1_dropOf_5 : decode cX1_dropOf 5 = .ok (.getfield 15, 3) := by decide +kernel
theorem dX1_dropOf_8 : decode cX1_dropOf 8 = .ok (.invokevirtual 22, 3) := by decide +kernel
theorem dX1_dropOf_11 : decode cX1_dropOf 11 = .ok (.iconst 0, 1) := by decide +kernel
theorem dX1_dropOf_12 : decode cX1_dropOf 12 = .ok (.istore_n 2, 1) := by decide +kernel
theorem dX1_dropOf_13 : decode cX1_dropOf 13 = .ok (.iload_n 2, 1) := by decide +kernel
theorem dX1_dropOf_14 : decode cX1_dropOf 14 = .ok (.bipush 20, 2) := by decide +kernel
theorem dX1_dropOf_16 : decode cX1_dropOf 16 = .ok (.if_icmp .gt 31, 3) := by decide +kernel
theorem dX1_dropOf_19 : decode cX1_dropOf 19 = .ok (.aload_n 0, 1) := by decide +kernel
theorem dX1_dropOf_20 : decode cX1_dropOf 20 = .ok (.getfield 19, 3) := by decide +kernel
theorem dX1_dropOf_23 : decode cX1_dropOf 23 = .ok (.iload_n 1, 1) := by decide +kernel
theorem dX1_dropOf_24 : decode cX1_dropOf 24 = .ok (.invokevirtual 40, 3) := by decide +kernel
theorem dX1_dropOf_27 : decode cX1_dropOf 27 = .ok (.ifCond .eq 5, 3) := by decide +kernel
theorem dX1_dropOf_30 : decode cX1_dropOf 30 = .ok (.iload_n 2, 1) := by decide +kernel
theorem dX1_dropOf_31 : decode cX1_dropOf 31 = .ok (.ireturn, 1) := by decide +kernel
theorem dX1_dropOf_32 : decode cX1_dropOf 32 = .ok (.aload_n 0, 1) := by decide +kernel
theorem dX1_dropOf_33 : decode cX1_dropOf 33 = .ok (.getfield 19, 3) := by decide +kernel
theorem dX1_dropOf_36 : decode cX1_dropOf 36 = .ok (.iconst 0, 1) := by decide +kernel
theorem dX1_dropOf_37 : decode cX1_dropOf 37 = .ok (.invokevirtual 36, 3) := by decide +kernel
theorem dX1_dropOf_40 : decode cX1_dropOf 40 = .ok (.pop, 1) := by decide +kernel
theorem dX1_dropOf_41 : decode cX1_dropOf 41 = .ok (.iinc 2 1, 3) := by decide +kernel
theorem dX1_dropOf_44 : decode cX1_dropOf 44 = .ok (.goto (-31), 3) := by decide +kernel
theorem dX1_dropOf_47 : decode cX1_dropOf 47 = .ok (.bipush (-9), 2) := by decide +kernel
theorem dX1_dropOf_49 : decode cX1_dropOf 49 = .ok (.ireturn, 1) := by decide +kernel
set_option maxRecDepth 20000 in
theorem ggX1_bestLine_X3_size : GoodIn wsX1_bestLine wsX3_size := goodIn_r _ [8, 9, 106, 107, 108, 109, 110, 111] (by decide +kernel) (by decide +kernel)
set_option maxRecDepth 20000 in
theorem gX1_bestLine_X3_size : GoodIn wsX1_bestLine (wsV RX1 48 RX3 yX3_size wsX3_size) := goodIn_app (goodIn_of _ (by decide +kernel)) ggX1_bestLine_X3_size
set_option maxRecDepth 20000 in
theorem ggX1_bestLine_X7_at : GoodIn wsX1_bestLine wsX7_at := goodIn_r _ [12] (by decide +kernel) (by decide +kernel)
set_option maxRecDepth 20000 in
theorem gX1_bestLine_X7_at_n53 : GoodIn wsX1_bestLine (wsX7_at) := ggX1_bestLine_X7_at
set_option maxRecDepth 20000 in
theorem ggX1_bestLine_X6_copyFrom : GoodIn wsX1_bestLine wsX6_copyFrom := goodIn_r _ [17, 18, 19, 20, 21, 22, 10, 11, 12, 23, 24, 112, 113, 114, 115, 116, 117] (by decide +kernel) (by decide +kernel)
set_option maxRecDepth 20000 in
theorem gX1_bestLine_X6_copyFrom : GoodIn wsX1_bestLine (wsV RX1 22 RX6 yX6_copyFrom wsX6_copyFrom) := goodIn_app (goodIn_of _ (by decide +kernel)) ggX1_bestLine_X6_copyFrom
set_option maxRecDepth 20000 in
theorem ggX1_bestLine_X6_setOrder : GoodIn wsX1_bestLine wsX6_setOrder := goodIn_r _ [28, 29, 30, 31, 32, 33, 18, 34, 5, 6, 7, 8, 9, 10, 11, 12, 35, 36, 16, 37, 23, 24, 112, 113, 114, 115, 116, 117, 106, 107, 108, 109, 110, 111] (by decide +kernel) (by decide +kernel)
set_option maxRecDepth 20000 in
theorem gX1_bestLine_X6_setOrder : GoodIn wsX1_bestLine (wsV RX1 57 RX6 yX6_setOrder wsX6_setOrder) := goodIn_app (goodIn_of _ (by decide +kernel)) ggX1_bestLine_X6_setOrder
set_option maxRecDepth 20000 in
theorem ggX1_bestLine_X1_goOn : GoodIn wsX1_bestLine wsX1_goOn := goodIn_r _ [42, 2, 43, 44, 45, 16, 46, 29, 22, 21, 47, 48, 49, 7, 50, 51, 52, 53, 34, 5, 6, 8, 9, 54, 55, 56, 57, 18, 10, 11, 12, 58, 59, 60, 61, 62, 63, 64, 65, 66, 67, 68, 69, 70, 71, 72, 73, 74, 19, 75, 76, 77, 78, 79, 80, 81, 82, 83, 103, 104, 105, 112, 113, 114, 115, 116, 117, 106, 107, 108, 109, 110, 111] (by decide +kernel) (by decide +kernel)
set_option maxRecDepth 20000 in
theorem gX1_bestLine_X1_goOn : GoodIn wsX1_bestLine (wsV RX1 28 RX1 yX1_goOn wsX1_goOn) := goodIn_app (goodIn_of _ (by decide +kernel)) ggX1_bestLine_X1_goOn
set_option maxRecDepth 20000 in
theorem ggX1_bestLine_X6_standing : GoodIn wsX1_bestLine wsX6_standing := goodIn_r _ [87, 88, 89, 90, 16, 91, 29, 21, 34, 5, 6, 7, 8, 9, 92, 93, 94, 95, 96, 97, 98, 112, 113, 114, 115, 116, 117, 106, 107, 108, 109, 110, 111] (by decide +kernel) (by decide +kernel)
set_option maxRecDepth 20000 in
theorem gX1_bestLine_X6_standing : GoodIn wsX1_bestLine (wsV RX1 60 RX6 yX6_standing wsX6_standing) := goodIn_app (goodIn_of _ (by decide +kernel)) ggX1_bestLine_X6_standing
set_option maxRecDepth 20000 in
theorem ggX1_bestLine_X6_lineAsFigures : GoodIn wsX1_bestLine wsX6_lineAsFigures := goodIn_r _ [102, 29, 34, 5, 6, 7, 8, 9, 54, 55, 56, 16, 57, 18, 10, 11, 12, 112, 113, 114, 115, 116, 117, 106, 107, 108, 109, 110, 111] (by decide +kernel) (by decide +kernel)
set_option maxRecDepth 20000 in
theorem gX1_bestLine_X6_lineAsFigures : GoodIn wsX1_bestLine (wsV RX1 63 RX6 yX6_lineAsFigures wsX6_lineAsFigures) := goodIn_app (goodIn_of _ (by decide +kernel)) ggX1_bestLine_X6_lineAsFigures
theorem dX1_bestLine_0 : decode cX1_bestLine 0 = .ok (.iconst (-1), 1) := by decide +kernel
theorem dX1_bestLine_1 : decode cX1_bestLine 1 = .ok (.istore_n 2, 1) := by decide +kernel
theorem dX1_bestLine_2 : decode cX1_bestLine 2 = .ok (.iconst 0, 1) := by decide +kernel
theorem dX1_bestLine_3 : decode cX1_bestLine 3 = .ok (.istore_n 3, 1) := by decide +kernel
theorem dX1_bestLine_4 : decode cX1_bestLine 4 = .ok (.iconst 0, 1) := by decide +kernel
theorem dX1_bestLine_5 : decode cX1_bestLine 5 = .ok (.istore 4, 2) := by decide +kernel
theorem dX1_bestLine_7 : decode cX1_bestLine 7 = .ok (.iload 4, 2) := by decide +kernel
theorem dX1_bestLine_9 : decode cX1_bestLine 9 = .ok (.getstatic 44, 3) := by decide +kernel
theorem dX1_bestLine_12 : decode cX1_bestLine 12 = .ok (.aload_n 0, 1) := by decide +kernel
theorem dX1_bestLine_13 : decode cX1_bestLine 13 = .ok (.getfield 9, 3) := by decide +kernel
theorem dX1_bestLine_16 : decode cX1_bestLine 16 = .ok (.invokevirtual 48, 3) := by decide +kernel
theorem dX1_bestLine_19 : decode cX1_bestLine 19 = .ok (.invokestatic 53, 3) := by decide +kernel
theorem dX1_bestLine_22 : decode cX1_bestLine 22 = .ok (.if_icmp .ge 62, 3) := by decide +kernel
theorem dX1_bestLine_25 : decode cX1_bestLine 25 = .ok (.aload_n 0, 1) := by decide +kernel
theorem dX1_bestLine_26 : decode cX1_bestLine 26 = .ok (.getfield 19, 3) := by decide +kernel
theorem dX1_bestLine_29 : decode cX1_bestLine 29 = .ok (.aload_n 0, 1) := by decide +kernel
theorem dX1_bestLine_30 : decode cX1_bestLine 30 = .ok (.getfield 15, 3) := by decide +kernel
theorem dX1_bestLine_33 : decode cX1_bestLine 33 = .ok (.invokevirtual 22, 3) := by decide +kernel
theorem dX1_bestLine_36 : decode cX1_bestLine 36 = .ok (.aload_n 0, 1) := by decide +kernel
theorem dX1_bestLine_37 : decode cX1_bestLine 37 = .ok (.getfield 19, 3) := by decide +kernel
theorem dX1_bestLine_40 : decode cX1_bestLine 40 = .ok (.iload 4, 2) := by decide +kernel
theorem dX1_bestLine_42 : decode cX1_bestLine 42 = .ok (.invokevirtual 57, 3) := by decide +kernel
theorem dX1_bestLine_45 : decode cX1_bestLine 45 = .ok (.aload_n 0, 1) := by decide +kernel
theorem dX1_bestLine_46 : decode cX1_bestLine 46 = .ok (.bipush 6, 2) := by decide +kernel
theorem dX1_bestLine_48 : decode cX1_bestLine 48 = .ok (.invokevirtual 28, 3) := by decide +kernel
theorem dX1_bestLine_51 : decode cX1_bestLine 51 = .ok (.aload_n 0, 1) := by decide +kernel
theorem dX1_bestLine_52 : decode cX1_bestLine 52 = .ok (.getfield 19, 3) := by decide +kernel
theorem dX1_bestLine_55 : decode cX1_bestLine 55 = .ok (.invokevirtual 60, 3) := by decide +kernel
theorem dX1_bestLine_58 : decode cX1_bestLine 58 = .ok (.iload_n 2, 1) := by decide +kernel
theorem dX1_bestLine_59 : decode cX1_bestLine 59 = .ok (.if_icmp .le 19, 3) := by decide +kernel
theorem dX1_bestLine_62 : decode cX1_bestLine 62 = .ok (.aload_n 0, 1) := by decide +kernel
theorem dX1_bestLine_63 : decode cX1_bestLine 63 = .ok (.getfield 19, 3) := by decide +kernel
theorem dX1_bestLine_66 : decode cX1_bestLine 66 = .ok (.invokevirtual 60, 3) := by decide +kernel
theorem dX1_bestLine_69 : decode cX1_bestLine 69 = .ok (.istore_n 2, 1) := by decide +kernel
theorem dX1_bestLine_70 : decode cX1_bestLine 70 = .ok (.aload_n 0, 1) := by decide +kernel
theorem dX1_bestLine_71 : decode cX1_bestLine 71 = .ok (.getfield 19, 3) := by decide +kernel
theorem dX1_bestLine_74 : decode cX1_bestLine 74 = .ok (.invokevirtual 63, 3) := by decide +kernel
theorem dX1_bestLine_77 : decode cX1_bestLine 77 = .ok (.istore_n 3, 1) := by decide +kernel
theorem dX1_bestLine_78 : decode cX1_bestLine 78 = .ok (.iinc 4 1, 3) := by decide +kernel
theorem dX1_bestLine_81 : decode cX1_bestLine 81 = .ok (.goto (-74), 3) := by decide +kernel
theorem dX1_bestLine_84 : decode cX1_bestLine 84 = .ok (.iload_n 1, 1) := by decide +kernel
theorem dX1_bestLine_85 : decode cX1_bestLine 85 = .ok (.ifCond .eq 7, 3) := by decide +kernel
theorem dX1_bestLine_88 : decode cX1_bestLine 88 = .ok (.iload_n 3, 1) := by decide +kernel
theorem dX1_bestLine_89 : decode cX1_bestLine 89 = .ok (.goto 4, 3) := by decide +kernel
theorem dX1_bestLine_92 : decode cX1_bestLine 92 = .ok (.iload_n 2, 1) := by decide +kernel
theorem dX1_bestLine_93 : decode cX1_bestLine 93 = .ok (.ireturn, 1) := by decide +kernel
set_option maxRecDepth 20000 in
theorem ggX1_fewestDrills_X6_firstStanding : GoodIn wsX1_fewestDrills wsX6_firstStanding := goodIn_r _ [13, 14, 15, 16, 17, 18, 19, 20, 21, 22, 23, 12, 24, 25, 26, 27, 28, 29, 30, 31, 32, 33, 98, 99, 100, 101, 102, 103, 104, 105, 106, 107, 108, 109] (by decide +kernel) (by decide +kernel)
set_option maxRecDepth 20000 in
theorem gX1_fewestDrills_X6_firstStanding : GoodIn wsX1_fewestDrills (wsV RX1 66 RX6 yX6_firstStanding wsX6_firstStanding) := goodIn_app (goodIn_of _ (by decide +kernel)) ggX1_fewestDrills_X6_firstStanding
set_option maxRecDepth 20000 in
theorem ggX1_fewestDrills_X1_canDrillBy : GoodIn wsX1_fewestDrills wsX1_canDrillBy := goodIn_r _ [38, 1, 39, 27, 40, 41, 42, 43, 12, 44, 45, 26, 28, 95, 96, 97, 98, 99, 100, 101, 102, 103] (by decide +kernel) (by decide +kernel)
set_option maxRecDepth 20000 in
theorem gX1_fewestDrills_X1_canDrillBy : GoodIn wsX1_fewestDrills (wsV RX1 69 RX1 yX1_canDrillBy wsX1_canDrillBy) := goodIn_app (goodIn_of _ (by decide +kernel)) ggX1_fewestDrills_X1_canDrillBy
set_option maxRecDepth 20000 in
theorem ggX1_fewestDrills_X1_snowHolds : GoodIn wsX1_fewestDrills wsX1_snowHolds := goodIn_r _ [49, 1, 50, 51, 52, 53, 12, 54, 55, 56, 57, 58, 59, 14, 60, 61, 62, 18, 63, 64, 26, 27, 28, 65, 42, 43, 44, 45, 66, 67, 68, 69, 70, 71, 72, 73, 74, 75, 76, 77, 78, 79, 39, 40, 95, 96, 97, 98, 99, 100, 101, 102, 103, 104, 105, 106, 107, 108, 109] (by decide +kernel) (by decide +kernel)
set_option maxRecDepth 20000 in
theorem gX1_fewestDrills_X1_snowHolds : GoodIn wsX1_fewestDrills (wsV RX1 73 RX1 yX1_snowHolds wsX1_snowHolds) := goodIn_app (goodIn_of _ (by decide +kernel)) ggX1_fewestDrills_X1_snowHolds
set_option maxRecDepth 20000 in
theorem ggX1_fewestDrills_X1_drillsOfOthers : GoodIn wsX1_fewestDrills wsX1_drillsOfOthers := goodIn_r _ [83, 50, 1, 84, 16, 17, 18, 19, 20, 85, 30, 31, 12, 32, 33, 86, 61, 62, 63, 64, 26, 27, 28, 87, 88, 89, 37, 90, 2, 3, 4, 5, 91, 92, 93, 94, 51, 52, 53, 54, 55, 56, 57, 58, 59, 14, 60, 65, 42, 43, 44, 45, 66, 67, 68, 69, 70, 71, 72, 34, 35, 36, 38, 39, 40, 41, 95, 96, 97, 104, 105, 106, 107, 108, 109, 98, 99, 100, 101, 102, 103] (by decide +kernel) (by decide +kernel)
set_option maxRecDepth 20000 in
theorem gX1_fewestDrills_X1_drillsOfOthers : GoodIn wsX1_fewestDrills (wsV RX1 81 RX1 yX1_drillsOfOthers wsX1_drillsOfOthers) := goodIn_app (goodIn_of _ (by decide +kernel)) ggX1_fewestDrills_X1_drillsOfOthers
theorem dX1_fewestDrills_0 : decode cX1_fewestDrills 0 = .ok (.aload_n 0, 1) := by decide +kernel
theorem dX1_fewestDrills_1 : decode cX1_fewestDrills 1 = .ok (.getfield 15, 3) := by decide +kernel
theorem dX1_fewestDrills_4 : decode cX1_fewestDrills 4 = .ok (.invokevirtual 66, 3) := by decide +kernel
theorem dX1_fewestDrills_7 : decode cX1_fewestDrills 7 = .ok (.istore_n 1, 1) := by decide +kernel
theorem dX1_fewestDrills_8 : decode cX1_fewestDrills 8 = .ok (.iload_n 1, 1) := by decide +kernel
theorem dX1_fewestDrills_9 : decode cX1_fewestDrills 9 = .ok (.bipush (-9), 2) := by decide +kernel
theorem dX1_fewestDrills_11 : decode cX1_fewestDrills 11 = .ok (.if_icmp .ne 5, 3) := by decide +kernel
theorem dX1_fewestDrills_14 : decode cX1_fewestDrills 14 = .ok (.iconst 0, 1) := by decide +kernel
theorem dX1_fewestDrills_15 : decode cX1_fewestDrills 15 = .ok (.ireturn, 1) := by decide +kernel
theorem dX1_fewestDrills_16 : decode cX1_fewestDrills 16 = .ok (.bipush 11, 2) := by decide +kernel
theorem dX1_fewestDrills_18 : decode cX1_fewestDrills 18 = .ok (.istore_n 2, 1) := by decide +kernel
theorem dX1_fewestDrills_19 : decode cX1_fewestDrills 19 = .ok (.bipush (-2), 2) := by decide +kernel
theorem dX1_fewestDrills_21 : decode cX1_fewestDrills 21 = .ok (.istore_n 3, 1) := by decide +kernel
theorem dX1_fewestDrills_22 : decode cX1_fewestDrills 22 = .ok (.iload_n 3, 1) := by decide +kernel
theorem dX1_fewestDrills_23 : decode cX1_fewestDrills 23 = .ok (.iconst 2, 1) := by decide +kernel
theorem dX1_fewestDrills_24 : decode cX1_fewestDrills 24 = .ok (.if_icmp .gt 43, 3) := by decide +kernel
theorem dX1_fewestDrills_27 : decode cX1_fewestDrills 27 = .ok (.aload_n 0, 1) := by decide +kernel
theorem dX1_fewestDrills_28 : decode cX1_fewestDrills 28 = .ok (.iload_n 1, 1) := by decide +kernel
theorem dX1_fewestDrills_29 : decode cX1_fewestDrills 29 = .ok (.iload_n 3, 1) := by decide +kernel
theorem dX1_fewestDrills_30 : decode cX1_fewestDrills 30 = .ok (.invokevirtual 69, 3) := by decide +kernel
theorem dX1_fewestDrills_33 : decode cX1_fewestDrills 33 = .ok (.ifCond .eq 28, 3) := by decide +kernel
theorem dX1_fewestDrills_36 : decode cX1_fewestDrills 36 = .ok (.aload_n 0, 1) := by decide +kernel
theorem dX1_fewestDrills_37 : decode cX1_fewestDrills 37 = .ok (.iload_n 1, 1) := by decide +kernel
theorem dX1_fewestDrills_38 : decode cX1_fewestDrills 38 = .ok (.iload_n 3, 1) := by decide +kernel
theorem dX1_fewestDrills_39 : decode cX1_fewestDrills 39 = .ok (.invokevirtual 73, 3) := by decide +kernel
theorem dX1_fewestDrills_42 : decode cX1_fewestDrills 42 = .ok (.ifCond .eq 19, 3) := by decide +kernel
theorem dX1_fewestDrills_45 : decode cX1_fewestDrills 45 = .ok (.iload_n 2, 1) := by decide +kernel
theorem dX1_fewestDrills_46 : decode cX1_fewestDrills 46 = .ok (.iload_n 3, 1) := by decide +kernel
theorem dX1_fewestDrills_47 : decode cX1_fewestDrills 47 = .ok (.invokestatic 76, 3) := by decide +kernel
theorem dX1_fewestDrills_50 : decode cX1_fewestDrills 50 = .ok (.aload_n 0, 1) := by decide +kernel
theorem dX1_fewestDrills_51 : decode cX1_fewestDrills 51 = .ok (.iload_n 1, 1) := by decide +kernel
theorem dX1_fewestDrills_52 : decode cX1_fewestDrills 52 = .ok (.iload_n 3, 1) := by decide +kernel
theorem dX1_fewestDrills_53 : decode cX1_fewestDrills 53 = .ok (.invokevirtual 81, 3) := by decide +kernel
theorem dX1_fewestDrills_56 : decode cX1_fewestDrills 56 = .ok (.iadd, 1) := by decide +kernel
theorem dX1_fewestDrills_57 : decode cX1_fewestDrills 57 = .ok (.invokestatic 85, 3) := by decide +kernel
theorem dX1_fewestDrills_60 : decode cX1_fewestDrills 60 = .ok (.istore_n 2, 1) := by decide +kernel
theorem dX1_fewestDrills_61 : decode cX1_fewestDrills 61 = .ok (.iinc 3 1, 3) := by decide +kernel
theorem dX1_fewestDrills_64 : decode cX1_fewestDrills 64 = .ok (.goto (-42), 3) := by decide +kernel
theorem dX1_fewestDrills_67 : decode cX1_fewestDrills 67 = .ok (.iload_n 2, 1) := by decide +kernel
theorem dX1_fewestDrills_68 : decode cX1_fewestDrills 68 = .ok (.bipush 11, 2) := by decide +kernel
theorem dX1_fewestDrills_70 : decode cX1_fewestDrills 70 = .ok (.if_icmp .lt 8, 3) := by decide +kernel
theorem dX1_fewestDrills_73 : decode cX1_fewestDrills 73 = .ok (.bipush (-9), 2) := by decide +kernel
theorem dX1_fewestDrills_75 : decode cX1_fewestDrills 75 = .ok (.goto 4, 3) := by decide +kernel
theorem dX1_fewestDrills_78 : decode cX1_fewestDrills 78 = .ok (.iload_n 2, 1) := by decide +kernel
theorem dX1_fewestDrills_79 : decode cX1_fewestDrills 79 = .ok (.ireturn, 1) := by decide +kernel
set_option maxRecDepth 20000 in
theorem ggX1_canDrillBy_X7_isBetween : GoodIn wsX1_canDrillBy wsX7_isBetween := goodIn_r _ [4] (by decide +kernel) (by decide +kernel)
set_option maxRecDepth 20000 in
theorem gX1_canDrillBy_X7_isBetween_n88 : GoodIn wsX1_canDrillBy (wsX7_isBetween) := ggX1_canDrillBy_X7_isBetween
set_option maxRecDepth 20000 in
theorem ggX1_canDrillBy_X6_strideOf : GoodIn wsX1_canDrillBy wsX6_strideOf := goodIn_r _ [9, 10, 11, 3, 12, 16, 17, 18, 19, 20, 21] (by decide +kernel) (by decide +kernel)
set_option maxRecDepth 20000 in
theorem gX1_canDrillBy_X6_strideOf : GoodIn wsX1_canDrillBy (wsV RX1 92 RX6 yX6_strideOf wsX6_strideOf) := goodIn_app (goodIn_of _ (by decide +kernel)) ggX1_canDrillBy_X6_strideOf
theorem dX1_canDrillBy_0 : decode cX1_canDrillBy 0 = .ok (.iload_n 2, 1) := by decide +kernel
theorem dX1_canDrillBy_1 : decode cX1_canDrillBy 1 = .ok (.bipush (-2), 2) := by decide +kernel
theorem dX1_canDrillBy_3 : decode cX1_canDrillBy 3 = .ok (.iconst 2, 1) := by decide +kernel
theorem dX1_canDrillBy_4 : decode cX1_canDrillBy 4 = .ok (.invokestatic 88, 3) := by decide +kernel
theorem dX1_canDrillBy_7 : decode cX1_canDrillBy 7 = .ok (.ifCond .eq 26, 3) := by decide +kernel
theorem dX1_canDrillBy_10 : decode cX1_canDrillBy 10 = .ok (.aload_n 0, 1) := by decide +kernel
theorem dX1_canDrillBy_11 : decode cX1_canDrillBy 11 = .ok (.getfield 15, 3) := by decide +kernel
theorem dX1_canDrillBy_14 : decode cX1_canDrillBy 14 = .ok (.iload_n 1, 1) := by decide +kernel
theorem dX1_canDrillBy_15 : decode cX1_canDrillBy 15 = .ok (.invokevirtual 92, 3) := by decide +kernel
theorem dX1_canDrillBy_18 : decode cX1_canDrillBy 18 = .ok (.iload_n 2, 1) := by decide +kernel
theorem dX1_canDrillBy_19 : decode cX1_canDrillBy 19 = .ok (.iadd, 1) := by decide +kernel
theorem dX1_canDrillBy_20 : decode cX1_canDrillBy 20 = .ok (.iconst 1, 1) := by decide +kernel
theorem dX1_canDrillBy_21 : decode cX1_canDrillBy 21 = .ok (.bipush 9, 2) := by decide +kernel
theorem dX1_canDrillBy_23 : decode cX1_canDrillBy 23 = .ok (.invokestatic 88, 3) := by decide +kernel
theorem dX1_canDrillBy_26 : decode cX1_canDrillBy 26 = .ok (.ifCond .eq 7, 3) := by decide +kernel
theorem dX1_canDrillBy_29 : decode cX1_canDrillBy 29 = .ok (.iconst 1, 1) := by decide +kernel
theorem dX1_canDrillBy_30 : decode cX1_canDrillBy 30 = .ok (.goto 4, 3) := by decide +kernel
theorem dX1_canDrillBy_33 : decode cX1_canDrillBy 33 = .ok (.iconst 0, 1) := by decide +kernel
theorem dX1_canDrillBy_34 : decode cX1_canDrillBy 34 = .ok (.ireturn, 1) := by decide +kernel
set_option maxRecDepth 20000 in
theorem ggX1_snowHolds_X6_stepNumber : GoodIn wsX1_snowHolds wsX6_stepNumber := goodIn_r _ [7, 8, 47, 48, 49, 50, 51, 52] (by decide +kernel) (by decide +kernel)
set_option maxRecDepth 20000 in
theorem gX1_snowHolds_X6_stepNumber : GoodIn wsX1_snowHolds (wsV RX1 95 RX6 yX6_stepNumber wsX6_stepNumber) := goodIn_app (goodIn_of _ (by decide +kernel)) ggX1_snowHolds_X6_stepNumber
set_option maxRecDepth 20000 in
theorem ggX1_snowHolds_X6_treadOfOne : GoodIn wsX1_snowHolds wsX6_treadOfOne := goodIn_r _ [12, 13, 14, 15, 16, 17, 18, 19, 20, 21, 22, 23, 24, 25, 6, 26, 27, 28, 29, 30, 31, 32, 33, 34, 47, 48, 49, 50, 51, 52, 53, 54, 55, 56, 57, 58] (by decide +kernel) (by decide +kernel)
set_option maxRecDepth 20000 in
theorem gX1_snowHolds_X6_treadOfOne : GoodIn wsX1_snowHolds (wsV RX1 98 RX6 yX6_treadOfOne wsX6_treadOfOne) := goodIn_app (goodIn_of _ (by decide +kernel)) ggX1_snowHolds_X6_treadOfOne
set_option maxRecDepth 20000 in
theorem ggX1_snowHolds_X3_snowAt : GoodIn wsX1_snowHolds wsX3_snowAt := goodIn_r _ [38, 39, 40, 41, 53, 54, 55, 56, 57, 58] (by decide +kernel) (by decide +kernel)
set_option maxRecDepth 20000 in
theorem gX1_snowHolds_X3_snowAt : GoodIn wsX1_snowHolds (wsV RX1 101 RX3 yX3_snowAt wsX3_snowAt) := goodIn_app (goodIn_of _ (by decide +kernel)) ggX1_snowHolds_X3_snowAt
set_option maxRecDepth 20000 in
theorem ggX1_snowHolds_X7_isBetween : GoodIn wsX1_snowHolds wsX7_isBetween := goodIn_r _ [43] (by decide +kernel) (by decide +kernel)
set_option maxRecDepth 20000 in
theorem gX1_snowHolds_X7_isBetween_n88 : GoodIn wsX1_snowHolds (wsX7_isBetween) := ggX1_snowHolds_X7_isBetween
theorem dX1_snowHolds_0 : decode cX1_snowHolds 0 = .ok (.iconst 0, 1) := by decide +kernel
theorem dX1_snowHolds_1 : decode cX1_snowHolds 1 = .ok (.istore_n 3, 1) := by decide +kernel
theorem dX1_snowHolds_2 : decode cX1_snowHolds 2 = .ok (.iload_n 3, 1) := by decide +kernel
theorem dX1_snowHolds_3 : decode cX1_snowHolds 3 = .ok (.bipush 6, 2) := by decide +kernel
theorem dX1_snowHolds_5 : decode cX1_snowHolds 5 = .ok (.if_icmp .ge 50, 3) := by decide +kernel
theorem dX1_snowHolds_8 : decode cX1_snowHolds 8 = .ok (.aload_n 0, 1) := by decide +kernel
theorem dX1_snowHolds_9 : decode cX1_snowHolds 9 = .ok (.getfield 15, 3) := by decide +kernel
theorem dX1_snowHolds_12 : decode cX1_snowHolds 12 = .ok (.invokevirtual 95, 3) := by decide +kernel
theorem dX1_snowHolds_15 : decode cX1_snowHolds 15 = .ok (.iload_n 3, 1) := by decide +kernel
theorem dX1_snowHolds_16 : decode cX1_snowHolds 16 = .ok (.iadd, 1) := by decide +kernel
theorem dX1_snowHolds_17 : decode cX1_snowHolds 17 = .ok (.istore 4, 2) := by decide +kernel
theorem dX1_snowHolds_19 : decode cX1_snowHolds 19 = .ok (.aload_n 0, 1) := by decide +kernel
theorem dX1_snowHolds_20 : decode cX1_snowHolds 20 = .ok (.getfield 15, 3) := by decide +kernel
theorem dX1_snowHolds_23 : decode cX1_snowHolds 23 = .ok (.iload_n 1, 1) := by decide +kernel
theorem dX1_snowHolds_24 : decode cX1_snowHolds 24 = .ok (.iload 4, 2) := by decide +kernel
theorem dX1_snowHolds_26 : decode cX1_snowHolds 26 = .ok (.invokevirtual 98, 3) := by decide +kernel
theorem dX1_snowHolds_29 : decode cX1_snowHolds 29 = .ok (.iload_n 2, 1) := by decide +kernel
theorem dX1_snowHolds_30 : decode cX1_snowHolds 30 = .ok (.iadd, 1) := by decide +kernel
theorem dX1_snowHolds_31 : decode cX1_snowHolds 31 = .ok (.iconst 1, 1) := by decide +kernel
theorem dX1_snowHolds_32 : decode cX1_snowHolds 32 = .ok (.aload_n 0, 1) := by decide +kernel
theorem dX1_snowHolds_33 : decode cX1_snowHolds 33 = .ok (.getfield 9, 3) := by decide +kernel
theorem dX1_snowHolds_36 : decode cX1_snowHolds 36 = .ok (.iload 4, 2) := by decide +kernel
theorem dX1_snowHolds_38 : decode cX1_snowHolds 38 = .ok (.invokevirtual 101, 3) := by decide +kernel
theorem dX1_snowHolds_41 : decode cX1_snowHolds 41 = .ok (.invokestatic 88, 3) := by decide +kernel
theorem dX1_snowHolds_44 : decode cX1_snowHolds 44 = .ok (.ifCond .ne 5, 3) := by decide +kernel
theorem dX1_snowHolds_47 : decode cX1_snowHolds 47 = .ok (.iconst 0, 1) := by decide +kernel
theorem dX1_snowHolds_48 : decode cX1_snowHolds 48 = .ok (.ireturn, 1) := by decide +kernel
theorem dX1_snowHolds_49 : decode cX1_snowHolds 49 = .ok (.iinc 3 1, 3) := by decide +kernel
theorem dX1_snowHolds_52 : decode cX1_snowHolds 52 = .ok (.goto (-50), 3) := by decide +kernel
theorem dX1_snowHolds_55 : decode cX1_snowHolds 55 = .ok (.iconst 1, 1) := by decide +kernel
theorem dX1_snowHolds_56 : decode cX1_snowHolds 56 = .ok (.ireturn, 1) := by decide +kernel
set_option maxRecDepth 20000 in
theorem ggX1_drillsOfOthers_X3_size : GoodIn wsX1_drillsOfOthers wsX3_size := goodIn_r _ [7, 8, 69, 70, 71, 72, 73, 74] (by decide +kernel) (by decide +kernel)
set_option maxRecDepth 20000 in
theorem gX1_drillsOfOthers_X3_size : GoodIn wsX1_drillsOfOthers (wsV RX1 48 RX3 yX3_size wsX3_size) := goodIn_app (goodIn_of _ (by decide +kernel)) ggX1_drillsOfOthers_X3_size
set_option maxRecDepth 20000 in
theorem ggX1_drillsOfOthers_X6_isDown : GoodIn wsX1_drillsOfOthers wsX6_isDown := goodIn_r _ [13, 14, 75, 76, 77, 78, 79, 80] (by decide +kernel) (by decide +kernel)
set_option maxRecDepth 20000 in
theorem gX1_drillsOfOthers_X6_isDown : GoodIn wsX1_drillsOfOthers (wsV RX1 40 RX6 yX6_isDown wsX6_isDown) := goodIn_app (goodIn_of _ (by decide +kernel)) ggX1_drillsOfOthers_X6_isDown
set_option maxRecDepth 20000 in
theorem ggX1_drillsOfOthers_X3_kindOf : GoodIn wsX1_drillsOfOthers wsX3_kindOf := goodIn_r _ [18, 19, 20, 21, 22, 69, 70, 71, 72, 73, 74] (by decide +kernel) (by decide +kernel)
set_option maxRecDepth 20000 in
theorem gX1_drillsOfOthers_X3_kindOf : GoodIn wsX1_drillsOfOthers (wsV RX1 104 RX3 yX3_kindOf wsX3_kindOf) := goodIn_app (goodIn_of _ (by decide +kernel)) ggX1_drillsOfOthers_X3_kindOf
set_option maxRecDepth 20000 in
theorem ggX1_drillsOfOthers_X1_drillsToTreadAs : GoodIn wsX1_drillsOfOthers wsX1_drillsToTreadAs := goodIn_r _ [27, 28, 29, 30, 31, 32, 33, 34, 26, 35, 2, 36, 37, 38, 12, 39, 40, 41, 42, 43, 44, 45, 46, 16, 17, 6, 18, 19, 20, 21, 22, 47, 48, 49, 50, 51, 52, 53, 54, 55, 56, 57, 58, 59, 60, 61, 62, 63, 64, 65, 66, 67, 68, 75, 76, 77, 78, 79, 80, 69, 70, 71, 72, 73, 74] (by decide +kernel) (by decide +kernel)
set_option maxRecDepth 20000 in
theorem gX1_drillsOfOthers_X1_drillsToTreadAs : GoodIn wsX1_drillsOfOthers (wsV RX1 107 RX1 yX1_drillsToTreadAs wsX1_drillsToTreadAs) := goodIn_app (goodIn_of _ (by decide +kernel)) ggX1_drillsOfOthers_X1_drillsToTreadAs
theorem dX1_drillsOfOthers_0 : decode cX1_drillsOfOthers 0 = .ok (.iconst 0, 1) := by decide +kernel
theorem dX1_drillsOfOthers_1 : decode cX1_drillsOfOthers 1 = .ok (.istore_n 3, 1) := by decide +kernel
theorem dX1_drillsOfOthers_2 : decode cX1_drillsOfOthers 2 = .ok (.iconst 0, 1) := by decide +kernel
theorem dX1_drillsOfOthers_3 : decode cX1_drillsOfOthers 3 = .ok (.istore 4, 2) := by decide +kernel
theorem dX1_drillsOfOthers_5 : decode cX1_drillsOfOthers 5 = .ok (.iload 4, 2) := by decide +kernel
theorem dX1_drillsOfOthers_7 : decode cX1_drillsOfOthers 7 = .ok (.aload_n 0, 1) := by decide +kernel
theorem dX1_drillsOfOthers_8 : decode cX1_drillsOfOthers 8 = .ok (.getfield 9, 3) := by decide +kernel
theorem dX1_drillsOfOthers_11 : decode cX1_drillsOfOthers 11 = .ok (.invokevirtual 48, 3) := by decide +kernel
theorem dX1_drillsOfOthers_14 : decode cX1_drillsOfOthers 14 = .ok (.if_icmp .ge 51, 3) := by decide +kernel
theorem dX1_drillsOfOthers_17 : decode cX1_drillsOfOthers 17 = .ok (.iload 4, 2) := by decide +kernel
theorem dX1_drillsOfOthers_19 : decode cX1_drillsOfOthers 19 = .ok (.iload_n 1, 1) := by decide +kernel
theorem dX1_drillsOfOthers_20 : decode cX1_drillsOfOthers 20 = .ok (.if_icmp .eq 39, 3) := by decide +kernel
theorem dX1_drillsOfOthers_23 : decode cX1_drillsOfOthers 23 = .ok (.aload_n 0, 1) := by decide +kernel
theorem dX1_drillsOfOthers_24 : decode cX1_drillsOfOthers 24 = .ok (.getfield 15, 3) := by decide +kernel
theorem dX1_drillsOfOthers_27 : decode cX1_drillsOfOthers 27 = .ok (.iload 4, 2) := by decide +kernel
theorem dX1_drillsOfOthers_29 : decode cX1_drillsOfOthers 29 = .ok (.invokevirtual 40, 3) := by decide +kernel
theorem dX1_drillsOfOthers_32 : decode cX1_drillsOfOthers 32 = .ok (.ifCond .ne 27, 3) := by decide +kernel
theorem dX1_drillsOfOthers_35 : decode cX1_drillsOfOthers 35 = .ok (.aload_n 0, 1) := by decide +kernel
theorem dX1_drillsOfOthers_36 : decode cX1_drillsOfOthers 36 = .ok (.getfield 9, 3) := by decide +kernel
theorem dX1_drillsOfOthers_39 : decode cX1_drillsOfOthers 39 = .ok (.iload 4, 2) := by decide +kernel
theorem dX1_drillsOfOthers_41 : decode cX1_drillsOfOthers 41 = .ok (.invokevirtual 104, 3) := by decide +kernel
theorem dX1_drillsOfOthers_44 : decode cX1_drillsOfOthers 44 = .ok (.iconst 2, 1) := by decide +kernel
theorem dX1_drillsOfOthers_45 : decode cX1_drillsOfOthers 45 = .ok (.if_icmp .eq 14, 3) := by decide +kernel
theorem dX1_drillsOfOthers_48 : decode cX1_drillsOfOthers 48 = .ok (.iload_n 3, 1) := by decide +kernel
theorem dX1_drillsOfOthers_49 : decode cX1_drillsOfOthers 49 = .ok (.aload_n 0, 1) := by decide +kernel
theorem dX1_drillsOfOthers_50 : decode cX1_drillsOfOthers 50 = .ok (.iload 4, 2) := by decide +kernel
theorem dX1_drillsOfOthers_52 : decode cX1_drillsOfOthers 52 = .ok (.iload_n 1, 1) := by decide +kernel
theorem dX1_drillsOfOthers_53 : decode cX1_drillsOfOthers 53 = .ok (.iload_n 2, 1) := by decide +kernel
theorem dX1_drillsOfOthers_54 : decode cX1_drillsOfOthers 54 = .ok (.invokevirtual 107, 3) := by decide +kernel
theorem dX1_drillsOfOthers_57 : decode cX1_drillsOfOthers 57 = .ok (.iadd, 1) := by decide +kernel
theorem dX1_drillsOfOthers_58 : decode cX1_drillsOfOthers 58 = .ok (.istore_n 3, 1) := by decide +kernel
theorem dX1_drillsOfOthers_59 : decode cX1_drillsOfOthers 59 = .ok (.iinc 4 1, 3) := by decide +kernel
theorem dX1_drillsOfOthers_62 : decode cX1_drillsOfOthers 62 = .ok (.goto (-57), 3) := by decide +kernel
theorem dX1_drillsOfOthers_65 : decode cX1_drillsOfOthers 65 = .ok (.iload_n 3, 1) := by decide +kernel
theorem dX1_drillsOfOthers_66 : decode cX1_drillsOfOthers 66 = .ok (.ireturn, 1) := by decide +kernel
set_option maxRecDepth 20000 in
theorem ggX1_drillsToTreadAs_X1_apart : GoodIn wsX1_drillsToTreadAs wsX1_apart := goodIn_r _ [9, 10, 11, 12, 13, 14, 15, 16, 17, 18, 19, 20, 21, 22, 23, 24, 25, 26, 27, 28, 29, 30, 31, 32, 33, 34, 35, 36, 37, 38, 39, 40, 41, 42, 50, 51, 52, 53, 54, 55, 56, 57, 58, 59, 60, 61, 62, 63, 64] (by decide +kernel) (by decide +kernel)
set_option maxRecDepth 20000 in
theorem gX1_drillsToTreadAs_X1_apart : GoodIn wsX1_drillsToTreadAs (wsV RX1 111 RX1 yX1_apart wsX1_apart) := goodIn_app (goodIn_of _ (by decide +kernel)) ggX1_drillsToTreadAs_X1_apart
set_option maxRecDepth 20000 in
theorem ggX1_drillsToTreadAs_X1_canDrillBy : GoodIn wsX1_drillsToTreadAs wsX1_canDrillBy := goodIn_r _ [46, 10, 47, 29, 48, 49, 32, 33, 14, 34, 35, 28, 30, 50, 51, 52, 53, 54, 55, 56, 57, 58] (by decide +kernel) (by decide +kernel)
set_option maxRecDepth 20000 in
theorem gX1_drillsToTreadAs_X1_canDrillBy : GoodIn wsX1_drillsToTreadAs (wsV RX1 69 RX1 yX1_canDrillBy wsX1_canDrillBy) := goodIn_app (goodIn_of _ (by decide +kernel)) ggX1_drillsToTreadAs_X1_canDrillBy
theorem dX1_drillsToTreadAs_0 : decode cX1_drillsToTreadAs 0 = .ok (.aload_n 0, 1) := by decide +kernel
theorem dX1_drillsToTreadAs_1 : decode cX1_drillsToTreadAs 1 = .ok (.iload_n 1, 1) := by decide +kernel
theorem dX1_drillsToTreadAs_2 : decode cX1_drillsToTreadAs 2 = .ok (.iload_n 2, 1) := by decide +kernel
theorem dX1_drillsToTreadAs_3 : decode cX1_drillsToTreadAs 3 = .ok (.iconst 0, 1) := by decide +kernel
theorem dX1_drillsToTreadAs_4 : decode cX1_drillsToTreadAs 4 = .ok (.invokevirtual 111, 3) := by decide +kernel
theorem dX1_drillsToTreadAs_7 : decode cX1_drillsToTreadAs 7 = .ok (.iload_n 3, 1) := by decide +kernel
theorem dX1_drillsToTreadAs_8 : decode cX1_drillsToTreadAs 8 = .ok (.iadd, 1) := by decide +kernel
theorem dX1_drillsToTreadAs_9 : decode cX1_drillsToTreadAs 9 = .ok (.istore 4, 2) := by decide +kernel
theorem dX1_drillsToTreadAs_11 : decode cX1_drillsToTreadAs 11 = .ok (.iconst 1, 1) := by decide +kernel
theorem dX1_drillsToTreadAs_12 : decode cX1_drillsToTreadAs 12 = .ok (.istore 5, 2) := by decide +kernel
theorem dX1_drillsToTreadAs_14 : decode cX1_drillsToTreadAs 14 = .ok (.iload 5, 2) := by decide +kernel
theorem dX1_drillsToTreadAs_16 : decode cX1_drillsToTreadAs 16 = .ok (.bipush 6, 2) := by decide +kernel
theorem dX1_drillsToTreadAs_18 : decode cX1_drillsToTreadAs 18 = .ok (.if_icmp .ge 27, 3) := by decide +kernel
theorem dX1_drillsToTreadAs_21 : decode cX1_drillsToTreadAs 21 = .ok (.aload_n 0, 1) := by decide +kernel
theorem dX1_drillsToTreadAs_22 : decode cX1_drillsToTreadAs 22 = .ok (.iload_n 1, 1) := by decide +kernel
theorem dX1_drillsToTreadAs_23 : decode cX1_drillsToTreadAs 23 = .ok (.iload_n 2, 1) := by decide +kernel
theorem dX1_drillsToTreadAs_24 : decode cX1_drillsToTreadAs 24 = .ok (.iload 5, 2) := by decide +kernel
theorem dX1_drillsToTreadAs_26 : decode cX1_drillsToTreadAs 26 = .ok (.invokevirtual 111, 3) := by decide +kernel
theorem dX1_drillsToTreadAs_29 : decode cX1_drillsToTreadAs 29 = .ok (.iload_n 3, 1) := by decide +kernel
theorem dX1_drillsToTreadAs_30 : decode cX1_drillsToTreadAs 30 = .ok (.iadd, 1) := by decide +kernel
theorem dX1_drillsToTreadAs_31 : decode cX1_drillsToTreadAs 31 = .ok (.iload 4, 2) := by decide +kernel
theorem dX1_drillsToTreadAs_33 : decode cX1_drillsToTreadAs 33 = .ok (.if_icmp .eq 6, 3) := by decide +kernel
theorem dX1_drillsToTreadAs_36 : decode cX1_drillsToTreadAs 36 = .ok (.bipush 11, 2) := by decide +kernel
theorem dX1_drillsToTreadAs_38 : decode cX1_drillsToTreadAs 38 = .ok (.ireturn, 1) := by decide +kernel
theorem dX1_drillsToTreadAs_39 : decode cX1_drillsToTreadAs 39 = .ok (.iinc 5 1, 3) := by decide +kernel
theorem dX1_drillsToTreadAs_42 : decode cX1_drillsToTreadAs 42 = .ok (.goto (-28), 3) := by decide +kernel
theorem dX1_drillsToTreadAs_45 : decode cX1_drillsToTreadAs 45 = .ok (.aload_n 0, 1) := by decide +kernel
theorem dX1_drillsToTreadAs_46 : decode cX1_drillsToTreadAs 46 = .ok (.iload_n 1, 1) := by decide +kernel
theorem dX1_drillsToTreadAs_47 : decode cX1_drillsToTreadAs 47 = .ok (.iload 4, 2) := by decide +kernel
theorem dX1_drillsToTreadAs_49 : decode cX1_drillsToTreadAs 49 = .ok (.invokevirtual 69, 3) := by decide +kernel
theorem dX1_drillsToTreadAs_52 : decode cX1_drillsToTreadAs 52 = .ok (.ifCond .eq 11, 3) := by decide +kernel
theorem dX1_drillsToTreadAs_55 : decode cX1_drillsToTreadAs 55 = .ok (.iload 4, 2) := by decide +kernel
theorem dX1_drillsToTreadAs_57 : decode cX1_drillsToTreadAs 57 = .ok (.invokestatic 76, 3) := by decide +kernel
theorem dX1_drillsToTreadAs_60 : decode cX1_drillsToTreadAs 60 = .ok (.goto 5, 3) := by decide +kernel
theorem dX1_drillsToTreadAs_63 : decode cX1_drillsToTreadAs 63 = .ok (.bipush 11, 2) := by decide +kernel
theorem dX1_drillsToTreadAs_65 : decode cX1_drillsToTreadAs 65 = .ok (.ireturn, 1) := by decide +kernel
set_option maxRecDepth 20000 in
theorem ggX1_apart_X6_stepNumber : GoodIn wsX1_apart wsX6_stepNumber := goodIn_r _ [6, 7, 37, 38, 39, 40, 41, 42] (by decide +kernel) (by decide +kernel)
set_option maxRecDepth 20000 in
theorem gX1_apart_X6_stepNumber : GoodIn wsX1_apart (wsV RX1 95 RX6 yX6_stepNumber wsX6_stepNumber) := goodIn_app (goodIn_of _ (by decide +kernel)) ggX1_apart_X6_stepNumber
set_option maxRecDepth 20000 in
theorem ggX1_apart_X6_treadOfOne : GoodIn wsX1_apart wsX6_treadOfOne := goodIn_r _ [11, 12, 13, 14, 15, 16, 17, 18, 19, 20, 21, 22, 23, 24, 5, 25, 26, 27, 28, 29, 30, 31, 32, 33, 37, 38, 39, 40, 41, 42, 43, 44, 45, 46, 47, 48] (by decide +kernel) (by decide +kernel)
set_option maxRecDepth 20000 in
theorem gX1_apart_X6_treadOfOne : GoodIn wsX1_apart (wsV RX1 98 RX6 yX6_treadOfOne wsX6_treadOfOne) := goodIn_app (goodIn_of _ (by decide +kernel)) ggX1_apart_X6_treadOfOne
theorem dX1_apart_0 : decode cX1_apart 0 = .ok (.aload_n 0, 1) := by decide +kernel
theorem dX1_apart_1 : decode cX1_apart 1 = .ok (.getfield 15, 3) := by decide +kernel
theorem dX1_apart_4 : decode cX1_apart 4 = .ok (.invokevirtual 95, 3) := by decide +kernel
theorem dX1_apart_7 : decode cX1_apart 7 = .ok (.iload_n 3, 1) := by decide +kernel
theorem dX1_apart_8 : decode cX1_apart 8 = .ok (.iadd, 1) := by decide +kernel
theorem dX1_apart_9 : decode cX1_apart 9 = .ok (.istore 4, 2) := by decide +kernel
theorem dX1_apart_11 : decode cX1_apart 11 = .ok (.aload_n 0, 1) := by decide +kernel
theorem dX1_apart_12 : decode cX1_apart 12 = .ok (.getfield 15, 3) := by decide +kernel
theorem dX1_apart_15 : decode cX1_apart 15 = .ok (.iload_n 2, 1) := by decide +kernel
theorem dX1_apart_16 : decode cX1_apart 16 = .ok (.iload 4, 2) := by decide +kernel
theorem dX1_apart_18 : decode cX1_apart 18 = .ok (.invokevirtual 98, 3) := by decide +kernel
theorem dX1_apart_21 : decode cX1_apart 21 = .ok (.aload_n 0, 1) := by decide +kernel
theorem dX1_apart_22 : decode cX1_apart 22 = .ok (.getfield 15, 3) := by decide +kernel
theorem dX1_apart_25 : decode cX1_apart 25 = .ok (.iload_n 1, 1) := by decide +kernel
theorem dX1_apart_26 : decode cX1_apart 26 = .ok (.iload 4, 2) := by decide +kernel
theorem dX1_apart_28 : decode cX1_apart 28 = .ok (.invokevirtual 98, 3) := by decide +kernel
theorem dX1_apart_31 : decode cX1_apart 31 = .ok (.isub, 1) := by decide +kernel
theorem dX1_apart_32 : decode cX1_apart 32 = .ok (.ireturn, 1) := by decide +kernel
set_option maxRecDepth 20000 in
theorem ggX1_meeting_X1_apart : GoodIn wsX1_meeting wsX1_apart := goodIn_r _ [5, 6, 7, 8, 9, 10, 11, 12, 13, 14, 15, 16, 17, 18, 19, 20, 21, 22, 23, 24, 25, 26, 27, 28, 29, 30, 31, 32, 33, 34, 35, 36, 37, 38, 39, 40, 41, 42, 43, 44, 45, 46, 47, 48, 49, 50, 51, 52, 53] (by decide +kernel) (by decide +kernel)
set_option maxRecDepth 20000 in
theorem gX1_meeting_X1_apart : GoodIn wsX1_meeting (wsV RX1 111 RX1 yX1_apart wsX1_apart) := goodIn_app (goodIn_of _ (by decide +kernel)) ggX1_meeting_X1_apart
theorem dX1_meeting_0 : decode cX1_meeting 0 = .ok (.iconst 0, 1) := by decide +kernel
theorem dX1_meeting_1 : decode cX1_meeting 1 = .ok (.istore_n 3, 1) := by decide +kernel
theorem dX1_meeting_2 : decode cX1_meeting 2 = .ok (.iload_n 3, 1) := by decide +kernel
theorem dX1_meeting_3 : decode cX1_meeting 3 = .ok (.bipush 24, 2) := by decide +kernel
theorem dX1_meeting_5 : decode cX1_meeting 5 = .ok (.if_icmp .gt 21, 3) := by decide +kernel
theorem dX1_meeting_8 : decode cX1_meeting 8 = .ok (.aload_n 0, 1) := by decide +kernel
theorem dX1_meeting_9 : decode cX1_meeting 9 = .ok (.iload_n 1, 1) := by decide +kernel
theorem dX1_meeting_10 : decode cX1_meeting 10 = .ok (.iload_n 2, 1) := by decide +kernel
theorem dX1_meeting_11 : decode cX1_meeting 11 = .ok (.iload_n 3, 1) := by decide +kernel
theorem dX1_meeting_12 : decode cX1_meeting 12 = .ok (.invokevirtual 111, 3) := by decide +kernel
theorem dX1_meeting_15 : decode cX1_meeting 15 = .ok (.ifCond .ne 5, 3) := by decide +kernel
theorem dX1_meeting_18 : decode cX1_meeting 18 = .ok (.iload_n 3, 1) := by decide +kernel
theorem dX1_meeting_19 : decode cX1_meeting 19 = .ok (.ireturn, 1) := by decide +kernel
theorem dX1_meeting_20 : decode cX1_meeting 20 = .ok (.iinc 3 1, 3) := by decide +kernel
theorem dX1_meeting_23 : decode cX1_meeting 23 = .ok (.goto (-21), 3) := by decide +kernel
theorem dX1_meeting_26 : decode cX1_meeting 26 = .ok (.bipush (-9), 2) := by decide +kernel
theorem dX1_meeting_28 : decode cX1_meeting 28 = .ok (.ireturn, 1) := by decide +kernel
set_option maxRecDepth 20000 in
theorem ggX1_likedTread_X6_stepNumber : GoodIn wsX1_likedTread wsX6_stepNumber := goodIn_r _ [11, 12, 24, 25, 26, 27, 28, 29] (by decide +kernel) (by decide +kernel)
set_option maxRecDepth 20000 in
theorem gX1_likedTread_X6_stepNumber : GoodIn wsX1_likedTread (wsV RX1 95 RX6 yX6_stepNumber wsX6_stepNumber) := goodIn_app (goodIn_of _ (by decide +kernel)) ggX1_likedTread_X6_stepNumber
set_option maxRecDepth 20000 in
theorem ggX1_likedTread_X3_snowAt : GoodIn wsX1_likedTread wsX3_snowAt := goodIn_r _ [17, 18, 19, 20, 30, 31, 32, 33, 34, 35] (by decide +kernel) (by decide +kernel)
set_option maxRecDepth 20000 in
theorem gX1_likedTread_X3_snowAt : GoodIn wsX1_likedTread (wsV RX1 101 RX3 yX3_snowAt wsX3_snowAt) := goodIn_app (goodIn_of _ (by decide +kernel)) ggX1_likedTread_X3_snowAt
theorem dX1_likedTread_0 : decode cX1_likedTread 0 = .ok (.bipush 9, 2) := by decide +kernel
theorem dX1_likedTread_2 : decode cX1_likedTread 2 = .ok (.istore_n 1, 1) := by decide +kernel
theorem dX1_likedTread_3 : decode cX1_likedTread 3 = .ok (.iconst 0, 1) := by decide +kernel
theorem dX1_likedTread_4 : decode cX1_likedTread 4 = .ok (.istore_n 2, 1) := by decide +kernel
theorem dX1_likedTread_5 : decode cX1_likedTread 5 = .ok (.iload_n 2, 1) := by decide +kernel
theorem dX1_likedTread_6 : decode cX1_likedTread 6 = .ok (.bipush 6, 2) := by decide +kernel
theorem dX1_likedTread_8 : decode cX1_likedTread 8 = .ok (.if_icmp .ge 30, 3) := by decide +kernel
theorem dX1_likedTread_11 : decode cX1_likedTread 11 = .ok (.iload_n 1, 1) := by decide +kernel
theorem dX1_likedTread_12 : decode cX1_likedTread 12 = .ok (.aload_n 0, 1) := by decide +kernel
theorem dX1_likedTread_13 : decode cX1_likedTread 13 = .ok (.getfield 9, 3) := by decide +kernel
theorem dX1_likedTread_16 : decode cX1_likedTread 16 = .ok (.aload_n 0, 1) := by decide +kernel
theorem dX1_likedTread_17 : decode cX1_likedTread 17 = .ok (.getfield 15, 3) := by decide +kernel
theorem dX1_likedTread_20 : decode cX1_likedTread 20 = .ok (.invokevirtual 95, 3) := by decide +kernel
theorem dX1_likedTread_23 : decode cX1_likedTread 23 = .ok (.iload_n 2, 1) := by decide +kernel
theorem dX1_likedTread_24 : decode cX1_likedTread 24 = .ok (.iadd, 1) := by decide +kernel
theorem dX1_likedTread_25 : decode cX1_likedTread 25 = .ok (.invokevirtual 101, 3) := by decide +kernel
theorem dX1_likedTread_28 : decode cX1_likedTread 28 = .ok (.invokestatic 85, 3) := by decide +kernel
theorem dX1_likedTread_31 : decode cX1_likedTread 31 = .ok (.istore_n 1, 1) := by decide +kernel
theorem dX1_likedTread_32 : decode cX1_likedTread 32 = .ok (.iinc 2 1, 3) := by decide +kernel
theorem dX1_likedTread_35 : decode cX1_likedTread 35 = .ok (.goto (-30), 3) := by decide +kernel
theorem dX1_likedTread_38 : decode cX1_likedTread 38 = .ok (.iload_n 1, 1) := by decide +kernel
theorem dX1_likedTread_39 : decode cX1_likedTread 39 = .ok (.ireturn, 1) := by decide +kernel
set_option maxRecDepth 20000 in
theorem ggX1_firstUndoable_X6_copyFrom : GoodIn wsX1_firstUndoable wsX6_copyFrom := goodIn_r _ [8, 9, 10, 11, 12, 13, 14, 15, 16, 17, 18, 115, 116, 117, 118, 119, 120] (by decide +kernel) (by decide +kernel)
set_option maxRecDepth 20000 in
theorem gX1_firstUndoable_X6_copyFrom : GoodIn wsX1_firstUndoable (wsV RX1 22 RX6 yX6_copyFrom wsX6_copyFrom) := goodIn_app (goodIn_of _ (by decide +kernel)) ggX1_firstUndoable_X6_copyFrom
set_option maxRecDepth 20000 in
theorem ggX1_firstUndoable_X1_tryDoing : GoodIn wsX1_firstUndoable wsX1_tryDoing := goodIn_r _ [23, 1, 24, 25, 26, 27, 7, 28, 29, 13, 12, 30, 31, 32, 33, 34, 35, 36, 37, 38, 39, 40, 41, 42, 43, 44, 45, 46, 9, 14, 15, 16, 47, 48, 49, 50, 51, 52, 53, 54, 55, 56, 57, 58, 59, 60, 61, 62, 63, 10, 64, 65, 66, 67, 68, 69, 70, 71, 72, 73, 74, 75, 76, 77, 78, 79, 80, 17, 18, 81, 82, 83, 84, 11, 85, 86, 87, 88, 89, 90, 91, 92, 93, 94, 95, 96, 97, 98, 99, 100, 101, 102, 103, 104, 105, 106, 107, 108, 109, 110, 111, 112, 113, 114, 115, 116, 117, 118, 119, 120, 121, 122, 123, 124, 125, 126] (by decide +kernel) (by decide +kernel)
set_option maxRecDepth 20000 in
theorem gX1_firstUndoable_X1_tryDoing : GoodIn wsX1_firstUndoable (wsV RX1 116 RX1 yX1_tryDoing wsX1_tryDoing) := goodIn_app (goodIn_of _ (by decide +kernel)) ggX1_firstUndoable_X1_tryDoing
theorem dX1_firstUndoable_0 : decode cX1_firstUndoable 0 = .ok (.aload_n 0, 1) := by decide +kernel
theorem dX1_firstUndoable_1 : decode cX1_firstUndoable 1 = .ok (.getfield 19, 3) := by decide +kernel
theorem dX1_firstUndoable_4 : decode cX1_firstUndoable 4 = .ok (.aload_n 0, 1) := by decide +kernel
theorem dX1_firstUndoable_5 : decode cX1_firstUndoable 5 = .ok (.getfield 15, 3) := by decide +kernel
theorem dX1_firstUndoable_8 : decode cX1_firstUndoable 8 = .ok (.invokevirtual 22, 3) := by decide +kernel
theorem dX1_firstUndoable_11 : decode cX1_firstUndoable 11 = .ok (.iconst 0, 1) := by decide +kernel
theorem dX1_firstUndoable_12 : decode cX1_firstUndoable 12 = .ok (.istore 5, 2) := by decide +kernel
theorem dX1_firstUndoable_14 : decode cX1_firstUndoable 14 = .ok (.lload_n 1, 1) := by decide +kernel
theorem dX1_firstUndoable_15 : decode cX1_firstUndoable 15 = .ok (.ldc2_w 114, 3) := by decide +kernel
theorem dX1_firstUndoable_18 : decode cX1_firstUndoable 18 = .ok (.ldiv, 1) := by decide +kernel
theorem dX1_firstUndoable_19 : decode cX1_firstUndoable 19 = .ok (.lstore 6, 2) := by decide +kernel
theorem dX1_firstUndoable_21 : decode cX1_firstUndoable 21 = .ok (.lload 6, 2) := by decide +kernel
theorem dX1_firstUndoable_23 : decode cX1_firstUndoable 23 = .ok (.lconst 0, 1) := by decide +kernel
theorem dX1_firstUndoable_24 : decode cX1_firstUndoable 24 = .ok (.lcmp, 1) := by decide +kernel
theorem dX1_firstUndoable_25 : decode cX1_firstUndoable 25 = .ok (.ifCond .le 36, 3) := by decide +kernel
theorem dX1_firstUndoable_28 : decode cX1_firstUndoable 28 = .ok (.aload_n 0, 1) := by decide +kernel
theorem dX1_firstUndoable_29 : decode cX1_firstUndoable 29 = .ok (.lload_n 3, 1) := by decide +kernel
theorem dX1_firstUndoable_30 : decode cX1_firstUndoable 30 = .ok (.lload 6, 2) := by decide +kernel
theorem dX1_firstUndoable_32 : decode cX1_firstUndoable 32 = .ok (.ldiv, 1) := by decide +kernel
theorem dX1_firstUndoable_33 : decode cX1_firstUndoable 33 = .ok (.ldc2_w 114, 3) := by decide +kernel
theorem dX1_firstUndoable_36 : decode cX1_firstUndoable 36 = .ok (.lrem, 1) := by decide +kernel
theorem dX1_firstUndoable_37 : decode cX1_firstUndoable 37 = .ok (.l2i, 1) := by decide +kernel
theorem dX1_firstUndoable_38 : decode cX1_firstUndoable 38 = .ok (.invokevirtual 116, 3) := by decide +kernel
theorem dX1_firstUndoable_41 : decode cX1_firstUndoable 41 = .ok (.ifCond .ne 6, 3) := by decide +kernel
theorem dX1_firstUndoable_44 : decode cX1_firstUndoable 44 = .ok (.iload 5, 2) := by decide +kernel
theorem dX1_firstUndoable_46 : decode cX1_firstUndoable 46 = .ok (.ireturn, 1) := by decide +kernel
theorem dX1_firstUndoable_47 : decode cX1_firstUndoable 47 = .ok (.iinc 5 1, 3) := by decide +kernel
theorem dX1_firstUndoable_50 : decode cX1_firstUndoable 50 = .ok (.lload 6, 2) := by decide +kernel
theorem dX1_firstUndoable_52 : decode cX1_firstUndoable 52 = .ok (.ldc2_w 114, 3) := by decide +kernel
theorem dX1_firstUndoable_55 : decode cX1_firstUndoable 55 = .ok (.ldiv, 1) := by decide +kernel
theorem dX1_firstUndoable_56 : decode cX1_firstUndoable 56 = .ok (.lstore 6, 2) := by decide +kernel
theorem dX1_firstUndoable_58 : decode cX1_firstUndoable 58 = .ok (.goto (-37), 3) := by decide +kernel
theorem dX1_firstUndoable_61 : decode cX1_firstUndoable 61 = .ok (.bipush (-9), 2) := by decide +kernel
theorem dX1_firstUndoable_63 : decode cX1_firstUndoable 63 = .ok (.ireturn, 1) := by decide +kernel
set_option maxRecDepth 20000 in
theorem ggX1_tryDoing_X6_takeStep : GoodIn wsX1_tryDoing wsX6_takeStep := goodIn_r _ [7, 8, 9, 10, 11, 12, 13, 14, 15, 16, 17, 18, 19, 20, 21, 22, 23, 24, 25, 26, 6, 27, 28, 29, 30, 31, 32, 33, 34, 35, 36, 37, 38, 39, 40, 41, 42, 43, 44, 45, 46, 47, 48, 49, 50, 51, 52, 53, 54, 55, 56, 57, 58, 104, 105, 106, 107, 108, 109, 110, 111, 112, 113, 114, 115] (by decide +kernel) (by decide +kernel)
set_option maxRecDepth 20000 in
theorem gX1_tryDoing_X6_takeStep : GoodIn wsX1_tryDoing (wsV RX1 36 RX6 yX6_takeStep wsX6_takeStep) := goodIn_app (goodIn_of _ (by decide +kernel)) ggX1_tryDoing_X6_takeStep
set_option maxRecDepth 20000 in
theorem ggX1_tryDoing_X6_trySwap : GoodIn wsX1_tryDoing wsX6_trySwap := goodIn_r _ [62, 28, 63, 64, 65, 6, 66, 8, 19, 20, 21, 14, 22, 23, 24, 25, 26, 27, 29, 30, 31, 67, 68, 104, 105, 106, 107, 108, 109, 110, 111, 112, 113, 114, 115] (by decide +kernel) (by decide +kernel)
set_option maxRecDepth 20000 in
theorem gX1_tryDoing_X6_trySwap : GoodIn wsX1_tryDoing (wsV RX1 119 RX6 yX6_trySwap wsX6_trySwap) := goodIn_app (goodIn_of _ (by decide +kernel)) ggX1_tryDoing_X6_trySwap
set_option maxRecDepth 20000 in
theorem ggX1_tryDoing_X6_tryDrill : GoodIn wsX1_tryDoing wsX6_tryDrill := goodIn_r _ [72, 73, 74, 75, 76, 6, 77, 8, 78, 79, 80, 14, 81, 23, 32, 33, 34, 35, 10, 82, 83, 84, 85, 29, 30, 31, 45, 46, 47, 48, 49, 57, 58, 86, 87, 88, 89, 67, 68, 104, 105, 106, 107, 108, 109, 110, 111, 112, 113, 114, 115] (by decide +kernel) (by decide +kernel)
set_option maxRecDepth 20000 in
theorem gX1_tryDoing_X6_tryDrill : GoodIn wsX1_tryDoing (wsV RX1 122 RX6 yX6_tryDrill wsX6_tryDrill) := goodIn_app (goodIn_of _ (by decide +kernel)) ggX1_tryDoing_X6_tryDrill
set_option maxRecDepth 20000 in
theorem ggX1_tryDoing_X6_tryRescue : GoodIn wsX1_tryDoing wsX6_tryRescue := goodIn_r _ [93, 8, 10, 78, 79, 80, 14, 81, 23, 32, 33, 34, 6, 35, 94, 95, 96, 97, 19, 20, 21, 22, 24, 25, 26, 27, 28, 29, 30, 31, 98, 60, 61, 62, 63, 64, 65, 66, 67, 68, 104, 105, 106, 107, 108, 109, 110, 111, 112, 113, 114, 115] (by decide +kernel) (by decide +kernel)
set_option maxRecDepth 20000 in
theorem gX1_tryDoing_X6_tryRescue : GoodIn wsX1_tryDoing (wsV RX1 126 RX6 yX6_tryRescue wsX6_tryRescue) := goodIn_app (goodIn_of _ (by decide +kernel)) ggX1_tryDoing_X6_tryRescue
set_option maxRecDepth 20000 in
theorem ggX1_tryDoing_X3_has : GoodIn wsX1_tryDoing wsX3_has := goodIn_r _ [81, 23, 110, 111, 112, 113, 114, 115] (by decide +kernel) (by decide +kernel)
set_option maxRecDepth 20000 in
theorem gX1_tryDoing_X3_has : GoodIn wsX1_tryDoing (wsV RX1 129 RX3 yX3_has wsX3_has) := goodIn_app (goodIn_of _ (by decide +kernel)) ggX1_tryDoing_X3_has
set_option maxRecDepth 20000 in
theorem ggX1_tryDoing_X6_isDown : GoodIn wsX1_tryDoing wsX6_isDown := goodIn_r _ [35, 10, 104, 105, 106, 107, 108, 109] (by decide +kernel) (by decide +kernel)
set_option maxRecDepth 20000 in
theorem gX1_tryDoing_X6_isDown : GoodIn wsX1_tryDoing (wsV RX1 40 RX6 yX6_isDown wsX6_isDown) := goodIn_app (goodIn_of _ (by decide +kernel)) ggX1_tryDoing_X6_isDown
theorem dX1_tryDoing_0 : decode cX1_tryDoing 0 = .ok (.iload_n 1, 1) := by decide +kernel
theorem dX1_tryDoing_1 : decode cX1_tryDoing 1 = .ok (.bipush 100, 2) := by decide +kernel
theorem dX1_tryDoing_3 : decode cX1_tryDoing 3 = .ok (.idiv, 1) := by decide +kernel
theorem dX1_tryDoing_4 : decode cX1_tryDoing 4 = .ok (.istore_n 2, 1) := by decide +kernel
theorem dX1_tryDoing_5 : decode cX1_tryDoing 5 = .ok (.iload_n 1, 1) := by decide +kernel
theorem dX1_tryDoing_6 : decode cX1_tryDoing 6 = .ok (.bipush 10, 2) := by decide +kernel
theorem dX1_tryDoing_8 : decode cX1_tryDoing 8 = .ok (.idiv, 1) := by decide +kernel
theorem dX1_tryDoing_9 : decode cX1_tryDoing 9 = .ok (.bipush 10, 2) := by decide +kernel
theorem dX1_tryDoing_11 : decode cX1_tryDoing 11 = .ok (.irem, 1) := by decide +kernel
theorem dX1_tryDoing_12 : decode cX1_tryDoing 12 = .ok (.istore_n 3, 1) := by decide +kernel
theorem dX1_tryDoing_13 : decode cX1_tryDoing 13 = .ok (.iload_n 1, 1) := by decide +kernel
theorem dX1_tryDoing_14 : decode cX1_tryDoing 14 = .ok (.bipush 10, 2) := by decide +kernel
theorem dX1_tryDoing_16 : decode cX1_tryDoing 16 = .ok (.irem, 1) := by decide +kernel
theorem dX1_tryDoing_17 : decode cX1_tryDoing 17 = .ok (.istore 4, 2) := by decide +kernel
theorem dX1_tryDoing_19 : decode cX1_tryDoing 19 = .ok (.iload_n 2, 1) := by decide +kernel
theorem dX1_tryDoing_20 : decode cX1_tryDoing 20 = .ok (.iconst 2, 1) := by decide +kernel
theorem dX1_tryDoing_21 : decode cX1_tryDoing 21 = .ok (.if_icmp .eq 9, 3) := by decide +kernel
theorem dX1_tryDoing_24 : decode cX1_tryDoing 24 = .ok (.iload_n 3, 1) := by decide +kernel
theorem dX1_tryDoing_25 : decode cX1_tryDoing 25 = .ok (.ifCond .eq 5, 3) := by decide +kernel
theorem dX1_tryDoing_28 : decode cX1_tryDoing 28 = .ok (.iconst 0, 1) := by decide +kernel
theorem dX1_tryDoing_29 : decode cX1_tryDoing 29 = .ok (.ireturn, 1) := by decide +kernel
theorem dX1_tryDoing_30 : decode cX1_tryDoing 30 = .ok (.iload_n 2, 1) := by decide +kernel
theorem dX1_tryDoing_31 : decode cX1_tryDoing 31 = .ok (.tableswitch 139 0 4 #[33, 55, 65, 99, 109], 33) := by decide +kernel
theorem dX1_tryDoing_64 : decode cX1_tryDoing 64 = .ok (.iload 4, 2) := by decide +kernel
theorem dX1_tryDoing_66 : decode cX1_tryDoing 66 = .ok (.ifCond .ne 18, 3) := by decide +kernel
theorem dX1_tryDoing_69 : decode cX1_tryDoing 69 = .ok (.aload_n 0, 1) := by decide +kernel
theorem dX1_tryDoing_70 : decode cX1_tryDoing 70 = .ok (.getfield 19, 3) := by decide +kernel
theorem dX1_tryDoing_73 : decode cX1_tryDoing 73 = .ok (.iconst 0, 1) := by decide +kernel
theorem dX1_tryDoing_74 : decode cX1_tryDoing 74 = .ok (.invokevirtual 36, 3) := by decide +kernel
theorem dX1_tryDoing_77 : decode cX1_tryDoing 77 = .ok (.ifCond .lt 7, 3) := by decide +kernel
theorem dX1_tryDoing_80 : decode cX1_tryDoing 80 = .ok (.iconst 1, 1) := by decide +kernel
theorem dX1_tryDoing_81 : decode cX1_tryDoing 81 = .ok (.goto 4, 3) := by decide +kernel
theorem dX1_tryDoing_84 : decode cX1_tryDoing 84 = .ok (.iconst 0, 1) := by decide +kernel
theorem dX1_tryDoing_85 : decode cX1_tryDoing 85 = .ok (.ireturn, 1) := by decide +kernel
theorem dX1_tryDoing_86 : decode cX1_tryDoing 86 = .ok (.aload_n 0, 1) := by decide +kernel
theorem dX1_tryDoing_87 : decode cX1_tryDoing 87 = .ok (.getfield 19, 3) := by decide +kernel
theorem dX1_tryDoing_90 : decode cX1_tryDoing 90 = .ok (.iload 4, 2) := by decide +kernel
theorem dX1_tryDoing_92 : decode cX1_tryDoing 92 = .ok (.invokevirtual 119, 3) := by decide +kernel
theorem dX1_tryDoing_95 : decode cX1_tryDoing 95 = .ok (.ireturn, 1) := by decide +kernel
theorem dX1_tryDoing_96 : decode cX1_tryDoing 96 = .ok (.iload 4, 2) := by decide +kernel
theorem dX1_tryDoing_98 : decode cX1_tryDoing 98 = .ok (.iconst 1, 1) := by decide +kernel
theorem dX1_tryDoing_99 : decode cX1_tryDoing 99 = .ok (.if_icmp .gt 29, 3) := by decide +kernel
theorem dX1_tryDoing_102 : decode cX1_tryDoing 102 = .ok (.aload_n 0, 1) := by decide +kernel
theorem dX1_tryDoing_103 : decode cX1_tryDoing 103 = .ok (.getfield 19, 3) := by decide +kernel
theorem dX1_tryDoing_106 : decode cX1_tryDoing 106 = .ok (.iload_n 3, 1) := by decide +kernel
theorem dX1_tryDoing_107 : decode cX1_tryDoing 107 = .ok (.iload 4, 2) := by decide +kernel
theorem dX1_tryDoing_109 : decode cX1_tryDoing 109 = .ok (.iconst 1, 1) := by decide +kernel
theorem dX1_tryDoing_110 : decode cX1_tryDoing 110 = .ok (.if_icmp .ne 7, 3) := by decide +kernel
theorem dX1_tryDoing_113 : decode cX1_tryDoing 113 = .ok (.iconst 1, 1) := by decide +kernel
theorem dX1_tryDoing_114 : decode cX1_tryDoing 114 = .ok (.goto 4, 3) := by decide +kernel
theorem dX1_tryDoing_117 : decode cX1_tryDoing 117 = .ok (.iconst 0, 1) := by decide +kernel
theorem dX1_tryDoing_118 : decode cX1_tryDoing 118 = .ok (.invokevirtual 122, 3) := by decide +kernel
theorem dX1_tryDoing_121 : decode cX1_tryDoing 121 = .ok (.ifCond .eq 7, 3) := by decide +kernel
theorem dX1_tryDoing_124 : decode cX1_tryDoing 124 = .ok (.iconst 1, 1) := by decide +kernel
theorem dX1_tryDoing_125 : decode cX1_tryDoing 125 = .ok (.goto 4, 3) := by decide +kernel
theorem dX1_tryDoing_128 : decode cX1_tryDoing 128 = .ok (.iconst 0, 1) := by decide +kernel
theorem dX1_tryDoing_129 : decode cX1_tryDoing 129 = .ok (.ireturn, 1) := by decide +kernel
theorem dX1_tryDoing_130 : decode cX1_tryDoing 130 = .ok (.aload_n 0, 1) := by decide +kernel
theorem dX1_tryDoing_131 : decode cX1_tryDoing 131 = .ok (.getfield 19, 3) := by decide +kernel
theorem dX1_tryDoing_134 : decode cX1_tryDoing 134 = .ok (.iload 4, 2) := by decide +kernel
theorem dX1_tryDoing_136 : decode cX1_tryDoing 136 = .ok (.invokevirtual 126, 3) := by decide +kernel
theorem dX1_tryDoing_139 : decode cX1_tryDoing 139 = .ok (.ireturn, 1) := by decide +kernel
theorem dX1_tryDoing_140 : decode cX1_tryDoing 140 = .ok (.aload_n 0, 1) := by decide +kernel
theorem dX1_tryDoing_141 : decode cX1_tryDoing 141 = .ok (.getfield 9, 3) := by decide +kernel
theorem dX1_tryDoing_144 : decode cX1_tryDoing 144 = .ok (.iload 4, 2) := by decide +kernel
theorem dX1_tryDoing_146 : decode cX1_tryDoing 146 = .ok (.invokevirtual 129, 3) := by decide +kernel
theorem dX1_tryDoing_149 : decode cX1_tryDoing 149 = .ok (.ifCond .eq 19, 3) := by decide +kernel
theorem dX1_tryDoing_152 : decode cX1_tryDoing 152 = .ok (.aload_n 0, 1) := by decide +kernel
theorem dX1_tryDoing_153 : decode cX1_tryDoing 153 = .ok (.getfield 19, 3) := by decide +kernel
theorem dX1_tryDoing_156 : decode cX1_tryDoing 156 = .ok (.iload 4, 2) := by decide +kernel
theorem dX1_tryDoing_158 : decode cX1_tryDoing 158 = .ok (.invokevirtual 40, 3) := by decide +kernel
theorem dX1_tryDoing_161 : decode cX1_tryDoing 161 = .ok (.ifCond .ne 7, 3) := by decide +kernel
theorem dX1_tryDoing_164 : decode cX1_tryDoing 164 = .ok (.iconst 1, 1) := by decide +kernel
theorem dX1_tryDoing_165 : decode cX1_tryDoing 165 = .ok (.goto 4, 3) := by decide +kernel
theorem dX1_tryDoing_168 : decode cX1_tryDoing 168 = .ok (.iconst 0, 1) := by decide +kernel
theorem dX1_tryDoing_169 : decode cX1_tryDoing 169 = .ok (.ireturn, 1) := by decide +kernel
theorem dX1_tryDoing_170 : decode cX1_tryDoing 170 = .ok (.iconst 0, 1) := by decide +kernel
theorem dX1_tryDoing_171 : decode cX1_tryDoing 171 = .ok (.ireturn, 1) := by decide +kernel
set_option maxRecDepth 20000 in
theorem ggX1_shareAbove_X3_size : GoodIn wsX1_shareAbove wsX3_size := goodIn_r _ [6, 7, 100, 101, 102, 103, 104, 105] (by decide +kernel) (by decide +kernel)
set_option maxRecDepth 20000 in
theorem gX1_shareAbove_X3_size : GoodIn wsX1_shareAbove (wsV RX1 48 RX3 yX3_size wsX3_size) := goodIn_app (goodIn_of _ (by decide +kernel)) ggX1_shareAbove_X3_size
set_option maxRecDepth 20000 in
theorem ggX1_shareAbove_J6_bitCount_0f7a4 : GoodIn wsX1_shareAbove wsJ6_bitCount_0f7a4 := goodIn_r _ [11, 12, 13, 14] (by decide +kernel) (by decide +kernel)
set_option maxRecDepth 20000 in
theorem gX1_shareAbove_J6_bitCount_0f7a4 : GoodIn wsX1_shareAbove (va_wsS RX1 132 yJ6_bitCount_0f7a4 wsJ6_bitCount_0f7a4) := goodIn_app (goodIn_of _ (by decide +kernel)) ggX1_shareAbove_J6_bitCount_0f7a4
set_option maxRecDepth 20000 in
theorem ggX1_shareAbove_X7_at : GoodIn wsX1_shareAbove wsX7_at := goodIn_r _ [17] (by decide +kernel) (by decide +kernel)
set_option maxRecDepth 20000 in
theorem gX1_shareAbove_X7_at_n53 : GoodIn wsX1_shareAbove (wsX7_at) := ggX1_shareAbove_X7_at
set_option maxRecDepth 20000 in
theorem ggX1_shareAbove_X1_standingOf : GoodIn wsX1_shareAbove wsX1_standingOf := goodIn_r _ [22, 23, 24, 25, 26, 27, 28, 29, 30, 31, 32, 33, 34, 15, 16, 17, 35, 36, 37, 38, 39, 40, 41, 42, 43, 21, 44, 45, 46, 47, 48, 49, 50, 51, 52, 5, 53, 54, 55, 56, 57, 3, 4, 6, 7, 58, 59, 60, 61, 62, 63, 64, 65, 66, 67, 68, 69, 70, 71, 72, 73, 74, 75, 76, 77, 78, 79, 80, 81, 82, 83, 84, 85, 86, 87, 88, 89, 90, 91, 92, 93, 94, 95, 96, 9, 10, 11, 12, 13, 14, 97, 98, 99, 106, 107, 108, 109, 110, 111, 100, 101, 102, 103, 104, 105] (by decide +kernel) (by decide +kernel)
set_option maxRecDepth 20000 in
theorem gX1_shareAbove_X1_standingOf : GoodIn wsX1_shareAbove (wsV RX1 137 RX1 yX1_standingOf wsX1_standingOf) := goodIn_app (goodIn_of _ (by decide +kernel)) ggX1_shareAbove_X1_standingOf
theorem dX1_shareAbove_0 : decode cX1_shareAbove 0 = .ok (.iconst 0, 1) := by decide +kernel
theorem dX1_shareAbove_1 : decode cX1_shareAbove 1 = .ok (.istore_n 2, 1) := by decide +kernel
theorem dX1_shareAbove_2 : decode cX1_shareAbove 2 = .ok (.iconst 0, 1) := by decide +kernel
theorem dX1_shareAbove_3 : decode cX1_shareAbove 3 = .ok (.istore_n 3, 1) := by decide +kernel
theorem dX1_shareAbove_4 : decode cX1_shareAbove 4 = .ok (.iload_n 3, 1) := by decide +kernel
theorem dX1_shareAbove_5 : decode cX1_shareAbove 5 = .ok (.iconst 1, 1) := by decide +kernel
theorem dX1_shareAbove_6 : decode cX1_shareAbove 6 = .ok (.aload_n 0, 1) := by decide +kernel
theorem dX1_shareAbove_7 : decode cX1_shareAbove 7 = .ok (.getfield 9, 3) := by decide +kernel
theorem dX1_shareAbove_10 : decode cX1_shareAbove 10 = .ok (.invokevirtual 48, 3) := by decide +kernel
theorem dX1_shareAbove_13 : decode cX1_shareAbove 13 = .ok (.ishl, 1) := by decide +kernel
theorem dX1_shareAbove_14 : decode cX1_shareAbove 14 = .ok (.if_icmp .ge 73, 3) := by decide +kernel
theorem dX1_shareAbove_17 : decode cX1_shareAbove 17 = .ok (.iload_n 3, 1) := by decide +kernel
theorem dX1_shareAbove_18 : decode cX1_shareAbove 18 = .ok (.iload_n 1, 1) := by decide +kernel
theorem dX1_shareAbove_19 : decode cX1_shareAbove 19 = .ok (.ishr, 1) := by decide +kernel
theorem dX1_shareAbove_20 : decode cX1_shareAbove 20 = .ok (.iconst 1, 1) := by decide +kernel
theorem dX1_shareAbove_21 : decode cX1_shareAbove 21 = .ok (.iand, 1) := by decide +kernel
theorem dX1_shareAbove_22 : decode cX1_shareAbove 22 = .ok (.ifCond .ne 59, 3) := by decide +kernel
theorem dX1_shareAbove_25 : decode cX1_shareAbove 25 = .ok (.iload_n 3, 1) := by decide +kernel
theorem dX1_shareAbove_26 : decode cX1_shareAbove 26 = .ok (.invokestatic 132, 3) := by decide +kernel
theorem dX1_shareAbove_29 : decode cX1_shareAbove 29 = .ok (.istore 4, 2) := by decide +kernel
theorem dX1_shareAbove_31 : decode cX1_shareAbove 31 = .ok (.getstatic 44, 3) := by decide +kernel
theorem dX1_shareAbove_34 : decode cX1_shareAbove 34 = .ok (.iload 4, 2) := by decide +kernel
theorem dX1_shareAbove_36 : decode cX1_shareAbove 36 = .ok (.invokestatic 53, 3) := by decide +kernel
theorem dX1_shareAbove_39 : decode cX1_shareAbove 39 = .ok (.getstatic 44, 3) := by decide +kernel
theorem dX1_shareAbove_42 : decode cX1_shareAbove 42 = .ok (.aload_n 0, 1) := by decide +kernel
theorem dX1_shareAbove_43 : decode cX1_shareAbove 43 = .ok (.getfield 9, 3) := by decide +kernel
theorem dX1_shareAbove_46 : decode cX1_shareAbove 46 = .ok (.invokevirtual 48, 3) := by decide +kernel
theorem dX1_shareAbove_49 : decode cX1_shareAbove 49 = .ok (.iconst 1, 1) := by decide +kernel
theorem dX1_shareAbove_50 : decode cX1_shareAbove 50 = .ok (.isub, 1) := by decide +kernel
theorem dX1_shareAbove_51 : decode cX1_shareAbove 51 = .ok (.iload 4, 2) := by decide +kernel
theorem dX1_shareAbove_53 : decode cX1_shareAbove 53 = .ok (.isub, 1) := by decide +kernel
theorem dX1_shareAbove_54 : decode cX1_shareAbove 54 = .ok (.invokestatic 53, 3) := by decide +kernel
theorem dX1_shareAbove_57 : decode cX1_shareAbove 57 = .ok (.imul, 1) := by decide +kernel
theorem dX1_shareAbove_58 : decode cX1_shareAbove 58 = .ok (.istore 5, 2) := by decide +kernel
theorem dX1_shareAbove_60 : decode cX1_shareAbove 60 = .ok (.iload_n 2, 1) := by decide +kernel
theorem dX1_shareAbove_61 : decode cX1_shareAbove 61 = .ok (.iload 5, 2) := by decide +kernel
theorem dX1_shareAbove_63 : decode cX1_shareAbove 63 = .ok (.aload_n 0, 1) := by decide +kernel
theorem dX1_shareAbove_64 : decode cX1_shareAbove 64 = .ok (.iload_n 3, 1) := by decide +kernel
theorem dX1_shareAbove_65 : decode cX1_shareAbove 65 = .ok (.iconst 1, 1) := by decide +kernel
theorem dX1_shareAbove_66 : decode cX1_shareAbove 66 = .ok (.iload_n 1, 1) := by decide +kernel
theorem dX1_shareAbove_67 : decode cX1_shareAbove 67 = .ok (.ishl, 1) := by decide +kernel
theorem dX1_shareAbove_68 : decode cX1_shareAbove 68 = .ok (.ior, 1) := by decide +kernel
theorem dX1_shareAbove_69 : decode cX1_shareAbove 69 = .ok (.invokevirtual 137, 3) := by decide +kernel
theorem dX1_shareAbove_72 : decode cX1_shareAbove 72 = .ok (.aload_n 0, 1) := by decide +kernel
theorem dX1_shareAbove_73 : decode cX1_shareAbove 73 = .ok (.iload_n 3, 1) := by decide +kernel
theorem dX1_shareAbove_74 : decode cX1_shareAbove 74 = .ok (.invokevirtual 137, 3) := by decide +kernel
theorem dX1_shareAbove_77 : decode cX1_shareAbove 77 = .ok (.isub, 1) := by decide +kernel
theorem dX1_shareAbove_78 : decode cX1_shareAbove 78 = .ok (.imul, 1) := by decide +kernel
theorem dX1_shareAbove_79 : decode cX1_shareAbove 79 = .ok (.iadd, 1) := by decide +kernel
theorem dX1_shareAbove_80 : decode cX1_shareAbove 80 = .ok (.istore_n 2, 1) := by decide +kernel
theorem dX1_shareAbove_81 : decode cX1_shareAbove 81 = .ok (.iinc 3 1, 3) := by decide +kernel
theorem dX1_shareAbove_84 : decode cX1_shareAbove 84 = .ok (.goto (-80), 3) := by decide +kernel
theorem dX1_shareAbove_87 : decode cX1_shareAbove 87 = .ok (.iload_n 2, 1) := by decide +kernel
theorem dX1_shareAbove_88 : decode cX1_shareAbove 88 = .ok (.ireturn, 1) := by decide +kernel
set_option maxRecDepth 20000 in
theorem ggX1_standingOf_X6_copyFrom : GoodIn wsX1_standingOf wsX6_copyFrom := goodIn_r _ [7, 8, 9, 10, 11, 12, 13, 14, 15, 16, 17, 93, 94, 95, 96, 97, 98] (by decide +kernel) (by decide +kernel)
set_option maxRecDepth 20000 in
theorem gX1_standingOf_X6_copyFrom : GoodIn wsX1_standingOf (wsV RX1 22 RX6 yX6_copyFrom wsX6_copyFrom) := goodIn_app (goodIn_of _ (by decide +kernel)) ggX1_standingOf_X6_copyFrom
set_option maxRecDepth 20000 in
theorem ggX1_standingOf_X6_leaveOnly : GoodIn wsX1_standingOf wsX6_leaveOnly := goodIn_r _ [21, 11, 93, 94, 95, 96, 97, 98] (by decide +kernel) (by decide +kernel)
set_option maxRecDepth 20000 in
theorem gX1_standingOf_X6_leaveOnly : GoodIn wsX1_standingOf (wsV RX1 140 RX6 yX6_leaveOnly wsX6_leaveOnly) := goodIn_app (goodIn_of _ (by decide +kernel)) ggX1_standingOf_X6_leaveOnly
set_option maxRecDepth 20000 in
theorem ggX1_standingOf_X1_goOn : GoodIn wsX1_standingOf wsX1_goOn := goodIn_r _ [26, 1, 27, 28, 29, 6, 30, 31, 12, 11, 32, 33, 34, 35, 36, 37, 38, 39, 40, 41, 42, 43, 44, 45, 46, 47, 48, 8, 13, 14, 15, 49, 50, 51, 52, 53, 54, 55, 56, 57, 58, 59, 60, 61, 62, 63, 64, 65, 9, 66, 67, 68, 69, 70, 71, 72, 73, 74, 90, 91, 92, 93, 94, 95, 96, 97, 98, 99, 100, 101, 102, 103, 104] (by decide +kernel) (by decide +kernel)
set_option maxRecDepth 20000 in
theorem gX1_standingOf_X1_goOn : GoodIn wsX1_standingOf (wsV RX1 28 RX1 yX1_goOn wsX1_goOn) := goodIn_app (goodIn_of _ (by decide +kernel)) ggX1_standingOf_X1_goOn
set_option maxRecDepth 20000 in
theorem ggX1_standingOf_X6_standing : GoodIn wsX1_standingOf wsX6_standing := goodIn_r _ [78, 79, 80, 81, 6, 82, 31, 11, 40, 41, 42, 35, 43, 44, 83, 84, 85, 86, 87, 88, 89, 93, 94, 95, 96, 97, 98, 99, 100, 101, 102, 103, 104] (by decide +kernel) (by decide +kernel)
set_option maxRecDepth 20000 in
theorem gX1_standingOf_X6_standing : GoodIn wsX1_standingOf (wsV RX1 60 RX6 yX6_standing wsX6_standing) := goodIn_app (goodIn_of _ (by decide +kernel)) ggX1_standingOf_X6_standing
theorem dX1_standingOf_0 : decode cX1_standingOf 0 = .ok (.aload_n 0, 1) := by decide +kernel
theorem dX1_standingOf_1 : decode cX1_standingOf 1 = .ok (.getfield 19, 3) := by decide +kernel
theorem dX1_standingOf_4 : decode cX1_standingOf 4 = .ok (.aload_n 0, 1) := by decide +kernel
theorem dX1_standingOf_5 : decode cX1_standingOf 5 = .ok (.getfield 15, 3) := by decide +kernel
theorem dX1_standingOf_8 : decode cX1_standingOf 8 = .ok (.invokevirtual 22, 3) := by decide +kernel
theorem dX1_standingOf_11 : decode cX1_standingOf 11 = .ok (.aload_n 0, 1) := by decide +kernel
theorem dX1_standingOf_12 : decode cX1_standingOf 12 = .ok (.getfield 19, 3) := by decide +kernel
theorem dX1_standingOf_15 : decode cX1_standingOf 15 = .ok (.iload_n 1, 1) := by decide +kernel
theorem dX1_standingOf_16 : decode cX1_standingOf 16 = .ok (.invokevirtual 140, 3) := by decide +kernel
theorem dX1_standingOf_19 : decode cX1_standingOf 19 = .ok (.aload_n 0, 1) := by decide +kernel
theorem dX1_standingOf_20 : decode cX1_standingOf 20 = .ok (.bipush 6, 2) := by decide +kernel
theorem dX1_standingOf_22 : decode cX1_standingOf 22 = .ok (.invokevirtual 28, 3) := by decide +kernel
theorem dX1_standingOf_25 : decode cX1_standingOf 25 = .ok (.aload_n 0, 1) := by decide +kernel
theorem dX1_standingOf_26 : decode cX1_standingOf 26 = .ok (.getfield 19, 3) := by decide +kernel
theorem dX1_standingOf_29 : decode cX1_standingOf 29 = .ok (.invokevirtual 60, 3) := by decide +kernel
theorem dX1_standingOf_32 : decode cX1_standingOf 32 = .ok (.ireturn, 1) := by decide +kernel
theorem dX2_init_0 : decode cX2_init 0 = .ok (.aload_n 0, 1) := by decide +kernel
theorem dX2_init_1 : decode cX2_init 1 = .ok (.invokespecial 3, 3) := by decide +kernel
theorem dX2_init_4 : decode cX2_init 4 = .ok (.aload_n 0, 1) := by decide +kernel
theorem dX2_init_5 : decode cX2_init 5 = .ok (.bipush 6, 2) := by decide +kernel
theorem dX2_init_7 : decode cX2_init 7 = .ok (.newarray .int, 2) := by decide +kernel
theorem dX2_init_9 : decode cX2_init 9 = .ok (.putfield 9, 3) := by decide +kernel
theorem dX2_init_12 : decode cX2_init 12 = .ok (.aload_n 0, 1) := by decide +kernel
theorem dX2_init_13 : decode cX2_init 13 = .ok (.bipush 6, 2) := by decide +kernel
theorem dX2_init_15 : decode cX2_init 15 = .ok (.newarray .int, 2) := by decide +kernel
theorem dX2_init_17 : decode cX2_init 17 = .ok (.putfield 15, 3) := by decide +kernel
theorem dX2_init_20 : decode cX2_init 20 = .ok (.return_, 1) := by decide +kernel
theorem dX2_size_0 : decode cX2_size 0 = .ok (.aload_n 0, 1) := by decide +kernel
theorem dX2_size_1 : decode cX2_size 1 = .ok (.getfield 18, 3) := by decide +kernel
theorem dX2_size_4 : decode cX2_size 4 = .ok (.ireturn, 1) := by decide +kernel
theorem dX2_isFull_0 : decode cX2_isFull 0 = .ok (.aload_n 0, 1) := by decide +kernel
theorem dX2_isFull_1 : decode cX2_isFull 1 = .ok (.getfield 18, 3) := by decide +kernel
theorem dX2_isFull_4 : decode cX2_isFull 4 = .ok (.bipush 6, 2) := by decide +kernel
theorem dX2_isFull_6 : decode cX2_isFull 6 = .ok (.if_icmp .lt 7, 3) := by decide +kernel
theorem dX2_isFull_9 : decode cX2_isFull 9 = .ok (.iconst 1, 1) := by decide +kernel
theorem dX2_isFull_10 : decode cX2_isFull 10 = .ok (.goto 4, 3) := by decide +kernel
theorem dX2_isFull_13 : decode cX2_isFull 13 = .ok (.iconst 0, 1) := by decide +kernel
theorem dX2_isFull_14 : decode cX2_isFull 14 = .ok (.ireturn, 1) := by decide +kernel
set_option maxRecDepth 20000 in
theorem ggX2_append_X7_put : GoodIn wsX2_append wsX7_put := goodIn_r _ [6] (by decide +kernel) (by decide +kernel)
set_option maxRecDepth 20000 in
theorem gX2_append_X7_put_n22 : GoodIn wsX2_append (wsX7_put) := ggX2_append_X7_put
theorem dX2_append_0 : decode cX2_append 0 = .ok (.aload_n 0, 1) := by decide +kernel
theorem dX2_append_1 : decode cX2_append 1 = .ok (.getfield 9, 3) := by decide +kernel
theorem dX2_append_4 : decode cX2_append 4 = .ok (.aload_n 0, 1) := by decide +kernel
theorem dX2_append_5 : decode cX2_append 5 = .ok (.getfield 18, 3) := by decide +kernel
theorem dX2_append_8 : decode cX2_append 8 = .ok (.iload_n 1, 1) := by decide +kernel
theorem dX2_append_9 : decode cX2_append 9 = .ok (.invokestatic 22, 3) := by decide +kernel
theorem dX2_append_12 : decode cX2_append 12 = .ok (.aload_n 0, 1) := by decide +kernel
theorem dX2_append_13 : decode cX2_append 13 = .ok (.getfield 15, 3) := by decide +kernel
theorem dX2_append_16 : decode cX2_append 16 = .ok (.aload_n 0, 1) := by decide +kernel
theorem dX2_append_17 : decode cX2_append 17 = .ok (.getfield 18, 3) := by decide +kernel
theorem dX2_append_20 : decode cX2_append 20 = .ok (.iload_n 2, 1) := by decide +kernel
theorem dX2_append_21 : decode cX2_append 21 = .ok (.invokestatic 22, 3) := by decide +kernel
theorem dX2_append_24 : decode cX2_append 24 = .ok (.aload_n 0, 1) := by decide +kernel
theorem dX2_append_25 : decode cX2_append 25 = .ok (.dup, 1) := by decide +kernel
theorem dX2_append_26 : decode cX2_append 26 = .ok (.getfield 18, 3) := by decide +kernel
theorem dX2_append_29 : decode cX2_append 29 = .ok (.iconst 1, 1) := by decide +kernel
theorem dX2_append_30 : decode cX2_append 30 = .ok (.iadd, 1) := by decide +kernel
theorem dX2_append_31 : decode cX2_append 31 = .ok (.putfield 18, 3) := by decide +kernel
theorem dX2_append_34 : decode cX2_append 34 = .ok (.aload_n 0, 1) := by decide +kernel
theorem dX2_append_35 : decode cX2_append 35 = .ok (.getfield 18, 3) := by decide +kernel
theorem dX2_append_38 : decode cX2_append 38 = .ok (.ireturn, 1) := by decide +kernel
theorem dX2_clear_0 : decode cX2_clear 0 = .ok (.aload_n 0, 1) := by decide +kernel
theorem dX2_clear_1 : decode cX2_clear 1 = .ok (.getfield 18, 3) := by decide +kernel
theorem dX2_clear_4 : decode cX2_clear 4 = .ok (.istore_n 1, 1) := by decide +kernel
theorem dX2_clear_5 : decode cX2_clear 5 = .ok (.aload_n 0, 1) := by decide +kernel
theorem dX2_clear_6 : decode cX2_clear 6 = .ok (.iconst 0, 1) := by decide +kernel
theorem dX2_clear_7 : decode cX2_clear 7 = .ok (.putfield 18, 3) := by decide +kernel
theorem dX2_clear_10 : decode cX2_clear 10 = .ok (.iload_n 1, 1) := by decide +kernel
theorem dX2_clear_11 : decode cX2_clear 11 = .ok (.ireturn, 1) := by decide +kernel
set_option maxRecDepth 20000 in
theorem ggX2_fitting_X2_isSomebody : GoodIn wsX2_fitting wsX2_isSomebody := goodIn_r _ [4, 5, 6, 7] (by decide +kernel) (by decide +kernel)
set_option maxRecDepth 20000 in
theorem gX2_fitting_X2_isSomebody : GoodIn wsX2_fitting (va_wsS RX2 26 yX2_isSomebody wsX2_isSomebody) := goodIn_app (goodIn_of _ (by decide +kernel)) ggX2_fitting_X2_isSomebody
set_option maxRecDepth 20000 in
theorem ggX2_fitting_X2_fitsAll : GoodIn wsX2_fitting wsX2_fitsAll := goodIn_r _ [11, 12, 13, 14, 15, 6, 16, 17, 18, 19, 20, 21] (by decide +kernel) (by decide +kernel)
set_option maxRecDepth 20000 in
theorem gX2_fitting_X2_fitsAll : GoodIn wsX2_fitting (wsV RX2 30 RX2 yX2_fitsAll wsX2_fitsAll) := goodIn_app (goodIn_of _ (by decide +kernel)) ggX2_fitting_X2_fitsAll
theorem dX2_fitting_0 : decode cX2_fitting 0 = .ok (.iconst 0, 1) := by decide +kernel
theorem dX2_fitting_1 : decode cX2_fitting 1 = .ok (.istore_n 1, 1) := by decide +kernel
theorem dX2_fitting_2 : decode cX2_fitting 2 = .ok (.iconst 0, 1) := by decide +kernel
theorem dX2_fitting_3 : decode cX2_fitting 3 = .ok (.istore_n 2, 1) := by decide +kernel
theorem dX2_fitting_4 : decode cX2_fitting 4 = .ok (.iload_n 2, 1) := by decide +kernel
theorem dX2_fitting_5 : decode cX2_fitting 5 = .ok (.sipush 400, 3) := by decide +kernel
theorem dX2_fitting_8 : decode cX2_fitting 8 = .ok (.if_icmp .ge 32, 3) := by decide +kernel
theorem dX2_fitting_11 : decode cX2_fitting 11 = .ok (.iload_n 1, 1) := by decide +kernel
theorem dX2_fitting_12 : decode cX2_fitting 12 = .ok (.iload_n 2, 1) := by decide +kernel
theorem dX2_fitting_13 : decode cX2_fitting 13 = .ok (.invokestatic 26, 3) := by decide +kernel
theorem dX2_fitting_16 : decode cX2_fitting 16 = .ok (.ifCond .eq 15, 3) := by decide +kernel
theorem dX2_fitting_19 : decode cX2_fitting 19 = .ok (.aload_n 0, 1) := by decide +kernel
theorem dX2_fitting_20 : decode cX2_fitting 20 = .ok (.iload_n 2, 1) := by decide +kernel
theorem dX2_fitting_21 : decode cX2_fitting 21 = .ok (.invokevirtual 30, 3) := by decide +kernel
theorem dX2_fitting_24 : decode cX2_fitting 24 = .ok (.ifCond .eq 7, 3) := by decide +kernel
theorem dX2_fitting_27 : decode cX2_fitting 27 = .ok (.iconst 1, 1) := by decide +kernel
theorem dX2_fitting_28 : decode cX2_fitting 28 = .ok (.goto 4, 3) := by decide +kernel
theorem dX2_fitting_31 : decode cX2_fitting 31 = .ok (.iconst 0, 1) := by decide +kernel
theorem dX2_fitting_32 : decode cX2_fitting 32 = .ok (.iadd, 1) := by decide +kernel
theorem dX2_fitting_33 : decode cX2_fitting 33 = .ok (.istore_n 1, 1) := by decide +kernel
theorem dX2_fitting_34 : decode cX2_fitting 34 = .ok (.iinc 2 1, 3) := by decide +kernel
theorem dX2_fitting_37 : decode cX2_fitting 37 = .ok (.goto (-33), 3) := by decide +kernel
theorem dX2_fitting_40 : decode cX2_fitting 40 = .ok (.iload_n 1, 1) := by decide +kernel
theorem dX2_fitting_41 : decode cX2_fitting 41 = .ok (.ireturn, 1) := by decide +kernel
set_option maxRecDepth 20000 in
theorem ggX2_firstFitting_X2_isSomebody : GoodIn wsX2_firstFitting wsX2_isSomebody := goodIn_r _ [4, 5, 6, 7] (by decide +kernel) (by decide +kernel)
set_option maxRecDepth 20000 in
theorem gX2_firstFitting_X2_isSomebody : GoodIn wsX2_firstFitting (va_wsS RX2 26 yX2_isSomebody wsX2_isSomebody) := goodIn_app (goodIn_of _ (by decide +kernel)) ggX2_firstFitting_X2_isSomebody
set_option maxRecDepth 20000 in
theorem ggX2_firstFitting_X2_fitsAll : GoodIn wsX2_firstFitting wsX2_fitsAll := goodIn_r _ [11, 12, 13, 14, 15, 6, 16, 17, 18, 19, 20, 21] (by decide +kernel) (by decide +kernel)
set_option maxRecDepth 20000 in
theorem gX2_firstFitting_X2_fitsAll : GoodIn wsX2_firstFitting (wsV RX2 30 RX2 yX2_fitsAll wsX2_fitsAll) := goodIn_app (goodIn_of _ (by decide +kernel)) ggX2_firstFitting_X2_fitsAll
theorem dX2_firstFitting_0 : decode cX2_firstFitting 0 = .ok (.iconst 0, 1) := by decide +kernel
theorem dX2_firstFitting_1 : decode cX2_firstFitting 1 = .ok (.istore_n 1, 1) := by decide +kernel
theorem dX2_firstFitting_2 : decode cX2_firstFitting 2 = .ok (.iload_n 1, 1) := by decide +kernel
theorem dX2_firstFitting_3 : decode cX2_firstFitting 3 = .ok (.sipush 400, 3) := by decide +kernel
theorem dX2_firstFitting_6 : decode cX2_firstFitting 6 = .ok (.if_icmp .ge 26, 3) := by decide +kernel
theorem dX2_firstFitting_9 : decode cX2_firstFitting 9 = .ok (.iload_n 1, 1) := by decide +kernel
theorem dX2_firstFitting_10 : decode cX2_firstFitting 10 = .ok (.invokestatic 26, 3) := by decide +kernel
theorem dX2_firstFitting_13 : decode cX2_firstFitting 13 = .ok (.ifCond .eq 13, 3) := by decide +kernel
theorem dX2_firstFitting_16 : decode cX2_firstFitting 16 = .ok (.aload_n 0, 1) := by decide +kernel
theorem dX2_firstFitting_17 : decode cX2_firstFitting 17 = .ok (.iload_n 1, 1) := by decide +kernel
theorem dX2_firstFitting_18 : decode cX2_firstFitting 18 = .ok (.invokevirtual 30, 3) := by decide +kernel
theorem dX2_firstFitting_21 : decode cX2_firstFitting 21 = .ok (.ifCond .eq 5, 3) := by decide +kernel
theorem dX2_firstFitting_24 : decode cX2_firstFitting 24 = .ok (.iload_n 1, 1) := by decide +kernel
theorem dX2_firstFitting_25 : decode cX2_firstFitting 25 = .ok (.ireturn, 1) := by decide +kernel
theorem dX2_firstFitting_26 : decode cX2_firstFitting 26 = .ok (.iinc 1 1, 3) := by decide +kernel
theorem dX2_firstFitting_29 : decode cX2_firstFitting 29 = .ok (.goto (-27), 3) := by decide +kernel
theorem dX2_firstFitting_32 : decode cX2_firstFitting 32 = .ok (.bipush (-9), 2) := by decide +kernel
theorem dX2_firstFitting_34 : decode cX2_firstFitting 34 = .ok (.ireturn, 1) := by decide +kernel
set_option maxRecDepth 20000 in
theorem ggX2_isSomebody_X7_isBetween : GoodIn wsX2_isSomebody wsX7_isBetween := goodIn_r _ [3] (by decide +kernel) (by decide +kernel)
set_option maxRecDepth 20000 in
theorem gX2_isSomebody_X7_isBetween_n33 : GoodIn wsX2_isSomebody (wsX7_isBetween) := ggX2_isSomebody_X7_isBetween
theorem dX2_isSomebody_0 : decode cX2_isSomebody 0 = .ok (.iload_n 0, 1) := by decide +kernel
theorem dX2_isSomebody_1 : decode cX2_isSomebody 1 = .ok (.bipush 100, 2) := by decide +kernel
theorem dX2_isSomebody_3 : decode cX2_isSomebody 3 = .ok (.idiv, 1) := by decide +kernel
theorem dX2_isSomebody_4 : decode cX2_isSomebody 4 = .ok (.iconst 2, 1) := by decide +kernel
theorem dX2_isSomebody_5 : decode cX2_isSomebody 5 = .ok (.if_icmp .eq 30, 3) := by decide +kernel
theorem dX2_isSomebody_8 : decode cX2_isSomebody 8 = .ok (.iload_n 0, 1) := by decide +kernel
theorem dX2_isSomebody_9 : decode cX2_isSomebody 9 = .ok (.bipush 10, 2) := by decide +kernel
theorem dX2_isSomebody_11 : decode cX2_isSomebody 11 = .ok (.idiv, 1) := by decide +kernel
theorem dX2_isSomebody_12 : decode cX2_isSomebody 12 = .ok (.bipush 10, 2) := by decide +kernel
theorem dX2_isSomebody_14 : decode cX2_isSomebody 14 = .ok (.irem, 1) := by decide +kernel
theorem dX2_isSomebody_15 : decode cX2_isSomebody 15 = .ok (.iconst 1, 1) := by decide +kernel
theorem dX2_isSomebody_16 : decode cX2_isSomebody 16 = .ok (.if_icmp .lt 19, 3) := by decide +kernel
theorem dX2_isSomebody_19 : decode cX2_isSomebody 19 = .ok (.iload_n 0, 1) := by decide +kernel
theorem dX2_isSomebody_20 : decode cX2_isSomebody 20 = .ok (.bipush 10, 2) := by decide +kernel
theorem dX2_isSomebody_22 : decode cX2_isSomebody 22 = .ok (.irem, 1) := by decide +kernel
theorem dX2_isSomebody_23 : decode cX2_isSomebody 23 = .ok (.iconst 1, 1) := by decide +kernel
theorem dX2_isSomebody_24 : decode cX2_isSomebody 24 = .ok (.iconst 4, 1) := by decide +kernel
theorem dX2_isSomebody_25 : decode cX2_isSomebody 25 = .ok (.invokestatic 33, 3) := by decide +kernel
theorem dX2_isSomebody_28 : decode cX2_isSomebody 28 = .ok (.ifCond .eq 7, 3) := by decide +kernel
theorem dX2_isSomebody_31 : decode cX2_isSomebody 31 = .ok (.iconst 1, 1) := by decide +kernel
theorem dX2_isSomebody_32 : decode cX2_isSomebody 32 = .ok (.goto 4, 3) := by decide +kernel
theorem dX2_isSomebody_35 : decode cX2_isSomebody 35 = .ok (.iconst 0, 1) := by decide +kernel
theorem dX2_isSomebody_36 : decode cX2_isSomebody 36 = .ok (.ireturn, 1) := by decide +kernel
set_option maxRecDepth 20000 in
theorem ggX2_fitsAll_X7_at : GoodIn wsX2_fitsAll wsX7_at := goodIn_r _ [6] (by decide +kernel) (by decide +kernel)
set_option maxRecDepth 20000 in
theorem gX2_fitsAll_X7_at_n37 : GoodIn wsX2_fitsAll (wsX7_at) := ggX2_fitsAll_X7_at
set_option maxRecDepth 20000 in
theorem ggX2_fitsAll_X7_treadAlone : GoodIn wsX2_fitsAll wsX7_treadAlone := goodIn_r _ [8] (by decide +kernel) (by decide +kernel)
set_option maxRecDepth 20000 in
theorem gX2_fitsAll_X7_treadAlone_n41 : GoodIn wsX2_fitsAll (wsX7_treadAlone) := ggX2_fitsAll_X7_treadAlone
theorem dX2_fitsAll_0 : decode cX2_fitsAll 0 = .ok (.iconst 0, 1) := by decide +kernel
theorem dX2_fitsAll_1 : decode cX2_fitsAll 1 = .ok (.istore_n 2, 1) := by decide +kernel
theorem dX2_fitsAll_2 : decode cX2_fitsAll 2 = .ok (.iload_n 2, 1) := by decide +kernel
theorem dX2_fitsAll_3 : decode cX2_fitsAll 3 = .ok (.aload_n 0, 1) := by decide +kernel
theorem dX2_fitsAll_4 : decode cX2_fitsAll 4 = .ok (.getfield 18, 3) := by decide +kernel
theorem dX2_fitsAll_7 : decode cX2_fitsAll 7 = .ok (.if_icmp .ge 48, 3) := by decide +kernel
theorem dX2_fitsAll_10 : decode cX2_fitsAll 10 = .ok (.iload_n 1, 1) := by decide +kernel
theorem dX2_fitsAll_11 : decode cX2_fitsAll 11 = .ok (.bipush 100, 2) := by decide +kernel
theorem dX2_fitsAll_13 : decode cX2_fitsAll 13 = .ok (.idiv, 1) := by decide +kernel
theorem dX2_fitsAll_14 : decode cX2_fitsAll 14 = .ok (.iload_n 1, 1) := by decide +kernel
theorem dX2_fitsAll_15 : decode cX2_fitsAll 15 = .ok (.bipush 10, 2) := by decide +kernel
theorem dX2_fitsAll_17 : decode cX2_fitsAll 17 = .ok (.idiv, 1) := by decide +kernel
theorem dX2_fitsAll_18 : decode cX2_fitsAll 18 = .ok (.bipush 10, 2) := by decide +kernel
theorem dX2_fitsAll_20 : decode cX2_fitsAll 20 = .ok (.irem, 1) := by decide +kernel
theorem dX2_fitsAll_21 : decode cX2_fitsAll 21 = .ok (.iload_n 1, 1) := by decide +kernel
theorem dX2_fitsAll_22 : decode cX2_fitsAll 22 = .ok (.bipush 10, 2) := by decide +kernel
theorem dX2_fitsAll_24 : decode cX2_fitsAll 24 = .ok (.irem, 1) := by decide +kernel
theorem dX2_fitsAll_25 : decode cX2_fitsAll 25 = .ok (.aload_n 0, 1) := by decide +kernel
theorem dX2_fitsAll_26 : decode cX2_fitsAll 26 = .ok (.getfield 9, 3) := by decide +kernel
theorem dX2_fitsAll_29 : decode cX2_fitsAll 29 = .ok (.iload_n 2, 1) := by decide +kernel
theorem dX2_fitsAll_30 : decode cX2_fitsAll 30 = .ok (.invokestatic 37, 3) := by decide +kernel
theorem dX2_fitsAll_33 : decode cX2_fitsAll 33 = .ok (.invokestatic 41, 3) := by decide +kernel
theorem dX2_fitsAll_36 : decode cX2_fitsAll 36 = .ok (.aload_n 0, 1) := by decide +kernel
theorem dX2_fitsAll_37 : decode cX2_fitsAll 37 = .ok (.getfield 15, 3) := by decide +kernel
theorem dX2_fitsAll_40 : decode cX2_fitsAll 40 = .ok (.iload_n 2, 1) := by decide +kernel
theorem dX2_fitsAll_41 : decode cX2_fitsAll 41 = .ok (.invokestatic 37, 3) := by decide +kernel
theorem dX2_fitsAll_44 : decode cX2_fitsAll 44 = .ok (.if_icmp .eq 5, 3) := by decide +kernel
theorem dX2_fitsAll_47 : decode cX2_fitsAll 47 = .ok (.iconst 0, 1) := by decide +kernel
theorem dX2_fitsAll_48 : decode cX2_fitsAll 48 = .ok (.ireturn, 1) := by decide +kernel
theorem dX2_fitsAll_49 : decode cX2_fitsAll 49 = .ok (.iinc 2 1, 3) := by decide +kernel
theorem dX2_fitsAll_52 : decode cX2_fitsAll 52 = .ok (.goto (-50), 3) := by decide +kernel
theorem dX2_fitsAll_55 : decode cX2_fitsAll 55 = .ok (.iconst 1, 1) := by decide +kernel
theorem dX2_fitsAll_56 : decode cX2_fitsAll 56 = .ok (.ireturn, 1) := by decide +kernel
theorem dX3_init_0 : decode cX3_init 0 = .ok (.aload_n 0, 1) := by decide +kernel
theorem dX3_init_1 : decode cX3_init 1 = .ok (.invokespecial 3, 3) := by decide +kernel
theorem dX3_init_4 : decode cX3_init 4 = .ok (.aload_n 0, 1) := by decide +kernel
theorem dX3_init_5 : decode cX3_init 5 = .ok (.iconst 5, 1) := by decide +kernel
theorem dX3_init_6 : decode cX3_init 6 = .ok (.newarray .int, 2) := by decide +kernel
theorem dX3_init_8 : decode cX3_init 8 = .ok (.putfield 9, 3) := by decide +kernel
theorem dX3_init_11 : decode cX3_init 11 = .ok (.aload_n 0, 1) := by decide +kernel
theorem dX3_init_12 : decode cX3_init 12 = .ok (.iconst 5, 1) := by decide +kernel
theorem dX3_init_13 : decode cX3_init 13 = .ok (.newarray .int, 2) := by decide +kernel
theorem dX3_init_15 : decode cX3_init 15 = .ok (.putfield 15, 3) := by decide +kernel
theorem dX3_init_18 : decode cX3_init 18 = .ok (.aload_n 0, 1) := by decide +kernel
theorem dX3_init_19 : decode cX3_init 19 = .ok (.iconst 1, 1) := by decide +kernel
theorem dX3_init_20 : decode cX3_init 20 = .ok (.putfield 18, 3) := by decide +kernel
theorem dX3_init_23 : decode cX3_init 23 = .ok (.aload_n 0, 1) := by decide +kernel
theorem dX3_init_24 : decode cX3_init 24 = .ok (.iconst 1, 1) := by decide +kernel
theorem dX3_init_25 : decode cX3_init 25 = .ok (.putfield 22, 3) := by decide +kernel
theorem dX3_init_28 : decode cX3_init 28 = .ok (.return_, 1) := by decide +kernel
set_option maxRecDepth 20000 in
theorem ggX3_readFrom_X5_figureAt : GoodIn wsX3_readFrom wsX5_figureAt := goodIn_r _ [18, 19, 20, 21, 22, 36, 37] (by decide +kernel) (by decide +kernel)
set_option maxRecDepth 20000 in
theorem gX3_readFrom_X5_figureAt : GoodIn wsX3_readFrom (wsV RX3 25 RX5 yX5_figureAt wsX5_figureAt) := goodIn_app (goodIn_of _ (by decide +kernel)) ggX3_readFrom_X5_figureAt
set_option maxRecDepth 20000 in
theorem ggX3_readFrom_X5_size : GoodIn wsX3_readFrom wsX5_size := goodIn_r _ [26, 27, 36, 37] (by decide +kernel) (by decide +kernel)
set_option maxRecDepth 20000 in
theorem gX3_readFrom_X5_size : GoodIn wsX3_readFrom (wsV RX3 34 RX5 yX5_size wsX5_size) := goodIn_app (goodIn_of _ (by decide +kernel)) ggX3_readFrom_X5_size
set_option maxRecDepth 20000 in
theorem ggX3_readFrom_X7_put : GoodIn wsX3_readFrom wsX7_put := goodIn_r _ [29] (by decide +kernel) (by decide +kernel)
set_option maxRecDepth 20000 in
theorem gX3_readFrom_X7_put_n50 : GoodIn wsX3_readFrom (wsX7_put) := ggX3_readFrom_X7_put
theorem dX3_readFrom_0 : decode cX3_readFrom 0 = .ok (.aload_n 0, 1) := by decide +kernel
theorem dX3_readFrom_1 : decode cX3_readFrom 1 = .ok (.aload_n 1, 1) := by decide +kernel
theorem dX3_readFrom_2 : decode cX3_readFrom 2 = .ok (.iconst 1, 1) := by decide +kernel
theorem dX3_readFrom_3 : decode cX3_readFrom 3 = .ok (.invokevirtual 25, 3) := by decide +kernel
theorem dX3_readFrom_6 : decode cX3_readFrom 6 = .ok (.putfield 18, 3) := by decide +kernel
theorem dX3_readFrom_9 : decode cX3_readFrom 9 = .ok (.aload_n 0, 1) := by decide +kernel
theorem dX3_readFrom_10 : decode cX3_readFrom 10 = .ok (.aload_n 1, 1) := by decide +kernel
theorem dX3_readFrom_11 : decode cX3_readFrom 11 = .ok (.iconst 2, 1) := by decide +kernel
theorem dX3_readFrom_12 : decode cX3_readFrom 12 = .ok (.invokevirtual 25, 3) := by decide +kernel
theorem dX3_readFrom_15 : decode cX3_readFrom 15 = .ok (.putfield 31, 3) := by decide +kernel
theorem dX3_readFrom_18 : decode cX3_readFrom 18 = .ok (.aload_n 0, 1) := by decide +kernel
theorem dX3_readFrom_19 : decode cX3_readFrom 19 = .ok (.aload_n 1, 1) := by decide +kernel
theorem dX3_readFrom_20 : decode cX3_readFrom 20 = .ok (.iconst 3, 1) := by decide +kernel
theorem dX3_readFrom_21 : decode cX3_readFrom 21 = .ok (.invokevirtual 25, 3) := by decide +kernel
theorem dX3_readFrom_24 : decode cX3_readFrom 24 = .ok (.putfield 22, 3) := by decide +kernel
theorem dX3_readFrom_27 : decode cX3_readFrom 27 = .ok (.aload_n 0, 1) := by decide +kernel
theorem dX3_readFrom_28 : decode cX3_readFrom 28 = .ok (.iconst 0, 1) := by decide +kernel
theorem dX3_readFrom_29 : decode cX3_readFrom 29 = .ok (.iconst 5, 1) := by decide +kernel
theorem dX3_readFrom_30 : decode cX3_readFrom 30 = .ok (.aload_n 1, 1) := by decide +kernel
theorem dX3_readFrom_31 : decode cX3_readFrom 31 = .ok (.invokevirtual 34, 3) := by decide +kernel
theorem dX3_readFrom_34 : decode cX3_readFrom 34 = .ok (.iconst 4, 1) := by decide +kernel
theorem dX3_readFrom_35 : decode cX3_readFrom 35 = .ok (.isub, 1) := by decide +kernel
theorem dX3_readFrom_36 : decode cX3_readFrom 36 = .ok (.iconst 4, 1) := by decide +kernel
theorem dX3_readFrom_37 : decode cX3_readFrom 37 = .ok (.idiv, 1) := by decide +kernel
theorem dX3_readFrom_38 : decode cX3_readFrom 38 = .ok (.invokestatic 38, 3) := by decide +kernel
theorem dX3_readFrom_41 : decode cX3_readFrom 41 = .ok (.invokestatic 44, 3) := by decide +kernel
theorem dX3_readFrom_44 : decode cX3_readFrom 44 = .ok (.putfield 47, 3) := by decide +kernel
theorem dX3_readFrom_47 : decode cX3_readFrom 47 = .ok (.iconst 0, 1) := by decide +kernel
theorem dX3_readFrom_48 : decode cX3_readFrom 48 = .ok (.istore_n 2, 1) := by decide +kernel
theorem dX3_readFrom_49 : decode cX3_readFrom 49 = .ok (.iload_n 2, 1) := by decide +kernel
theorem dX3_readFrom_50 : decode cX3_readFrom 50 = .ok (.aload_n 0, 1) := by decide +kernel
theorem dX3_readFrom_51 : decode cX3_readFrom 51 = .ok (.getfield 47, 3) := by decide +kernel
theorem dX3_readFrom_54 : decode cX3_readFrom 54 = .ok (.if_icmp .ge 47, 3) := by decide +kernel
theorem dX3_readFrom_57 : decode cX3_readFrom 57 = .ok (.aload_n 0, 1) := by decide +kernel
theorem dX3_readFrom_58 : decode cX3_readFrom 58 = .ok (.getfield 9, 3) := by decide +kernel
theorem dX3_readFrom_61 : decode cX3_readFrom 61 = .ok (.iload_n 2, 1) := by decide +kernel
theorem dX3_readFrom_62 : decode cX3_readFrom 62 = .ok (.aload_n 1, 1) := by decide +kernel
theorem dX3_readFrom_63 : decode cX3_readFrom 63 = .ok (.iconst 4, 1) := by decide +kernel
theorem dX3_readFrom_64 : decode cX3_readFrom 64 = .ok (.iload_n 2, 1) := by decide +kernel
theorem dX3_readFrom_65 : decode cX3_readFrom 65 = .ok (.iconst 4, 1) := by decide +kernel
theorem dX3_readFrom_66 : decode cX3_readFrom 66 = .ok (.imul, 1) := by decide +kernel
theorem dX3_readFrom_67 : decode cX3_readFrom 67 = .ok (.iadd, 1) := by decide +kernel
theorem dX3_readFrom_68 : decode cX3_readFrom 68 = .ok (.iconst 2, 1) := by decide +kernel
theorem dX3_readFrom_69 : decode cX3_readFrom 69 = .ok (.iadd, 1) := by decide +kernel
theorem dX3_readFrom_70 : decode cX3_readFrom 70 = .ok (.invokevirtual 25, 3) := by decide +kernel
theorem dX3_readFrom_73 : decode cX3_readFrom 73 = .ok (.invokestatic 50, 3) := by decide +kernel
theorem dX3_readFrom_76 : decode cX3_readFrom 76 = .ok (.aload_n 0, 1) := by decide +kernel
theorem dX3_readFrom_77 : decode cX3_readFrom 77 = .ok (.getfield 15, 3) := by decide +kernel
theorem dX3_readFrom_80 : decode cX3_readFrom 80 = .ok (.iload_n 2, 1) := by decide +kernel
theorem dX3_readFrom_81 : decode cX3_readFrom 81 = .ok (.aload_n 1, 1) := by decide +kernel
theorem dX3_readFrom_82 : decode cX3_readFrom 82 = .ok (.iconst 4, 1) := by decide +kernel
