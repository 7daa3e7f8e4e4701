theorem dX8_readOneWalker_116 : decode cX8_readOneWalker 116 = .ok (.iconst 3, 1) := by decide +kernel
theorem dX8_readOneWalker_117 : decode cX8_readOneWalker 117 = .ok (.aload_n 0, 1) := by decide +kernel
theorem dX8_readOneWalker_118 : decode cX8_readOneWalker 118 = .ok (.getfield 81, 3) := by decide +kernel
theorem dX8_readOneWalker_121 : decode cX8_readOneWalker 121 = .ok (.imul, 1) := by decide +kernel
theorem dX8_readOneWalker_122 : decode cX8_readOneWalker 122 = .ok (.iconst 2, 1) := by decide +kernel
theorem dX8_readOneWalker_123 : decode cX8_readOneWalker 123 = .ok (.iadd, 1) := by decide +kernel
theorem dX8_readOneWalker_124 : decode cX8_readOneWalker 124 = .ok (.iload_n 3, 1) := by decide +kernel
theorem dX8_readOneWalker_125 : decode cX8_readOneWalker 125 = .ok (.iastore, 1) := by decide +kernel
theorem dX8_readOneWalker_126 : decode cX8_readOneWalker 126 = .ok (.aload_n 0, 1) := by decide +kernel
theorem dX8_readOneWalker_127 : decode cX8_readOneWalker 127 = .ok (.dup, 1) := by decide +kernel
theorem dX8_readOneWalker_128 : decode cX8_readOneWalker 128 = .ok (.getfield 81, 3) := by decide +kernel
theorem dX8_readOneWalker_131 : decode cX8_readOneWalker 131 = .ok (.iconst 1, 1) := by decide +kernel
theorem dX8_readOneWalker_132 : decode cX8_readOneWalker 132 = .ok (.iadd, 1) := by decide +kernel
theorem dX8_readOneWalker_133 : decode cX8_readOneWalker 133 = .ok (.putfield 81, 3) := by decide +kernel
theorem dX8_readOneWalker_136 : decode cX8_readOneWalker 136 = .ok (.iconst 1, 1) := by decide +kernel
theorem dX8_readOneWalker_137 : decode cX8_readOneWalker 137 = .ok (.ireturn, 1) := by decide +kernel
set_option maxRecDepth 20000 in
theorem ggX8_readParty_X8_figure : GoodIn wsX8_readParty wsX8_figure := goodIn_r _ [10, 1, 3, 4, 11, 12, 9, 13, 19, 20, 21, 22, 23, 24, 25, 26, 27, 28, 29, 30, 31, 32, 33, 34, 35, 36, 37, 38, 39, 40, 41, 42, 43, 44, 45, 46, 47, 48, 49, 50, 51] (by decide +kernel) (by decide +kernel)
set_option maxRecDepth 20000 in
theorem gX8_readParty_X8_figure : GoodIn wsX8_readParty (wsV RX8 84 RX8 yX8_figure wsX8_figure) := goodIn_app (goodIn_of _ (by decide +kernel)) ggX8_readParty_X8_figure
set_option maxRecDepth 20000 in
theorem ggX8_readParty_X8_readOneWalker : GoodIn wsX8_readParty wsX8_readOneWalker := goodIn_r _ [17, 4, 1, 2, 18, 6, 7, 8, 9, 10, 3, 11, 12, 13, 19, 20, 21, 22, 23, 24, 25, 26, 27, 28, 29, 30, 31, 32, 33, 34, 35, 36, 37, 38, 39, 40, 41, 42, 43, 44, 45, 46, 47, 48, 49, 50, 51] (by decide +kernel) (by decide +kernel)
set_option maxRecDepth 20000 in
theorem gX8_readParty_X8_readOneWalker : GoodIn wsX8_readParty (wsV RX8 88 RX8 yX8_readOneWalker wsX8_readOneWalker) := goodIn_app (goodIn_of _ (by decide +kernel)) ggX8_readParty_X8_readOneWalker
theorem dX8_readParty_0 : decode cX8_readParty 0 = .ok (.aload_n 0, 1) := by decide +kernel
theorem dX8_readParty_1 : decode cX8_readParty 1 = .ok (.iconst 0, 1) := by decide +kernel
theorem dX8_readParty_2 : decode cX8_readParty 2 = .ok (.putfield 78, 3) := by decide +kernel
theorem dX8_readParty_5 : decode cX8_readParty 5 = .ok (.aload_n 0, 1) := by decide +kernel
theorem dX8_readParty_6 : decode cX8_readParty 6 = .ok (.iconst 0, 1) := by decide +kernel
theorem dX8_readParty_7 : decode cX8_readParty 7 = .ok (.putfield 81, 3) := by decide +kernel
theorem dX8_readParty_10 : decode cX8_readParty 10 = .ok (.aload_n 0, 1) := by decide +kernel
theorem dX8_readParty_11 : decode cX8_readParty 11 = .ok (.getfield 75, 3) := by decide +kernel
theorem dX8_readParty_14 : decode cX8_readParty 14 = .ok (.ifCond .eq 14, 3) := by decide +kernel
theorem dX8_readParty_17 : decode cX8_readParty 17 = .ok (.aload_n 0, 1) := by decide +kernel
theorem dX8_readParty_18 : decode cX8_readParty 18 = .ok (.getfield 7, 3) := by decide +kernel
theorem dX8_readParty_21 : decode cX8_readParty 21 = .ok (.iconst 0, 1) := by decide +kernel
theorem dX8_readParty_22 : decode cX8_readParty 22 = .ok (.iaload, 1) := by decide +kernel
theorem dX8_readParty_23 : decode cX8_readParty 23 = .ok (.bipush 80, 2) := by decide +kernel
theorem dX8_readParty_25 : decode cX8_readParty 25 = .ok (.if_icmp .eq 5, 3) := by decide +kernel
theorem dX8_readParty_28 : decode cX8_readParty 28 = .ok (.iconst 0, 1) := by decide +kernel
theorem dX8_readParty_29 : decode cX8_readParty 29 = .ok (.ireturn, 1) := by decide +kernel
theorem dX8_readParty_30 : decode cX8_readParty 30 = .ok (.aload_n 0, 1) := by decide +kernel
theorem dX8_readParty_31 : decode cX8_readParty 31 = .ok (.iconst 1, 1) := by decide +kernel
theorem dX8_readParty_32 : decode cX8_readParty 32 = .ok (.putfield 78, 3) := by decide +kernel
theorem dX8_readParty_35 : decode cX8_readParty 35 = .ok (.iconst 0, 1) := by decide +kernel
theorem dX8_readParty_36 : decode cX8_readParty 36 = .ok (.istore_n 1, 1) := by decide +kernel
theorem dX8_readParty_37 : decode cX8_readParty 37 = .ok (.iload_n 1, 1) := by decide +kernel
theorem dX8_readParty_38 : decode cX8_readParty 38 = .ok (.iconst 3, 1) := by decide +kernel
theorem dX8_readParty_39 : decode cX8_readParty 39 = .ok (.if_icmp .ge 47, 3) := by decide +kernel
theorem dX8_readParty_42 : decode cX8_readParty 42 = .ok (.aload_n 0, 1) := by decide +kernel
theorem dX8_readParty_43 : decode cX8_readParty 43 = .ok (.getfield 26, 3) := by decide +kernel
theorem dX8_readParty_46 : decode cX8_readParty 46 = .ok (.iload_n 1, 1) := by decide +kernel
theorem dX8_readParty_47 : decode cX8_readParty 47 = .ok (.aload_n 0, 1) := by decide +kernel
theorem dX8_readParty_48 : decode cX8_readParty 48 = .ok (.iload_n 1, 1) := by decide +kernel
theorem dX8_readParty_49 : decode cX8_readParty 49 = .ok (.iconst 1, 1) := by decide +kernel
theorem dX8_readParty_50 : decode cX8_readParty 50 = .ok (.if_icmp .ne 7, 3) := by decide +kernel
theorem dX8_readParty_53 : decode cX8_readParty 53 = .ok (.iconst 0, 1) := by decide +kernel
theorem dX8_readParty_54 : decode cX8_readParty 54 = .ok (.goto 4, 3) := by decide +kernel
theorem dX8_readParty_57 : decode cX8_readParty 57 = .ok (.iconst 1, 1) := by decide +kernel
theorem dX8_readParty_58 : decode cX8_readParty 58 = .ok (.bipush 9, 2) := by decide +kernel
theorem dX8_readParty_60 : decode cX8_readParty 60 = .ok (.invokevirtual 84, 3) := by decide +kernel
theorem dX8_readParty_63 : decode cX8_readParty 63 = .ok (.iastore, 1) := by decide +kernel
theorem dX8_readParty_64 : decode cX8_readParty 64 = .ok (.aload_n 0, 1) := by decide +kernel
theorem dX8_readParty_65 : decode cX8_readParty 65 = .ok (.getfield 26, 3) := by decide +kernel
theorem dX8_readParty_68 : decode cX8_readParty 68 = .ok (.iload_n 1, 1) := by decide +kernel
theorem dX8_readParty_69 : decode cX8_readParty 69 = .ok (.iaload, 1) := by decide +kernel
theorem dX8_readParty_70 : decode cX8_readParty 70 = .ok (.bipush (-9), 2) := by decide +kernel
theorem dX8_readParty_72 : decode cX8_readParty 72 = .ok (.if_icmp .ne 8, 3) := by decide +kernel
theorem dX8_readParty_75 : decode cX8_readParty 75 = .ok (.aload_n 0, 1) := by decide +kernel
theorem dX8_readParty_76 : decode cX8_readParty 76 = .ok (.getfield 78, 3) := by decide +kernel
theorem dX8_readParty_79 : decode cX8_readParty 79 = .ok (.ireturn, 1) := by decide +kernel
theorem dX8_readParty_80 : decode cX8_readParty 80 = .ok (.iinc 1 1, 3) := by decide +kernel
theorem dX8_readParty_83 : decode cX8_readParty 83 = .ok (.goto (-46), 3) := by decide +kernel
theorem dX8_readParty_86 : decode cX8_readParty 86 = .ok (.aload_n 0, 1) := by decide +kernel
theorem dX8_readParty_87 : decode cX8_readParty 87 = .ok (.getfield 78, 3) := by decide +kernel
theorem dX8_readParty_90 : decode cX8_readParty 90 = .ok (.aload_n 0, 1) := by decide +kernel
theorem dX8_readParty_91 : decode cX8_readParty 91 = .ok (.getfield 75, 3) := by decide +kernel
theorem dX8_readParty_94 : decode cX8_readParty 94 = .ok (.if_icmp .ge 15, 3) := by decide +kernel
theorem dX8_readParty_97 : decode cX8_readParty 97 = .ok (.aload_n 0, 1) := by decide +kernel
theorem dX8_readParty_98 : decode cX8_readParty 98 = .ok (.invokevirtual 88, 3) := by decide +kernel
theorem dX8_readParty_101 : decode cX8_readParty 101 = .ok (.ifCond .ne (-15), 3) := by decide +kernel
theorem dX8_readParty_104 : decode cX8_readParty 104 = .ok (.aload_n 0, 1) := by decide +kernel
theorem dX8_readParty_105 : decode cX8_readParty 105 = .ok (.getfield 78, 3) := by decide +kernel
theorem dX8_readParty_108 : decode cX8_readParty 108 = .ok (.ireturn, 1) := by decide +kernel
theorem dX8_readParty_109 : decode cX8_readParty 109 = .ok (.bipush (-9), 2) := by decide +kernel
theorem dX8_readParty_111 : decode cX8_readParty 111 = .ok (.ireturn, 1) := by decide +kernel
set_option maxRecDepth 20000 in
theorem ggX8_fault_X8_readParty : GoodIn wsX8_fault wsX8_readParty := goodIn_r _ [6, 7, 8, 9, 10, 11, 12, 13, 14, 5, 15, 16, 17, 18, 19, 20, 21, 22, 23, 24, 25, 26, 27, 28, 29, 30, 31, 32, 33, 34, 35, 36, 37, 38, 39, 40, 41, 42, 43, 44, 45, 46, 47, 48, 49, 50, 51, 52, 53, 54, 55, 56] (by decide +kernel) (by decide +kernel)
set_option maxRecDepth 20000 in
theorem gX8_fault_X8_readParty : GoodIn wsX8_fault (wsV RX8 92 RX8 yX8_readParty wsX8_readParty) := goodIn_app (goodIn_of _ (by decide +kernel)) ggX8_fault_X8_readParty
theorem dX8_fault_0 : decode cX8_fault 0 = .ok (.aload_n 0, 1) := by decide +kernel
theorem dX8_fault_1 : decode cX8_fault 1 = .ok (.iconst 0, 1) := by decide +kernel
theorem dX8_fault_2 : decode cX8_fault 2 = .ok (.putfield 63, 3) := by decide +kernel
theorem dX8_fault_5 : decode cX8_fault 5 = .ok (.aload_n 0, 1) := by decide +kernel
theorem dX8_fault_6 : decode cX8_fault 6 = .ok (.invokevirtual 92, 3) := by decide +kernel
theorem dX8_fault_9 : decode cX8_fault 9 = .ok (.ireturn, 1) := by decide +kernel
set_option maxRecDepth 20000 in
theorem ggX8_party_X8_readParty : GoodIn wsX8_party wsX8_readParty := goodIn_r _ [18, 19, 6, 20, 21, 2, 22, 23, 24, 17, 25, 26, 27, 28, 29, 30, 31, 32, 9, 33, 34, 35, 36, 37, 38, 39, 40, 41, 42, 43, 44, 45, 46, 47, 48, 49, 50, 51, 52, 53, 54, 55, 56, 57, 58, 59, 60, 61, 62, 63, 64, 65] (by decide +kernel) (by decide +kernel)
set_option maxRecDepth 20000 in
theorem gX8_party_X8_readParty : GoodIn wsX8_party (wsV RX8 92 RX8 yX8_readParty wsX8_readParty) := goodIn_app (goodIn_of _ (by decide +kernel)) ggX8_party_X8_readParty
theorem dX8_party_0 : decode cX8_party 0 = .ok (.aload_n 0, 1) := by decide +kernel
theorem dX8_party_1 : decode cX8_party 1 = .ok (.iconst 0, 1) := by decide +kernel
theorem dX8_party_2 : decode cX8_party 2 = .ok (.putfield 63, 3) := by decide +kernel
theorem dX8_party_5 : decode cX8_party 5 = .ok (.aload_n 0, 1) := by decide +kernel
theorem dX8_party_6 : decode cX8_party 6 = .ok (.invokevirtual 92, 3) := by decide +kernel
theorem dX8_party_9 : decode cX8_party 9 = .ok (.bipush (-9), 2) := by decide +kernel
theorem dX8_party_11 : decode cX8_party 11 = .ok (.if_icmp .eq 6, 3) := by decide +kernel
theorem dX8_party_14 : decode cX8_party 14 = .ok (.bipush (-3), 2) := by decide +kernel
theorem dX8_party_16 : decode cX8_party 16 = .ok (.ireturn, 1) := by decide +kernel
theorem dX8_party_17 : decode cX8_party 17 = .ok (.aload_n 0, 1) := by decide +kernel
theorem dX8_party_18 : decode cX8_party 18 = .ok (.aload_n 0, 1) := by decide +kernel
theorem dX8_party_19 : decode cX8_party 19 = .ok (.getfield 26, 3) := by decide +kernel
theorem dX8_party_22 : decode cX8_party 22 = .ok (.iconst 0, 1) := by decide +kernel
theorem dX8_party_23 : decode cX8_party 23 = .ok (.iaload, 1) := by decide +kernel
theorem dX8_party_24 : decode cX8_party 24 = .ok (.putfield 13, 3) := by decide +kernel
theorem dX8_party_27 : decode cX8_party 27 = .ok (.aload_n 0, 1) := by decide +kernel
theorem dX8_party_28 : decode cX8_party 28 = .ok (.aload_n 0, 1) := by decide +kernel
theorem dX8_party_29 : decode cX8_party 29 = .ok (.getfield 26, 3) := by decide +kernel
theorem dX8_party_32 : decode cX8_party 32 = .ok (.iconst 1, 1) := by decide +kernel
theorem dX8_party_33 : decode cX8_party 33 = .ok (.iaload, 1) := by decide +kernel
theorem dX8_party_34 : decode cX8_party 34 = .ok (.putfield 96, 3) := by decide +kernel
theorem dX8_party_37 : decode cX8_party 37 = .ok (.aload_n 0, 1) := by decide +kernel
theorem dX8_party_38 : decode cX8_party 38 = .ok (.aload_n 0, 1) := by decide +kernel
theorem dX8_party_39 : decode cX8_party 39 = .ok (.getfield 26, 3) := by decide +kernel
theorem dX8_party_42 : decode cX8_party 42 = .ok (.iconst 2, 1) := by decide +kernel
theorem dX8_party_43 : decode cX8_party 43 = .ok (.iaload, 1) := by decide +kernel
theorem dX8_party_44 : decode cX8_party 44 = .ok (.putfield 17, 3) := by decide +kernel
theorem dX8_party_47 : decode cX8_party 47 = .ok (.aload_n 0, 1) := by decide +kernel
theorem dX8_party_48 : decode cX8_party 48 = .ok (.aload_n 0, 1) := by decide +kernel
theorem dX8_party_49 : decode cX8_party 49 = .ok (.getfield 81, 3) := by decide +kernel
theorem dX8_party_52 : decode cX8_party 52 = .ok (.putfield 66, 3) := by decide +kernel
theorem dX8_party_55 : decode cX8_party 55 = .ok (.iconst 0, 1) := by decide +kernel
theorem dX8_party_56 : decode cX8_party 56 = .ok (.istore_n 1, 1) := by decide +kernel
theorem dX8_party_57 : decode cX8_party 57 = .ok (.iload_n 1, 1) := by decide +kernel
theorem dX8_party_58 : decode cX8_party 58 = .ok (.bipush 17, 2) := by decide +kernel
theorem dX8_party_60 : decode cX8_party 60 = .ok (.if_icmp .ge 16, 3) := by decide +kernel
theorem dX8_party_63 : decode cX8_party 63 = .ok (.aload_n 0, 1) := by decide +kernel
theorem dX8_party_64 : decode cX8_party 64 = .ok (.getfield 32, 3) := by decide +kernel
theorem dX8_party_67 : decode cX8_party 67 = .ok (.iload_n 1, 1) := by decide +kernel
theorem dX8_party_68 : decode cX8_party 68 = .ok (.iconst 0, 1) := by decide +kernel
theorem dX8_party_69 : decode cX8_party 69 = .ok (.iastore, 1) := by decide +kernel
theorem dX8_party_70 : decode cX8_party 70 = .ok (.iinc 1 1, 3) := by decide +kernel
theorem dX8_party_73 : decode cX8_party 73 = .ok (.goto (-16), 3) := by decide +kernel
theorem dX8_party_76 : decode cX8_party 76 = .ok (.iconst 0, 1) := by decide +kernel
theorem dX8_party_77 : decode cX8_party 77 = .ok (.istore_n 1, 1) := by decide +kernel
theorem dX8_party_78 : decode cX8_party 78 = .ok (.iload_n 1, 1) := by decide +kernel
theorem dX8_party_79 : decode cX8_party 79 = .ok (.aload_n 0, 1) := by decide +kernel
theorem dX8_party_80 : decode cX8_party 80 = .ok (.getfield 66, 3) := by decide +kernel
theorem dX8_party_83 : decode cX8_party 83 = .ok (.if_icmp .ge 66, 3) := by decide +kernel
theorem dX8_party_86 : decode cX8_party 86 = .ok (.aload_n 0, 1) := by decide +kernel
theorem dX8_party_87 : decode cX8_party 87 = .ok (.getfield 32, 3) := by decide +kernel
theorem dX8_party_90 : decode cX8_party 90 = .ok (.iconst 0, 1) := by decide +kernel
theorem dX8_party_91 : decode cX8_party 91 = .ok (.iload_n 1, 1) := by decide +kernel
theorem dX8_party_92 : decode cX8_party 92 = .ok (.iadd, 1) := by decide +kernel
theorem dX8_party_93 : decode cX8_party 93 = .ok (.iload_n 1, 1) := by decide +kernel
theorem dX8_party_94 : decode cX8_party 94 = .ok (.iastore, 1) := by decide +kernel
theorem dX8_party_95 : decode cX8_party 95 = .ok (.aload_n 0, 1) := by decide +kernel
theorem dX8_party_96 : decode cX8_party 96 = .ok (.getfield 32, 3) := by decide +kernel
theorem dX8_party_99 : decode cX8_party 99 = .ok (.iconst 5, 1) := by decide +kernel
theorem dX8_party_100 : decode cX8_party 100 = .ok (.iload_n 1, 1) := by decide +kernel
theorem dX8_party_101 : decode cX8_party 101 = .ok (.iadd, 1) := by decide +kernel
theorem dX8_party_102 : decode cX8_party 102 = .ok (.aload_n 0, 1) := by decide +kernel
theorem dX8_party_103 : decode cX8_party 103 = .ok (.getfield 29, 3) := by decide +kernel
theorem dX8_party_106 : decode cX8_party 106 = .ok (.iconst 3, 1) := by decide +kernel
theorem dX8_party_107 : decode cX8_party 107 = .ok (.iload_n 1, 1) := by decide +kernel
theorem dX8_party_108 : decode cX8_party 108 = .ok (.imul, 1) := by decide +kernel
theorem dX8_party_109 : decode cX8_party 109 = .ok (.iaload, 1) := by decide +kernel
theorem dX8_party_110 : decode cX8_party 110 = .ok (.iastore, 1) := by decide +kernel
theorem dX8_party_111 : decode cX8_party 111 = .ok (.aload_n 0, 1) := by decide +kernel
theorem dX8_party_112 : decode cX8_party 112 = .ok (.getfield 20, 3) := by decide +kernel
theorem dX8_party_115 : decode cX8_party 115 = .ok (.iload_n 1, 1) := by decide +kernel
theorem dX8_party_116 : decode cX8_party 116 = .ok (.aload_n 0, 1) := by decide +kernel
theorem dX8_party_117 : decode cX8_party 117 = .ok (.getfield 29, 3) := by decide +kernel
theorem dX8_party_120 : decode cX8_party 120 = .ok (.iconst 3, 1) := by decide +kernel
theorem dX8_party_121 : decode cX8_party 121 = .ok (.iload_n 1, 1) := by decide +kernel
theorem dX8_party_122 : decode cX8_party 122 = .ok (.imul, 1) := by decide +kernel
theorem dX8_party_123 : decode cX8_party 123 = .ok (.iconst 1, 1) := by decide +kernel
theorem dX8_party_124 : decode cX8_party 124 = .ok (.iadd, 1) := by decide +kernel
theorem dX8_party_125 : decode cX8_party 125 = .ok (.iaload, 1) := by decide +kernel
theorem dX8_party_126 : decode cX8_party 126 = .ok (.iastore, 1) := by decide +kernel
theorem dX8_party_127 : decode cX8_party 127 = .ok (.aload_n 0, 1) := by decide +kernel
theorem dX8_party_128 : decode cX8_party 128 = .ok (.getfield 23, 3) := by decide +kernel
theorem dX8_party_131 : decode cX8_party 131 = .ok (.iload_n 1, 1) := by decide +kernel
theorem dX8_party_132 : decode cX8_party 132 = .ok (.aload_n 0, 1) := by decide +kernel
theorem dX8_party_133 : decode cX8_party 133 = .ok (.getfield 29, 3) := by decide +kernel
theorem dX8_party_136 : decode cX8_party 136 = .ok (.iconst 3, 1) := by decide +kernel
theorem dX8_party_137 : decode cX8_party 137 = .ok (.iload_n 1, 1) := by decide +kernel
theorem dX8_party_138 : decode cX8_party 138 = .ok (.imul, 1) := by decide +kernel
theorem dX8_party_139 : decode cX8_party 139 = .ok (.iconst 2, 1) := by decide +kernel
theorem dX8_party_140 : decode cX8_party 140 = .ok (.iadd, 1) := by decide +kernel
theorem dX8_party_141 : decode cX8_party 141 = .ok (.iaload, 1) := by decide +kernel
theorem dX8_party_142 : decode cX8_party 142 = .ok (.iastore, 1) := by decide +kernel
theorem dX8_party_143 : decode cX8_party 143 = .ok (.iinc 1 1, 3) := by decide +kernel
theorem dX8_party_146 : decode cX8_party 146 = .ok (.goto (-68), 3) := by decide +kernel
theorem dX8_party_149 : decode cX8_party 149 = .ok (.aload_n 0, 1) := by decide +kernel
theorem dX8_party_150 : decode cX8_party 150 = .ok (.iconst 0, 1) := by decide +kernel
theorem dX8_party_151 : decode cX8_party 151 = .ok (.putfield 99, 3) := by decide +kernel
theorem dX8_party_154 : decode cX8_party 154 = .ok (.aload_n 0, 1) := by decide +kernel
theorem dX8_party_155 : decode cX8_party 155 = .ok (.getfield 44, 3) := by decide +kernel
theorem dX8_party_158 : decode cX8_party 158 = .ok (.iconst 0, 1) := by decide +kernel
theorem dX8_party_159 : decode cX8_party 159 = .ok (.iconst 0, 1) := by decide +kernel
theorem dX8_party_160 : decode cX8_party 160 = .ok (.bastore, 1) := by decide +kernel
theorem dX8_party_161 : decode cX8_party 161 = .ok (.aload_n 0, 1) := by decide +kernel
theorem dX8_party_162 : decode cX8_party 162 = .ok (.getfield 44, 3) := by decide +kernel
theorem dX8_party_165 : decode cX8_party 165 = .ok (.iconst 1, 1) := by decide +kernel
theorem dX8_party_166 : decode cX8_party 166 = .ok (.iconst 0, 1) := by decide +kernel
theorem dX8_party_167 : decode cX8_party 167 = .ok (.bastore, 1) := by decide +kernel
theorem dX8_party_168 : decode cX8_party 168 = .ok (.aload_n 0, 1) := by decide +kernel
theorem dX8_party_169 : decode cX8_party 169 = .ok (.getfield 66, 3) := by decide +kernel
theorem dX8_party_172 : decode cX8_party 172 = .ok (.ireturn, 1) := by decide +kernel
theorem dX8_treadBy_0 : decode cX8_treadBy 0 = .ok (.iload_n 0, 1) := by decide +kernel
theorem dX8_treadBy_1 : decode cX8_treadBy 1 = .ok (.tableswitch 53 1 3 #[27, 33, 47], 27) := by decide +kernel
theorem dX8_treadBy_28 : decode cX8_treadBy 28 = .ok (.iload_n 1, 1) := by decide +kernel
theorem dX8_treadBy_29 : decode cX8_treadBy 29 = .ok (.iload_n 3, 1) := by decide +kernel
theorem dX8_treadBy_30 : decode cX8_treadBy 30 = .ok (.iconst 2, 1) := by decide +kernel
theorem dX8_treadBy_31 : decode cX8_treadBy 31 = .ok (.irem, 1) := by decide +kernel
theorem dX8_treadBy_32 : decode cX8_treadBy 32 = .ok (.isub, 1) := by decide +kernel
theorem dX8_treadBy_33 : decode cX8_treadBy 33 = .ok (.ireturn, 1) := by decide +kernel
theorem dX8_treadBy_34 : decode cX8_treadBy 34 = .ok (.iload_n 3, 1) := by decide +kernel
theorem dX8_treadBy_35 : decode cX8_treadBy 35 = .ok (.iload_n 2, 1) := by decide +kernel
theorem dX8_treadBy_36 : decode cX8_treadBy 36 = .ok (.irem, 1) := by decide +kernel
theorem dX8_treadBy_37 : decode cX8_treadBy 37 = .ok (.ifCond .ne 9, 3) := by decide +kernel
theorem dX8_treadBy_40 : decode cX8_treadBy 40 = .ok (.iload_n 1, 1) := by decide +kernel
theorem dX8_treadBy_41 : decode cX8_treadBy 41 = .ok (.iconst 1, 1) := by decide +kernel
theorem dX8_treadBy_42 : decode cX8_treadBy 42 = .ok (.iadd, 1) := by decide +kernel
theorem dX8_treadBy_43 : decode cX8_treadBy 43 = .ok (.goto 4, 3) := by decide +kernel
theorem dX8_treadBy_46 : decode cX8_treadBy 46 = .ok (.iload_n 1, 1) := by decide +kernel
theorem dX8_treadBy_47 : decode cX8_treadBy 47 = .ok (.ireturn, 1) := by decide +kernel
theorem dX8_treadBy_48 : decode cX8_treadBy 48 = .ok (.iload_n 1, 1) := by decide +kernel
theorem dX8_treadBy_49 : decode cX8_treadBy 49 = .ok (.iload_n 3, 1) := by decide +kernel
theorem dX8_treadBy_50 : decode cX8_treadBy 50 = .ok (.iload_n 2, 1) := by decide +kernel
theorem dX8_treadBy_51 : decode cX8_treadBy 51 = .ok (.irem, 1) := by decide +kernel
theorem dX8_treadBy_52 : decode cX8_treadBy 52 = .ok (.iadd, 1) := by decide +kernel
theorem dX8_treadBy_53 : decode cX8_treadBy 53 = .ok (.ireturn, 1) := by decide +kernel
theorem dX8_treadBy_54 : decode cX8_treadBy 54 = .ok (.iload_n 1, 1) := by decide +kernel
theorem dX8_treadBy_55 : decode cX8_treadBy 55 = .ok (.ireturn, 1) := by decide +kernel
set_option maxRecDepth 20000 in
theorem ggX8_alone_X8_treadBy : GoodIn wsX8_alone wsX8_treadBy := goodIn_r _ [6] (by decide +kernel) (by decide +kernel)
set_option maxRecDepth 20000 in
theorem gX8_alone_X8_treadBy : GoodIn wsX8_alone (va_wsS RX8 102 yX8_treadBy wsX8_treadBy) := goodIn_app (goodIn_of _ (by decide +kernel)) ggX8_alone_X8_treadBy
theorem dX8_alone_0 : decode cX8_alone 0 = .ok (.aload_n 0, 1) := by decide +kernel
theorem dX8_alone_1 : decode cX8_alone 1 = .ok (.getfield 23, 3) := by decide +kernel
theorem dX8_alone_4 : decode cX8_alone 4 = .ok (.iload_n 2, 1) := by decide +kernel
theorem dX8_alone_5 : decode cX8_alone 5 = .ok (.iaload, 1) := by decide +kernel
theorem dX8_alone_6 : decode cX8_alone 6 = .ok (.aload_n 1, 1) := by decide +kernel
theorem dX8_alone_7 : decode cX8_alone 7 = .ok (.iconst 5, 1) := by decide +kernel
theorem dX8_alone_8 : decode cX8_alone 8 = .ok (.iload_n 2, 1) := by decide +kernel
theorem dX8_alone_9 : decode cX8_alone 9 = .ok (.iadd, 1) := by decide +kernel
theorem dX8_alone_10 : decode cX8_alone 10 = .ok (.iaload, 1) := by decide +kernel
theorem dX8_alone_11 : decode cX8_alone 11 = .ok (.aload_n 0, 1) := by decide +kernel
theorem dX8_alone_12 : decode cX8_alone 12 = .ok (.getfield 20, 3) := by decide +kernel
theorem dX8_alone_15 : decode cX8_alone 15 = .ok (.iload_n 2, 1) := by decide +kernel
theorem dX8_alone_16 : decode cX8_alone 16 = .ok (.iaload, 1) := by decide +kernel
theorem dX8_alone_17 : decode cX8_alone 17 = .ok (.iload_n 3, 1) := by decide +kernel
theorem dX8_alone_18 : decode cX8_alone 18 = .ok (.invokestatic 102, 3) := by decide +kernel
theorem dX8_alone_21 : decode cX8_alone 21 = .ok (.ireturn, 1) := by decide +kernel
theorem dX8_snowAt_0 : decode cX8_snowAt 0 = .ok (.iload_n 1, 1) := by decide +kernel
theorem dX8_snowAt_1 : decode cX8_snowAt 1 = .ok (.aload_n 0, 1) := by decide +kernel
theorem dX8_snowAt_2 : decode cX8_snowAt 2 = .ok (.getfield 96, 3) := by decide +kernel
theorem dX8_snowAt_5 : decode cX8_snowAt 5 = .ok (.if_icmp .ge 10, 3) := by decide +kernel
theorem dX8_snowAt_8 : decode cX8_snowAt 8 = .ok (.aload_n 0, 1) := by decide +kernel
theorem dX8_snowAt_9 : decode cX8_snowAt 9 = .ok (.getfield 13, 3) := by decide +kernel
theorem dX8_snowAt_12 : decode cX8_snowAt 12 = .ok (.goto 7, 3) := by decide +kernel
theorem dX8_snowAt_15 : decode cX8_snowAt 15 = .ok (.aload_n 0, 1) := by decide +kernel
theorem dX8_snowAt_16 : decode cX8_snowAt 16 = .ok (.getfield 17, 3) := by decide +kernel
theorem dX8_snowAt_19 : decode cX8_snowAt 19 = .ok (.ireturn, 1) := by decide +kernel
set_option maxRecDepth 20000 in
theorem ggX8_treads_X8_alone : GoodIn wsX8_treads wsX8_alone := goodIn_r _ [7, 1, 8, 9, 10, 6, 11, 15, 16, 17, 18, 19, 20, 21, 22, 23, 24, 25, 26, 27, 28, 29, 30, 31, 32, 33, 34, 35, 36, 37, 38, 39, 40, 41, 42, 43, 44, 45, 46, 47] (by decide +kernel) (by decide +kernel)
set_option maxRecDepth 20000 in
theorem gX8_treads_X8_alone : GoodIn wsX8_treads (wsV RX8 106 RX8 yX8_alone wsX8_alone) := goodIn_app (goodIn_of _ (by decide +kernel)) ggX8_treads_X8_alone
set_option maxRecDepth 20000 in
theorem ggX8_treads_X8_has : GoodIn wsX8_treads wsX8_has := goodIn_r _ [14] (by decide +kernel) (by decide +kernel)
set_option maxRecDepth 20000 in
theorem gX8_treads_X8_has : GoodIn wsX8_treads (va_wsS RX8 113 yX8_has wsX8_has) := goodIn_app (goodIn_of _ (by decide +kernel)) ggX8_treads_X8_has
theorem dX8_treads_0 : decode cX8_treads 0 = .ok (.aload_n 0, 1) := by decide +kernel
theorem dX8_treads_1 : decode cX8_treads 1 = .ok (.getfield 23, 3) := by decide +kernel
theorem dX8_treads_4 : decode cX8_treads 4 = .ok (.iload_n 2, 1) := by decide +kernel
theorem dX8_treads_5 : decode cX8_treads 5 = .ok (.iaload, 1) := by decide +kernel
theorem dX8_treads_6 : decode cX8_treads 6 = .ok (.iconst 2, 1) := by decide +kernel
theorem dX8_treads_7 : decode cX8_treads 7 = .ok (.if_icmp .ne 24, 3) := by decide +kernel
theorem dX8_treads_10 : decode cX8_treads 10 = .ok (.iload_n 3, 1) := by decide +kernel
theorem dX8_treads_11 : decode cX8_treads 11 = .ok (.bipush (-9), 2) := by decide +kernel
theorem dX8_treads_13 : decode cX8_treads 13 = .ok (.if_icmp .ne 16, 3) := by decide +kernel
theorem dX8_treads_16 : decode cX8_treads 16 = .ok (.aload_n 0, 1) := by decide +kernel
theorem dX8_treads_17 : decode cX8_treads 17 = .ok (.aload_n 1, 1) := by decide +kernel
theorem dX8_treads_18 : decode cX8_treads 18 = .ok (.iload_n 2, 1) := by decide +kernel
theorem dX8_treads_19 : decode cX8_treads 19 = .ok (.aload_n 1, 1) := by decide +kernel
theorem dX8_treads_20 : decode cX8_treads 20 = .ok (.bipush 16, 2) := by decide +kernel
theorem dX8_treads_22 : decode cX8_treads 22 = .ok (.iaload, 1) := by decide +kernel
theorem dX8_treads_23 : decode cX8_treads 23 = .ok (.invokevirtual 106, 3) := by decide +kernel
theorem dX8_treads_26 : decode cX8_treads 26 = .ok (.goto 4, 3) := by decide +kernel
theorem dX8_treads_29 : decode cX8_treads 29 = .ok (.iload_n 3, 1) := by decide +kernel
theorem dX8_treads_30 : decode cX8_treads 30 = .ok (.ireturn, 1) := by decide +kernel
theorem dX8_treads_31 : decode cX8_treads 31 = .ok (.aload_n 0, 1) := by decide +kernel
theorem dX8_treads_32 : decode cX8_treads 32 = .ok (.aload_n 1, 1) := by decide +kernel
theorem dX8_treads_33 : decode cX8_treads 33 = .ok (.iload_n 2, 1) := by decide +kernel
theorem dX8_treads_34 : decode cX8_treads 34 = .ok (.aload_n 1, 1) := by decide +kernel
theorem dX8_treads_35 : decode cX8_treads 35 = .ok (.bipush 16, 2) := by decide +kernel
theorem dX8_treads_37 : decode cX8_treads 37 = .ok (.iaload, 1) := by decide +kernel
theorem dX8_treads_38 : decode cX8_treads 38 = .ok (.invokevirtual 106, 3) := by decide +kernel
theorem dX8_treads_41 : decode cX8_treads 41 = .ok (.aload_n 0, 1) := by decide +kernel
theorem dX8_treads_42 : decode cX8_treads 42 = .ok (.getfield 110, 3) := by decide +kernel
theorem dX8_treads_45 : decode cX8_treads 45 = .ok (.iload_n 2, 1) := by decide +kernel
theorem dX8_treads_46 : decode cX8_treads 46 = .ok (.invokestatic 113, 3) := by decide +kernel
theorem dX8_treads_49 : decode cX8_treads 49 = .ok (.ifCond .eq 7, 3) := by decide +kernel
theorem dX8_treads_52 : decode cX8_treads 52 = .ok (.iconst 1, 1) := by decide +kernel
theorem dX8_treads_53 : decode cX8_treads 53 = .ok (.goto 4, 3) := by decide +kernel
theorem dX8_treads_56 : decode cX8_treads 56 = .ok (.iconst 0, 1) := by decide +kernel
theorem dX8_treads_57 : decode cX8_treads 57 = .ok (.iadd, 1) := by decide +kernel
theorem dX8_treads_58 : decode cX8_treads 58 = .ok (.ireturn, 1) := by decide +kernel
set_option maxRecDepth 20000 in
theorem ggX8_goStep_X8_has : GoodIn wsX8_goStep wsX8_has := goodIn_r _ [5] (by decide +kernel) (by decide +kernel)
set_option maxRecDepth 20000 in
theorem gX8_goStep_X8_has : GoodIn wsX8_goStep (va_wsS RX8 113 yX8_has wsX8_has) := goodIn_app (goodIn_of _ (by decide +kernel)) ggX8_goStep_X8_has
set_option maxRecDepth 20000 in
theorem ggX8_goStep_X8_treads : GoodIn wsX8_goStep wsX8_treads := goodIn_r _ [9, 10, 11, 12, 13, 14, 4, 15, 16, 17, 18, 19, 2, 3, 5, 27, 28, 29, 30, 31, 32, 33, 34, 35, 36, 37, 38, 39, 40, 41, 42, 43, 44, 45, 46, 47, 48, 49, 50, 51, 52, 53, 54, 55, 56, 57, 58, 59] (by decide +kernel) (by decide +kernel)
set_option maxRecDepth 20000 in
theorem gX8_goStep_X8_treads : GoodIn wsX8_goStep (wsV RX8 117 RX8 yX8_treads wsX8_treads) := goodIn_app (goodIn_of _ (by decide +kernel)) ggX8_goStep_X8_treads
set_option maxRecDepth 20000 in
theorem ggX8_goStep_X8_snowAt : GoodIn wsX8_goStep wsX8_snowAt := goodIn_r _ [23, 24, 25, 26, 27, 28, 29, 30, 31, 32, 33, 34, 35, 36, 37, 38, 39, 40, 41, 42, 43, 44, 45, 46, 47, 48, 49, 50, 51, 52, 53, 54, 55, 56, 57, 58, 59] (by decide +kernel) (by decide +kernel)
set_option maxRecDepth 20000 in
theorem gX8_goStep_X8_snowAt : GoodIn wsX8_goStep (wsV RX8 120 RX8 yX8_snowAt wsX8_snowAt) := goodIn_app (goodIn_of _ (by decide +kernel)) ggX8_goStep_X8_snowAt
theorem dX8_goStep_0 : decode cX8_goStep 0 = .ok (.bipush (-9), 2) := by decide +kernel
theorem dX8_goStep_2 : decode cX8_goStep 2 = .ok (.istore_n 2, 1) := by decide +kernel
theorem dX8_goStep_3 : decode cX8_goStep 3 = .ok (.iconst 0, 1) := by decide +kernel
theorem dX8_goStep_4 : decode cX8_goStep 4 = .ok (.istore_n 3, 1) := by decide +kernel
theorem dX8_goStep_5 : decode cX8_goStep 5 = .ok (.iconst 0, 1) := by decide +kernel
theorem dX8_goStep_6 : decode cX8_goStep 6 = .ok (.istore 4, 2) := by decide +kernel
theorem dX8_goStep_8 : decode cX8_goStep 8 = .ok (.iload 4, 2) := by decide +kernel
theorem dX8_goStep_10 : decode cX8_goStep 10 = .ok (.aload_n 0, 1) := by decide +kernel
theorem dX8_goStep_11 : decode cX8_goStep 11 = .ok (.getfield 66, 3) := by decide +kernel
theorem dX8_goStep_14 : decode cX8_goStep 14 = .ok (.if_icmp .ge 130, 3) := by decide +kernel
theorem dX8_goStep_17 : decode cX8_goStep 17 = .ok (.aload_n 1, 1) := by decide +kernel
theorem dX8_goStep_18 : decode cX8_goStep 18 = .ok (.iconst 0, 1) := by decide +kernel
theorem dX8_goStep_19 : decode cX8_goStep 19 = .ok (.iload 4, 2) := by decide +kernel
theorem dX8_goStep_21 : decode cX8_goStep 21 = .ok (.iadd, 1) := by decide +kernel
theorem dX8_goStep_22 : decode cX8_goStep 22 = .ok (.iaload, 1) := by decide +kernel
theorem dX8_goStep_23 : decode cX8_goStep 23 = .ok (.istore 5, 2) := by decide +kernel
theorem dX8_goStep_25 : decode cX8_goStep 25 = .ok (.aload_n 1, 1) := by decide +kernel
theorem dX8_goStep_26 : decode cX8_goStep 26 = .ok (.bipush 15, 2) := by decide +kernel
theorem dX8_goStep_28 : decode cX8_goStep 28 = .ok (.iaload, 1) := by decide +kernel
theorem dX8_goStep_29 : decode cX8_goStep 29 = .ok (.iload 5, 2) := by decide +kernel
theorem dX8_goStep_31 : decode cX8_goStep 31 = .ok (.invokestatic 113, 3) := by decide +kernel
theorem dX8_goStep_34 : decode cX8_goStep 34 = .ok (.ifCond .ne 104, 3) := by decide +kernel
theorem dX8_goStep_37 : decode cX8_goStep 37 = .ok (.aload_n 0, 1) := by decide +kernel
theorem dX8_goStep_38 : decode cX8_goStep 38 = .ok (.aload_n 1, 1) := by decide +kernel
theorem dX8_goStep_39 : decode cX8_goStep 39 = .ok (.iload 5, 2) := by decide +kernel
theorem dX8_goStep_41 : decode cX8_goStep 41 = .ok (.iload_n 2, 1) := by decide +kernel
theorem dX8_goStep_42 : decode cX8_goStep 42 = .ok (.invokevirtual 117, 3) := by decide +kernel
theorem dX8_goStep_45 : decode cX8_goStep 45 = .ok (.istore 6, 2) := by decide +kernel
theorem dX8_goStep_47 : decode cX8_goStep 47 = .ok (.iload_n 2, 1) := by decide +kernel
theorem dX8_goStep_48 : decode cX8_goStep 48 = .ok (.bipush (-9), 2) := by decide +kernel
theorem dX8_goStep_50 : decode cX8_goStep 50 = .ok (.if_icmp .ne 30, 3) := by decide +kernel
theorem dX8_goStep_53 : decode cX8_goStep 53 = .ok (.iload 6, 2) := by decide +kernel
theorem dX8_goStep_55 : decode cX8_goStep 55 = .ok (.aload_n 0, 1) := by decide +kernel
theorem dX8_goStep_56 : decode cX8_goStep 56 = .ok (.aload_n 1, 1) := by decide +kernel
theorem dX8_goStep_57 : decode cX8_goStep 57 = .ok (.bipush 16, 2) := by decide +kernel
theorem dX8_goStep_59 : decode cX8_goStep 59 = .ok (.iaload, 1) := by decide +kernel
theorem dX8_goStep_60 : decode cX8_goStep 60 = .ok (.invokevirtual 120, 3) := by decide +kernel
theorem dX8_goStep_63 : decode cX8_goStep 63 = .ok (.if_icmp .gt 9, 3) := by decide +kernel
theorem dX8_goStep_66 : decode cX8_goStep 66 = .ok (.iload 6, 2) := by decide +kernel
theorem dX8_goStep_68 : decode cX8_goStep 68 = .ok (.iconst 1, 1) := by decide +kernel
theorem dX8_goStep_69 : decode cX8_goStep 69 = .ok (.if_icmp .ge 7, 3) := by decide +kernel
theorem dX8_goStep_72 : decode cX8_goStep 72 = .ok (.iconst 1, 1) := by decide +kernel
theorem dX8_goStep_73 : decode cX8_goStep 73 = .ok (.goto 18, 3) := by decide +kernel
theorem dX8_goStep_76 : decode cX8_goStep 76 = .ok (.iconst 0, 1) := by decide +kernel
theorem dX8_goStep_77 : decode cX8_goStep 77 = .ok (.goto 14, 3) := by decide +kernel
theorem dX8_goStep_80 : decode cX8_goStep 80 = .ok (.iload 6, 2) := by decide +kernel
theorem dX8_goStep_82 : decode cX8_goStep 82 = .ok (.iload_n 2, 1) := by decide +kernel
theorem dX8_goStep_83 : decode cX8_goStep 83 = .ok (.if_icmp .eq 7, 3) := by decide +kernel
theorem dX8_goStep_86 : decode cX8_goStep 86 = .ok (.iconst 1, 1) := by decide +kernel
theorem dX8_goStep_87 : decode cX8_goStep 87 = .ok (.goto 4, 3) := by decide +kernel
theorem dX8_goStep_90 : decode cX8_goStep 90 = .ok (.iconst 0, 1) := by decide +kernel
theorem dX8_goStep_91 : decode cX8_goStep 91 = .ok (.istore 7, 2) := by decide +kernel
theorem dX8_goStep_93 : decode cX8_goStep 93 = .ok (.aload_n 1, 1) := by decide +kernel
theorem dX8_goStep_94 : decode cX8_goStep 94 = .ok (.bipush 15, 2) := by decide +kernel
theorem dX8_goStep_96 : decode cX8_goStep 96 = .ok (.dup2, 1) := by decide +kernel
theorem dX8_goStep_97 : decode cX8_goStep 97 = .ok (.iaload, 1) := by decide +kernel
theorem dX8_goStep_98 : decode cX8_goStep 98 = .ok (.iload 7, 2) := by decide +kernel
theorem dX8_goStep_100 : decode cX8_goStep 100 = .ok (.ifCond .eq 10, 3) := by decide +kernel
theorem dX8_goStep_103 : decode cX8_goStep 103 = .ok (.iconst 1, 1) := by decide +kernel
theorem dX8_goStep_104 : decode cX8_goStep 104 = .ok (.iload 5, 2) := by decide +kernel
theorem dX8_goStep_106 : decode cX8_goStep 106 = .ok (.ishl, 1) := by decide +kernel
theorem dX8_goStep_107 : decode cX8_goStep 107 = .ok (.goto 4, 3) := by decide +kernel
theorem dX8_goStep_110 : decode cX8_goStep 110 = .ok (.iconst 0, 1) := by decide +kernel
theorem dX8_goStep_111 : decode cX8_goStep 111 = .ok (.ior, 1) := by decide +kernel
theorem dX8_goStep_112 : decode cX8_goStep 112 = .ok (.iastore, 1) := by decide +kernel
theorem dX8_goStep_113 : decode cX8_goStep 113 = .ok (.iload_n 3, 1) := by decide +kernel
theorem dX8_goStep_114 : decode cX8_goStep 114 = .ok (.iload 7, 2) := by decide +kernel
theorem dX8_goStep_116 : decode cX8_goStep 116 = .ok (.ifCond .eq 7, 3) := by decide +kernel
theorem dX8_goStep_119 : decode cX8_goStep 119 = .ok (.iconst 1, 1) := by decide +kernel
theorem dX8_goStep_120 : decode cX8_goStep 120 = .ok (.goto 4, 3) := by decide +kernel
theorem dX8_goStep_123 : decode cX8_goStep 123 = .ok (.iconst 0, 1) := by decide +kernel
theorem dX8_goStep_124 : decode cX8_goStep 124 = .ok (.iadd, 1) := by decide +kernel
theorem dX8_goStep_125 : decode cX8_goStep 125 = .ok (.istore_n 3, 1) := by decide +kernel
theorem dX8_goStep_126 : decode cX8_goStep 126 = .ok (.iload 7, 2) := by decide +kernel
theorem dX8_goStep_128 : decode cX8_goStep 128 = .ok (.ifCond .eq 7, 3) := by decide +kernel
theorem dX8_goStep_131 : decode cX8_goStep 131 = .ok (.iload_n 2, 1) := by decide +kernel
theorem dX8_goStep_132 : decode cX8_goStep 132 = .ok (.goto 5, 3) := by decide +kernel
theorem dX8_goStep_135 : decode cX8_goStep 135 = .ok (.iload 6, 2) := by decide +kernel
theorem dX8_goStep_137 : decode cX8_goStep 137 = .ok (.istore_n 2, 1) := by decide +kernel
theorem dX8_goStep_138 : decode cX8_goStep 138 = .ok (.iinc 4 1, 3) := by decide +kernel
theorem dX8_goStep_141 : decode cX8_goStep 141 = .ok (.goto (-133), 3) := by decide +kernel
theorem dX8_goStep_144 : decode cX8_goStep 144 = .ok (.aload_n 1, 1) := by decide +kernel
theorem dX8_goStep_145 : decode cX8_goStep 145 = .ok (.bipush 16, 2) := by decide +kernel
theorem dX8_goStep_147 : decode cX8_goStep 147 = .ok (.dup2, 1) := by decide +kernel
theorem dX8_goStep_148 : decode cX8_goStep 148 = .ok (.iaload, 1) := by decide +kernel
theorem dX8_goStep_149 : decode cX8_goStep 149 = .ok (.iconst 1, 1) := by decide +kernel
theorem dX8_goStep_150 : decode cX8_goStep 150 = .ok (.iadd, 1) := by decide +kernel
theorem dX8_goStep_151 : decode cX8_goStep 151 = .ok (.iastore, 1) := by decide +kernel
theorem dX8_goStep_152 : decode cX8_goStep 152 = .ok (.iload_n 3, 1) := by decide +kernel
theorem dX8_goStep_153 : decode cX8_goStep 153 = .ok (.ireturn, 1) := by decide +kernel
set_option maxRecDepth 20000 in
theorem ggX8_goSteps_X8_goStep : GoodIn wsX8_goSteps wsX8_goStep := goodIn_r _ [6, 7, 8, 9, 5, 10, 11, 12, 13, 14, 15, 16, 17, 18, 19, 20, 21, 22, 23, 24, 25, 26, 27, 28, 29, 30, 31, 32, 33, 34, 35, 36, 37, 38, 39, 40, 41, 42, 43, 44, 45, 46, 47, 48, 49, 50, 51, 52, 53, 54, 55, 56, 57, 58, 59, 60, 61, 62, 63, 64] (by decide +kernel) (by decide +kernel)
set_option maxRecDepth 20000 in
theorem gX8_goSteps_X8_goStep : GoodIn wsX8_goSteps (wsV RX8 124 RX8 yX8_goStep wsX8_goStep) := goodIn_app (goodIn_of _ (by decide +kernel)) ggX8_goSteps_X8_goStep
theorem dX8_goSteps_0 : decode cX8_goSteps 0 = .ok (.iconst 0, 1) := by decide +kernel
theorem dX8_goSteps_1 : decode cX8_goSteps 1 = .ok (.istore_n 2, 1) := by decide +kernel
theorem dX8_goSteps_2 : decode cX8_goSteps 2 = .ok (.iload_n 2, 1) := by decide +kernel
theorem dX8_goSteps_3 : decode cX8_goSteps 3 = .ok (.iload_n 1, 1) := by decide +kernel
theorem dX8_goSteps_4 : decode cX8_goSteps 4 = .ok (.if_icmp .ge 18, 3) := by decide +kernel
theorem dX8_goSteps_7 : decode cX8_goSteps 7 = .ok (.aload_n 0, 1) := by decide +kernel
theorem dX8_goSteps_8 : decode cX8_goSteps 8 = .ok (.aload_n 0, 1) := by decide +kernel
theorem dX8_goSteps_9 : decode cX8_goSteps 9 = .ok (.getfield 35, 3) := by decide +kernel
theorem dX8_goSteps_12 : decode cX8_goSteps 12 = .ok (.invokevirtual 124, 3) := by decide +kernel
theorem dX8_goSteps_15 : decode cX8_goSteps 15 = .ok (.pop, 1) := by decide +kernel
theorem dX8_goSteps_16 : decode cX8_goSteps 16 = .ok (.iinc 2 1, 3) := by decide +kernel
theorem dX8_goSteps_19 : decode cX8_goSteps 19 = .ok (.goto (-17), 3) := by decide +kernel
theorem dX8_goSteps_22 : decode cX8_goSteps 22 = .ok (.return_, 1) := by decide +kernel
theorem dX8_up_0 : decode cX8_up 0 = .ok (.iconst 1, 1) := by decide +kernel
theorem dX8_up_1 : decode cX8_up 1 = .ok (.aload_n 0, 1) := by decide +kernel
theorem dX8_up_2 : decode cX8_up 2 = .ok (.getfield 66, 3) := by decide +kernel
theorem dX8_up_5 : decode cX8_up 5 = .ok (.ishl, 1) := by decide +kernel
theorem dX8_up_6 : decode cX8_up 6 = .ok (.iconst 1, 1) := by decide +kernel
theorem dX8_up_7 : decode cX8_up 7 = .ok (.isub, 1) := by decide +kernel
theorem dX8_up_8 : decode cX8_up 8 = .ok (.aload_n 1, 1) := by decide +kernel
theorem dX8_up_9 : decode cX8_up 9 = .ok (.bipush 15, 2) := by decide +kernel
theorem dX8_up_11 : decode cX8_up 11 = .ok (.iaload, 1) := by decide +kernel
theorem dX8_up_12 : decode cX8_up 12 = .ok (.iconst (-1), 1) := by decide +kernel
theorem dX8_up_13 : decode cX8_up 13 = .ok (.ixor, 1) := by decide +kernel
theorem dX8_up_14 : decode cX8_up 14 = .ok (.iand, 1) := by decide +kernel
theorem dX8_up_15 : decode cX8_up 15 = .ok (.ireturn, 1) := by decide +kernel
set_option maxRecDepth 20000 in
theorem ggX8_treadNow_X8_has : GoodIn wsX8_treadNow wsX8_has := goodIn_r _ [6] (by decide +kernel) (by decide +kernel)
set_option maxRecDepth 20000 in
theorem gX8_treadNow_X8_has : GoodIn wsX8_treadNow (va_wsS RX8 113 yX8_has wsX8_has) := goodIn_app (goodIn_of _ (by decide +kernel)) ggX8_treadNow_X8_has
set_option maxRecDepth 20000 in
theorem ggX8_treadNow_X8_treads : GoodIn wsX8_treadNow wsX8_treads := goodIn_r _ [10, 11, 12, 13, 14, 15, 5, 16, 17, 18, 19, 20, 3, 4, 6, 21, 22, 23, 24, 25, 26, 27, 28, 29, 30, 31, 32, 33, 34, 35, 36, 37, 38, 39, 40, 41, 42, 43, 44, 45, 46, 47, 48, 49, 50, 51, 52, 53] (by decide +kernel) (by decide +kernel)
set_option maxRecDepth 20000 in
theorem gX8_treadNow_X8_treads : GoodIn wsX8_treadNow (wsV RX8 117 RX8 yX8_treads wsX8_treads) := goodIn_app (goodIn_of _ (by decide +kernel)) ggX8_treadNow_X8_treads
theorem dX8_treadNow_0 : decode cX8_treadNow 0 = .ok (.bipush (-9), 2) := by decide +kernel
theorem dX8_treadNow_2 : decode cX8_treadNow 2 = .ok (.istore_n 2, 1) := by decide +kernel
theorem dX8_treadNow_3 : decode cX8_treadNow 3 = .ok (.bipush (-9), 2) := by decide +kernel
theorem dX8_treadNow_5 : decode cX8_treadNow 5 = .ok (.istore_n 3, 1) := by decide +kernel
theorem dX8_treadNow_6 : decode cX8_treadNow 6 = .ok (.iconst 0, 1) := by decide +kernel
theorem dX8_treadNow_7 : decode cX8_treadNow 7 = .ok (.istore 4, 2) := by decide +kernel
theorem dX8_treadNow_9 : decode cX8_treadNow 9 = .ok (.iload 4, 2) := by decide +kernel
theorem dX8_treadNow_11 : decode cX8_treadNow 11 = .ok (.aload_n 0, 1) := by decide +kernel
theorem dX8_treadNow_12 : decode cX8_treadNow 12 = .ok (.getfield 66, 3) := by decide +kernel
theorem dX8_treadNow_15 : decode cX8_treadNow 15 = .ok (.if_icmp .ge 59, 3) := by decide +kernel
theorem dX8_treadNow_18 : decode cX8_treadNow 18 = .ok (.aload_n 0, 1) := by decide +kernel
theorem dX8_treadNow_19 : decode cX8_treadNow 19 = .ok (.getfield 32, 3) := by decide +kernel
theorem dX8_treadNow_22 : decode cX8_treadNow 22 = .ok (.iconst 0, 1) := by decide +kernel
theorem dX8_treadNow_23 : decode cX8_treadNow 23 = .ok (.iload 4, 2) := by decide +kernel
theorem dX8_treadNow_25 : decode cX8_treadNow 25 = .ok (.iadd, 1) := by decide +kernel
theorem dX8_treadNow_26 : decode cX8_treadNow 26 = .ok (.iaload, 1) := by decide +kernel
theorem dX8_treadNow_27 : decode cX8_treadNow 27 = .ok (.istore 5, 2) := by decide +kernel
theorem dX8_treadNow_29 : decode cX8_treadNow 29 = .ok (.aload_n 0, 1) := by decide +kernel
theorem dX8_treadNow_30 : decode cX8_treadNow 30 = .ok (.getfield 32, 3) := by decide +kernel
theorem dX8_treadNow_33 : decode cX8_treadNow 33 = .ok (.bipush 15, 2) := by decide +kernel
theorem dX8_treadNow_35 : decode cX8_treadNow 35 = .ok (.iaload, 1) := by decide +kernel
theorem dX8_treadNow_36 : decode cX8_treadNow 36 = .ok (.iload 5, 2) := by decide +kernel
theorem dX8_treadNow_38 : decode cX8_treadNow 38 = .ok (.invokestatic 113, 3) := by decide +kernel
theorem dX8_treadNow_41 : decode cX8_treadNow 41 = .ok (.ifCond .ne 27, 3) := by decide +kernel
theorem dX8_treadNow_44 : decode cX8_treadNow 44 = .ok (.aload_n 0, 1) := by decide +kernel
theorem dX8_treadNow_45 : decode cX8_treadNow 45 = .ok (.aload_n 0, 1) := by decide +kernel
theorem dX8_treadNow_46 : decode cX8_treadNow 46 = .ok (.getfield 32, 3) := by decide +kernel
theorem dX8_treadNow_49 : decode cX8_treadNow 49 = .ok (.iload 5, 2) := by decide +kernel
theorem dX8_treadNow_51 : decode cX8_treadNow 51 = .ok (.iload_n 2, 1) := by decide +kernel
theorem dX8_treadNow_52 : decode cX8_treadNow 52 = .ok (.invokevirtual 117, 3) := by decide +kernel
theorem dX8_treadNow_55 : decode cX8_treadNow 55 = .ok (.istore_n 2, 1) := by decide +kernel
theorem dX8_treadNow_56 : decode cX8_treadNow 56 = .ok (.iload 5, 2) := by decide +kernel
theorem dX8_treadNow_58 : decode cX8_treadNow 58 = .ok (.iload_n 1, 1) := by decide +kernel
theorem dX8_treadNow_59 : decode cX8_treadNow 59 = .ok (.if_icmp .ne 7, 3) := by decide +kernel
theorem dX8_treadNow_62 : decode cX8_treadNow 62 = .ok (.iload_n 2, 1) := by decide +kernel
theorem dX8_treadNow_63 : decode cX8_treadNow 63 = .ok (.goto 4, 3) := by decide +kernel
theorem dX8_treadNow_66 : decode cX8_treadNow 66 = .ok (.iload_n 3, 1) := by decide +kernel
theorem dX8_treadNow_67 : decode cX8_treadNow 67 = .ok (.istore_n 3, 1) := by decide +kernel
theorem dX8_treadNow_68 : decode cX8_treadNow 68 = .ok (.iinc 4 1, 3) := by decide +kernel
theorem dX8_treadNow_71 : decode cX8_treadNow 71 = .ok (.goto (-62), 3) := by decide +kernel
theorem dX8_treadNow_74 : decode cX8_treadNow 74 = .ok (.iload_n 3, 1) := by decide +kernel
theorem dX8_treadNow_75 : decode cX8_treadNow 75 = .ok (.ireturn, 1) := by decide +kernel
theorem dX8_strains_0 : decode cX8_strains 0 = .ok (.iconst 0, 1) := by decide +kernel
theorem dX8_strains_1 : decode cX8_strains 1 = .ok (.istore_n 1, 1) := by decide +kernel
theorem dX8_strains_2 : decode cX8_strains 2 = .ok (.iconst 0, 1) := by decide +kernel
theorem dX8_strains_3 : decode cX8_strains 3 = .ok (.istore_n 2, 1) := by decide +kernel
theorem dX8_strains_4 : decode cX8_strains 4 = .ok (.iload_n 2, 1) := by decide +kernel
theorem dX8_strains_5 : decode cX8_strains 5 = .ok (.aload_n 0, 1) := by decide +kernel
theorem dX8_strains_6 : decode cX8_strains 6 = .ok (.getfield 66, 3) := by decide +kernel
theorem dX8_strains_9 : decode cX8_strains 9 = .ok (.if_icmp .ge 21, 3) := by decide +kernel
theorem dX8_strains_12 : decode cX8_strains 12 = .ok (.iload_n 1, 1) := by decide +kernel
theorem dX8_strains_13 : decode cX8_strains 13 = .ok (.aload_n 0, 1) := by decide +kernel
theorem dX8_strains_14 : decode cX8_strains 14 = .ok (.getfield 32, 3) := by decide +kernel
theorem dX8_strains_17 : decode cX8_strains 17 = .ok (.bipush 10, 2) := by decide +kernel
theorem dX8_strains_19 : decode cX8_strains 19 = .ok (.iload_n 2, 1) := by decide +kernel
theorem dX8_strains_20 : decode cX8_strains 20 = .ok (.iadd, 1) := by decide +kernel
theorem dX8_strains_21 : decode cX8_strains 21 = .ok (.iaload, 1) := by decide +kernel
theorem dX8_strains_22 : decode cX8_strains 22 = .ok (.iadd, 1) := by decide +kernel
theorem dX8_strains_23 : decode cX8_strains 23 = .ok (.istore_n 1, 1) := by decide +kernel
theorem dX8_strains_24 : decode cX8_strains 24 = .ok (.iinc 2 1, 3) := by decide +kernel
theorem dX8_strains_27 : decode cX8_strains 27 = .ok (.goto (-23), 3) := by decide +kernel
theorem dX8_strains_30 : decode cX8_strains 30 = .ok (.iload_n 1, 1) := by decide +kernel
theorem dX8_strains_31 : decode cX8_strains 31 = .ok (.ireturn, 1) := by decide +kernel
set_option maxRecDepth 20000 in
theorem ggX8_about_X8_snowAt : GoodIn wsX8_about wsX8_snowAt := goodIn_r _ [11, 12, 13, 14, 19, 20, 21, 22, 23, 24, 25, 26, 27, 28, 29, 30, 31, 32, 33, 34, 35, 36, 37, 38, 39, 40, 41, 42, 43, 44, 45, 46, 47, 48, 49, 50, 51] (by decide +kernel) (by decide +kernel)
set_option maxRecDepth 20000 in
theorem gX8_about_X8_snowAt : GoodIn wsX8_about (wsV RX8 120 RX8 yX8_snowAt wsX8_snowAt) := goodIn_app (goodIn_of _ (by decide +kernel)) ggX8_about_X8_snowAt
set_option maxRecDepth 20000 in
theorem ggX8_about_X8_strains : GoodIn wsX8_about wsX8_strains := goodIn_r _ [18, 2, 3, 19, 20, 21, 22, 23, 24, 25, 26, 27, 28, 29, 30, 31, 32, 33, 34, 35, 36, 37, 38, 39, 40, 41, 42, 43, 44, 45, 46, 47, 48, 49, 50, 51] (by decide +kernel) (by decide +kernel)
set_option maxRecDepth 20000 in
theorem gX8_about_X8_strains : GoodIn wsX8_about (wsV RX8 128 RX8 yX8_strains wsX8_strains) := goodIn_app (goodIn_of _ (by decide +kernel)) ggX8_about_X8_strains
theorem dX8_about_0 : decode cX8_about 0 = .ok (.aload_n 0, 1) := by decide +kernel
theorem dX8_about_1 : decode cX8_about 1 = .ok (.iconst 0, 1) := by decide +kernel
theorem dX8_about_2 : decode cX8_about 2 = .ok (.putfield 63, 3) := by decide +kernel
theorem dX8_about_5 : decode cX8_about 5 = .ok (.iload_n 1, 1) := by decide +kernel
theorem dX8_about_6 : decode cX8_about 6 = .ok (.tableswitch 99 0 7 #[46, 51, 59, 71, 79, 84, 89, 94], 46) := by decide +kernel
theorem dX8_about_52 : decode cX8_about 52 = .ok (.aload_n 0, 1) := by decide +kernel
theorem dX8_about_53 : decode cX8_about 53 = .ok (.getfield 66, 3) := by decide +kernel
theorem dX8_about_56 : decode cX8_about 56 = .ok (.ireturn, 1) := by decide +kernel
theorem dX8_about_57 : decode cX8_about 57 = .ok (.aload_n 0, 1) := by decide +kernel
theorem dX8_about_58 : decode cX8_about 58 = .ok (.getfield 32, 3) := by decide +kernel
theorem dX8_about_61 : decode cX8_about 61 = .ok (.bipush 16, 2) := by decide +kernel
theorem dX8_about_63 : decode cX8_about 63 = .ok (.iaload, 1) := by decide +kernel
theorem dX8_about_64 : decode cX8_about 64 = .ok (.ireturn, 1) := by decide +kernel
theorem dX8_about_65 : decode cX8_about 65 = .ok (.aload_n 0, 1) := by decide +kernel
theorem dX8_about_66 : decode cX8_about 66 = .ok (.aload_n 0, 1) := by decide +kernel
theorem dX8_about_67 : decode cX8_about 67 = .ok (.getfield 32, 3) := by decide +kernel
theorem dX8_about_70 : decode cX8_about 70 = .ok (.bipush 16, 2) := by decide +kernel
theorem dX8_about_72 : decode cX8_about 72 = .ok (.iaload, 1) := by decide +kernel
theorem dX8_about_73 : decode cX8_about 73 = .ok (.invokevirtual 120, 3) := by decide +kernel
theorem dX8_about_76 : decode cX8_about 76 = .ok (.ireturn, 1) := by decide +kernel
theorem dX8_about_77 : decode cX8_about 77 = .ok (.aload_n 0, 1) := by decide +kernel
theorem dX8_about_78 : decode cX8_about 78 = .ok (.getfield 32, 3) := by decide +kernel
theorem dX8_about_81 : decode cX8_about 81 = .ok (.bipush 15, 2) := by decide +kernel
theorem dX8_about_83 : decode cX8_about 83 = .ok (.iaload, 1) := by decide +kernel
theorem dX8_about_84 : decode cX8_about 84 = .ok (.ireturn, 1) := by decide +kernel
theorem dX8_about_85 : decode cX8_about 85 = .ok (.aload_n 0, 1) := by decide +kernel
theorem dX8_about_86 : decode cX8_about 86 = .ok (.invokevirtual 128, 3) := by decide +kernel
theorem dX8_about_89 : decode cX8_about 89 = .ok (.ireturn, 1) := by decide +kernel
theorem dX8_about_90 : decode cX8_about 90 = .ok (.aload_n 0, 1) := by decide +kernel
theorem dX8_about_91 : decode cX8_about 91 = .ok (.getfield 99, 3) := by decide +kernel
theorem dX8_about_94 : decode cX8_about 94 = .ok (.ireturn, 1) := by decide +kernel
theorem dX8_about_95 : decode cX8_about 95 = .ok (.aload_n 0, 1) := by decide +kernel
theorem dX8_about_96 : decode cX8_about 96 = .ok (.getfield 131, 3) := by decide +kernel
theorem dX8_about_99 : decode cX8_about 99 = .ok (.ireturn, 1) := by decide +kernel
theorem dX8_about_100 : decode cX8_about 100 = .ok (.aload_n 0, 1) := by decide +kernel
theorem dX8_about_101 : decode cX8_about 101 = .ok (.getfield 75, 3) := by decide +kernel
theorem dX8_about_104 : decode cX8_about 104 = .ok (.ireturn, 1) := by decide +kernel
theorem dX8_about_105 : decode cX8_about 105 = .ok (.bipush (-2), 2) := by decide +kernel
theorem dX8_about_107 : decode cX8_about 107 = .ok (.ireturn, 1) := by decide +kernel
theorem dX8_placeOf_0 : decode cX8_placeOf 0 = .ok (.iconst 0, 1) := by decide +kernel
theorem dX8_placeOf_1 : decode cX8_placeOf 1 = .ok (.istore_n 2, 1) := by decide +kernel
theorem dX8_placeOf_2 : decode cX8_placeOf 2 = .ok (.iconst 4, 1) := by decide +kernel
theorem dX8_placeOf_3 : decode cX8_placeOf 3 = .ok (.istore_n 3, 1) := by decide +kernel
theorem dX8_placeOf_4 : decode cX8_placeOf 4 = .ok (.iload_n 3, 1) := by decide +kernel
theorem dX8_placeOf_5 : decode cX8_placeOf 5 = .ok (.ifCond .lt 24, 3) := by decide +kernel
theorem dX8_placeOf_8 : decode cX8_placeOf 8 = .ok (.aload_n 0, 1) := by decide +kernel
theorem dX8_placeOf_9 : decode cX8_placeOf 9 = .ok (.iconst 0, 1) := by decide +kernel
theorem dX8_placeOf_10 : decode cX8_placeOf 10 = .ok (.iload_n 3, 1) := by decide +kernel
theorem dX8_placeOf_11 : decode cX8_placeOf 11 = .ok (.iadd, 1) := by decide +kernel
theorem dX8_placeOf_12 : decode cX8_placeOf 12 = .ok (.iaload, 1) := by decide +kernel
theorem dX8_placeOf_13 : decode cX8_placeOf 13 = .ok (.iload_n 1, 1) := by decide +kernel
theorem dX8_placeOf_14 : decode cX8_placeOf 14 = .ok (.if_icmp .ne 7, 3) := by decide +kernel
theorem dX8_placeOf_17 : decode cX8_placeOf 17 = .ok (.iload_n 3, 1) := by decide +kernel
theorem dX8_placeOf_18 : decode cX8_placeOf 18 = .ok (.goto 4, 3) := by decide +kernel
theorem dX8_placeOf_21 : decode cX8_placeOf 21 = .ok (.iload_n 2, 1) := by decide +kernel
theorem dX8_placeOf_22 : decode cX8_placeOf 22 = .ok (.istore_n 2, 1) := by decide +kernel
theorem dX8_placeOf_23 : decode cX8_placeOf 23 = .ok (.iinc 3 (-1), 3) := by decide +kernel
theorem dX8_placeOf_26 : decode cX8_placeOf 26 = .ok (.goto (-22), 3) := by decide +kernel
theorem dX8_placeOf_29 : decode cX8_placeOf 29 = .ok (.iload_n 2, 1) := by decide +kernel
theorem dX8_placeOf_30 : decode cX8_placeOf 30 = .ok (.ireturn, 1) := by decide +kernel
set_option maxRecDepth 20000 in
theorem ggX8_walker_X8_noWalker : GoodIn wsX8_walker wsX8_noWalker := goodIn_r _ [10, 11, 12, 13, 9, 14, 36, 37, 38, 39, 40, 41, 42, 43, 44, 45, 46, 47, 48, 49, 50, 51, 52, 53, 54, 55, 56, 57, 58, 59, 60, 61, 62, 63, 64, 65, 66, 67, 68] (by decide +kernel) (by decide +kernel)
set_option maxRecDepth 20000 in
theorem gX8_walker_X8_noWalker : GoodIn wsX8_walker (wsV RX8 134 RX8 yX8_noWalker wsX8_noWalker) := goodIn_app (goodIn_of _ (by decide +kernel)) ggX8_walker_X8_noWalker
set_option maxRecDepth 20000 in
theorem ggX8_walker_X8_placeOf : GoodIn wsX8_walker wsX8_placeOf := goodIn_r _ [17] (by decide +kernel) (by decide +kernel)
set_option maxRecDepth 20000 in
theorem gX8_walker_X8_placeOf : GoodIn wsX8_walker (va_wsS RX8 138 yX8_placeOf wsX8_placeOf) := goodIn_app (goodIn_of _ (by decide +kernel)) ggX8_walker_X8_placeOf
set_option maxRecDepth 20000 in
theorem ggX8_walker_X8_treadNow : GoodIn wsX8_walker wsX8_treadNow := goodIn_r _ [21, 11, 3, 22, 23, 9, 24, 25, 26, 27, 28, 5, 2, 29, 30, 31, 32, 4, 33, 34, 35, 36, 37, 38, 39, 40, 41, 42, 43, 44, 45, 46, 47, 48, 49, 50, 51, 52, 53, 54, 55, 56, 57, 58, 59, 60, 61, 62, 63, 64, 65, 66, 67, 68] (by decide +kernel) (by decide +kernel)
set_option maxRecDepth 20000 in
theorem gX8_walker_X8_treadNow : GoodIn wsX8_walker (wsV RX8 142 RX8 yX8_treadNow wsX8_treadNow) := goodIn_app (goodIn_of _ (by decide +kernel)) ggX8_walker_X8_treadNow
theorem dX8_walker_0 : decode cX8_walker 0 = .ok (.aload_n 0, 1) := by decide +kernel
theorem dX8_walker_1 : decode cX8_walker 1 = .ok (.iconst 0, 1) := by decide +kernel
theorem dX8_walker_2 : decode cX8_walker 2 = .ok (.putfield 63, 3) := by decide +kernel
theorem dX8_walker_5 : decode cX8_walker 5 = .ok (.aload_n 0, 1) := by decide +kernel
theorem dX8_walker_6 : decode cX8_walker 6 = .ok (.iload_n 1, 1) := by decide +kernel
theorem dX8_walker_7 : decode cX8_walker 7 = .ok (.invokevirtual 134, 3) := by decide +kernel
theorem dX8_walker_10 : decode cX8_walker 10 = .ok (.ifCond .eq 5, 3) := by decide +kernel
theorem dX8_walker_13 : decode cX8_walker 13 = .ok (.iconst (-1), 1) := by decide +kernel
theorem dX8_walker_14 : decode cX8_walker 14 = .ok (.ireturn, 1) := by decide +kernel
theorem dX8_walker_15 : decode cX8_walker 15 = .ok (.aload_n 0, 1) := by decide +kernel
theorem dX8_walker_16 : decode cX8_walker 16 = .ok (.iconst 0, 1) := by decide +kernel
theorem dX8_walker_17 : decode cX8_walker 17 = .ok (.putfield 110, 3) := by decide +kernel
theorem dX8_walker_20 : decode cX8_walker 20 = .ok (.iload_n 2, 1) := by decide +kernel
theorem dX8_walker_21 : decode cX8_walker 21 = .ok (.tableswitch 103 0 6 #[43, 52, 59, 66, 76, 88, 97], 43) := by decide +kernel
theorem dX8_walker_64 : decode cX8_walker 64 = .ok (.aload_n 0, 1) := by decide +kernel
theorem dX8_walker_65 : decode cX8_walker 65 = .ok (.getfield 32, 3) := by decide +kernel
theorem dX8_walker_68 : decode cX8_walker 68 = .ok (.iconst 5, 1) := by decide +kernel
theorem dX8_walker_69 : decode cX8_walker 69 = .ok (.iload_n 1, 1) := by decide +kernel
theorem dX8_walker_70 : decode cX8_walker 70 = .ok (.iadd, 1) := by decide +kernel
theorem dX8_walker_71 : decode cX8_walker 71 = .ok (.iaload, 1) := by decide +kernel
theorem dX8_walker_72 : decode cX8_walker 72 = .ok (.ireturn, 1) := by decide +kernel
theorem dX8_walker_73 : decode cX8_walker 73 = .ok (.aload_n 0, 1) := by decide +kernel
theorem dX8_walker_74 : decode cX8_walker 74 = .ok (.getfield 20, 3) := by decide +kernel
theorem dX8_walker_77 : decode cX8_walker 77 = .ok (.iload_n 1, 1) := by decide +kernel
theorem dX8_walker_78 : decode cX8_walker 78 = .ok (.iaload, 1) := by decide +kernel
theorem dX8_walker_79 : decode cX8_walker 79 = .ok (.ireturn, 1) := by decide +kernel
theorem dX8_walker_80 : decode cX8_walker 80 = .ok (.aload_n 0, 1) := by decide +kernel
theorem dX8_walker_81 : decode cX8_walker 81 = .ok (.getfield 23, 3) := by decide +kernel
theorem dX8_walker_84 : decode cX8_walker 84 = .ok (.iload_n 1, 1) := by decide +kernel
theorem dX8_walker_85 : decode cX8_walker 85 = .ok (.iaload, 1) := by decide +kernel
theorem dX8_walker_86 : decode cX8_walker 86 = .ok (.ireturn, 1) := by decide +kernel
theorem dX8_walker_87 : decode cX8_walker 87 = .ok (.aload_n 0, 1) := by decide +kernel
theorem dX8_walker_88 : decode cX8_walker 88 = .ok (.getfield 32, 3) := by decide +kernel
theorem dX8_walker_91 : decode cX8_walker 91 = .ok (.bipush 10, 2) := by decide +kernel
theorem dX8_walker_93 : decode cX8_walker 93 = .ok (.iload_n 1, 1) := by decide +kernel
theorem dX8_walker_94 : decode cX8_walker 94 = .ok (.iadd, 1) := by decide +kernel
theorem dX8_walker_95 : decode cX8_walker 95 = .ok (.iaload, 1) := by decide +kernel
theorem dX8_walker_96 : decode cX8_walker 96 = .ok (.ireturn, 1) := by decide +kernel
theorem dX8_walker_97 : decode cX8_walker 97 = .ok (.aload_n 0, 1) := by decide +kernel
theorem dX8_walker_98 : decode cX8_walker 98 = .ok (.getfield 32, 3) := by decide +kernel
theorem dX8_walker_101 : decode cX8_walker 101 = .ok (.bipush 15, 2) := by decide +kernel
theorem dX8_walker_103 : decode cX8_walker 103 = .ok (.iaload, 1) := by decide +kernel
theorem dX8_walker_104 : decode cX8_walker 104 = .ok (.iload_n 1, 1) := by decide +kernel
theorem dX8_walker_105 : decode cX8_walker 105 = .ok (.ishr, 1) := by decide +kernel
theorem dX8_walker_106 : decode cX8_walker 106 = .ok (.iconst 1, 1) := by decide +kernel
theorem dX8_walker_107 : decode cX8_walker 107 = .ok (.iand, 1) := by decide +kernel
theorem dX8_walker_108 : decode cX8_walker 108 = .ok (.ireturn, 1) := by decide +kernel
theorem dX8_walker_109 : decode cX8_walker 109 = .ok (.aload_n 0, 1) := by decide +kernel
theorem dX8_walker_110 : decode cX8_walker 110 = .ok (.getfield 32, 3) := by decide +kernel
theorem dX8_walker_113 : decode cX8_walker 113 = .ok (.iload_n 1, 1) := by decide +kernel
theorem dX8_walker_114 : decode cX8_walker 114 = .ok (.invokestatic 138, 3) := by decide +kernel
theorem dX8_walker_117 : decode cX8_walker 117 = .ok (.ireturn, 1) := by decide +kernel
theorem dX8_walker_118 : decode cX8_walker 118 = .ok (.aload_n 0, 1) := by decide +kernel
theorem dX8_walker_119 : decode cX8_walker 119 = .ok (.iload_n 1, 1) := by decide +kernel
theorem dX8_walker_120 : decode cX8_walker 120 = .ok (.invokevirtual 142, 3) := by decide +kernel
theorem dX8_walker_123 : decode cX8_walker 123 = .ok (.ireturn, 1) := by decide +kernel
theorem dX8_walker_124 : decode cX8_walker 124 = .ok (.bipush (-2), 2) := by decide +kernel
theorem dX8_walker_126 : decode cX8_walker 126 = .ok (.ireturn, 1) := by decide +kernel
set_option maxRecDepth 20000 in
theorem ggX8_line_X8_in : GoodIn wsX8_line wsX8_in := goodIn_r _ [7] (by decide +kernel) (by decide +kernel)
set_option maxRecDepth 20000 in
theorem gX8_line_X8_in : GoodIn wsX8_line (va_wsS RX8 69 yX8_in wsX8_in) := goodIn_app (goodIn_of _ (by decide +kernel)) ggX8_line_X8_in
theorem dX8_line_0 : decode cX8_line 0 = .ok (.aload_n 0, 1) := by decide +kernel
theorem dX8_line_1 : decode cX8_line 1 = .ok (.iconst 0, 1) := by decide +kernel
theorem dX8_line_2 : decode cX8_line 2 = .ok (.putfield 63, 3) := by decide +kernel
theorem dX8_line_5 : decode cX8_line 5 = .ok (.iload_n 1, 1) := by decide +kernel
theorem dX8_line_6 : decode cX8_line 6 = .ok (.i2l, 1) := by decide +kernel
theorem dX8_line_7 : decode cX8_line 7 = .ok (.lconst 0, 1) := by decide +kernel
theorem dX8_line_8 : decode cX8_line 8 = .ok (.aload_n 0, 1) := by decide +kernel
theorem dX8_line_9 : decode cX8_line 9 = .ok (.getfield 66, 3) := by decide +kernel
theorem dX8_line_12 : decode cX8_line 12 = .ok (.iconst 1, 1) := by decide +kernel
theorem dX8_line_13 : decode cX8_line 13 = .ok (.isub, 1) := by decide +kernel
theorem dX8_line_14 : decode cX8_line 14 = .ok (.i2l, 1) := by decide +kernel
theorem dX8_line_15 : decode cX8_line 15 = .ok (.invokestatic 69, 3) := by decide +kernel
theorem dX8_line_18 : decode cX8_line 18 = .ok (.ifCond .eq 14, 3) := by decide +kernel
theorem dX8_line_21 : decode cX8_line 21 = .ok (.aload_n 0, 1) := by decide +kernel
theorem dX8_line_22 : decode cX8_line 22 = .ok (.getfield 32, 3) := by decide +kernel
theorem dX8_line_25 : decode cX8_line 25 = .ok (.iconst 0, 1) := by decide +kernel
theorem dX8_line_26 : decode cX8_line 26 = .ok (.iload_n 1, 1) := by decide +kernel
theorem dX8_line_27 : decode cX8_line 27 = .ok (.iadd, 1) := by decide +kernel
theorem dX8_line_28 : decode cX8_line 28 = .ok (.iaload, 1) := by decide +kernel
theorem dX8_line_29 : decode cX8_line 29 = .ok (.goto 4, 3) := by decide +kernel
theorem dX8_line_32 : decode cX8_line 32 = .ok (.iconst (-1), 1) := by decide +kernel
theorem dX8_line_33 : decode cX8_line 33 = .ok (.ireturn, 1) := by decide +kernel
theorem dX8_note_0 : decode cX8_note 0 = .ok (.aload_n 0, 1) := by decide +kernel
theorem dX8_note_1 : decode cX8_note 1 = .ok (.getfield 99, 3) := by decide +kernel
theorem dX8_note_4 : decode cX8_note 4 = .ok (.bipush 14, 2) := by decide +kernel
theorem dX8_note_6 : decode cX8_note 6 = .ok (.if_icmp .ne 43, 3) := by decide +kernel
theorem dX8_note_9 : decode cX8_note 9 = .ok (.iconst 0, 1) := by decide +kernel
theorem dX8_note_10 : decode cX8_note 10 = .ok (.istore_n 1, 1) := by decide +kernel
theorem dX8_note_11 : decode cX8_note 11 = .ok (.iload_n 1, 1) := by decide +kernel
theorem dX8_note_12 : decode cX8_note 12 = .ok (.sipush 221, 3) := by decide +kernel
theorem dX8_note_15 : decode cX8_note 15 = .ok (.if_icmp .ge 24, 3) := by decide +kernel
theorem dX8_note_18 : decode cX8_note 18 = .ok (.aload_n 0, 1) := by decide +kernel
theorem dX8_note_19 : decode cX8_note 19 = .ok (.getfield 38, 3) := by decide +kernel
theorem dX8_note_22 : decode cX8_note 22 = .ok (.iload_n 1, 1) := by decide +kernel
theorem dX8_note_23 : decode cX8_note 23 = .ok (.aload_n 0, 1) := by decide +kernel
theorem dX8_note_24 : decode cX8_note 24 = .ok (.getfield 38, 3) := by decide +kernel
theorem dX8_note_27 : decode cX8_note 27 = .ok (.iload_n 1, 1) := by decide +kernel
theorem dX8_note_28 : decode cX8_note 28 = .ok (.bipush 17, 2) := by decide +kernel
theorem dX8_note_30 : decode cX8_note 30 = .ok (.iadd, 1) := by decide +kernel
theorem dX8_note_31 : decode cX8_note 31 = .ok (.iaload, 1) := by decide +kernel
theorem dX8_note_32 : decode cX8_note 32 = .ok (.iastore, 1) := by decide +kernel
theorem dX8_note_33 : decode cX8_note 33 = .ok (.iinc 1 1, 3) := by decide +kernel
theorem dX8_note_36 : decode cX8_note 36 = .ok (.goto (-25), 3) := by decide +kernel
theorem dX8_note_39 : decode cX8_note 39 = .ok (.aload_n 0, 1) := by decide +kernel
theorem dX8_note_40 : decode cX8_note 40 = .ok (.dup, 1) := by decide +kernel
theorem dX8_note_41 : decode cX8_note 41 = .ok (.getfield 99, 3) := by decide +kernel
theorem dX8_note_44 : decode cX8_note 44 = .ok (.iconst 1, 1) := by decide +kernel
theorem dX8_note_45 : decode cX8_note 45 = .ok (.isub, 1) := by decide +kernel
theorem dX8_note_46 : decode cX8_note 46 = .ok (.putfield 99, 3) := by decide +kernel
theorem dX8_note_49 : decode cX8_note 49 = .ok (.iconst 0, 1) := by decide +kernel
theorem dX8_note_50 : decode cX8_note 50 = .ok (.istore_n 1, 1) := by decide +kernel
theorem dX8_note_51 : decode cX8_note 51 = .ok (.iload_n 1, 1) := by decide +kernel
theorem dX8_note_52 : decode cX8_note 52 = .ok (.bipush 17, 2) := by decide +kernel
theorem dX8_note_54 : decode cX8_note 54 = .ok (.if_icmp .ge 29, 3) := by decide +kernel
theorem dX8_note_57 : decode cX8_note 57 = .ok (.aload_n 0, 1) := by decide +kernel
theorem dX8_note_58 : decode cX8_note 58 = .ok (.getfield 38, 3) := by decide +kernel
theorem dX8_note_61 : decode cX8_note 61 = .ok (.bipush 17, 2) := by decide +kernel
theorem dX8_note_63 : decode cX8_note 63 = .ok (.aload_n 0, 1) := by decide +kernel
theorem dX8_note_64 : decode cX8_note 64 = .ok (.getfield 99, 3) := by decide +kernel
theorem dX8_note_67 : decode cX8_note 67 = .ok (.imul, 1) := by decide +kernel
theorem dX8_note_68 : decode cX8_note 68 = .ok (.iload_n 1, 1) := by decide +kernel
theorem dX8_note_69 : decode cX8_note 69 = .ok (.iadd, 1) := by decide +kernel
theorem dX8_note_70 : decode cX8_note 70 = .ok (.aload_n 0, 1) := by decide +kernel
theorem dX8_note_71 : decode cX8_note 71 = .ok (.getfield 32, 3) := by decide +kernel
theorem dX8_note_74 : decode cX8_note 74 = .ok (.iload_n 1, 1) := by decide +kernel
theorem dX8_note_75 : decode cX8_note 75 = .ok (.iaload, 1) := by decide +kernel
theorem dX8_note_76 : decode cX8_note 76 = .ok (.iastore, 1) := by decide +kernel
theorem dX8_note_77 : decode cX8_note 77 = .ok (.iinc 1 1, 3) := by decide +kernel
theorem dX8_note_80 : decode cX8_note 80 = .ok (.goto (-29), 3) := by decide +kernel
theorem dX8_note_83 : decode cX8_note 83 = .ok (.aload_n 0, 1) := by decide +kernel
theorem dX8_note_84 : decode cX8_note 84 = .ok (.dup, 1) := by decide +kernel
theorem dX8_note_85 : decode cX8_note 85 = .ok (.getfield 99, 3) := by decide +kernel
theorem dX8_note_88 : decode cX8_note 88 = .ok (.iconst 1, 1) := by decide +kernel
theorem dX8_note_89 : decode cX8_note 89 = .ok (.iadd, 1) := by decide +kernel
theorem dX8_note_90 : decode cX8_note 90 = .ok (.putfield 99, 3) := by decide +kernel
theorem dX8_note_93 : decode cX8_note 93 = .ok (.return_, 1) := by decide +kernel
set_option maxRecDepth 20000 in
theorem ggX8_step_X8_note : GoodIn wsX8_step wsX8_note := goodIn_r _ [8, 9, 10, 3, 39, 40, 41, 42, 43, 44, 45, 46, 47, 48, 49, 50, 51, 52, 53, 54, 55, 56, 57, 58, 59, 60, 61, 62, 63, 64, 65, 66, 67, 68, 69, 70, 71] (by decide +kernel) (by decide +kernel)
set_option maxRecDepth 20000 in
theorem gX8_step_X8_note : GoodIn wsX8_step (wsV RX8 145 RX8 yX8_note wsX8_note) := goodIn_app (goodIn_of _ (by decide +kernel)) ggX8_step_X8_note
set_option maxRecDepth 20000 in
theorem ggX8_step_X8_goStep : GoodIn wsX8_step wsX8_goStep := goodIn_r _ [14, 15, 16, 17, 7, 18, 19, 20, 21, 22, 23, 2, 24, 25, 26, 27, 28, 29, 30, 31, 32, 33, 34, 35, 36, 37, 38, 39, 40, 41, 42, 43, 44, 45, 46, 47, 48, 49, 50, 51, 52, 53, 54, 55, 56, 57, 58, 59, 60, 61, 62, 63, 64, 65, 66, 67, 68, 69, 70, 71] (by decide +kernel) (by decide +kernel)
set_option maxRecDepth 20000 in
theorem gX8_step_X8_goStep : GoodIn wsX8_step (wsV RX8 124 RX8 yX8_goStep wsX8_goStep) := goodIn_app (goodIn_of _ (by decide +kernel)) ggX8_step_X8_goStep
theorem dX8_step_0 : decode cX8_step 0 = .ok (.aload_n 0, 1) := by decide +kernel
theorem dX8_step_1 : decode cX8_step 1 = .ok (.iconst 0, 1) := by decide +kernel
theorem dX8_step_2 : decode cX8_step 2 = .ok (.putfield 63, 3) := by decide +kernel
theorem dX8_step_5 : decode cX8_step 5 = .ok (.aload_n 0, 1) := by decide +kernel
theorem dX8_step_6 : decode cX8_step 6 = .ok (.iconst 0, 1) := by decide +kernel
theorem dX8_step_7 : decode cX8_step 7 = .ok (.putfield 110, 3) := by decide +kernel
theorem dX8_step_10 : decode cX8_step 10 = .ok (.aload_n 0, 1) := by decide +kernel
theorem dX8_step_11 : decode cX8_step 11 = .ok (.invokevirtual 145, 3) := by decide +kernel
theorem dX8_step_14 : decode cX8_step 14 = .ok (.aload_n 0, 1) := by decide +kernel
theorem dX8_step_15 : decode cX8_step 15 = .ok (.aload_n 0, 1) := by decide +kernel
theorem dX8_step_16 : decode cX8_step 16 = .ok (.getfield 32, 3) := by decide +kernel
theorem dX8_step_19 : decode cX8_step 19 = .ok (.invokevirtual 124, 3) := by decide +kernel
theorem dX8_step_22 : decode cX8_step 22 = .ok (.ireturn, 1) := by decide +kernel
theorem dX8_goChange_0 : decode cX8_goChange 0 = .ok (.aload_n 0, 1) := by decide +kernel
theorem dX8_goChange_1 : decode cX8_goChange 1 = .ok (.iconst 0, 1) := by decide +kernel
theorem dX8_goChange_2 : decode cX8_goChange 2 = .ok (.iload_n 1, 1) := by decide +kernel
theorem dX8_goChange_3 : decode cX8_goChange 3 = .ok (.iadd, 1) := by decide +kernel
theorem dX8_goChange_4 : decode cX8_goChange 4 = .ok (.iaload, 1) := by decide +kernel
theorem dX8_goChange_5 : decode cX8_goChange 5 = .ok (.istore_n 2, 1) := by decide +kernel
theorem dX8_goChange_6 : decode cX8_goChange 6 = .ok (.aload_n 0, 1) := by decide +kernel
theorem dX8_goChange_7 : decode cX8_goChange 7 = .ok (.iconst 0, 1) := by decide +kernel
theorem dX8_goChange_8 : decode cX8_goChange 8 = .ok (.iload_n 1, 1) := by decide +kernel
theorem dX8_goChange_9 : decode cX8_goChange 9 = .ok (.iadd, 1) := by decide +kernel
theorem dX8_goChange_10 : decode cX8_goChange 10 = .ok (.aload_n 0, 1) := by decide +kernel
theorem dX8_goChange_11 : decode cX8_goChange 11 = .ok (.iconst 0, 1) := by decide +kernel
theorem dX8_goChange_12 : decode cX8_goChange 12 = .ok (.iload_n 1, 1) := by decide +kernel
theorem dX8_goChange_13 : decode cX8_goChange 13 = .ok (.iadd, 1) := by decide +kernel
theorem dX8_goChange_14 : decode cX8_goChange 14 = .ok (.iconst 1, 1) := by decide +kernel
theorem dX8_goChange_15 : decode cX8_goChange 15 = .ok (.iadd, 1) := by decide +kernel
theorem dX8_goChange_16 : decode cX8_goChange 16 = .ok (.iaload, 1) := by decide +kernel
theorem dX8_goChange_17 : decode cX8_goChange 17 = .ok (.iastore, 1) := by decide +kernel
theorem dX8_goChange_18 : decode cX8_goChange 18 = .ok (.aload_n 0, 1) := by decide +kernel
theorem dX8_goChange_19 : decode cX8_goChange 19 = .ok (.iconst 0, 1) := by decide +kernel
theorem dX8_goChange_20 : decode cX8_goChange 20 = .ok (.iload_n 1, 1) := by decide +kernel
theorem dX8_goChange_21 : decode cX8_goChange 21 = .ok (.iadd, 1) := by decide +kernel
theorem dX8_goChange_22 : decode cX8_goChange 22 = .ok (.iconst 1, 1) := by decide +kernel
theorem dX8_goChange_23 : decode cX8_goChange 23 = .ok (.iadd, 1) := by decide +kernel
theorem dX8_goChange_24 : decode cX8_goChange 24 = .ok (.iload_n 2, 1) := by decide +kernel
theorem dX8_goChange_25 : decode cX8_goChange 25 = .ok (.iastore, 1) := by decide +kernel
theorem dX8_goChange_26 : decode cX8_goChange 26 = .ok (.return_, 1) := by decide +kernel
set_option maxRecDepth 20000 in
theorem ggX8_change_X8_in : GoodIn wsX8_change wsX8_in := goodIn_r _ [7] (by decide +kernel) (by decide +kernel)
set_option maxRecDepth 20000 in
theorem gX8_change_X8_in : GoodIn wsX8_change (va_wsS RX8 69 yX8_in wsX8_in) := goodIn_app (goodIn_of _ (by decide +kernel)) ggX8_change_X8_in
set_option maxRecDepth 20000 in
theorem ggX8_change_X8_note : GoodIn wsX8_change wsX8_note := goodIn_r _ [11, 12, 13, 3, 17, 18, 19, 20, 21, 22, 23, 24, 25, 26, 27, 28, 29, 30, 31, 32, 33, 34, 35, 36, 37, 38, 39, 40, 41, 42, 43, 44, 45, 46, 47, 48, 49] (by decide +kernel) (by decide +kernel)
set_option maxRecDepth 20000 in
theorem gX8_change_X8_note : GoodIn wsX8_change (wsV RX8 145 RX8 yX8_note wsX8_note) := goodIn_app (goodIn_of _ (by decide +kernel)) ggX8_change_X8_note
set_option maxRecDepth 20000 in
theorem ggX8_change_X8_goChange : GoodIn wsX8_change wsX8_goChange := goodIn_r _ [16] (by decide +kernel) (by decide +kernel)
set_option maxRecDepth 20000 in
theorem gX8_change_X8_goChange : GoodIn wsX8_change (va_wsS RX8 148 yX8_goChange wsX8_goChange) := goodIn_app (goodIn_of _ (by decide +kernel)) ggX8_change_X8_goChange
theorem dX8_change_0 : decode cX8_change 0 = .ok (.aload_n 0, 1) := by decide +kernel
theorem dX8_change_1 : decode cX8_change 1 = .ok (.iconst 0, 1) := by decide +kernel
theorem dX8_change_2 : decode cX8_change 2 = .ok (.putfield 63, 3) := by decide +kernel
theorem dX8_change_5 : decode cX8_change 5 = .ok (.iload_n 1, 1) := by decide +kernel
theorem dX8_change_6 : decode cX8_change 6 = .ok (.i2l, 1) := by decide +kernel
theorem dX8_change_7 : decode cX8_change 7 = .ok (.lconst 0, 1) := by decide +kernel
theorem dX8_change_8 : decode cX8_change 8 = .ok (.aload_n 0, 1) := by decide +kernel
theorem dX8_change_9 : decode cX8_change 9 = .ok (.getfield 66, 3) := by decide +kernel
theorem dX8_change_12 : decode cX8_change 12 = .ok (.iconst 2, 1) := by decide +kernel
theorem dX8_change_13 : decode cX8_change 13 = .ok (.isub, 1) := by decide +kernel
theorem dX8_change_14 : decode cX8_change 14 = .ok (.i2l, 1) := by decide +kernel
theorem dX8_change_15 : decode cX8_change 15 = .ok (.invokestatic 69, 3) := by decide +kernel
theorem dX8_change_18 : decode cX8_change 18 = .ok (.ifCond .ne 5, 3) := by decide +kernel
theorem dX8_change_21 : decode cX8_change 21 = .ok (.iconst (-1), 1) := by decide +kernel
theorem dX8_change_22 : decode cX8_change 22 = .ok (.ireturn, 1) := by decide +kernel
theorem dX8_change_23 : decode cX8_change 23 = .ok (.aload_n 0, 1) := by decide +kernel
theorem dX8_change_24 : decode cX8_change 24 = .ok (.invokevirtual 145, 3) := by decide +kernel
theorem dX8_change_27 : decode cX8_change 27 = .ok (.aload_n 0, 1) := by decide +kernel
theorem dX8_change_28 : decode cX8_change 28 = .ok (.getfield 32, 3) := by decide +kernel
theorem dX8_change_31 : decode cX8_change 31 = .ok (.iload_n 1, 1) := by decide +kernel
theorem dX8_change_32 : decode cX8_change 32 = .ok (.invokestatic 148, 3) := by decide +kernel
theorem dX8_change_35 : decode cX8_change 35 = .ok (.aload_n 0, 1) := by decide +kernel
theorem dX8_change_36 : decode cX8_change 36 = .ok (.getfield 32, 3) := by decide +kernel
theorem dX8_change_39 : decode cX8_change 39 = .ok (.iconst 0, 1) := by decide +kernel
theorem dX8_change_40 : decode cX8_change 40 = .ok (.iload_n 1, 1) := by decide +kernel
theorem dX8_change_41 : decode cX8_change 41 = .ok (.iadd, 1) := by decide +kernel
theorem dX8_change_42 : decode cX8_change 42 = .ok (.iaload, 1) := by decide +kernel
theorem dX8_change_43 : decode cX8_change 43 = .ok (.ireturn, 1) := by decide +kernel
set_option maxRecDepth 20000 in
theorem ggX8_canDrill_X8_in : GoodIn wsX8_canDrill wsX8_in := goodIn_r _ [5] (by decide +kernel) (by decide +kernel)
set_option maxRecDepth 20000 in
theorem gX8_canDrill_X8_in : GoodIn wsX8_canDrill (va_wsS RX8 69 yX8_in wsX8_in) := goodIn_app (goodIn_of _ (by decide +kernel)) ggX8_canDrill_X8_in
set_option maxRecDepth 20000 in
theorem ggX8_canDrill_X8_has : GoodIn wsX8_canDrill wsX8_has := goodIn_r _ [8] (by decide +kernel) (by decide +kernel)
set_option maxRecDepth 20000 in
theorem gX8_canDrill_X8_has : GoodIn wsX8_canDrill (va_wsS RX8 113 yX8_has wsX8_has) := goodIn_app (goodIn_of _ (by decide +kernel)) ggX8_canDrill_X8_has
theorem dX8_canDrill_0 : decode cX8_canDrill 0 = .ok (.aload_n 0, 1) := by decide +kernel
theorem dX8_canDrill_1 : decode cX8_canDrill 1 = .ok (.iconst 5, 1) := by decide +kernel
theorem dX8_canDrill_2 : decode cX8_canDrill 2 = .ok (.iload_n 1, 1) := by decide +kernel
theorem dX8_canDrill_3 : decode cX8_canDrill 3 = .ok (.iadd, 1) := by decide +kernel
theorem dX8_canDrill_4 : decode cX8_canDrill 4 = .ok (.iaload, 1) := by decide +kernel
theorem dX8_canDrill_5 : decode cX8_canDrill 5 = .ok (.iload_n 2, 1) := by decide +kernel
theorem dX8_canDrill_6 : decode cX8_canDrill 6 = .ok (.iadd, 1) := by decide +kernel
theorem dX8_canDrill_7 : decode cX8_canDrill 7 = .ok (.i2l, 1) := by decide +kernel
theorem dX8_canDrill_8 : decode cX8_canDrill 8 = .ok (.lconst 1, 1) := by decide +kernel
theorem dX8_canDrill_9 : decode cX8_canDrill 9 = .ok (.ldc2_w 152, 3) := by decide +kernel
theorem dX8_canDrill_12 : decode cX8_canDrill 12 = .ok (.invokestatic 69, 3) := by decide +kernel
theorem dX8_canDrill_15 : decode cX8_canDrill 15 = .ok (.ifCond .eq 28, 3) := by decide +kernel
theorem dX8_canDrill_18 : decode cX8_canDrill 18 = .ok (.aload_n 0, 1) := by decide +kernel
theorem dX8_canDrill_19 : decode cX8_canDrill 19 = .ok (.bipush 10, 2) := by decide +kernel
theorem dX8_canDrill_21 : decode cX8_canDrill 21 = .ok (.iload_n 1, 1) := by decide +kernel
theorem dX8_canDrill_22 : decode cX8_canDrill 22 = .ok (.iadd, 1) := by decide +kernel
theorem dX8_canDrill_23 : decode cX8_canDrill 23 = .ok (.iaload, 1) := by decide +kernel
theorem dX8_canDrill_24 : decode cX8_canDrill 24 = .ok (.iconst 5, 1) := by decide +kernel
theorem dX8_canDrill_25 : decode cX8_canDrill 25 = .ok (.if_icmp .ge 18, 3) := by decide +kernel
theorem dX8_canDrill_28 : decode cX8_canDrill 28 = .ok (.aload_n 0, 1) := by decide +kernel
theorem dX8_canDrill_29 : decode cX8_canDrill 29 = .ok (.bipush 15, 2) := by decide +kernel
theorem dX8_canDrill_31 : decode cX8_canDrill 31 = .ok (.iaload, 1) := by decide +kernel
theorem dX8_canDrill_32 : decode cX8_canDrill 32 = .ok (.iload_n 1, 1) := by decide +kernel
theorem dX8_canDrill_33 : decode cX8_canDrill 33 = .ok (.invokestatic 113, 3) := by decide +kernel
theorem dX8_canDrill_36 : decode cX8_canDrill 36 = .ok (.ifCond .ne 7, 3) := by decide +kernel
theorem dX8_canDrill_39 : decode cX8_canDrill 39 = .ok (.iconst 1, 1) := by decide +kernel
theorem dX8_canDrill_40 : decode cX8_canDrill 40 = .ok (.goto 4, 3) := by decide +kernel
theorem dX8_canDrill_43 : decode cX8_canDrill 43 = .ok (.iconst 0, 1) := by decide +kernel
theorem dX8_canDrill_44 : decode cX8_canDrill 44 = .ok (.ireturn, 1) := by decide +kernel
theorem dX8_goDrill_0 : decode cX8_goDrill 0 = .ok (.aload_n 0, 1) := by decide +kernel
theorem dX8_goDrill_1 : decode cX8_goDrill 1 = .ok (.iconst 5, 1) := by decide +kernel
theorem dX8_goDrill_2 : decode cX8_goDrill 2 = .ok (.iload_n 1, 1) := by decide +kernel
theorem dX8_goDrill_3 : decode cX8_goDrill 3 = .ok (.iadd, 1) := by decide +kernel
theorem dX8_goDrill_4 : decode cX8_goDrill 4 = .ok (.dup2, 1) := by decide +kernel
theorem dX8_goDrill_5 : decode cX8_goDrill 5 = .ok (.iaload, 1) := by decide +kernel
theorem dX8_goDrill_6 : decode cX8_goDrill 6 = .ok (.iload_n 2, 1) := by decide +kernel
theorem dX8_goDrill_7 : decode cX8_goDrill 7 = .ok (.iadd, 1) := by decide +kernel
theorem dX8_goDrill_8 : decode cX8_goDrill 8 = .ok (.iastore, 1) := by decide +kernel
theorem dX8_goDrill_9 : decode cX8_goDrill 9 = .ok (.aload_n 0, 1) := by decide +kernel
theorem dX8_goDrill_10 : decode cX8_goDrill 10 = .ok (.bipush 10, 2) := by decide +kernel
theorem dX8_goDrill_12 : decode cX8_goDrill 12 = .ok (.iload_n 1, 1) := by decide +kernel
theorem dX8_goDrill_13 : decode cX8_goDrill 13 = .ok (.iadd, 1) := by decide +kernel
theorem dX8_goDrill_14 : decode cX8_goDrill 14 = .ok (.dup2, 1) := by decide +kernel
theorem dX8_goDrill_15 : decode cX8_goDrill 15 = .ok (.iaload, 1) := by decide +kernel
theorem dX8_goDrill_16 : decode cX8_goDrill 16 = .ok (.iconst 1, 1) := by decide +kernel
theorem dX8_goDrill_17 : decode cX8_goDrill 17 = .ok (.iadd, 1) := by decide +kernel
theorem dX8_goDrill_18 : decode cX8_goDrill 18 = .ok (.iastore, 1) := by decide +kernel
theorem dX8_goDrill_19 : decode cX8_goDrill 19 = .ok (.return_, 1) := by decide +kernel
set_option maxRecDepth 20000 in
theorem ggX8_drill_X8_noWalker : GoodIn wsX8_drill wsX8_noWalker := goodIn_r _ [7, 8, 9, 10, 6, 11, 28, 29, 30, 31, 32, 33, 34, 35, 36, 37, 38, 39, 40, 41, 42, 43, 44, 45, 46, 47, 48, 49, 50, 51, 52, 53, 54, 55, 56, 57, 58, 59, 60] (by decide +kernel) (by decide +kernel)
set_option maxRecDepth 20000 in
theorem gX8_drill_X8_noWalker : GoodIn wsX8_drill (wsV RX8 134 RX8 yX8_noWalker wsX8_noWalker) := goodIn_app (goodIn_of _ (by decide +kernel)) ggX8_drill_X8_noWalker
set_option maxRecDepth 20000 in
theorem ggX8_drill_X8_canDrill : GoodIn wsX8_drill wsX8_canDrill := goodIn_r _ [14, 15, 9, 10, 6, 11, 16, 17, 18] (by decide +kernel) (by decide +kernel)
set_option maxRecDepth 20000 in
theorem gX8_drill_X8_canDrill : GoodIn wsX8_drill (va_wsS RX8 154 yX8_canDrill wsX8_canDrill) := goodIn_app (goodIn_of _ (by decide +kernel)) ggX8_drill_X8_canDrill
set_option maxRecDepth 20000 in
theorem ggX8_drill_X8_note : GoodIn wsX8_drill wsX8_note := goodIn_r _ [22, 23, 24, 2, 28, 29, 30, 31, 32, 33, 34, 35, 36, 37, 38, 39, 40, 41, 42, 43, 44, 45, 46, 47, 48, 49, 50, 51, 52, 53, 54, 55, 56, 57, 58, 59, 60] (by decide +kernel) (by decide +kernel)
set_option maxRecDepth 20000 in
theorem gX8_drill_X8_note : GoodIn wsX8_drill (wsV RX8 145 RX8 yX8_note wsX8_note) := goodIn_app (goodIn_of _ (by decide +kernel)) ggX8_drill_X8_note
set_option maxRecDepth 20000 in
theorem ggX8_drill_X8_goDrill : GoodIn wsX8_drill wsX8_goDrill := goodIn_r _ [27] (by decide +kernel) (by decide +kernel)
set_option maxRecDepth 20000 in
theorem gX8_drill_X8_goDrill : GoodIn wsX8_drill (va_wsS RX8 158 yX8_goDrill wsX8_goDrill) := goodIn_app (goodIn_of _ (by decide +kernel)) ggX8_drill_X8_goDrill
theorem dX8_drill_0 : decode cX8_drill 0 = .ok (.aload_n 0, 1) := by decide +kernel
theorem dX8_drill_1 : decode cX8_drill 1 = .ok (.iconst 0, 1) := by decide +kernel
theorem dX8_drill_2 : decode cX8_drill 2 = .ok (.putfield 63, 3) := by decide +kernel
theorem dX8_drill_5 : decode cX8_drill 5 = .ok (.aload_n 0, 1) := by decide +kernel
theorem dX8_drill_6 : decode cX8_drill 6 = .ok (.iload_n 1, 1) := by decide +kernel
theorem dX8_drill_7 : decode cX8_drill 7 = .ok (.invokevirtual 134, 3) := by decide +kernel
theorem dX8_drill_10 : decode cX8_drill 10 = .ok (.ifCond .eq 5, 3) := by decide +kernel
theorem dX8_drill_13 : decode cX8_drill 13 = .ok (.iconst (-1), 1) := by decide +kernel
theorem dX8_drill_14 : decode cX8_drill 14 = .ok (.ireturn, 1) := by decide +kernel
theorem dX8_drill_15 : decode cX8_drill 15 = .ok (.aload_n 0, 1) := by decide +kernel
theorem dX8_drill_16 : decode cX8_drill 16 = .ok (.getfield 32, 3) := by decide +kernel
theorem dX8_drill_19 : decode cX8_drill 19 = .ok (.iload_n 1, 1) := by decide +kernel
theorem dX8_drill_20 : decode cX8_drill 20 = .ok (.iload_n 2, 1) := by decide +kernel
theorem dX8_drill_21 : decode cX8_drill 21 = .ok (.ifCond .eq 7, 3) := by decide +kernel
theorem dX8_drill_24 : decode cX8_drill 24 = .ok (.iconst 1, 1) := by decide +kernel
theorem dX8_drill_25 : decode cX8_drill 25 = .ok (.goto 4, 3) := by decide +kernel
theorem dX8_drill_28 : decode cX8_drill 28 = .ok (.iconst (-1), 1) := by decide +kernel
theorem dX8_drill_29 : decode cX8_drill 29 = .ok (.invokestatic 154, 3) := by decide +kernel
theorem dX8_drill_32 : decode cX8_drill 32 = .ok (.ifCond .ne 6, 3) := by decide +kernel
theorem dX8_drill_35 : decode cX8_drill 35 = .ok (.bipush (-3), 2) := by decide +kernel
theorem dX8_drill_37 : decode cX8_drill 37 = .ok (.ireturn, 1) := by decide +kernel
theorem dX8_drill_38 : decode cX8_drill 38 = .ok (.aload_n 0, 1) := by decide +kernel
theorem dX8_drill_39 : decode cX8_drill 39 = .ok (.invokevirtual 145, 3) := by decide +kernel
theorem dX8_drill_42 : decode cX8_drill 42 = .ok (.aload_n 0, 1) := by decide +kernel
theorem dX8_drill_43 : decode cX8_drill 43 = .ok (.getfield 32, 3) := by decide +kernel
theorem dX8_drill_46 : decode cX8_drill 46 = .ok (.iload_n 1, 1) := by decide +kernel
theorem dX8_drill_47 : decode cX8_drill 47 = .ok (.iload_n 2, 1) := by decide +kernel
theorem dX8_drill_48 : decode cX8_drill 48 = .ok (.ifCond .eq 7, 3) := by decide +kernel
theorem dX8_drill_51 : decode cX8_drill 51 = .ok (.iconst 1, 1) := by decide +kernel
theorem dX8_drill_52 : decode cX8_drill 52 = .ok (.goto 4, 3) := by decide +kernel
theorem dX8_drill_55 : decode cX8_drill 55 = .ok (.iconst (-1), 1) := by decide +kernel
theorem dX8_drill_56 : decode cX8_drill 56 = .ok (.invokestatic 158, 3) := by decide +kernel
theorem dX8_drill_59 : decode cX8_drill 59 = .ok (.aload_n 0, 1) := by decide +kernel
theorem dX8_drill_60 : decode cX8_drill 60 = .ok (.getfield 32, 3) := by decide +kernel
theorem dX8_drill_63 : decode cX8_drill 63 = .ok (.iconst 5, 1) := by decide +kernel
theorem dX8_drill_64 : decode cX8_drill 64 = .ok (.iload_n 1, 1) := by decide +kernel
theorem dX8_drill_65 : decode cX8_drill 65 = .ok (.iadd, 1) := by decide +kernel
theorem dX8_drill_66 : decode cX8_drill 66 = .ok (.iaload, 1) := by decide +kernel
theorem dX8_drill_67 : decode cX8_drill 67 = .ok (.ireturn, 1) := by decide +kernel
set_option maxRecDepth 20000 in
theorem ggX8_goRescue_X8_placeOf : GoodIn wsX8_goRescue wsX8_placeOf := goodIn_r _ [5] (by decide +kernel) (by decide +kernel)
set_option maxRecDepth 20000 in
theorem gX8_goRescue_X8_placeOf : GoodIn wsX8_goRescue (va_wsS RX8 138 yX8_placeOf wsX8_placeOf) := goodIn_app (goodIn_of _ (by decide +kernel)) ggX8_goRescue_X8_placeOf
set_option maxRecDepth 20000 in
theorem ggX8_goRescue_X8_goChange : GoodIn wsX8_goRescue wsX8_goChange := goodIn_r _ [8] (by decide +kernel) (by decide +kernel)
set_option maxRecDepth 20000 in
theorem gX8_goRescue_X8_goChange : GoodIn wsX8_goRescue (va_wsS RX8 148 yX8_goChange wsX8_goChange) := goodIn_app (goodIn_of _ (by decide +kernel)) ggX8_goRescue_X8_goChange
theorem dX8_goRescue_0 : decode cX8_goRescue 0 = .ok (.aload_n 1, 1) := by decide +kernel
theorem dX8_goRescue_1 : decode cX8_goRescue 1 = .ok (.iload_n 2, 1) := by decide +kernel
theorem dX8_goRescue_2 : decode cX8_goRescue 2 = .ok (.invokestatic 138, 3) := by decide +kernel
theorem dX8_goRescue_5 : decode cX8_goRescue 5 = .ok (.istore_n 3, 1) := by decide +kernel
theorem dX8_goRescue_6 : decode cX8_goRescue 6 = .ok (.iload_n 3, 1) := by decide +kernel
theorem dX8_goRescue_7 : decode cX8_goRescue 7 = .ok (.aload_n 0, 1) := by decide +kernel
theorem dX8_goRescue_8 : decode cX8_goRescue 8 = .ok (.getfield 66, 3) := by decide +kernel
theorem dX8_goRescue_11 : decode cX8_goRescue 11 = .ok (.iconst 1, 1) := by decide +kernel
theorem dX8_goRescue_12 : decode cX8_goRescue 12 = .ok (.isub, 1) := by decide +kernel
theorem dX8_goRescue_13 : decode cX8_goRescue 13 = .ok (.if_icmp .ge 14, 3) := by decide +kernel
theorem dX8_goRescue_16 : decode cX8_goRescue 16 = .ok (.aload_n 1, 1) := by decide +kernel
theorem dX8_goRescue_17 : decode cX8_goRescue 17 = .ok (.iload_n 3, 1) := by decide +kernel
theorem dX8_goRescue_18 : decode cX8_goRescue 18 = .ok (.invokestatic 148, 3) := by decide +kernel
theorem dX8_goRescue_21 : decode cX8_goRescue 21 = .ok (.iinc 3 1, 3) := by decide +kernel
theorem dX8_goRescue_24 : decode cX8_goRescue 24 = .ok (.goto (-18), 3) := by decide +kernel
theorem dX8_goRescue_27 : decode cX8_goRescue 27 = .ok (.aload_n 1, 1) := by decide +kernel
theorem dX8_goRescue_28 : decode cX8_goRescue 28 = .ok (.bipush 15, 2) := by decide +kernel
theorem dX8_goRescue_30 : decode cX8_goRescue 30 = .ok (.dup2, 1) := by decide +kernel
theorem dX8_goRescue_31 : decode cX8_goRescue 31 = .ok (.iaload, 1) := by decide +kernel
theorem dX8_goRescue_32 : decode cX8_goRescue 32 = .ok (.iconst 1, 1) := by decide +kernel
theorem dX8_goRescue_33 : decode cX8_goRescue 33 = .ok (.iload_n 2, 1) := by decide +kernel
theorem dX8_goRescue_34 : decode cX8_goRescue 34 = .ok (.ishl, 1) := by decide +kernel
theorem dX8_goRescue_35 : decode cX8_goRescue 35 = .ok (.iconst (-1), 1) := by decide +kernel
theorem dX8_goRescue_36 : decode cX8_goRescue 36 = .ok (.ixor, 1) := by decide +kernel
theorem dX8_goRescue_37 : decode cX8_goRescue 37 = .ok (.iand, 1) := by decide +kernel
theorem dX8_goRescue_38 : decode cX8_goRescue 38 = .ok (.iastore, 1) := by decide +kernel
theorem dX8_goRescue_39 : decode cX8_goRescue 39 = .ok (.return_, 1) := by decide +kernel
set_option maxRecDepth 20000 in
theorem ggX8_rescue_X8_noWalker : GoodIn wsX8_rescue wsX8_noWalker := goodIn_r _ [7, 8, 9, 10, 6, 11, 34, 35, 36, 37, 38, 39, 40, 41, 42, 43, 44, 45, 46, 47, 48, 49, 50, 51, 52, 53, 54, 55, 56, 57, 58, 59, 60, 61, 62, 63, 64, 65, 66] (by decide +kernel) (by decide +kernel)
set_option maxRecDepth 20000 in
theorem gX8_rescue_X8_noWalker : GoodIn wsX8_rescue (wsV RX8 134 RX8 yX8_noWalker wsX8_noWalker) := goodIn_app (goodIn_of _ (by decide +kernel)) ggX8_rescue_X8_noWalker
set_option maxRecDepth 20000 in
theorem ggX8_rescue_X8_has : GoodIn wsX8_rescue wsX8_has := goodIn_r _ [14] (by decide +kernel) (by decide +kernel)
set_option maxRecDepth 20000 in
theorem gX8_rescue_X8_has : GoodIn wsX8_rescue (va_wsS RX8 113 yX8_has wsX8_has) := goodIn_app (goodIn_of _ (by decide +kernel)) ggX8_rescue_X8_has
set_option maxRecDepth 20000 in
theorem ggX8_rescue_X8_note : GoodIn wsX8_rescue wsX8_note := goodIn_r _ [18, 19, 20, 2, 34, 35, 36, 37, 38, 39, 40, 41, 42, 43, 44, 45, 46, 47, 48, 49, 50, 51, 52, 53, 54, 55, 56, 57, 58, 59, 60, 61, 62, 63, 64, 65, 66] (by decide +kernel) (by decide +kernel)
set_option maxRecDepth 20000 in
theorem gX8_rescue_X8_note : GoodIn wsX8_rescue (wsV RX8 145 RX8 yX8_note wsX8_note) := goodIn_app (goodIn_of _ (by decide +kernel)) ggX8_rescue_X8_note
set_option maxRecDepth 20000 in
theorem ggX8_rescue_X8_goRescue : GoodIn wsX8_rescue wsX8_goRescue := goodIn_r _ [24, 8, 25, 26, 6, 27, 28, 29, 30, 34, 35, 36, 37, 38, 39, 40, 41, 42, 43, 44, 45, 46, 47, 48, 49, 50, 51, 52, 53, 54, 55, 56, 57, 58, 59, 60, 61, 62, 63, 64, 65, 66] (by decide +kernel) (by decide +kernel)
set_option maxRecDepth 20000 in
theorem gX8_rescue_X8_goRescue : GoodIn wsX8_rescue (wsV RX8 162 RX8 yX8_goRescue wsX8_goRescue) := goodIn_app (goodIn_of _ (by decide +kernel)) ggX8_rescue_X8_goRescue
set_option maxRecDepth 20000 in
theorem ggX8_rescue_X8_many : GoodIn wsX8_rescue wsX8_many := goodIn_r _ [33] (by decide +kernel) (by decide +kernel)
set_option maxRecDepth 20000 in
theorem gX8_rescue_X8_many : GoodIn wsX8_rescue (va_wsS RX8 165 yX8_many wsX8_many) := goodIn_app (goodIn_of _ (by decide +kernel)) ggX8_rescue_X8_many
theorem dX8_rescue_0 : decode cX8_rescue 0 = .ok (.aload_n 0, 1) := by decide +kernel
theorem dX8_rescue_1 : decode cX8_rescue 1 = .ok (.iconst 0, 1) := by decide +kernel
theorem dX8_rescue_2 : decode cX8_rescue 2 = .ok (.putfield 63, 3) := by decide +kernel
theorem dX8_rescue_5 : decode cX8_rescue 5 = .ok (.aload_n 0, 1) := by decide +kernel
theorem dX8_rescue_6 : decode cX8_rescue 6 = .ok (.iload_n 1, 1) := by decide +kernel
theorem dX8_rescue_7 : decode cX8_rescue 7 = .ok (.invokevirtual 134, 3) := by decide +kernel
theorem dX8_rescue_10 : decode cX8_rescue 10 = .ok (.ifCond .eq 5, 3) := by decide +kernel
theorem dX8_rescue_13 : decode cX8_rescue 13 = .ok (.iconst (-1), 1) := by decide +kernel
theorem dX8_rescue_14 : decode cX8_rescue 14 = .ok (.ireturn, 1) := by decide +kernel
theorem dX8_rescue_15 : decode cX8_rescue 15 = .ok (.aload_n 0, 1) := by decide +kernel
theorem dX8_rescue_16 : decode cX8_rescue 16 = .ok (.getfield 32, 3) := by decide +kernel
theorem dX8_rescue_19 : decode cX8_rescue 19 = .ok (.bipush 15, 2) := by decide +kernel
theorem dX8_rescue_21 : decode cX8_rescue 21 = .ok (.iaload, 1) := by decide +kernel
theorem dX8_rescue_22 : decode cX8_rescue 22 = .ok (.iload_n 1, 1) := by decide +kernel
theorem dX8_rescue_23 : decode cX8_rescue 23 = .ok (.invokestatic 113, 3) := by decide +kernel
theorem dX8_rescue_26 : decode cX8_rescue 26 = .ok (.ifCond .ne 6, 3) := by decide +kernel
theorem dX8_rescue_29 : decode cX8_rescue 29 = .ok (.bipush (-3), 2) := by decide +kernel
theorem dX8_rescue_31 : decode cX8_rescue 31 = .ok (.ireturn, 1) := by decide +kernel
theorem dX8_rescue_32 : decode cX8_rescue 32 = .ok (.aload_n 0, 1) := by decide +kernel
theorem dX8_rescue_33 : decode cX8_rescue 33 = .ok (.invokevirtual 145, 3) := by decide +kernel
theorem dX8_rescue_36 : decode cX8_rescue 36 = .ok (.aload_n 0, 1) := by decide +kernel
theorem dX8_rescue_37 : decode cX8_rescue 37 = .ok (.aload_n 0, 1) := by decide +kernel
theorem dX8_rescue_38 : decode cX8_rescue 38 = .ok (.getfield 32, 3) := by decide +kernel
theorem dX8_rescue_41 : decode cX8_rescue 41 = .ok (.iload_n 1, 1) := by decide +kernel
theorem dX8_rescue_42 : decode cX8_rescue 42 = .ok (.invokevirtual 162, 3) := by decide +kernel
theorem dX8_rescue_45 : decode cX8_rescue 45 = .ok (.aload_n 0, 1) := by decide +kernel
theorem dX8_rescue_46 : decode cX8_rescue 46 = .ok (.getfield 32, 3) := by decide +kernel
theorem dX8_rescue_49 : decode cX8_rescue 49 = .ok (.bipush 15, 2) := by decide +kernel
theorem dX8_rescue_51 : decode cX8_rescue 51 = .ok (.iaload, 1) := by decide +kernel
theorem dX8_rescue_52 : decode cX8_rescue 52 = .ok (.invokestatic 165, 3) := by decide +kernel
theorem dX8_rescue_55 : decode cX8_rescue 55 = .ok (.ireturn, 1) := by decide +kernel
theorem dX8_undo_0 : decode cX8_undo 0 = .ok (.aload_n 0, 1) := by decide +kernel
theorem dX8_undo_1 : decode cX8_undo 1 = .ok (.iconst 0, 1) := by decide +kernel
theorem dX8_undo_2 : decode cX8_undo 2 = .ok (.putfield 63, 3) := by decide +kernel
theorem dX8_undo_5 : decode cX8_undo 5 = .ok (.aload_n 0, 1) := by decide +kernel
theorem dX8_undo_6 : decode cX8_undo 6 = .ok (.getfield 99, 3) := by decide +kernel
theorem dX8_undo_9 : decode cX8_undo 9 = .ok (.ifCond .ne 6, 3) := by decide +kernel
theorem dX8_undo_12 : decode cX8_undo 12 = .ok (.bipush (-3), 2) := by decide +kernel
theorem dX8_undo_14 : decode cX8_undo 14 = .ok (.ireturn, 1) := by decide +kernel
theorem dX8_undo_15 : decode cX8_undo 15 = .ok (.aload_n 0, 1) := by decide +kernel
theorem dX8_undo_16 : decode cX8_undo 16 = .ok (.dup, 1) := by decide +kernel
theorem dX8_undo_17 : decode cX8_undo 17 = .ok (.getfield 99, 3) := by decide +kernel
theorem dX8_undo_20 : decode cX8_undo 20 = .ok (.iconst 1, 1) := by decide +kernel
theorem dX8_undo_21 : decode cX8_undo 21 = .ok (.isub, 1) := by decide +kernel
theorem dX8_undo_22 : decode cX8_undo 22 = .ok (.putfield 99, 3) := by decide +kernel
theorem dX8_undo_25 : decode cX8_undo 25 = .ok (.iconst 0, 1) := by decide +kernel
theorem dX8_undo_26 : decode cX8_undo 26 = .ok (.istore_n 1, 1) := by decide +kernel
theorem dX8_undo_27 : decode cX8_undo 27 = .ok (.iload_n 1, 1) := by decide +kernel
theorem dX8_undo_28 : decode cX8_undo 28 = .ok (.bipush 17, 2) := by decide +kernel
theorem dX8_undo_30 : decode cX8_undo 30 = .ok (.if_icmp .ge 29, 3) := by decide +kernel
theorem dX8_undo_33 : decode cX8_undo 33 = .ok (.aload_n 0, 1) := by decide +kernel
theorem dX8_undo_34 : decode cX8_undo 34 = .ok (.getfield 32, 3) := by decide +kernel
theorem dX8_undo_37 : decode cX8_undo 37 = .ok (.iload_n 1, 1) := by decide +kernel
theorem dX8_undo_38 : decode cX8_undo 38 = .ok (.aload_n 0, 1) := by decide +kernel
theorem dX8_undo_39 : decode cX8_undo 39 = .ok (.getfield 38, 3) := by decide +kernel
theorem dX8_undo_42 : decode cX8_undo 42 = .ok (.bipush 17, 2) := by decide +kernel
theorem dX8_undo_44 : decode cX8_undo 44 = .ok (.aload_n 0, 1) := by decide +kernel
theorem dX8_undo_45 : decode cX8_undo 45 = .ok (.getfield 99, 3) := by decide +kernel
theorem dX8_undo_48 : decode cX8_undo 48 = .ok (.imul, 1) := by decide +kernel
theorem dX8_undo_49 : decode cX8_undo 49 = .ok (.iload_n 1, 1) := by decide +kernel
theorem dX8_undo_50 : decode cX8_undo 50 = .ok (.iadd, 1) := by decide +kernel
theorem dX8_undo_51 : decode cX8_undo 51 = .ok (.iaload, 1) := by decide +kernel
theorem dX8_undo_52 : decode cX8_undo 52 = .ok (.iastore, 1) := by decide +kernel
theorem dX8_undo_53 : decode cX8_undo 53 = .ok (.iinc 1 1, 3) := by decide +kernel
theorem dX8_undo_56 : decode cX8_undo 56 = .ok (.goto (-29), 3) := by decide +kernel
theorem dX8_undo_59 : decode cX8_undo 59 = .ok (.aload_n 0, 1) := by decide +kernel
theorem dX8_undo_60 : decode cX8_undo 60 = .ok (.getfield 99, 3) := by decide +kernel
theorem dX8_undo_63 : decode cX8_undo 63 = .ok (.ireturn, 1) := by decide +kernel
theorem dX8_begin_0 : decode cX8_begin 0 = .ok (.aload_n 0, 1) := by decide +kernel
theorem dX8_begin_1 : decode cX8_begin 1 = .ok (.iconst 0, 1) := by decide +kernel
theorem dX8_begin_2 : decode cX8_begin 2 = .ok (.putfield 110, 3) := by decide +kernel
theorem dX8_begin_5 : decode cX8_begin 5 = .ok (.iconst 0, 1) := by decide +kernel
theorem dX8_begin_6 : decode cX8_begin 6 = .ok (.istore_n 1, 1) := by decide +kernel
theorem dX8_begin_7 : decode cX8_begin 7 = .ok (.iload_n 1, 1) := by decide +kernel
theorem dX8_begin_8 : decode cX8_begin 8 = .ok (.bipush 17, 2) := by decide +kernel
theorem dX8_begin_10 : decode cX8_begin 10 = .ok (.if_icmp .ge 21, 3) := by decide +kernel
theorem dX8_begin_13 : decode cX8_begin 13 = .ok (.aload_n 0, 1) := by decide +kernel
theorem dX8_begin_14 : decode cX8_begin 14 = .ok (.getfield 35, 3) := by decide +kernel
theorem dX8_begin_17 : decode cX8_begin 17 = .ok (.iload_n 1, 1) := by decide +kernel
theorem dX8_begin_18 : decode cX8_begin 18 = .ok (.aload_n 0, 1) := by decide +kernel
theorem dX8_begin_19 : decode cX8_begin 19 = .ok (.getfield 32, 3) := by decide +kernel
theorem dX8_begin_22 : decode cX8_begin 22 = .ok (.iload_n 1, 1) := by decide +kernel
theorem dX8_begin_23 : decode cX8_begin 23 = .ok (.iaload, 1) := by decide +kernel
theorem dX8_begin_24 : decode cX8_begin 24 = .ok (.iastore, 1) := by decide +kernel
theorem dX8_begin_25 : decode cX8_begin 25 = .ok (.iinc 1 1, 3) := by decide +kernel
theorem dX8_begin_28 : decode cX8_begin 28 = .ok (.goto (-21), 3) := by decide +kernel
theorem dX8_begin_31 : decode cX8_begin 31 = .ok (.return_, 1) := by decide +kernel
set_option maxRecDepth 20000 in
theorem ggX8_ahead_X8_in : GoodIn wsX8_ahead wsX8_in := goodIn_r _ [7] (by decide +kernel) (by decide +kernel)
set_option maxRecDepth 20000 in
theorem gX8_ahead_X8_in : GoodIn wsX8_ahead (va_wsS RX8 69 yX8_in wsX8_in) := goodIn_app (goodIn_of _ (by decide +kernel)) ggX8_ahead_X8_in
set_option maxRecDepth 20000 in
theorem ggX8_ahead_X8_begin : GoodIn wsX8_ahead wsX8_begin := goodIn_r _ [11, 12, 3, 13, 50, 51, 52, 53, 54, 55, 56, 57, 58, 59, 60, 61, 62, 63, 64, 65, 66, 67, 68, 69, 70, 71, 72, 73, 74, 75, 76, 77, 78, 79, 80, 81, 82] (by decide +kernel) (by decide +kernel)
set_option maxRecDepth 20000 in
theorem gX8_ahead_X8_begin : GoodIn wsX8_ahead (wsV RX8 170 RX8 yX8_begin wsX8_begin) := goodIn_app (goodIn_of _ (by decide +kernel)) ggX8_ahead_X8_begin
set_option maxRecDepth 20000 in
theorem ggX8_ahead_X8_goSteps : GoodIn wsX8_ahead wsX8_goSteps := goodIn_r _ [17, 3, 18, 19, 20, 6, 21, 22, 23, 24, 25, 26, 27, 28, 29, 30, 12, 31, 32, 33, 34, 35, 36, 37, 38, 39, 40, 41, 42, 43, 44, 45, 50, 51, 52, 53, 54, 55, 56, 57, 58, 59, 60, 61, 62, 63, 64, 65, 66, 67, 68, 69, 70, 71, 72, 73, 74, 75, 76, 77, 78, 79, 80, 81, 82] (by decide +kernel) (by decide +kernel)
set_option maxRecDepth 20000 in
theorem gX8_ahead_X8_goSteps : GoodIn wsX8_ahead (wsV RX8 173 RX8 yX8_goSteps wsX8_goSteps) := goodIn_app (goodIn_of _ (by decide +kernel)) ggX8_ahead_X8_goSteps
set_option maxRecDepth 20000 in
theorem ggX8_ahead_X8_up : GoodIn wsX8_ahead wsX8_up := goodIn_r _ [49, 22, 50, 51, 52, 53, 54, 55, 56, 57, 58, 59, 60, 61, 62, 63, 64, 65, 66, 67, 68, 69, 70, 71, 72, 73, 74, 75, 76, 77, 78, 79, 80, 81, 82] (by decide +kernel) (by decide +kernel)
set_option maxRecDepth 20000 in
theorem gX8_ahead_X8_up : GoodIn wsX8_ahead (wsV RX8 177 RX8 yX8_up wsX8_up) := goodIn_app (goodIn_of _ (by decide +kernel)) ggX8_ahead_X8_up
theorem dX8_ahead_0 : decode cX8_ahead 0 = .ok (.aload_n 0, 1) := by decide +kernel
theorem dX8_ahead_1 : decode cX8_ahead 1 = .ok (.iconst 0, 1) := by decide +kernel
theorem dX8_ahead_2 : decode cX8_ahead 2 = .ok (.putfield 63, 3) := by decide +kernel
theorem dX8_ahead_5 : decode cX8_ahead 5 = .ok (.iload_n 1, 1) := by decide +kernel
theorem dX8_ahead_6 : decode cX8_ahead 6 = .ok (.i2l, 1) := by decide +kernel
theorem dX8_ahead_7 : decode cX8_ahead 7 = .ok (.lconst 0, 1) := by decide +kernel
theorem dX8_ahead_8 : decode cX8_ahead 8 = .ok (.ldc2_w 168, 3) := by decide +kernel
theorem dX8_ahead_11 : decode cX8_ahead 11 = .ok (.invokestatic 69, 3) := by decide +kernel
theorem dX8_ahead_14 : decode cX8_ahead 14 = .ok (.ifCond .ne 6, 3) := by decide +kernel
theorem dX8_ahead_17 : decode cX8_ahead 17 = .ok (.bipush (-2), 2) := by decide +kernel
theorem dX8_ahead_19 : decode cX8_ahead 19 = .ok (.ireturn, 1) := by decide +kernel
theorem dX8_ahead_20 : decode cX8_ahead 20 = .ok (.aload_n 0, 1) := by decide +kernel
theorem dX8_ahead_21 : decode cX8_ahead 21 = .ok (.invokevirtual 170, 3) := by decide +kernel
theorem dX8_ahead_24 : decode cX8_ahead 24 = .ok (.aload_n 0, 1) := by decide +kernel
theorem dX8_ahead_25 : decode cX8_ahead 25 = .ok (.iload_n 1, 1) := by decide +kernel
theorem dX8_ahead_26 : decode cX8_ahead 26 = .ok (.invokevirtual 173, 3) := by decide +kernel
theorem dX8_ahead_29 : decode cX8_ahead 29 = .ok (.aload_n 0, 1) := by decide +kernel
theorem dX8_ahead_30 : decode cX8_ahead 30 = .ok (.aload_n 0, 1) := by decide +kernel
theorem dX8_ahead_31 : decode cX8_ahead 31 = .ok (.getfield 35, 3) := by decide +kernel
theorem dX8_ahead_34 : decode cX8_ahead 34 = .ok (.invokevirtual 177, 3) := by decide +kernel
theorem dX8_ahead_37 : decode cX8_ahead 37 = .ok (.ireturn, 1) := by decide +kernel
set_option maxRecDepth 20000 in
theorem ggX8_drops_X8_noWalker : GoodIn wsX8_drops wsX8_noWalker := goodIn_r _ [7, 8, 9, 10, 6, 11, 45, 46, 47, 48, 49, 50, 51, 52, 53, 54, 55, 56, 57, 58, 59, 60, 61, 62, 63, 64, 65, 66, 67, 68, 69, 70, 71, 72, 73, 74, 75, 76, 77] (by decide +kernel) (by decide +kernel)
set_option maxRecDepth 20000 in
theorem gX8_drops_X8_noWalker : GoodIn wsX8_drops (wsV RX8 134 RX8 yX8_noWalker wsX8_noWalker) := goodIn_app (goodIn_of _ (by decide +kernel)) ggX8_drops_X8_noWalker
set_option maxRecDepth 20000 in
theorem ggX8_drops_X8_begin : GoodIn wsX8_drops wsX8_begin := goodIn_r _ [15, 16, 2, 17, 45, 46, 47, 48, 49, 50, 51, 52, 53, 54, 55, 56, 57, 58, 59, 60, 61, 62, 63, 64, 65, 66, 67, 68, 69, 70, 71, 72, 73, 74, 75, 76, 77] (by decide +kernel) (by decide +kernel)
set_option maxRecDepth 20000 in
theorem gX8_drops_X8_begin : GoodIn wsX8_drops (wsV RX8 170 RX8 yX8_begin wsX8_begin) := goodIn_app (goodIn_of _ (by decide +kernel)) ggX8_drops_X8_begin
set_option maxRecDepth 20000 in
theorem ggX8_drops_X8_has : GoodIn wsX8_drops wsX8_has := goodIn_r _ [20] (by decide +kernel) (by decide +kernel)
set_option maxRecDepth 20000 in
theorem gX8_drops_X8_has : GoodIn wsX8_drops (va_wsS RX8 113 yX8_has wsX8_has) := goodIn_app (goodIn_of _ (by decide +kernel)) ggX8_drops_X8_has
set_option maxRecDepth 20000 in
theorem ggX8_drops_X8_goStep : GoodIn wsX8_drops wsX8_goStep := goodIn_r _ [24, 8, 18, 19, 6, 20, 25, 26, 27, 28, 29, 16, 30, 31, 32, 33, 34, 35, 36, 37, 38, 39, 40, 41, 42, 43, 44, 45, 46, 47, 48, 49, 50, 51, 52, 53, 54, 55, 56, 57, 58, 59, 60, 61, 62, 63, 64, 65, 66, 67, 68, 69, 70, 71, 72, 73, 74, 75, 76, 77] (by decide +kernel) (by decide +kernel)
set_option maxRecDepth 20000 in
theorem gX8_drops_X8_goStep : GoodIn wsX8_drops (wsV RX8 124 RX8 yX8_goStep wsX8_goStep) := goodIn_app (goodIn_of _ (by decide +kernel)) ggX8_drops_X8_goStep
theorem dX8_drops_0 : decode cX8_drops 0 = .ok (.aload_n 0, 1) := by decide +kernel
theorem dX8_drops_1 : decode cX8_drops 1 = .ok (.iconst 0, 1) := by decide +kernel
theorem dX8_drops_2 : decode cX8_drops 2 = .ok (.putfield 63, 3) := by decide +kernel
theorem dX8_drops_5 : decode cX8_drops 5 = .ok (.aload_n 0, 1) := by decide +kernel
theorem dX8_drops_6 : decode cX8_drops 6 = .ok (.iload_n 1, 1) := by decide +kernel
theorem dX8_drops_7 : decode cX8_drops 7 = .ok (.invokevirtual 134, 3) := by decide +kernel
theorem dX8_drops_10 : decode cX8_drops 10 = .ok (.ifCond .eq 5, 3) := by decide +kernel
theorem dX8_drops_13 : decode cX8_drops 13 = .ok (.iconst (-1), 1) := by decide +kernel
theorem dX8_drops_14 : decode cX8_drops 14 = .ok (.ireturn, 1) := by decide +kernel
theorem dX8_drops_15 : decode cX8_drops 15 = .ok (.aload_n 0, 1) := by decide +kernel
theorem dX8_drops_16 : decode cX8_drops 16 = .ok (.invokevirtual 170, 3) := by decide +kernel
theorem dX8_drops_19 : decode cX8_drops 19 = .ok (.iconst 0, 1) := by decide +kernel
theorem dX8_drops_20 : decode cX8_drops 20 = .ok (.istore_n 2, 1) := by decide +kernel
theorem dX8_drops_21 : decode cX8_drops 21 = .ok (.iload_n 2, 1) := by decide +kernel
theorem dX8_drops_22 : decode cX8_drops 22 = .ok (.bipush 20, 2) := by decide +kernel
theorem dX8_drops_24 : decode cX8_drops 24 = .ok (.if_icmp .gt 34, 3) := by decide +kernel
theorem dX8_drops_27 : decode cX8_drops 27 = .ok (.aload_n 0, 1) := by decide +kernel
theorem dX8_drops_28 : decode cX8_drops 28 = .ok (.getfield 35, 3) := by decide +kernel
theorem dX8_drops_31 : decode cX8_drops 31 = .ok (.bipush 15, 2) := by decide +kernel
theorem dX8_drops_33 : decode cX8_drops 33 = .ok (.iaload, 1) := by decide +kernel
theorem dX8_drops_34 : decode cX8_drops 34 = .ok (.iload_n 1, 1) := by decide +kernel
theorem dX8_drops_35 : decode cX8_drops 35 = .ok (.invokestatic 113, 3) := by decide +kernel
theorem dX8_drops_38 : decode cX8_drops 38 = .ok (.ifCond .eq 5, 3) := by decide +kernel
theorem dX8_drops_41 : decode cX8_drops 41 = .ok (.iload_n 2, 1) := by decide +kernel
theorem dX8_drops_42 : decode cX8_drops 42 = .ok (.ireturn, 1) := by decide +kernel
theorem dX8_drops_43 : decode cX8_drops 43 = .ok (.aload_n 0, 1) := by decide +kernel
theorem dX8_drops_44 : decode cX8_drops 44 = .ok (.aload_n 0, 1) := by decide +kernel
theorem dX8_drops_45 : decode cX8_drops 45 = .ok (.getfield 35, 3) := by decide +kernel
theorem dX8_drops_48 : decode cX8_drops 48 = .ok (.invokevirtual 124, 3) := by decide +kernel
theorem dX8_drops_51 : decode cX8_drops 51 = .ok (.pop, 1) := by decide +kernel
theorem dX8_drops_52 : decode cX8_drops 52 = .ok (.iinc 2 1, 3) := by decide +kernel
theorem dX8_drops_55 : decode cX8_drops 55 = .ok (.goto (-34), 3) := by decide +kernel
theorem dX8_drops_58 : decode cX8_drops 58 = .ok (.bipush (-9), 2) := by decide +kernel
theorem dX8_drops_60 : decode cX8_drops 60 = .ok (.ireturn, 1) := by decide +kernel
theorem dX8_nextOrder_0 : decode cX8_nextOrder 0 = .ok (.aload_n 0, 1) := by decide +kernel
theorem dX8_nextOrder_1 : decode cX8_nextOrder 1 = .ok (.getfield 66, 3) := by decide +kernel
theorem dX8_nextOrder_4 : decode cX8_nextOrder 4 = .ok (.iconst 2, 1) := by decide +kernel
theorem dX8_nextOrder_5 : decode cX8_nextOrder 5 = .ok (.isub, 1) := by decide +kernel
theorem dX8_nextOrder_6 : decode cX8_nextOrder 6 = .ok (.istore_n 1, 1) := by decide +kernel
theorem dX8_nextOrder_7 : decode cX8_nextOrder 7 = .ok (.iload_n 1, 1) := by decide +kernel
theorem dX8_nextOrder_8 : decode cX8_nextOrder 8 = .ok (.ifCond .lt 26, 3) := by decide +kernel
theorem dX8_nextOrder_11 : decode cX8_nextOrder 11 = .ok (.aload_n 0, 1) := by decide +kernel
theorem dX8_nextOrder_12 : decode cX8_nextOrder 12 = .ok (.getfield 54, 3) := by decide +kernel
theorem dX8_nextOrder_15 : decode cX8_nextOrder 15 = .ok (.iload_n 1, 1) := by decide +kernel
theorem dX8_nextOrder_16 : decode cX8_nextOrder 16 = .ok (.iaload, 1) := by decide +kernel
theorem dX8_nextOrder_17 : decode cX8_nextOrder 17 = .ok (.aload_n 0, 1) := by decide +kernel
theorem dX8_nextOrder_18 : decode cX8_nextOrder 18 = .ok (.getfield 54, 3) := by decide +kernel
theorem dX8_nextOrder_21 : decode cX8_nextOrder 21 = .ok (.iload_n 1, 1) := by decide +kernel
theorem dX8_nextOrder_22 : decode cX8_nextOrder 22 = .ok (.iconst 1, 1) := by decide +kernel
theorem dX8_nextOrder_23 : decode cX8_nextOrder 23 = .ok (.iadd, 1) := by decide +kernel
theorem dX8_nextOrder_24 : decode cX8_nextOrder 24 = .ok (.iaload, 1) := by decide +kernel
theorem dX8_nextOrder_25 : decode cX8_nextOrder 25 = .ok (.if_icmp .le 9, 3) := by decide +kernel
theorem dX8_nextOrder_28 : decode cX8_nextOrder 28 = .ok (.iinc 1 (-1), 3) := by decide +kernel
theorem dX8_nextOrder_31 : decode cX8_nextOrder 31 = .ok (.goto (-24), 3) := by decide +kernel
theorem dX8_nextOrder_34 : decode cX8_nextOrder 34 = .ok (.iload_n 1, 1) := by decide +kernel
theorem dX8_nextOrder_35 : decode cX8_nextOrder 35 = .ok (.ifCond .ge 5, 3) := by decide +kernel
theorem dX8_nextOrder_38 : decode cX8_nextOrder 38 = .ok (.iconst 0, 1) := by decide +kernel
theorem dX8_nextOrder_39 : decode cX8_nextOrder 39 = .ok (.ireturn, 1) := by decide +kernel
theorem dX8_nextOrder_40 : decode cX8_nextOrder 40 = .ok (.aload_n 0, 1) := by decide +kernel
theorem dX8_nextOrder_41 : decode cX8_nextOrder 41 = .ok (.getfield 66, 3) := by decide +kernel
theorem dX8_nextOrder_44 : decode cX8_nextOrder 44 = .ok (.iconst 1, 1) := by decide +kernel
theorem dX8_nextOrder_45 : decode cX8_nextOrder 45 = .ok (.isub, 1) := by decide +kernel
theorem dX8_nextOrder_46 : decode cX8_nextOrder 46 = .ok (.istore_n 2, 1) := by decide +kernel
theorem dX8_nextOrder_47 : decode cX8_nextOrder 47 = .ok (.aload_n 0, 1) := by decide +kernel
theorem dX8_nextOrder_48 : decode cX8_nextOrder 48 = .ok (.getfield 54, 3) := by decide +kernel
theorem dX8_nextOrder_51 : decode cX8_nextOrder 51 = .ok (.iload_n 2, 1) := by decide +kernel
theorem dX8_nextOrder_52 : decode cX8_nextOrder 52 = .ok (.iaload, 1) := by decide +kernel
theorem dX8_nextOrder_53 : decode cX8_nextOrder 53 = .ok (.aload_n 0, 1) := by decide +kernel
theorem dX8_nextOrder_54 : decode cX8_nextOrder 54 = .ok (.getfield 54, 3) := by decide +kernel
theorem dX8_nextOrder_57 : decode cX8_nextOrder 57 = .ok (.iload_n 1, 1) := by decide +kernel
theorem dX8_nextOrder_58 : decode cX8_nextOrder 58 = .ok (.iaload, 1) := by decide +kernel
theorem dX8_nextOrder_59 : decode cX8_nextOrder 59 = .ok (.if_icmp .ge 9, 3) := by decide +kernel
theorem dX8_nextOrder_62 : decode cX8_nextOrder 62 = .ok (.iinc 2 (-1), 3) := by decide +kernel
theorem dX8_nextOrder_65 : decode cX8_nextOrder 65 = .ok (.goto (-18), 3) := by decide +kernel
theorem dX8_nextOrder_68 : decode cX8_nextOrder 68 = .ok (.aload_n 0, 1) := by decide +kernel
theorem dX8_nextOrder_69 : decode cX8_nextOrder 69 = .ok (.getfield 54, 3) := by decide +kernel
theorem dX8_nextOrder_72 : decode cX8_nextOrder 72 = .ok (.iload_n 1, 1) := by decide +kernel
theorem dX8_nextOrder_73 : decode cX8_nextOrder 73 = .ok (.iaload, 1) := by decide +kernel
theorem dX8_nextOrder_74 : decode cX8_nextOrder 74 = .ok (.istore_n 3, 1) := by decide +kernel
theorem dX8_nextOrder_75 : decode cX8_nextOrder 75 = .ok (.aload_n 0, 1) := by decide +kernel
theorem dX8_nextOrder_76 : decode cX8_nextOrder 76 = .ok (.getfield 54, 3) := by decide +kernel
theorem dX8_nextOrder_79 : decode cX8_nextOrder 79 = .ok (.iload_n 1, 1) := by decide +kernel
theorem dX8_nextOrder_80 : decode cX8_nextOrder 80 = .ok (.aload_n 0, 1) := by decide +kernel
theorem dX8_nextOrder_81 : decode cX8_nextOrder 81 = .ok (.getfield 54, 3) := by decide +kernel
theorem dX8_nextOrder_84 : decode cX8_nextOrder 84 = .ok (.iload_n 2, 1) := by decide +kernel
theorem dX8_nextOrder_85 : decode cX8_nextOrder 85 = .ok (.iaload, 1) := by decide +kernel
theorem dX8_nextOrder_86 : decode cX8_nextOrder 86 = .ok (.iastore, 1) := by decide +kernel
theorem dX8_nextOrder_87 : decode cX8_nextOrder 87 = .ok (.aload_n 0, 1) := by decide +kernel
theorem dX8_nextOrder_88 : decode cX8_nextOrder 88 = .ok (.getfield 54, 3) := by decide +kernel
theorem dX8_nextOrder_91 : decode cX8_nextOrder 91 = .ok (.iload_n 2, 1) := by decide +kernel
theorem dX8_nextOrder_92 : decode cX8_nextOrder 92 = .ok (.iload_n 3, 1) := by decide +kernel
theorem dX8_nextOrder_93 : decode cX8_nextOrder 93 = .ok (.iastore, 1) := by decide +kernel
theorem dX8_nextOrder_94 : decode cX8_nextOrder 94 = .ok (.iload_n 1, 1) := by decide +kernel
theorem dX8_nextOrder_95 : decode cX8_nextOrder 95 = .ok (.iconst 1, 1) := by decide +kernel
theorem dX8_nextOrder_96 : decode cX8_nextOrder 96 = .ok (.iadd, 1) := by decide +kernel
theorem dX8_nextOrder_97 : decode cX8_nextOrder 97 = .ok (.istore 4, 2) := by decide +kernel
theorem dX8_nextOrder_99 : decode cX8_nextOrder 99 = .ok (.aload_n 0, 1) := by decide +kernel
theorem dX8_nextOrder_100 : decode cX8_nextOrder 100 = .ok (.getfield 66, 3) := by decide +kernel
theorem dX8_nextOrder_103 : decode cX8_nextOrder 103 = .ok (.iconst 1, 1) := by decide +kernel
theorem dX8_nextOrder_104 : decode cX8_nextOrder 104 = .ok (.isub, 1) := by decide +kernel
theorem dX8_nextOrder_105 : decode cX8_nextOrder 105 = .ok (.istore 5, 2) := by decide +kernel
theorem dX8_nextOrder_107 : decode cX8_nextOrder 107 = .ok (.iload 4, 2) := by decide +kernel
theorem dX8_nextOrder_109 : decode cX8_nextOrder 109 = .ok (.iload 5, 2) := by decide +kernel
theorem dX8_nextOrder_111 : decode cX8_nextOrder 111 = .ok (.if_icmp .ge 42, 3) := by decide +kernel
theorem dX8_nextOrder_114 : decode cX8_nextOrder 114 = .ok (.aload_n 0, 1) := by decide +kernel
theorem dX8_nextOrder_115 : decode cX8_nextOrder 115 = .ok (.getfield 54, 3) := by decide +kernel
theorem dX8_nextOrder_118 : decode cX8_nextOrder 118 = .ok (.iload 4, 2) := by decide +kernel
theorem dX8_nextOrder_120 : decode cX8_nextOrder 120 = .ok (.iaload, 1) := by decide +kernel
theorem dX8_nextOrder_121 : decode cX8_nextOrder 121 = .ok (.istore_n 3, 1) := by decide +kernel
theorem dX8_nextOrder_122 : decode cX8_nextOrder 122 = .ok (.aload_n 0, 1) := by decide +kernel
theorem dX8_nextOrder_123 : decode cX8_nextOrder 123 = .ok (.getfield 54, 3) := by decide +kernel
theorem dX8_nextOrder_126 : decode cX8_nextOrder 126 = .ok (.iload 4, 2) := by decide +kernel
theorem dX8_nextOrder_128 : decode cX8_nextOrder 128 = .ok (.aload_n 0, 1) := by decide +kernel
theorem dX8_nextOrder_129 : decode cX8_nextOrder 129 = .ok (.getfield 54, 3) := by decide +kernel
theorem dX8_nextOrder_132 : decode cX8_nextOrder 132 = .ok (.iload 5, 2) := by decide +kernel
theorem dX8_nextOrder_134 : decode cX8_nextOrder 134 = .ok (.iaload, 1) := by decide +kernel
theorem dX8_nextOrder_135 : decode cX8_nextOrder 135 = .ok (.iastore, 1) := by decide +kernel
theorem dX8_nextOrder_136 : decode cX8_nextOrder 136 = .ok (.aload_n 0, 1) := by decide +kernel
theorem dX8_nextOrder_137 : decode cX8_nextOrder 137 = .ok (.getfield 54, 3) := by decide +kernel
theorem dX8_nextOrder_140 : decode cX8_nextOrder 140 = .ok (.iload 5, 2) := by decide +kernel
theorem dX8_nextOrder_142 : decode cX8_nextOrder 142 = .ok (.iload_n 3, 1) := by decide +kernel
theorem dX8_nextOrder_143 : decode cX8_nextOrder 143 = .ok (.iastore, 1) := by decide +kernel
theorem dX8_nextOrder_144 : decode cX8_nextOrder 144 = .ok (.iinc 4 1, 3) := by decide +kernel
theorem dX8_nextOrder_147 : decode cX8_nextOrder 147 = .ok (.iinc 5 (-1), 3) := by decide +kernel
theorem dX8_nextOrder_150 : decode cX8_nextOrder 150 = .ok (.goto (-43), 3) := by decide +kernel
theorem dX8_nextOrder_153 : decode cX8_nextOrder 153 = .ok (.iconst 1, 1) := by decide +kernel
theorem dX8_nextOrder_154 : decode cX8_nextOrder 154 = .ok (.ireturn, 1) := by decide +kernel
set_option maxRecDepth 20000 in
theorem ggX8_findLines_X8_begin : GoodIn wsX8_findLines wsX8_begin := goodIn_r _ [10, 11, 5, 12, 55, 56, 57, 58, 59, 60, 61, 62, 63, 64, 65, 66, 67, 68, 69, 70, 71, 72, 73, 74, 75, 76, 77, 78, 79, 80, 81, 82, 83, 84, 85, 86, 87] (by decide +kernel) (by decide +kernel)
set_option maxRecDepth 20000 in
theorem gX8_findLines_X8_begin : GoodIn wsX8_findLines (wsV RX8 170 RX8 yX8_begin wsX8_begin) := goodIn_app (goodIn_of _ (by decide +kernel)) ggX8_findLines_X8_begin
set_option maxRecDepth 20000 in
theorem ggX8_findLines_X8_goSteps : GoodIn wsX8_findLines wsX8_goSteps := goodIn_r _ [16, 5, 17, 18, 19, 9, 20, 1, 21, 22, 23, 24, 25, 26, 27, 28, 11, 29, 30, 31, 32, 33, 34, 35, 36, 37, 38, 39, 40, 41, 42, 43, 55, 56, 57, 58, 59, 60, 61, 62, 63, 64, 65, 66, 67, 68, 69, 70, 71, 72, 73, 74, 75, 76, 77, 78, 79, 80, 81, 82, 83, 84, 85, 86, 87] (by decide +kernel) (by decide +kernel)
set_option maxRecDepth 20000 in
theorem gX8_findLines_X8_goSteps : GoodIn wsX8_findLines (wsV RX8 173 RX8 yX8_goSteps wsX8_goSteps) := goodIn_app (goodIn_of _ (by decide +kernel)) ggX8_findLines_X8_goSteps
set_option maxRecDepth 20000 in
theorem ggX8_findLines_X8_up : GoodIn wsX8_findLines wsX8_up := goodIn_r _ [47, 1, 55, 56, 57, 58, 59, 60, 61, 62, 63, 64, 65, 66, 67, 68, 69, 70, 71, 72, 73, 74, 75, 76, 77, 78, 79, 80, 81, 82, 83, 84, 85, 86, 87] (by decide +kernel) (by decide +kernel)
set_option maxRecDepth 20000 in
theorem gX8_findLines_X8_up : GoodIn wsX8_findLines (wsV RX8 177 RX8 yX8_up wsX8_up) := goodIn_app (goodIn_of _ (by decide +kernel)) ggX8_findLines_X8_up
set_option maxRecDepth 20000 in
theorem ggX8_findLines_X8_many : GoodIn wsX8_findLines wsX8_many := goodIn_r _ [50] (by decide +kernel) (by decide +kernel)
set_option maxRecDepth 20000 in
theorem gX8_findLines_X8_many : GoodIn wsX8_findLines (va_wsS RX8 165 yX8_many wsX8_many) := goodIn_app (goodIn_of _ (by decide +kernel)) ggX8_findLines_X8_many
set_option maxRecDepth 20000 in
theorem ggX8_findLines_X8_nextOrder : GoodIn wsX8_findLines wsX8_nextOrder := goodIn_r _ [54, 1, 4, 55, 56, 57, 58, 59, 60, 61, 62, 63, 64, 65, 66, 67, 68, 69, 70, 71, 72, 73, 74, 75, 76, 77, 78, 79, 80, 81, 82, 83, 84, 85, 86, 87] (by decide +kernel) (by decide +kernel)
set_option maxRecDepth 20000 in
theorem gX8_findLines_X8_nextOrder : GoodIn wsX8_findLines (wsV RX8 186 RX8 yX8_nextOrder wsX8_nextOrder) := goodIn_app (goodIn_of _ (by decide +kernel)) ggX8_findLines_X8_nextOrder
theorem dX8_findLines_0 : decode cX8_findLines 0 = .ok (.aload_n 0, 1) := by decide +kernel
theorem dX8_findLines_1 : decode cX8_findLines 1 = .ok (.aload_n 0, 1) := by decide +kernel
theorem dX8_findLines_2 : decode cX8_findLines 2 = .ok (.getfield 66, 3) := by decide +kernel
theorem dX8_findLines_5 : decode cX8_findLines 5 = .ok (.ifCond .ne 7, 3) := by decide +kernel
theorem dX8_findLines_8 : decode cX8_findLines 8 = .ok (.iconst 0, 1) := by decide +kernel
theorem dX8_findLines_9 : decode cX8_findLines 9 = .ok (.goto 5, 3) := by decide +kernel
theorem dX8_findLines_12 : decode cX8_findLines 12 = .ok (.bipush (-9), 2) := by decide +kernel
theorem dX8_findLines_14 : decode cX8_findLines 14 = .ok (.putfield 180, 3) := by decide +kernel
theorem dX8_findLines_17 : decode cX8_findLines 17 = .ok (.aload_n 0, 1) := by decide +kernel
theorem dX8_findLines_18 : decode cX8_findLines 18 = .ok (.iconst 0, 1) := by decide +kernel
theorem dX8_findLines_19 : decode cX8_findLines 19 = .ok (.putfield 183, 3) := by decide +kernel
theorem dX8_findLines_22 : decode cX8_findLines 22 = .ok (.iconst 0, 1) := by decide +kernel
theorem dX8_findLines_23 : decode cX8_findLines 23 = .ok (.istore_n 1, 1) := by decide +kernel
theorem dX8_findLines_24 : decode cX8_findLines 24 = .ok (.iload_n 1, 1) := by decide +kernel
theorem dX8_findLines_25 : decode cX8_findLines 25 = .ok (.aload_n 0, 1) := by decide +kernel
theorem dX8_findLines_26 : decode cX8_findLines 26 = .ok (.getfield 66, 3) := by decide +kernel
theorem dX8_findLines_29 : decode cX8_findLines 29 = .ok (.if_icmp .ge 16, 3) := by decide +kernel
theorem dX8_findLines_32 : decode cX8_findLines 32 = .ok (.aload_n 0, 1) := by decide +kernel
theorem dX8_findLines_33 : decode cX8_findLines 33 = .ok (.getfield 54, 3) := by decide +kernel
theorem dX8_findLines_36 : decode cX8_findLines 36 = .ok (.iload_n 1, 1) := by decide +kernel
theorem dX8_findLines_37 : decode cX8_findLines 37 = .ok (.iload_n 1, 1) := by decide +kernel
theorem dX8_findLines_38 : decode cX8_findLines 38 = .ok (.iastore, 1) := by decide +kernel
theorem dX8_findLines_39 : decode cX8_findLines 39 = .ok (.iinc 1 1, 3) := by decide +kernel
theorem dX8_findLines_42 : decode cX8_findLines 42 = .ok (.goto (-18), 3) := by decide +kernel
theorem dX8_findLines_45 : decode cX8_findLines 45 = .ok (.aload_n 0, 1) := by decide +kernel
theorem dX8_findLines_46 : decode cX8_findLines 46 = .ok (.getfield 66, 3) := by decide +kernel
theorem dX8_findLines_49 : decode cX8_findLines 49 = .ok (.ifCond .le 7, 3) := by decide +kernel
theorem dX8_findLines_52 : decode cX8_findLines 52 = .ok (.iconst 1, 1) := by decide +kernel
