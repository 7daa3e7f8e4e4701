theorem dX7_init_115 : decode cX7_init 115 = .ok (.getfield 19, 3) := by decide +kernel
theorem dX7_init_118 : decode cX7_init 118 = .ok (.aload_n 0, 1) := by decide +kernel
theorem dX7_init_119 : decode cX7_init 119 = .ok (.getfield 28, 3) := by decide +kernel
theorem dX7_init_122 : decode cX7_init 122 = .ok (.aload_n 1, 1) := by decide +kernel
theorem dX7_init_123 : decode cX7_init 123 = .ok (.invokespecial 62, 3) := by decide +kernel
theorem dX7_init_126 : decode cX7_init 126 = .ok (.putfield 63, 3) := by decide +kernel
theorem dX7_init_129 : decode cX7_init 129 = .ok (.return_, 1) := by decide +kernel
set_option maxRecDepth 20000 in
theorem ggX7_write_X5_isFull : GoodIn wsX7_write wsX5_isFull := goodIn_r _ [6, 7, 28, 29] (by decide +kernel) (by decide +kernel)
set_option maxRecDepth 20000 in
theorem gX7_write_X5_isFull : GoodIn wsX7_write (wsV RX7 67 RX5 yX5_isFull wsX5_isFull) := goodIn_app (goodIn_of _ (by decide +kernel)) ggX7_write_X5_isFull
set_option maxRecDepth 20000 in
theorem ggX7_write_X5_append : GoodIn wsX7_write wsX5_append := goodIn_r _ [11, 12, 7, 13, 14, 15, 28, 29] (by decide +kernel) (by decide +kernel)
set_option maxRecDepth 20000 in
theorem gX7_write_X5_append : GoodIn wsX7_write (wsV RX7 71 RX5 yX5_append wsX5_append) := goodIn_app (goodIn_of _ (by decide +kernel)) ggX7_write_X5_append
theorem dX7_write_0 : decode cX7_write 0 = .ok (.iload_n 1, 1) := by decide +kernel
theorem dX7_write_1 : decode cX7_write 1 = .ok (.ifCond .lt 10, 3) := by decide +kernel
theorem dX7_write_4 : decode cX7_write 4 = .ok (.iload_n 1, 1) := by decide +kernel
theorem dX7_write_5 : decode cX7_write 5 = .ok (.sipush 255, 3) := by decide +kernel
theorem dX7_write_8 : decode cX7_write 8 = .ok (.if_icmp .le 6, 3) := by decide +kernel
theorem dX7_write_11 : decode cX7_write 11 = .ok (.bipush (-2), 2) := by decide +kernel
theorem dX7_write_13 : decode cX7_write 13 = .ok (.ireturn, 1) := by decide +kernel
theorem dX7_write_14 : decode cX7_write 14 = .ok (.aload_n 0, 1) := by decide +kernel
theorem dX7_write_15 : decode cX7_write 15 = .ok (.getfield 12, 3) := by decide +kernel
theorem dX7_write_18 : decode cX7_write 18 = .ok (.invokevirtual 67, 3) := by decide +kernel
theorem dX7_write_21 : decode cX7_write 21 = .ok (.ifCond .eq 6, 3) := by decide +kernel
theorem dX7_write_24 : decode cX7_write 24 = .ok (.bipush (-4), 2) := by decide +kernel
theorem dX7_write_26 : decode cX7_write 26 = .ok (.ireturn, 1) := by decide +kernel
theorem dX7_write_27 : decode cX7_write 27 = .ok (.aload_n 0, 1) := by decide +kernel
theorem dX7_write_28 : decode cX7_write 28 = .ok (.getfield 12, 3) := by decide +kernel
theorem dX7_write_31 : decode cX7_write 31 = .ok (.iload_n 1, 1) := by decide +kernel
theorem dX7_write_32 : decode cX7_write 32 = .ok (.invokevirtual 71, 3) := by decide +kernel
theorem dX7_write_35 : decode cX7_write 35 = .ok (.ireturn, 1) := by decide +kernel
set_option maxRecDepth 20000 in
theorem ggX7_wipe_X5_clear : GoodIn wsX7_wipe wsX5_clear := goodIn_r _ [6, 7, 20, 21] (by decide +kernel) (by decide +kernel)
set_option maxRecDepth 20000 in
theorem gX7_wipe_X5_clear : GoodIn wsX7_wipe (wsV RX7 75 RX5 yX5_clear wsX5_clear) := goodIn_app (goodIn_of _ (by decide +kernel)) ggX7_wipe_X5_clear
theorem dX7_wipe_0 : decode cX7_wipe 0 = .ok (.aload_n 0, 1) := by decide +kernel
theorem dX7_wipe_1 : decode cX7_wipe 1 = .ok (.getfield 12, 3) := by decide +kernel
theorem dX7_wipe_4 : decode cX7_wipe 4 = .ok (.invokevirtual 75, 3) := by decide +kernel
theorem dX7_wipe_7 : decode cX7_wipe 7 = .ok (.ireturn, 1) := by decide +kernel
set_option maxRecDepth 20000 in
theorem ggX7_fault_X5_faultPlace : GoodIn wsX7_fault wsX5_faultPlace := goodIn_r _ [6, 7, 8, 9, 10, 5, 11, 12, 13, 14, 15, 16, 17, 18, 19, 20, 21, 22, 23, 24, 25, 26, 27, 28, 29, 42, 43] (by decide +kernel) (by decide +kernel)
set_option maxRecDepth 20000 in
theorem gX7_fault_X5_faultPlace : GoodIn wsX7_fault (wsV RX7 79 RX5 yX5_faultPlace wsX5_faultPlace) := goodIn_app (goodIn_of _ (by decide +kernel)) ggX7_fault_X5_faultPlace
theorem dX7_fault_0 : decode cX7_fault 0 = .ok (.aload_n 0, 1) := by decide +kernel
theorem dX7_fault_1 : decode cX7_fault 1 = .ok (.getfield 12, 3) := by decide +kernel
theorem dX7_fault_4 : decode cX7_fault 4 = .ok (.invokevirtual 79, 3) := by decide +kernel
theorem dX7_fault_7 : decode cX7_fault 7 = .ok (.ireturn, 1) := by decide +kernel
set_option maxRecDepth 20000 in
theorem ggX7_party_X5_faultPlace : GoodIn wsX7_party wsX5_faultPlace := goodIn_r _ [9, 10, 11, 12, 13, 8, 14, 15, 16, 17, 18, 19, 20, 21, 22, 23, 24, 25, 26, 27, 28, 29, 30, 31, 32, 96, 97] (by decide +kernel) (by decide +kernel)
set_option maxRecDepth 20000 in
theorem gX7_party_X5_faultPlace : GoodIn wsX7_party (wsV RX7 79 RX5 yX5_faultPlace wsX5_faultPlace) := goodIn_app (goodIn_of _ (by decide +kernel)) ggX7_party_X5_faultPlace
set_option maxRecDepth 20000 in
theorem ggX7_party_X3_readFrom : GoodIn wsX7_party wsX3_readFrom := goodIn_r _ [37, 38, 39, 40, 41, 42, 43, 44, 45, 46, 47, 48, 49, 50, 51, 24, 25, 8, 26, 19, 20, 21, 22, 52, 53, 54, 55, 10, 56, 57, 98, 99, 100, 101, 102, 103, 96, 97] (by decide +kernel) (by decide +kernel)
set_option maxRecDepth 20000 in
theorem gX7_party_X3_readFrom : GoodIn wsX7_party (wsV RX7 82 RX3 yX3_readFrom wsX3_readFrom) := goodIn_app (goodIn_of _ (by decide +kernel)) ggX7_party_X3_readFrom
set_option maxRecDepth 20000 in
theorem ggX7_party_X6_begin : GoodIn wsX7_party wsX6_begin := goodIn_r _ [62, 63, 64, 65, 66, 67, 68, 56, 21, 57, 69, 70, 71, 36, 72, 48, 73, 24, 25, 8, 26, 19, 20, 22, 104, 105, 106, 107, 108, 109, 98, 99, 100, 101, 102, 103, 96, 97] (by decide +kernel) (by decide +kernel)
set_option maxRecDepth 20000 in
theorem gX7_party_X6_begin : GoodIn wsX7_party (wsV RX7 86 RX6 yX6_begin wsX6_begin) := goodIn_app (goodIn_of _ (by decide +kernel)) ggX7_party_X6_begin
set_option maxRecDepth 20000 in
theorem ggX7_party_X7_forgetActs : GoodIn wsX7_party wsX7_forgetActs := goodIn_r _ [77, 78, 79, 84, 85, 86, 87, 88, 89, 90, 91, 92, 93, 94, 95] (by decide +kernel) (by decide +kernel)
set_option maxRecDepth 20000 in
theorem gX7_party_X7_forgetActs : GoodIn wsX7_party (wsV RX7 89 RX7 yX7_forgetActs wsX7_forgetActs) := goodIn_app (goodIn_of _ (by decide +kernel)) ggX7_party_X7_forgetActs
set_option maxRecDepth 20000 in
theorem ggX7_party_X3_size : GoodIn wsX7_party wsX3_size := goodIn_r _ [83, 48, 98, 99, 100, 101, 102, 103] (by decide +kernel) (by decide +kernel)
set_option maxRecDepth 20000 in
theorem gX7_party_X3_size : GoodIn wsX7_party (wsV RX7 96 RX3 yX3_size wsX3_size) := goodIn_app (goodIn_of _ (by decide +kernel)) ggX7_party_X3_size
theorem dX7_party_0 : decode cX7_party 0 = .ok (.aload_n 0, 1) := by decide +kernel
theorem dX7_party_1 : decode cX7_party 1 = .ok (.getfield 12, 3) := by decide +kernel
theorem dX7_party_4 : decode cX7_party 4 = .ok (.invokevirtual 79, 3) := by decide +kernel
theorem dX7_party_7 : decode cX7_party 7 = .ok (.bipush (-9), 2) := by decide +kernel
theorem dX7_party_9 : decode cX7_party 9 = .ok (.if_icmp .eq 6, 3) := by decide +kernel
theorem dX7_party_12 : decode cX7_party 12 = .ok (.bipush (-3), 2) := by decide +kernel
theorem dX7_party_14 : decode cX7_party 14 = .ok (.ireturn, 1) := by decide +kernel
theorem dX7_party_15 : decode cX7_party 15 = .ok (.aload_n 0, 1) := by decide +kernel
theorem dX7_party_16 : decode cX7_party 16 = .ok (.getfield 19, 3) := by decide +kernel
theorem dX7_party_19 : decode cX7_party 19 = .ok (.aload_n 0, 1) := by decide +kernel
theorem dX7_party_20 : decode cX7_party 20 = .ok (.getfield 12, 3) := by decide +kernel
theorem dX7_party_23 : decode cX7_party 23 = .ok (.invokevirtual 82, 3) := by decide +kernel
theorem dX7_party_26 : decode cX7_party 26 = .ok (.aload_n 0, 1) := by decide +kernel
theorem dX7_party_27 : decode cX7_party 27 = .ok (.getfield 28, 3) := by decide +kernel
theorem dX7_party_30 : decode cX7_party 30 = .ok (.aload_n 0, 1) := by decide +kernel
theorem dX7_party_31 : decode cX7_party 31 = .ok (.getfield 12, 3) := by decide +kernel
theorem dX7_party_34 : decode cX7_party 34 = .ok (.invokevirtual 86, 3) := by decide +kernel
theorem dX7_party_37 : decode cX7_party 37 = .ok (.aload_n 0, 1) := by decide +kernel
theorem dX7_party_38 : decode cX7_party 38 = .ok (.invokevirtual 89, 3) := by decide +kernel
theorem dX7_party_41 : decode cX7_party 41 = .ok (.aload_n 0, 1) := by decide +kernel
theorem dX7_party_42 : decode cX7_party 42 = .ok (.iconst 0, 1) := by decide +kernel
theorem dX7_party_43 : decode cX7_party 43 = .ok (.putfield 92, 3) := by decide +kernel
theorem dX7_party_46 : decode cX7_party 46 = .ok (.aload_n 0, 1) := by decide +kernel
theorem dX7_party_47 : decode cX7_party 47 = .ok (.getfield 19, 3) := by decide +kernel
theorem dX7_party_50 : decode cX7_party 50 = .ok (.invokevirtual 96, 3) := by decide +kernel
theorem dX7_party_53 : decode cX7_party 53 = .ok (.ireturn, 1) := by decide +kernel
set_option maxRecDepth 20000 in
theorem ggX7_about_X3_size : GoodIn wsX7_about wsX3_size := goodIn_r _ [10, 11, 64, 65, 66, 67, 68, 69] (by decide +kernel) (by decide +kernel)
set_option maxRecDepth 20000 in
theorem gX7_about_X3_size : GoodIn wsX7_about (wsV RX7 96 RX3 yX3_size wsX3_size) := goodIn_app (goodIn_of _ (by decide +kernel)) ggX7_about_X3_size
set_option maxRecDepth 20000 in
theorem ggX7_about_X6_stepNumber : GoodIn wsX7_about wsX6_stepNumber := goodIn_r _ [16, 17, 70, 71, 72, 73, 74, 75] (by decide +kernel) (by decide +kernel)
set_option maxRecDepth 20000 in
theorem gX7_about_X6_stepNumber : GoodIn wsX7_about (wsV RX7 99 RX6 yX6_stepNumber wsX6_stepNumber) := goodIn_app (goodIn_of _ (by decide +kernel)) ggX7_about_X6_stepNumber
set_option maxRecDepth 20000 in
theorem ggX7_about_X3_snowAt : GoodIn wsX7_about wsX3_snowAt := goodIn_r _ [21, 22, 23, 24, 64, 65, 66, 67, 68, 69] (by decide +kernel) (by decide +kernel)
set_option maxRecDepth 20000 in
theorem gX7_about_X3_snowAt : GoodIn wsX7_about (wsV RX7 102 RX3 yX3_snowAt wsX3_snowAt) := goodIn_app (goodIn_of _ (by decide +kernel)) ggX7_about_X3_snowAt
set_option maxRecDepth 20000 in
theorem ggX7_about_X6_downBits : GoodIn wsX7_about wsX6_downBits := goodIn_r _ [28, 29, 70, 71, 72, 73, 74, 75] (by decide +kernel) (by decide +kernel)
set_option maxRecDepth 20000 in
theorem gX7_about_X6_downBits : GoodIn wsX7_about (wsV RX7 105 RX6 yX6_downBits wsX6_downBits) := goodIn_app (goodIn_of _ (by decide +kernel)) ggX7_about_X6_downBits
set_option maxRecDepth 20000 in
theorem ggX7_about_X6_strainOfAll : GoodIn wsX7_about wsX6_strainOfAll := goodIn_r _ [33, 34, 35, 36, 7, 8, 9, 10, 11, 37, 38, 39, 70, 71, 72, 73, 74, 75, 64, 65, 66, 67, 68, 69] (by decide +kernel) (by decide +kernel)
set_option maxRecDepth 20000 in
theorem gX7_about_X6_strainOfAll : GoodIn wsX7_about (wsV RX7 108 RX6 yX6_strainOfAll wsX6_strainOfAll) := goodIn_app (goodIn_of _ (by decide +kernel)) ggX7_about_X6_strainOfAll
set_option maxRecDepth 20000 in
theorem ggX7_about_X2_size : GoodIn wsX7_about wsX2_size := goodIn_r _ [44, 45, 76, 77, 78] (by decide +kernel) (by decide +kernel)
set_option maxRecDepth 20000 in
theorem gX7_about_X2_size : GoodIn wsX7_about (wsV RX7 114 RX2 yX2_size wsX2_size) := goodIn_app (goodIn_of _ (by decide +kernel)) ggX7_about_X2_size
set_option maxRecDepth 20000 in
theorem ggX7_about_X5_size : GoodIn wsX7_about wsX5_size := goodIn_r _ [50, 51, 79, 80] (by decide +kernel) (by decide +kernel)
set_option maxRecDepth 20000 in
theorem gX7_about_X5_size : GoodIn wsX7_about (wsV RX7 115 RX5 yX5_size wsX5_size) := goodIn_app (goodIn_of _ (by decide +kernel)) ggX7_about_X5_size
theorem dX7_about_0 : decode cX7_about 0 = .ok (.iload_n 1, 1) := by decide +kernel
theorem dX7_about_1 : decode cX7_about 1 = .ok (.tableswitch 115 0 7 #[47, 55, 63, 78, 86, 94, 99, 107], 47) := by decide +kernel
theorem dX7_about_48 : decode cX7_about 48 = .ok (.aload_n 0, 1) := by decide +kernel
theorem dX7_about_49 : decode cX7_about 49 = .ok (.getfield 19, 3) := by decide +kernel
theorem dX7_about_52 : decode cX7_about 52 = .ok (.invokevirtual 96, 3) := by decide +kernel
theorem dX7_about_55 : decode cX7_about 55 = .ok (.ireturn, 1) := by decide +kernel
theorem dX7_about_56 : decode cX7_about 56 = .ok (.aload_n 0, 1) := by decide +kernel
theorem dX7_about_57 : decode cX7_about 57 = .ok (.getfield 28, 3) := by decide +kernel
theorem dX7_about_60 : decode cX7_about 60 = .ok (.invokevirtual 99, 3) := by decide +kernel
theorem dX7_about_63 : decode cX7_about 63 = .ok (.ireturn, 1) := by decide +kernel
theorem dX7_about_64 : decode cX7_about 64 = .ok (.aload_n 0, 1) := by decide +kernel
theorem dX7_about_65 : decode cX7_about 65 = .ok (.getfield 19, 3) := by decide +kernel
theorem dX7_about_68 : decode cX7_about 68 = .ok (.aload_n 0, 1) := by decide +kernel
theorem dX7_about_69 : decode cX7_about 69 = .ok (.getfield 28, 3) := by decide +kernel
theorem dX7_about_72 : decode cX7_about 72 = .ok (.invokevirtual 99, 3) := by decide +kernel
theorem dX7_about_75 : decode cX7_about 75 = .ok (.invokevirtual 102, 3) := by decide +kernel
theorem dX7_about_78 : decode cX7_about 78 = .ok (.ireturn, 1) := by decide +kernel
theorem dX7_about_79 : decode cX7_about 79 = .ok (.aload_n 0, 1) := by decide +kernel
theorem dX7_about_80 : decode cX7_about 80 = .ok (.getfield 28, 3) := by decide +kernel
theorem dX7_about_83 : decode cX7_about 83 = .ok (.invokevirtual 105, 3) := by decide +kernel
theorem dX7_about_86 : decode cX7_about 86 = .ok (.ireturn, 1) := by decide +kernel
theorem dX7_about_87 : decode cX7_about 87 = .ok (.aload_n 0, 1) := by decide +kernel
theorem dX7_about_88 : decode cX7_about 88 = .ok (.getfield 28, 3) := by decide +kernel
theorem dX7_about_91 : decode cX7_about 91 = .ok (.invokevirtual 108, 3) := by decide +kernel
theorem dX7_about_94 : decode cX7_about 94 = .ok (.ireturn, 1) := by decide +kernel
theorem dX7_about_95 : decode cX7_about 95 = .ok (.aload_n 0, 1) := by decide +kernel
theorem dX7_about_96 : decode cX7_about 96 = .ok (.getfield 111, 3) := by decide +kernel
theorem dX7_about_99 : decode cX7_about 99 = .ok (.ireturn, 1) := by decide +kernel
theorem dX7_about_100 : decode cX7_about 100 = .ok (.aload_n 0, 1) := by decide +kernel
theorem dX7_about_101 : decode cX7_about 101 = .ok (.getfield 47, 3) := by decide +kernel
theorem dX7_about_104 : decode cX7_about 104 = .ok (.invokevirtual 114, 3) := by decide +kernel
theorem dX7_about_107 : decode cX7_about 107 = .ok (.ireturn, 1) := by decide +kernel
theorem dX7_about_108 : decode cX7_about 108 = .ok (.aload_n 0, 1) := by decide +kernel
theorem dX7_about_109 : decode cX7_about 109 = .ok (.getfield 12, 3) := by decide +kernel
theorem dX7_about_112 : decode cX7_about 112 = .ok (.invokevirtual 115, 3) := by decide +kernel
theorem dX7_about_115 : decode cX7_about 115 = .ok (.ireturn, 1) := by decide +kernel
theorem dX7_about_116 : decode cX7_about 116 = .ok (.bipush (-2), 2) := by decide +kernel
theorem dX7_about_118 : decode cX7_about 118 = .ok (.ireturn, 1) := by decide +kernel
set_option maxRecDepth 20000 in
theorem ggX7_walker_X3_has : GoodIn wsX7_walker wsX3_has := goodIn_r _ [7, 8, 79, 80, 81, 82, 83, 84] (by decide +kernel) (by decide +kernel)
set_option maxRecDepth 20000 in
theorem gX7_walker_X3_has : GoodIn wsX7_walker (wsV RX7 116 RX3 yX3_has wsX3_has) := goodIn_app (goodIn_of _ (by decide +kernel)) ggX7_walker_X3_has
set_option maxRecDepth 20000 in
theorem ggX7_walker_X6_strideOf : GoodIn wsX7_walker wsX6_strideOf := goodIn_r _ [13, 14, 15, 16, 17, 85, 86, 87, 88, 89, 90] (by decide +kernel) (by decide +kernel)
set_option maxRecDepth 20000 in
theorem gX7_walker_X6_strideOf : GoodIn wsX7_walker (wsV RX7 120 RX6 yX6_strideOf wsX6_strideOf) := goodIn_app (goodIn_of _ (by decide +kernel)) ggX7_walker_X6_strideOf
set_option maxRecDepth 20000 in
theorem ggX7_walker_X3_beatOf : GoodIn wsX7_walker wsX3_beatOf := goodIn_r _ [21, 22, 15, 16, 17, 79, 80, 81, 82, 83, 84] (by decide +kernel) (by decide +kernel)
set_option maxRecDepth 20000 in
theorem gX7_walker_X3_beatOf : GoodIn wsX7_walker (wsV RX7 123 RX3 yX3_beatOf wsX3_beatOf) := goodIn_app (goodIn_of _ (by decide +kernel)) ggX7_walker_X3_beatOf
set_option maxRecDepth 20000 in
theorem ggX7_walker_X3_kindOf : GoodIn wsX7_walker wsX3_kindOf := goodIn_r _ [26, 27, 15, 16, 17, 79, 80, 81, 82, 83, 84] (by decide +kernel) (by decide +kernel)
set_option maxRecDepth 20000 in
theorem gX7_walker_X3_kindOf : GoodIn wsX7_walker (wsV RX7 126 RX3 yX3_kindOf wsX3_kindOf) := goodIn_app (goodIn_of _ (by decide +kernel)) ggX7_walker_X3_kindOf
set_option maxRecDepth 20000 in
theorem ggX7_walker_X6_strainOf : GoodIn wsX7_walker wsX6_strainOf := goodIn_r _ [31, 32, 15, 16, 17, 85, 86, 87, 88, 89, 90] (by decide +kernel) (by decide +kernel)
set_option maxRecDepth 20000 in
theorem gX7_walker_X6_strainOf : GoodIn wsX7_walker (wsV RX7 129 RX6 yX6_strainOf wsX6_strainOf) := goodIn_app (goodIn_of _ (by decide +kernel)) ggX7_walker_X6_strainOf
set_option maxRecDepth 20000 in
theorem ggX7_walker_X6_isDown : GoodIn wsX7_walker wsX6_isDown := goodIn_r _ [36, 37, 85, 86, 87, 88, 89, 90] (by decide +kernel) (by decide +kernel)
set_option maxRecDepth 20000 in
theorem gX7_walker_X6_isDown : GoodIn wsX7_walker (wsV RX7 132 RX6 yX6_isDown wsX6_isDown) := goodIn_app (goodIn_of _ (by decide +kernel)) ggX7_walker_X6_isDown
set_option maxRecDepth 20000 in
theorem ggX7_walker_X6_placeOf : GoodIn wsX7_walker wsX6_placeOf := goodIn_r _ [41, 42, 43, 44, 45, 6, 46, 8, 47, 48, 49, 12, 50, 51, 15, 16, 17, 85, 86, 87, 88, 89, 90, 79, 80, 81, 82, 83, 84] (by decide +kernel) (by decide +kernel)
set_option maxRecDepth 20000 in
theorem gX7_walker_X6_placeOf : GoodIn wsX7_walker (wsV RX7 135 RX6 yX6_placeOf wsX6_placeOf) := goodIn_app (goodIn_of _ (by decide +kernel)) ggX7_walker_X6_placeOf
set_option maxRecDepth 20000 in
theorem ggX7_walker_X6_treadOf : GoodIn wsX7_walker wsX6_treadOf := goodIn_r _ [55, 42, 43, 44, 45, 6, 46, 8, 47, 48, 49, 12, 50, 51, 15, 16, 17, 56, 34, 35, 36, 37, 57, 58, 59, 60, 61, 62, 24, 25, 26, 27, 63, 10, 11, 13, 14, 64, 19, 20, 21, 22, 65, 66, 85, 86, 87, 88, 89, 90, 79, 80, 81, 82, 83, 84] (by decide +kernel) (by decide +kernel)
set_option maxRecDepth 20000 in
theorem gX7_walker_X6_treadOf : GoodIn wsX7_walker (wsV RX7 138 RX6 yX6_treadOf wsX6_treadOf) := goodIn_app (goodIn_of _ (by decide +kernel)) ggX7_walker_X6_treadOf
theorem dX7_walker_0 : decode cX7_walker 0 = .ok (.aload_n 0, 1) := by decide +kernel
theorem dX7_walker_1 : decode cX7_walker 1 = .ok (.getfield 19, 3) := by decide +kernel
theorem dX7_walker_4 : decode cX7_walker 4 = .ok (.iload_n 1, 1) := by decide +kernel
theorem dX7_walker_5 : decode cX7_walker 5 = .ok (.invokevirtual 116, 3) := by decide +kernel
theorem dX7_walker_8 : decode cX7_walker 8 = .ok (.ifCond .ne 5, 3) := by decide +kernel
theorem dX7_walker_11 : decode cX7_walker 11 = .ok (.iconst (-1), 1) := by decide +kernel
theorem dX7_walker_12 : decode cX7_walker 12 = .ok (.ireturn, 1) := by decide +kernel
theorem dX7_walker_13 : decode cX7_walker 13 = .ok (.iload_n 2, 1) := by decide +kernel
theorem dX7_walker_14 : decode cX7_walker 14 = .ok (.tableswitch 113 0 6 #[42, 51, 60, 69, 78, 95, 104], 42) := by decide +kernel
theorem dX7_walker_56 : decode cX7_walker 56 = .ok (.aload_n 0, 1) := by decide +kernel
theorem dX7_walker_57 : decode cX7_walker 57 = .ok (.getfield 28, 3) := by decide +kernel
theorem dX7_walker_60 : decode cX7_walker 60 = .ok (.iload_n 1, 1) := by decide +kernel
theorem dX7_walker_61 : decode cX7_walker 61 = .ok (.invokevirtual 120, 3) := by decide +kernel
theorem dX7_walker_64 : decode cX7_walker 64 = .ok (.ireturn, 1) := by decide +kernel
theorem dX7_walker_65 : decode cX7_walker 65 = .ok (.aload_n 0, 1) := by decide +kernel
theorem dX7_walker_66 : decode cX7_walker 66 = .ok (.getfield 19, 3) := by decide +kernel
theorem dX7_walker_69 : decode cX7_walker 69 = .ok (.iload_n 1, 1) := by decide +kernel
theorem dX7_walker_70 : decode cX7_walker 70 = .ok (.invokevirtual 123, 3) := by decide +kernel
theorem dX7_walker_73 : decode cX7_walker 73 = .ok (.ireturn, 1) := by decide +kernel
theorem dX7_walker_74 : decode cX7_walker 74 = .ok (.aload_n 0, 1) := by decide +kernel
theorem dX7_walker_75 : decode cX7_walker 75 = .ok (.getfield 19, 3) := by decide +kernel
theorem dX7_walker_78 : decode cX7_walker 78 = .ok (.iload_n 1, 1) := by decide +kernel
theorem dX7_walker_79 : decode cX7_walker 79 = .ok (.invokevirtual 126, 3) := by decide +kernel
theorem dX7_walker_82 : decode cX7_walker 82 = .ok (.ireturn, 1) := by decide +kernel
theorem dX7_walker_83 : decode cX7_walker 83 = .ok (.aload_n 0, 1) := by decide +kernel
theorem dX7_walker_84 : decode cX7_walker 84 = .ok (.getfield 28, 3) := by decide +kernel
theorem dX7_walker_87 : decode cX7_walker 87 = .ok (.iload_n 1, 1) := by decide +kernel
theorem dX7_walker_88 : decode cX7_walker 88 = .ok (.invokevirtual 129, 3) := by decide +kernel
theorem dX7_walker_91 : decode cX7_walker 91 = .ok (.ireturn, 1) := by decide +kernel
theorem dX7_walker_92 : decode cX7_walker 92 = .ok (.aload_n 0, 1) := by decide +kernel
theorem dX7_walker_93 : decode cX7_walker 93 = .ok (.getfield 28, 3) := by decide +kernel
theorem dX7_walker_96 : decode cX7_walker 96 = .ok (.iload_n 1, 1) := by decide +kernel
theorem dX7_walker_97 : decode cX7_walker 97 = .ok (.invokevirtual 132, 3) := by decide +kernel
theorem dX7_walker_100 : decode cX7_walker 100 = .ok (.ifCond .eq 7, 3) := by decide +kernel
theorem dX7_walker_103 : decode cX7_walker 103 = .ok (.iconst 1, 1) := by decide +kernel
theorem dX7_walker_104 : decode cX7_walker 104 = .ok (.goto 4, 3) := by decide +kernel
theorem dX7_walker_107 : decode cX7_walker 107 = .ok (.iconst 0, 1) := by decide +kernel
theorem dX7_walker_108 : decode cX7_walker 108 = .ok (.ireturn, 1) := by decide +kernel
theorem dX7_walker_109 : decode cX7_walker 109 = .ok (.aload_n 0, 1) := by decide +kernel
theorem dX7_walker_110 : decode cX7_walker 110 = .ok (.getfield 28, 3) := by decide +kernel
theorem dX7_walker_113 : decode cX7_walker 113 = .ok (.iload_n 1, 1) := by decide +kernel
theorem dX7_walker_114 : decode cX7_walker 114 = .ok (.invokevirtual 135, 3) := by decide +kernel
theorem dX7_walker_117 : decode cX7_walker 117 = .ok (.ireturn, 1) := by decide +kernel
theorem dX7_walker_118 : decode cX7_walker 118 = .ok (.aload_n 0, 1) := by decide +kernel
theorem dX7_walker_119 : decode cX7_walker 119 = .ok (.getfield 28, 3) := by decide +kernel
theorem dX7_walker_122 : decode cX7_walker 122 = .ok (.iload_n 1, 1) := by decide +kernel
theorem dX7_walker_123 : decode cX7_walker 123 = .ok (.invokevirtual 138, 3) := by decide +kernel
theorem dX7_walker_126 : decode cX7_walker 126 = .ok (.ireturn, 1) := by decide +kernel
theorem dX7_walker_127 : decode cX7_walker 127 = .ok (.bipush (-2), 2) := by decide +kernel
theorem dX7_walker_129 : decode cX7_walker 129 = .ok (.ireturn, 1) := by decide +kernel
set_option maxRecDepth 20000 in
theorem ggX7_line_X3_has : GoodIn wsX7_line wsX3_has := goodIn_r _ [7, 8, 30, 31, 32, 33, 34, 35] (by decide +kernel) (by decide +kernel)
set_option maxRecDepth 20000 in
theorem gX7_line_X3_has : GoodIn wsX7_line (wsV RX7 116 RX3 yX3_has wsX3_has) := goodIn_app (goodIn_of _ (by decide +kernel)) ggX7_line_X3_has
set_option maxRecDepth 20000 in
theorem ggX7_line_X6_walkerAt : GoodIn wsX7_line wsX6_walkerAt := goodIn_r _ [13, 14, 15, 16, 17, 36, 37, 38, 39, 40, 41] (by decide +kernel) (by decide +kernel)
set_option maxRecDepth 20000 in
theorem gX7_line_X6_walkerAt : GoodIn wsX7_line (wsV RX7 141 RX6 yX6_walkerAt wsX6_walkerAt) := goodIn_app (goodIn_of _ (by decide +kernel)) ggX7_line_X6_walkerAt
theorem dX7_line_0 : decode cX7_line 0 = .ok (.aload_n 0, 1) := by decide +kernel
theorem dX7_line_1 : decode cX7_line 1 = .ok (.getfield 19, 3) := by decide +kernel
theorem dX7_line_4 : decode cX7_line 4 = .ok (.iload_n 1, 1) := by decide +kernel
theorem dX7_line_5 : decode cX7_line 5 = .ok (.invokevirtual 116, 3) := by decide +kernel
theorem dX7_line_8 : decode cX7_line 8 = .ok (.ifCond .eq 14, 3) := by decide +kernel
theorem dX7_line_11 : decode cX7_line 11 = .ok (.aload_n 0, 1) := by decide +kernel
theorem dX7_line_12 : decode cX7_line 12 = .ok (.getfield 28, 3) := by decide +kernel
theorem dX7_line_15 : decode cX7_line 15 = .ok (.iload_n 1, 1) := by decide +kernel
theorem dX7_line_16 : decode cX7_line 16 = .ok (.invokevirtual 141, 3) := by decide +kernel
theorem dX7_line_19 : decode cX7_line 19 = .ok (.goto 4, 3) := by decide +kernel
theorem dX7_line_22 : decode cX7_line 22 = .ok (.iconst (-1), 1) := by decide +kernel
theorem dX7_line_23 : decode cX7_line 23 = .ok (.ireturn, 1) := by decide +kernel
set_option maxRecDepth 20000 in
theorem ggX7_step_X7_noteAct : GoodIn wsX7_step wsX7_noteAct := goodIn_r _ [6, 7, 8, 9, 1, 10, 11, 12, 13, 14, 15, 16, 17, 18, 19, 20, 21, 22, 23, 24, 25, 26, 5, 27, 28, 29, 78, 79, 80, 81, 82, 83, 84, 85, 86, 87, 88, 89, 90, 91, 92, 93, 94, 95, 96] (by decide +kernel) (by decide +kernel)
set_option maxRecDepth 20000 in
theorem gX7_step_X7_noteAct : GoodIn wsX7_step (wsV RX7 144 RX7 yX7_noteAct wsX7_noteAct) := goodIn_app (goodIn_of _ (by decide +kernel)) ggX7_step_X7_noteAct
set_option maxRecDepth 20000 in
theorem ggX7_step_X6_takeStep : GoodIn wsX7_step wsX6_takeStep := goodIn_r _ [33, 34, 25, 24, 35, 36, 37, 38, 39, 40, 41, 42, 43, 44, 45, 46, 47, 48, 49, 50, 19, 51, 21, 26, 5, 27, 52, 53, 54, 55, 56, 57, 58, 59, 60, 61, 62, 63, 64, 65, 66, 67, 68, 22, 69, 70, 71, 72, 73, 74, 75, 76, 77, 91, 92, 93, 94, 95, 96, 97, 98, 99, 100, 101, 102] (by decide +kernel) (by decide +kernel)
set_option maxRecDepth 20000 in
theorem gX7_step_X6_takeStep : GoodIn wsX7_step (wsV RX7 147 RX6 yX6_takeStep wsX6_takeStep) := goodIn_app (goodIn_of _ (by decide +kernel)) ggX7_step_X6_takeStep
theorem dX7_step_0 : decode cX7_step 0 = .ok (.aload_n 0, 1) := by decide +kernel
theorem dX7_step_1 : decode cX7_step 1 = .ok (.invokevirtual 144, 3) := by decide +kernel
theorem dX7_step_4 : decode cX7_step 4 = .ok (.aload_n 0, 1) := by decide +kernel
theorem dX7_step_5 : decode cX7_step 5 = .ok (.getfield 28, 3) := by decide +kernel
theorem dX7_step_8 : decode cX7_step 8 = .ok (.iconst 0, 1) := by decide +kernel
theorem dX7_step_9 : decode cX7_step 9 = .ok (.invokevirtual 147, 3) := by decide +kernel
theorem dX7_step_12 : decode cX7_step 12 = .ok (.ireturn, 1) := by decide +kernel
set_option maxRecDepth 20000 in
theorem ggX7_change_X6_canSwap : GoodIn wsX7_change wsX6_canSwap := goodIn_r _ [6, 7, 8, 9, 10, 11, 12, 13, 63, 64, 65, 66, 67, 68, 69, 70, 71, 72, 73, 74] (by decide +kernel) (by decide +kernel)
set_option maxRecDepth 20000 in
theorem gX7_change_X6_canSwap : GoodIn wsX7_change (wsV RX7 150 RX6 yX6_canSwap wsX6_canSwap) := goodIn_app (goodIn_of _ (by decide +kernel)) ggX7_change_X6_canSwap
set_option maxRecDepth 20000 in
theorem ggX7_change_X7_noteAct : GoodIn wsX7_change wsX7_noteAct := goodIn_r _ [18, 19, 20, 21, 1, 22, 23, 24, 25, 26, 27, 28, 29, 30, 5, 31, 32, 33, 34, 35, 36, 37, 17, 38, 39, 40, 51, 52, 53, 54, 55, 56, 57, 58, 59, 60, 61, 62, 75, 63, 64, 65, 66, 67, 68] (by decide +kernel) (by decide +kernel)
set_option maxRecDepth 20000 in
theorem gX7_change_X7_noteAct : GoodIn wsX7_change (wsV RX7 144 RX7 yX7_noteAct wsX7_noteAct) := goodIn_app (goodIn_of _ (by decide +kernel)) ggX7_change_X7_noteAct
set_option maxRecDepth 20000 in
theorem ggX7_change_X6_trySwap : GoodIn wsX7_change wsX6_trySwap := goodIn_r _ [44, 32, 45, 3, 4, 5, 6, 7, 8, 9, 10, 11, 12, 13, 46, 47, 48, 49, 37, 17, 38, 39, 40, 63, 64, 65, 66, 67, 68, 69, 70, 71, 72, 73, 74] (by decide +kernel) (by decide +kernel)
set_option maxRecDepth 20000 in
theorem gX7_change_X6_trySwap : GoodIn wsX7_change (wsV RX7 153 RX6 yX6_trySwap wsX6_trySwap) := goodIn_app (goodIn_of _ (by decide +kernel)) ggX7_change_X6_trySwap
set_option maxRecDepth 20000 in
theorem ggX7_change_X6_walkerAt : GoodIn wsX7_change wsX6_walkerAt := goodIn_r _ [49, 32, 37, 17, 38, 63, 64, 65, 66, 67, 68] (by decide +kernel) (by decide +kernel)
set_option maxRecDepth 20000 in
theorem gX7_change_X6_walkerAt : GoodIn wsX7_change (wsV RX7 141 RX6 yX6_walkerAt wsX6_walkerAt) := goodIn_app (goodIn_of _ (by decide +kernel)) ggX7_change_X6_walkerAt
theorem dX7_change_0 : decode cX7_change 0 = .ok (.aload_n 0, 1) := by decide +kernel
theorem dX7_change_1 : decode cX7_change 1 = .ok (.getfield 28, 3) := by decide +kernel
theorem dX7_change_4 : decode cX7_change 4 = .ok (.iload_n 1, 1) := by decide +kernel
theorem dX7_change_5 : decode cX7_change 5 = .ok (.invokevirtual 150, 3) := by decide +kernel
theorem dX7_change_8 : decode cX7_change 8 = .ok (.ifCond .ne 5, 3) := by decide +kernel
theorem dX7_change_11 : decode cX7_change 11 = .ok (.iconst (-1), 1) := by decide +kernel
theorem dX7_change_12 : decode cX7_change 12 = .ok (.ireturn, 1) := by decide +kernel
theorem dX7_change_13 : decode cX7_change 13 = .ok (.aload_n 0, 1) := by decide +kernel
theorem dX7_change_14 : decode cX7_change 14 = .ok (.invokevirtual 144, 3) := by decide +kernel
theorem dX7_change_17 : decode cX7_change 17 = .ok (.aload_n 0, 1) := by decide +kernel
theorem dX7_change_18 : decode cX7_change 18 = .ok (.getfield 28, 3) := by decide +kernel
theorem dX7_change_21 : decode cX7_change 21 = .ok (.iload_n 1, 1) := by decide +kernel
theorem dX7_change_22 : decode cX7_change 22 = .ok (.invokevirtual 153, 3) := by decide +kernel
theorem dX7_change_25 : decode cX7_change 25 = .ok (.pop, 1) := by decide +kernel
theorem dX7_change_26 : decode cX7_change 26 = .ok (.aload_n 0, 1) := by decide +kernel
theorem dX7_change_27 : decode cX7_change 27 = .ok (.getfield 28, 3) := by decide +kernel
theorem dX7_change_30 : decode cX7_change 30 = .ok (.iload_n 1, 1) := by decide +kernel
theorem dX7_change_31 : decode cX7_change 31 = .ok (.invokevirtual 141, 3) := by decide +kernel
theorem dX7_change_34 : decode cX7_change 34 = .ok (.ireturn, 1) := by decide +kernel
set_option maxRecDepth 20000 in
theorem ggX7_drill_X3_has : GoodIn wsX7_drill wsX3_has := goodIn_r _ [7, 8, 79, 80, 81, 82, 83, 84] (by decide +kernel) (by decide +kernel)
set_option maxRecDepth 20000 in
theorem gX7_drill_X3_has : GoodIn wsX7_drill (wsV RX7 116 RX3 yX3_has wsX3_has) := goodIn_app (goodIn_of _ (by decide +kernel)) ggX7_drill_X3_has
set_option maxRecDepth 20000 in
theorem ggX7_drill_X6_canDrill : GoodIn wsX7_drill wsX6_canDrill := goodIn_r _ [13, 14, 15, 4, 5, 6, 7, 8, 16, 17, 18, 12, 19, 20, 21, 22, 23, 24, 25, 26, 27, 28, 29, 30, 31, 32, 33, 34, 35, 85, 86, 87, 88, 89, 90, 79, 80, 81, 82, 83, 84] (by decide +kernel) (by decide +kernel)
set_option maxRecDepth 20000 in
theorem gX7_drill_X6_canDrill : GoodIn wsX7_drill (wsV RX7 156 RX6 yX6_canDrill wsX6_canDrill) := goodIn_app (goodIn_of _ (by decide +kernel)) ggX7_drill_X6_canDrill
set_option maxRecDepth 20000 in
theorem ggX7_drill_X7_noteAct : GoodIn wsX7_drill wsX7_noteAct := goodIn_r _ [39, 40, 41, 42, 2, 43, 44, 45, 46, 47, 48, 49, 50, 51, 12, 52, 53, 33, 25, 20, 54, 26, 27, 28, 55, 56, 67, 68, 69, 70, 71, 72, 73, 74, 75, 76, 77, 78, 91, 85, 86, 87, 88, 89, 90] (by decide +kernel) (by decide +kernel)
set_option maxRecDepth 20000 in
theorem gX7_drill_X7_noteAct : GoodIn wsX7_drill (wsV RX7 144 RX7 yX7_noteAct wsX7_noteAct) := goodIn_app (goodIn_of _ (by decide +kernel)) ggX7_drill_X7_noteAct
set_option maxRecDepth 20000 in
theorem ggX7_drill_X6_tryDrill : GoodIn wsX7_drill wsX6_tryDrill := goodIn_r _ [60, 25, 61, 10, 11, 12, 13, 14, 15, 4, 5, 6, 7, 8, 16, 17, 18, 19, 20, 21, 22, 23, 24, 26, 27, 28, 29, 30, 31, 32, 33, 34, 35, 62, 63, 64, 65, 55, 56, 85, 86, 87, 88, 89, 90, 79, 80, 81, 82, 83, 84] (by decide +kernel) (by decide +kernel)
set_option maxRecDepth 20000 in
theorem gX7_drill_X6_tryDrill : GoodIn wsX7_drill (wsV RX7 160 RX6 yX6_tryDrill wsX6_tryDrill) := goodIn_app (goodIn_of _ (by decide +kernel)) ggX7_drill_X6_tryDrill
set_option maxRecDepth 20000 in
theorem ggX7_drill_X6_strideOf : GoodIn wsX7_drill wsX6_strideOf := goodIn_r _ [32, 33, 26, 27, 28, 85, 86, 87, 88, 89, 90] (by decide +kernel) (by decide +kernel)
set_option maxRecDepth 20000 in
theorem gX7_drill_X6_strideOf : GoodIn wsX7_drill (wsV RX7 120 RX6 yX6_strideOf wsX6_strideOf) := goodIn_app (goodIn_of _ (by decide +kernel)) ggX7_drill_X6_strideOf
theorem dX7_drill_0 : decode cX7_drill 0 = .ok (.aload_n 0, 1) := by decide +kernel
theorem dX7_drill_1 : decode cX7_drill 1 = .ok (.getfield 19, 3) := by decide +kernel
theorem dX7_drill_4 : decode cX7_drill 4 = .ok (.iload_n 1, 1) := by decide +kernel
theorem dX7_drill_5 : decode cX7_drill 5 = .ok (.invokevirtual 116, 3) := by decide +kernel
theorem dX7_drill_8 : decode cX7_drill 8 = .ok (.ifCond .ne 5, 3) := by decide +kernel
theorem dX7_drill_11 : decode cX7_drill 11 = .ok (.iconst (-1), 1) := by decide +kernel
theorem dX7_drill_12 : decode cX7_drill 12 = .ok (.ireturn, 1) := by decide +kernel
theorem dX7_drill_13 : decode cX7_drill 13 = .ok (.aload_n 0, 1) := by decide +kernel
theorem dX7_drill_14 : decode cX7_drill 14 = .ok (.getfield 28, 3) := by decide +kernel
theorem dX7_drill_17 : decode cX7_drill 17 = .ok (.iload_n 1, 1) := by decide +kernel
theorem dX7_drill_18 : decode cX7_drill 18 = .ok (.iload_n 2, 1) := by decide +kernel
theorem dX7_drill_19 : decode cX7_drill 19 = .ok (.invokevirtual 156, 3) := by decide +kernel
theorem dX7_drill_22 : decode cX7_drill 22 = .ok (.ifCond .ne 6, 3) := by decide +kernel
theorem dX7_drill_25 : decode cX7_drill 25 = .ok (.bipush (-3), 2) := by decide +kernel
theorem dX7_drill_27 : decode cX7_drill 27 = .ok (.ireturn, 1) := by decide +kernel
theorem dX7_drill_28 : decode cX7_drill 28 = .ok (.aload_n 0, 1) := by decide +kernel
theorem dX7_drill_29 : decode cX7_drill 29 = .ok (.invokevirtual 144, 3) := by decide +kernel
theorem dX7_drill_32 : decode cX7_drill 32 = .ok (.aload_n 0, 1) := by decide +kernel
theorem dX7_drill_33 : decode cX7_drill 33 = .ok (.getfield 28, 3) := by decide +kernel
theorem dX7_drill_36 : decode cX7_drill 36 = .ok (.iload_n 1, 1) := by decide +kernel
theorem dX7_drill_37 : decode cX7_drill 37 = .ok (.iload_n 2, 1) := by decide +kernel
theorem dX7_drill_38 : decode cX7_drill 38 = .ok (.invokevirtual 160, 3) := by decide +kernel
theorem dX7_drill_41 : decode cX7_drill 41 = .ok (.pop, 1) := by decide +kernel
theorem dX7_drill_42 : decode cX7_drill 42 = .ok (.aload_n 0, 1) := by decide +kernel
theorem dX7_drill_43 : decode cX7_drill 43 = .ok (.getfield 28, 3) := by decide +kernel
theorem dX7_drill_46 : decode cX7_drill 46 = .ok (.iload_n 1, 1) := by decide +kernel
theorem dX7_drill_47 : decode cX7_drill 47 = .ok (.invokevirtual 120, 3) := by decide +kernel
theorem dX7_drill_50 : decode cX7_drill 50 = .ok (.ireturn, 1) := by decide +kernel
set_option maxRecDepth 20000 in
theorem ggX7_rescue_X3_has : GoodIn wsX7_rescue wsX3_has := goodIn_r _ [7, 8, 91, 92, 93, 94, 95, 96] (by decide +kernel) (by decide +kernel)
set_option maxRecDepth 20000 in
theorem gX7_rescue_X3_has : GoodIn wsX7_rescue (wsV RX7 116 RX3 yX3_has wsX3_has) := goodIn_app (goodIn_of _ (by decide +kernel)) ggX7_rescue_X3_has
set_option maxRecDepth 20000 in
theorem ggX7_rescue_X6_isDown : GoodIn wsX7_rescue wsX6_isDown := goodIn_r _ [13, 14, 97, 98, 99, 100, 101, 102] (by decide +kernel) (by decide +kernel)
set_option maxRecDepth 20000 in
theorem gX7_rescue_X6_isDown : GoodIn wsX7_rescue (wsV RX7 132 RX6 yX6_isDown wsX6_isDown) := goodIn_app (goodIn_of _ (by decide +kernel)) ggX7_rescue_X6_isDown
set_option maxRecDepth 20000 in
theorem ggX7_rescue_X7_noteAct : GoodIn wsX7_rescue wsX7_noteAct := goodIn_r _ [19, 20, 21, 22, 2, 23, 24, 25, 26, 27, 28, 29, 30, 31, 12, 32, 33, 34, 35, 14, 36, 37, 18, 38, 39, 40, 79, 80, 81, 82, 83, 84, 85, 86, 87, 88, 89, 90, 103, 97, 98, 99, 100, 101, 102] (by decide +kernel) (by decide +kernel)
set_option maxRecDepth 20000 in
theorem gX7_rescue_X7_noteAct : GoodIn wsX7_rescue (wsV RX7 144 RX7 yX7_noteAct wsX7_noteAct) := goodIn_app (goodIn_of _ (by decide +kernel)) ggX7_rescue_X7_noteAct
set_option maxRecDepth 20000 in
theorem ggX7_rescue_X6_tryRescue : GoodIn wsX7_rescue wsX6_tryRescue := goodIn_r _ [44, 45, 14, 46, 4, 5, 6, 7, 8, 47, 10, 11, 12, 13, 48, 49, 50, 51, 52, 53, 54, 55, 56, 57, 58, 59, 33, 37, 18, 38, 60, 61, 62, 63, 64, 65, 66, 67, 39, 40, 97, 98, 99, 100, 101, 102, 91, 92, 93, 94, 95, 96] (by decide +kernel) (by decide +kernel)
set_option maxRecDepth 20000 in
theorem gX7_rescue_X6_tryRescue : GoodIn wsX7_rescue (wsV RX7 163 RX6 yX6_tryRescue wsX6_tryRescue) := goodIn_app (goodIn_of _ (by decide +kernel)) ggX7_rescue_X6_tryRescue
set_option maxRecDepth 20000 in
theorem ggX7_rescue_X6_downBits : GoodIn wsX7_rescue wsX6_downBits := goodIn_r _ [71, 14, 97, 98, 99, 100, 101, 102] (by decide +kernel) (by decide +kernel)
set_option maxRecDepth 20000 in
theorem gX7_rescue_X6_downBits : GoodIn wsX7_rescue (wsV RX7 105 RX6 yX6_downBits wsX6_downBits) := goodIn_app (goodIn_of _ (by decide +kernel)) ggX7_rescue_X6_downBits
set_option maxRecDepth 20000 in
theorem ggX7_rescue_J6_bitCount_0f7a4 : GoodIn wsX7_rescue wsJ6_bitCount_0f7a4 := goodIn_r _ [75, 76, 77, 78] (by decide +kernel) (by decide +kernel)
set_option maxRecDepth 20000 in
theorem gX7_rescue_J6_bitCount_0f7a4 : GoodIn wsX7_rescue (va_wsS RX7 166 yJ6_bitCount_0f7a4 wsJ6_bitCount_0f7a4) := goodIn_app (goodIn_of _ (by decide +kernel)) ggX7_rescue_J6_bitCount_0f7a4
theorem dX7_rescue_0 : decode cX7_rescue 0 = .ok (.aload_n 0, 1) := by decide +kernel
theorem dX7_rescue_1 : decode cX7_rescue 1 = .ok (.getfield 19, 3) := by decide +kernel
theorem dX7_rescue_4 : decode cX7_rescue 4 = .ok (.iload_n 1, 1) := by decide +kernel
theorem dX7_rescue_5 : decode cX7_rescue 5 = .ok (.invokevirtual 116, 3) := by decide +kernel
theorem dX7_rescue_8 : decode cX7_rescue 8 = .ok (.ifCond .ne 5, 3) := by decide +kernel
theorem dX7_rescue_11 : decode cX7_rescue 11 = .ok (.iconst (-1), 1) := by decide +kernel
theorem dX7_rescue_12 : decode cX7_rescue 12 = .ok (.ireturn, 1) := by decide +kernel
theorem dX7_rescue_13 : decode cX7_rescue 13 = .ok (.aload_n 0, 1) := by decide +kernel
theorem dX7_rescue_14 : decode cX7_rescue 14 = .ok (.getfield 28, 3) := by decide +kernel
theorem dX7_rescue_17 : decode cX7_rescue 17 = .ok (.iload_n 1, 1) := by decide +kernel
theorem dX7_rescue_18 : decode cX7_rescue 18 = .ok (.invokevirtual 132, 3) := by decide +kernel
theorem dX7_rescue_21 : decode cX7_rescue 21 = .ok (.ifCond .ne 6, 3) := by decide +kernel
theorem dX7_rescue_24 : decode cX7_rescue 24 = .ok (.bipush (-3), 2) := by decide +kernel
theorem dX7_rescue_26 : decode cX7_rescue 26 = .ok (.ireturn, 1) := by decide +kernel
theorem dX7_rescue_27 : decode cX7_rescue 27 = .ok (.aload_n 0, 1) := by decide +kernel
theorem dX7_rescue_28 : decode cX7_rescue 28 = .ok (.invokevirtual 144, 3) := by decide +kernel
theorem dX7_rescue_31 : decode cX7_rescue 31 = .ok (.aload_n 0, 1) := by decide +kernel
theorem dX7_rescue_32 : decode cX7_rescue 32 = .ok (.getfield 28, 3) := by decide +kernel
theorem dX7_rescue_35 : decode cX7_rescue 35 = .ok (.iload_n 1, 1) := by decide +kernel
theorem dX7_rescue_36 : decode cX7_rescue 36 = .ok (.invokevirtual 163, 3) := by decide +kernel
theorem dX7_rescue_39 : decode cX7_rescue 39 = .ok (.pop, 1) := by decide +kernel
theorem dX7_rescue_40 : decode cX7_rescue 40 = .ok (.aload_n 0, 1) := by decide +kernel
theorem dX7_rescue_41 : decode cX7_rescue 41 = .ok (.getfield 28, 3) := by decide +kernel
theorem dX7_rescue_44 : decode cX7_rescue 44 = .ok (.invokevirtual 105, 3) := by decide +kernel
theorem dX7_rescue_47 : decode cX7_rescue 47 = .ok (.invokestatic 166, 3) := by decide +kernel
theorem dX7_rescue_50 : decode cX7_rescue 50 = .ok (.ireturn, 1) := by decide +kernel
set_option maxRecDepth 20000 in
theorem ggX7_undo_X4_restore : GoodIn wsX7_undo wsX4_restore := goodIn_r _ [9, 10, 11, 12, 13, 14, 15, 16, 17, 18, 19, 20, 21, 22, 23, 24, 25, 38, 39, 40, 41, 42, 43, 44] (by decide +kernel) (by decide +kernel)
set_option maxRecDepth 20000 in
theorem gX7_undo_X4_restore : GoodIn wsX7_undo (wsV RX7 174 RX4 yX4_restore wsX4_restore) := goodIn_app (goodIn_of _ (by decide +kernel)) ggX7_undo_X4_restore
theorem dX7_undo_0 : decode cX7_undo 0 = .ok (.aload_n 0, 1) := by decide +kernel
theorem dX7_undo_1 : decode cX7_undo 1 = .ok (.getfield 111, 3) := by decide +kernel
theorem dX7_undo_4 : decode cX7_undo 4 = .ok (.ifCond .gt 6, 3) := by decide +kernel
theorem dX7_undo_7 : decode cX7_undo 7 = .ok (.bipush (-3), 2) := by decide +kernel
theorem dX7_undo_9 : decode cX7_undo 9 = .ok (.ireturn, 1) := by decide +kernel
theorem dX7_undo_10 : decode cX7_undo 10 = .ok (.aload_n 0, 1) := by decide +kernel
theorem dX7_undo_11 : decode cX7_undo 11 = .ok (.dup, 1) := by decide +kernel
theorem dX7_undo_12 : decode cX7_undo 12 = .ok (.getfield 111, 3) := by decide +kernel
theorem dX7_undo_15 : decode cX7_undo 15 = .ok (.iconst 1, 1) := by decide +kernel
theorem dX7_undo_16 : decode cX7_undo 16 = .ok (.isub, 1) := by decide +kernel
theorem dX7_undo_17 : decode cX7_undo 17 = .ok (.putfield 111, 3) := by decide +kernel
theorem dX7_undo_20 : decode cX7_undo 20 = .ok (.aload_n 0, 1) := by decide +kernel
theorem dX7_undo_21 : decode cX7_undo 21 = .ok (.getfield 37, 3) := by decide +kernel
theorem dX7_undo_24 : decode cX7_undo 24 = .ok (.aload_n 0, 1) := by decide +kernel
theorem dX7_undo_25 : decode cX7_undo 25 = .ok (.getfield 171, 3) := by decide +kernel
theorem dX7_undo_28 : decode cX7_undo 28 = .ok (.aload_n 0, 1) := by decide +kernel
theorem dX7_undo_29 : decode cX7_undo 29 = .ok (.getfield 111, 3) := by decide +kernel
theorem dX7_undo_32 : decode cX7_undo 32 = .ok (.iadd, 1) := by decide +kernel
theorem dX7_undo_33 : decode cX7_undo 33 = .ok (.bipush 14, 2) := by decide +kernel
theorem dX7_undo_35 : decode cX7_undo 35 = .ok (.irem, 1) := by decide +kernel
theorem dX7_undo_36 : decode cX7_undo 36 = .ok (.aload_n 0, 1) := by decide +kernel
theorem dX7_undo_37 : decode cX7_undo 37 = .ok (.getfield 28, 3) := by decide +kernel
theorem dX7_undo_40 : decode cX7_undo 40 = .ok (.invokevirtual 174, 3) := by decide +kernel
theorem dX7_undo_43 : decode cX7_undo 43 = .ok (.aload_n 0, 1) := by decide +kernel
theorem dX7_undo_44 : decode cX7_undo 44 = .ok (.getfield 111, 3) := by decide +kernel
theorem dX7_undo_47 : decode cX7_undo 47 = .ok (.ireturn, 1) := by decide +kernel
set_option maxRecDepth 20000 in
theorem ggX7_noteAct_X4_save : GoodIn wsX7_noteAct wsX4_save := goodIn_r _ [9, 10, 11, 12, 13, 14, 15, 16, 17, 18, 19, 20, 21, 22, 23, 24, 25, 38, 39, 40, 41, 42, 43, 44] (by decide +kernel) (by decide +kernel)
set_option maxRecDepth 20000 in
theorem gX7_noteAct_X4_save : GoodIn wsX7_noteAct (wsV RX7 178 RX4 yX4_save wsX4_save) := goodIn_app (goodIn_of _ (by decide +kernel)) ggX7_noteAct_X4_save
theorem dX7_noteAct_0 : decode cX7_noteAct 0 = .ok (.aload_n 0, 1) := by decide +kernel
theorem dX7_noteAct_1 : decode cX7_noteAct 1 = .ok (.getfield 37, 3) := by decide +kernel
theorem dX7_noteAct_4 : decode cX7_noteAct 4 = .ok (.aload_n 0, 1) := by decide +kernel
theorem dX7_noteAct_5 : decode cX7_noteAct 5 = .ok (.getfield 171, 3) := by decide +kernel
theorem dX7_noteAct_8 : decode cX7_noteAct 8 = .ok (.aload_n 0, 1) := by decide +kernel
theorem dX7_noteAct_9 : decode cX7_noteAct 9 = .ok (.getfield 111, 3) := by decide +kernel
theorem dX7_noteAct_12 : decode cX7_noteAct 12 = .ok (.iadd, 1) := by decide +kernel
theorem dX7_noteAct_13 : decode cX7_noteAct 13 = .ok (.bipush 14, 2) := by decide +kernel
theorem dX7_noteAct_15 : decode cX7_noteAct 15 = .ok (.irem, 1) := by decide +kernel
theorem dX7_noteAct_16 : decode cX7_noteAct 16 = .ok (.aload_n 0, 1) := by decide +kernel
theorem dX7_noteAct_17 : decode cX7_noteAct 17 = .ok (.getfield 28, 3) := by decide +kernel
theorem dX7_noteAct_20 : decode cX7_noteAct 20 = .ok (.invokevirtual 178, 3) := by decide +kernel
theorem dX7_noteAct_23 : decode cX7_noteAct 23 = .ok (.aload_n 0, 1) := by decide +kernel
theorem dX7_noteAct_24 : decode cX7_noteAct 24 = .ok (.getfield 111, 3) := by decide +kernel
theorem dX7_noteAct_27 : decode cX7_noteAct 27 = .ok (.bipush 14, 2) := by decide +kernel
theorem dX7_noteAct_29 : decode cX7_noteAct 29 = .ok (.if_icmp .ge 16, 3) := by decide +kernel
theorem dX7_noteAct_32 : decode cX7_noteAct 32 = .ok (.aload_n 0, 1) := by decide +kernel
theorem dX7_noteAct_33 : decode cX7_noteAct 33 = .ok (.dup, 1) := by decide +kernel
theorem dX7_noteAct_34 : decode cX7_noteAct 34 = .ok (.getfield 111, 3) := by decide +kernel
theorem dX7_noteAct_37 : decode cX7_noteAct 37 = .ok (.iconst 1, 1) := by decide +kernel
theorem dX7_noteAct_38 : decode cX7_noteAct 38 = .ok (.iadd, 1) := by decide +kernel
theorem dX7_noteAct_39 : decode cX7_noteAct 39 = .ok (.putfield 111, 3) := by decide +kernel
theorem dX7_noteAct_42 : decode cX7_noteAct 42 = .ok (.goto 16, 3) := by decide +kernel
theorem dX7_noteAct_45 : decode cX7_noteAct 45 = .ok (.aload_n 0, 1) := by decide +kernel
theorem dX7_noteAct_46 : decode cX7_noteAct 46 = .ok (.aload_n 0, 1) := by decide +kernel
theorem dX7_noteAct_47 : decode cX7_noteAct 47 = .ok (.getfield 171, 3) := by decide +kernel
theorem dX7_noteAct_50 : decode cX7_noteAct 50 = .ok (.iconst 1, 1) := by decide +kernel
theorem dX7_noteAct_51 : decode cX7_noteAct 51 = .ok (.iadd, 1) := by decide +kernel
theorem dX7_noteAct_52 : decode cX7_noteAct 52 = .ok (.bipush 14, 2) := by decide +kernel
theorem dX7_noteAct_54 : decode cX7_noteAct 54 = .ok (.irem, 1) := by decide +kernel
theorem dX7_noteAct_55 : decode cX7_noteAct 55 = .ok (.putfield 171, 3) := by decide +kernel
theorem dX7_noteAct_58 : decode cX7_noteAct 58 = .ok (.return_, 1) := by decide +kernel
theorem dX7_forgetActs_0 : decode cX7_forgetActs 0 = .ok (.aload_n 0, 1) := by decide +kernel
theorem dX7_forgetActs_1 : decode cX7_forgetActs 1 = .ok (.iconst 0, 1) := by decide +kernel
theorem dX7_forgetActs_2 : decode cX7_forgetActs 2 = .ok (.putfield 171, 3) := by decide +kernel
theorem dX7_forgetActs_5 : decode cX7_forgetActs 5 = .ok (.aload_n 0, 1) := by decide +kernel
theorem dX7_forgetActs_6 : decode cX7_forgetActs 6 = .ok (.iconst 0, 1) := by decide +kernel
theorem dX7_forgetActs_7 : decode cX7_forgetActs 7 = .ok (.putfield 111, 3) := by decide +kernel
theorem dX7_forgetActs_10 : decode cX7_forgetActs 10 = .ok (.return_, 1) := by decide +kernel
set_option maxRecDepth 20000 in
theorem ggX7_ahead_X1_standingBehind : GoodIn wsX7_ahead wsX1_standingBehind := goodIn_r _ [6, 7, 8, 9, 10, 11, 12, 13, 14, 15, 16, 17, 18, 19, 20, 21, 22, 23, 24, 25, 26, 5, 27, 28, 29, 30, 31, 32, 33, 34, 35, 36, 37, 38, 39, 40, 41, 42, 43, 44, 45, 46, 47, 48, 49, 50, 51, 52, 53, 54, 55, 56, 57, 58, 59, 60, 61, 62, 63, 64, 65, 66, 67, 68, 69, 70, 71, 72, 73, 74, 75, 76, 77, 78, 79, 92, 93, 94, 95, 96, 97, 98, 99, 100, 101, 102, 103, 104, 105, 106] (by decide +kernel) (by decide +kernel)
set_option maxRecDepth 20000 in
theorem gX7_ahead_X1_standingBehind : GoodIn wsX7_ahead (wsV RX7 181 RX1 yX1_standingBehind wsX1_standingBehind) := goodIn_app (goodIn_of _ (by decide +kernel)) ggX7_ahead_X1_standingBehind
theorem dX7_ahead_0 : decode cX7_ahead 0 = .ok (.iload_n 1, 1) := by decide +kernel
theorem dX7_ahead_1 : decode cX7_ahead 1 = .ok (.ifCond .lt 9, 3) := by decide +kernel
theorem dX7_ahead_4 : decode cX7_ahead 4 = .ok (.iload_n 1, 1) := by decide +kernel
theorem dX7_ahead_5 : decode cX7_ahead 5 = .ok (.bipush 20, 2) := by decide +kernel
theorem dX7_ahead_7 : decode cX7_ahead 7 = .ok (.if_icmp .le 8, 3) := by decide +kernel
theorem dX7_ahead_10 : decode cX7_ahead 10 = .ok (.bipush (-2), 2) := by decide +kernel
theorem dX7_ahead_12 : decode cX7_ahead 12 = .ok (.goto 11, 3) := by decide +kernel
theorem dX7_ahead_15 : decode cX7_ahead 15 = .ok (.aload_n 0, 1) := by decide +kernel
theorem dX7_ahead_16 : decode cX7_ahead 16 = .ok (.getfield 56, 3) := by decide +kernel
theorem dX7_ahead_19 : decode cX7_ahead 19 = .ok (.iload_n 1, 1) := by decide +kernel
theorem dX7_ahead_20 : decode cX7_ahead 20 = .ok (.invokevirtual 181, 3) := by decide +kernel
theorem dX7_ahead_23 : decode cX7_ahead 23 = .ok (.ireturn, 1) := by decide +kernel
set_option maxRecDepth 20000 in
theorem ggX7_drops_X3_has : GoodIn wsX7_drops wsX3_has := goodIn_r _ [7, 8, 90, 91, 92, 93, 94, 95] (by decide +kernel) (by decide +kernel)
set_option maxRecDepth 20000 in
theorem gX7_drops_X3_has : GoodIn wsX7_drops (wsV RX7 116 RX3 yX3_has wsX3_has) := goodIn_app (goodIn_of _ (by decide +kernel)) ggX7_drops_X3_has
set_option maxRecDepth 20000 in
theorem ggX7_drops_X1_dropOf : GoodIn wsX7_drops wsX1_dropOf := goodIn_r _ [13, 14, 15, 16, 17, 18, 19, 20, 21, 22, 23, 24, 25, 26, 27, 28, 29, 30, 31, 32, 33, 34, 35, 36, 37, 38, 39, 40, 41, 42, 6, 43, 44, 45, 46, 47, 48, 49, 50, 8, 51, 52, 53, 54, 55, 56, 57, 58, 59, 60, 61, 62, 63, 64, 65, 66, 67, 68, 69, 70, 71, 72, 73, 74, 75, 76, 77, 96, 97, 98, 99, 100, 101, 102, 103, 104, 90, 91, 92, 93, 94, 95] (by decide +kernel) (by decide +kernel)
set_option maxRecDepth 20000 in
theorem gX7_drops_X1_dropOf : GoodIn wsX7_drops (wsV RX7 184 RX1 yX1_dropOf wsX1_dropOf) := goodIn_app (goodIn_of _ (by decide +kernel)) ggX7_drops_X1_dropOf
theorem dX7_drops_0 : decode cX7_drops 0 = .ok (.aload_n 0, 1) := by decide +kernel
theorem dX7_drops_1 : decode cX7_drops 1 = .ok (.getfield 19, 3) := by decide +kernel
theorem dX7_drops_4 : decode cX7_drops 4 = .ok (.iload_n 1, 1) := by decide +kernel
theorem dX7_drops_5 : decode cX7_drops 5 = .ok (.invokevirtual 116, 3) := by decide +kernel
theorem dX7_drops_8 : decode cX7_drops 8 = .ok (.ifCond .eq 14, 3) := by decide +kernel
theorem dX7_drops_11 : decode cX7_drops 11 = .ok (.aload_n 0, 1) := by decide +kernel
theorem dX7_drops_12 : decode cX7_drops 12 = .ok (.getfield 56, 3) := by decide +kernel
theorem dX7_drops_15 : decode cX7_drops 15 = .ok (.iload_n 1, 1) := by decide +kernel
theorem dX7_drops_16 : decode cX7_drops 16 = .ok (.invokevirtual 184, 3) := by decide +kernel
theorem dX7_drops_19 : decode cX7_drops 19 = .ok (.goto 4, 3) := by decide +kernel
theorem dX7_drops_22 : decode cX7_drops 22 = .ok (.iconst (-1), 1) := by decide +kernel
theorem dX7_drops_23 : decode cX7_drops 23 = .ok (.ireturn, 1) := by decide +kernel
set_option maxRecDepth 20000 in
theorem ggX7_lines_X1_bestLine : GoodIn wsX7_lines wsX1_bestLine := goodIn_r _ [6, 7, 8, 9, 10, 11, 12, 13, 14, 15, 16, 17, 18, 19, 20, 21, 22, 23, 24, 25, 26, 27, 28, 29, 30, 31, 32, 33, 34, 35, 36, 37, 38, 39, 40, 41, 42, 43, 44, 45, 46, 5, 47, 48, 49, 50, 51, 52, 53, 54, 55, 56, 57, 58, 59, 60, 61, 62, 63, 64, 65, 66, 67, 68, 69, 70, 71, 72, 73, 74, 75, 76, 77, 78, 79, 80, 81, 82, 83, 84, 85, 86, 87, 88, 89, 90, 91, 92, 93, 94, 95, 96, 97, 98, 99, 100, 101, 102, 103, 104, 105, 106, 107, 120, 121, 122, 123, 124, 125, 126, 127, 128, 129, 130, 131, 132, 133, 134] (by decide +kernel) (by decide +kernel)
set_option maxRecDepth 20000 in
theorem gX7_lines_X1_bestLine : GoodIn wsX7_lines (wsV RX7 187 RX1 yX1_bestLine wsX1_bestLine) := goodIn_app (goodIn_of _ (by decide +kernel)) ggX7_lines_X1_bestLine
theorem dX7_lines_0 : decode cX7_lines 0 = .ok (.aload_n 0, 1) := by decide +kernel
theorem dX7_lines_1 : decode cX7_lines 1 = .ok (.getfield 56, 3) := by decide +kernel
theorem dX7_lines_4 : decode cX7_lines 4 = .ok (.iload_n 1, 1) := by decide +kernel
theorem dX7_lines_5 : decode cX7_lines 5 = .ok (.invokevirtual 187, 3) := by decide +kernel
theorem dX7_lines_8 : decode cX7_lines 8 = .ok (.ireturn, 1) := by decide +kernel
set_option maxRecDepth 20000 in
theorem ggX7_drills_X1_fewestDrills : GoodIn wsX7_drills wsX1_fewestDrills := goodIn_r _ [6, 7, 8, 9, 10, 11, 12, 13, 14, 15, 16, 17, 18, 19, 20, 21, 22, 23, 24, 25, 26, 27, 28, 29, 30, 31, 32, 33, 34, 35, 36, 37, 38, 39, 40, 41, 42, 5, 43, 44, 45, 46, 47, 48, 49, 50, 51, 52, 53, 54, 55, 56, 57, 58, 59, 60, 61, 62, 63, 64, 65, 66, 67, 68, 69, 70, 71, 72, 73, 74, 75, 76, 77, 78, 79, 80, 81, 82, 83, 84, 85, 86, 87, 88, 89, 90, 91, 92, 93, 94, 95, 96, 97, 98, 99, 112, 113, 114, 115, 116, 117, 118, 119, 120, 121, 122, 123, 124, 125, 126] (by decide +kernel) (by decide +kernel)
set_option maxRecDepth 20000 in
theorem gX7_drills_X1_fewestDrills : GoodIn wsX7_drills (wsV RX7 191 RX1 yX1_fewestDrills wsX1_fewestDrills) := goodIn_app (goodIn_of _ (by decide +kernel)) ggX7_drills_X1_fewestDrills
theorem dX7_drills_0 : decode cX7_drills 0 = .ok (.aload_n 0, 1) := by decide +kernel
theorem dX7_drills_1 : decode cX7_drills 1 = .ok (.getfield 56, 3) := by decide +kernel
theorem dX7_drills_4 : decode cX7_drills 4 = .ok (.invokevirtual 191, 3) := by decide +kernel
theorem dX7_drills_7 : decode cX7_drills 7 = .ok (.ireturn, 1) := by decide +kernel
set_option maxRecDepth 20000 in
theorem ggX7_fallsIn_X3_has : GoodIn wsX7_fallsIn wsX3_has := goodIn_r _ [7, 8, 62, 63, 64, 65, 66, 67] (by decide +kernel) (by decide +kernel)
set_option maxRecDepth 20000 in
theorem gX7_fallsIn_X3_has : GoodIn wsX7_fallsIn (wsV RX7 116 RX3 yX3_has wsX3_has) := goodIn_app (goodIn_of _ (by decide +kernel)) ggX7_fallsIn_X3_has
set_option maxRecDepth 20000 in
theorem ggX7_fallsIn_X1_meeting : GoodIn wsX7_fallsIn wsX1_meeting := goodIn_r _ [13, 14, 15, 16, 12, 17, 18, 19, 20, 21, 22, 23, 24, 25, 26, 27, 28, 29, 30, 31, 32, 6, 33, 34, 35, 36, 37, 38, 39, 40, 41, 42, 43, 44, 45, 46, 47, 48, 49, 68, 69, 70, 71, 72, 73, 74, 75, 76, 62, 63, 64, 65, 66, 67] (by decide +kernel) (by decide +kernel)
set_option maxRecDepth 20000 in
theorem gX7_fallsIn_X1_meeting : GoodIn wsX7_fallsIn (wsV RX7 194 RX1 yX1_meeting wsX1_meeting) := goodIn_app (goodIn_of _ (by decide +kernel)) ggX7_fallsIn_X1_meeting
theorem dX7_fallsIn_0 : decode cX7_fallsIn 0 = .ok (.aload_n 0, 1) := by decide +kernel
theorem dX7_fallsIn_1 : decode cX7_fallsIn 1 = .ok (.getfield 19, 3) := by decide +kernel
theorem dX7_fallsIn_4 : decode cX7_fallsIn 4 = .ok (.iload_n 1, 1) := by decide +kernel
theorem dX7_fallsIn_5 : decode cX7_fallsIn 5 = .ok (.invokevirtual 116, 3) := by decide +kernel
theorem dX7_fallsIn_8 : decode cX7_fallsIn 8 = .ok (.ifCond .eq 14, 3) := by decide +kernel
theorem dX7_fallsIn_11 : decode cX7_fallsIn 11 = .ok (.aload_n 0, 1) := by decide +kernel
theorem dX7_fallsIn_12 : decode cX7_fallsIn 12 = .ok (.getfield 19, 3) := by decide +kernel
theorem dX7_fallsIn_15 : decode cX7_fallsIn 15 = .ok (.iload_n 2, 1) := by decide +kernel
theorem dX7_fallsIn_16 : decode cX7_fallsIn 16 = .ok (.invokevirtual 116, 3) := by decide +kernel
theorem dX7_fallsIn_19 : decode cX7_fallsIn 19 = .ok (.ifCond .ne 5, 3) := by decide +kernel
theorem dX7_fallsIn_22 : decode cX7_fallsIn 22 = .ok (.iconst (-1), 1) := by decide +kernel
theorem dX7_fallsIn_23 : decode cX7_fallsIn 23 = .ok (.ireturn, 1) := by decide +kernel
theorem dX7_fallsIn_24 : decode cX7_fallsIn 24 = .ok (.iload_n 1, 1) := by decide +kernel
theorem dX7_fallsIn_25 : decode cX7_fallsIn 25 = .ok (.iload_n 2, 1) := by decide +kernel
theorem dX7_fallsIn_26 : decode cX7_fallsIn 26 = .ok (.if_icmp .ne 8, 3) := by decide +kernel
theorem dX7_fallsIn_29 : decode cX7_fallsIn 29 = .ok (.bipush (-2), 2) := by decide +kernel
theorem dX7_fallsIn_31 : decode cX7_fallsIn 31 = .ok (.goto 12, 3) := by decide +kernel
theorem dX7_fallsIn_34 : decode cX7_fallsIn 34 = .ok (.aload_n 0, 1) := by decide +kernel
theorem dX7_fallsIn_35 : decode cX7_fallsIn 35 = .ok (.getfield 56, 3) := by decide +kernel
theorem dX7_fallsIn_38 : decode cX7_fallsIn 38 = .ok (.iload_n 1, 1) := by decide +kernel
theorem dX7_fallsIn_39 : decode cX7_fallsIn 39 = .ok (.iload_n 2, 1) := by decide +kernel
theorem dX7_fallsIn_40 : decode cX7_fallsIn 40 = .ok (.invokevirtual 194, 3) := by decide +kernel
theorem dX7_fallsIn_43 : decode cX7_fallsIn 43 = .ok (.ireturn, 1) := by decide +kernel
set_option maxRecDepth 20000 in
theorem ggX7_likes_X1_likedTread : GoodIn wsX7_likes wsX1_likedTread := goodIn_r _ [6, 7, 8, 9, 10, 11, 12, 13, 14, 15, 16, 17, 18, 19, 20, 21, 22, 23, 24, 25, 26, 39, 40, 41, 42, 43, 44, 45, 46, 47, 48, 49, 50, 51, 52, 53] (by decide +kernel) (by decide +kernel)
set_option maxRecDepth 20000 in
theorem gX7_likes_X1_likedTread : GoodIn wsX7_likes (wsV RX7 198 RX1 yX1_likedTread wsX1_likedTread) := goodIn_app (goodIn_of _ (by decide +kernel)) ggX7_likes_X1_likedTread
theorem dX7_likes_0 : decode cX7_likes 0 = .ok (.aload_n 0, 1) := by decide +kernel
theorem dX7_likes_1 : decode cX7_likes 1 = .ok (.getfield 56, 3) := by decide +kernel
theorem dX7_likes_4 : decode cX7_likes 4 = .ok (.invokevirtual 198, 3) := by decide +kernel
theorem dX7_likes_7 : decode cX7_likes 7 = .ok (.ireturn, 1) := by decide +kernel
set_option maxRecDepth 20000 in
theorem ggX7_judge_X1_firstUndoable : GoodIn wsX7_judge wsX1_firstUndoable := goodIn_r _ [7, 8, 9, 10, 11, 12, 13, 14, 15, 16, 17, 18, 19, 20, 21, 22, 23, 24, 25, 26, 27, 28, 6, 29, 30, 31, 32, 33, 34, 35, 36, 37, 38, 39, 40, 41, 42, 43, 44, 45, 46, 47, 48, 49, 50, 51, 52, 53, 54, 55, 56, 57, 58, 59, 60, 61, 62, 63, 64, 65, 66, 67, 68, 69, 70, 71, 72, 73, 74, 75, 76, 77, 78, 79, 80, 81, 82, 83, 84, 85, 86, 87, 88, 89, 90, 91, 92, 93, 94, 95, 96, 97, 98, 99, 100, 101, 102, 103, 104, 105, 106, 107, 108, 109, 110, 111, 112, 113, 114, 115, 116, 117, 130, 131, 132, 133, 134, 135, 136, 137, 138, 139, 140, 141, 142, 143, 144] (by decide +kernel) (by decide +kernel)
set_option maxRecDepth 20000 in
theorem gX7_judge_X1_firstUndoable : GoodIn wsX7_judge (wsV RX7 203 RX1 yX1_firstUndoable wsX1_firstUndoable) := goodIn_app (goodIn_of _ (by decide +kernel)) ggX7_judge_X1_firstUndoable
theorem dX7_judge_0 : decode cX7_judge 0 = .ok (.iload_n 1, 1) := by decide +kernel
theorem dX7_judge_1 : decode cX7_judge 1 = .ok (.iconst 1, 1) := by decide +kernel
theorem dX7_judge_2 : decode cX7_judge 2 = .ok (.if_icmp .lt 14, 3) := by decide +kernel
theorem dX7_judge_5 : decode cX7_judge 5 = .ok (.iload_n 1, 1) := by decide +kernel
theorem dX7_judge_6 : decode cX7_judge 6 = .ok (.iconst 4, 1) := by decide +kernel
theorem dX7_judge_7 : decode cX7_judge 7 = .ok (.if_icmp .gt 9, 3) := by decide +kernel
theorem dX7_judge_10 : decode cX7_judge 10 = .ok (.lload_n 2, 1) := by decide +kernel
theorem dX7_judge_11 : decode cX7_judge 11 = .ok (.lconst 0, 1) := by decide +kernel
theorem dX7_judge_12 : decode cX7_judge 12 = .ok (.lcmp, 1) := by decide +kernel
theorem dX7_judge_13 : decode cX7_judge 13 = .ok (.ifCond .ge 6, 3) := by decide +kernel
theorem dX7_judge_16 : decode cX7_judge 16 = .ok (.bipush (-2), 2) := by decide +kernel
theorem dX7_judge_18 : decode cX7_judge 18 = .ok (.ireturn, 1) := by decide +kernel
theorem dX7_judge_19 : decode cX7_judge 19 = .ok (.lconst 1, 1) := by decide +kernel
theorem dX7_judge_20 : decode cX7_judge 20 = .ok (.lstore 4, 2) := by decide +kernel
theorem dX7_judge_22 : decode cX7_judge 22 = .ok (.iconst 0, 1) := by decide +kernel
theorem dX7_judge_23 : decode cX7_judge 23 = .ok (.istore 6, 2) := by decide +kernel
theorem dX7_judge_25 : decode cX7_judge 25 = .ok (.iload 6, 2) := by decide +kernel
theorem dX7_judge_27 : decode cX7_judge 27 = .ok (.iload_n 1, 1) := by decide +kernel
theorem dX7_judge_28 : decode cX7_judge 28 = .ok (.if_icmp .ge 17, 3) := by decide +kernel
theorem dX7_judge_31 : decode cX7_judge 31 = .ok (.lload 4, 2) := by decide +kernel
theorem dX7_judge_33 : decode cX7_judge 33 = .ok (.ldc2_w 201, 3) := by decide +kernel
theorem dX7_judge_36 : decode cX7_judge 36 = .ok (.lmul, 1) := by decide +kernel
theorem dX7_judge_37 : decode cX7_judge 37 = .ok (.lstore 4, 2) := by decide +kernel
theorem dX7_judge_39 : decode cX7_judge 39 = .ok (.iinc 6 1, 3) := by decide +kernel
theorem dX7_judge_42 : decode cX7_judge 42 = .ok (.goto (-17), 3) := by decide +kernel
theorem dX7_judge_45 : decode cX7_judge 45 = .ok (.lload_n 2, 1) := by decide +kernel
theorem dX7_judge_46 : decode cX7_judge 46 = .ok (.lload 4, 2) := by decide +kernel
theorem dX7_judge_48 : decode cX7_judge 48 = .ok (.lcmp, 1) := by decide +kernel
theorem dX7_judge_49 : decode cX7_judge 49 = .ok (.ifCond .lt 8, 3) := by decide +kernel
theorem dX7_judge_52 : decode cX7_judge 52 = .ok (.bipush (-2), 2) := by decide +kernel
theorem dX7_judge_54 : decode cX7_judge 54 = .ok (.goto 13, 3) := by decide +kernel
theorem dX7_judge_57 : decode cX7_judge 57 = .ok (.aload_n 0, 1) := by decide +kernel
theorem dX7_judge_58 : decode cX7_judge 58 = .ok (.getfield 56, 3) := by decide +kernel
theorem dX7_judge_61 : decode cX7_judge 61 = .ok (.lload 4, 2) := by decide +kernel
theorem dX7_judge_63 : decode cX7_judge 63 = .ok (.lload_n 2, 1) := by decide +kernel
theorem dX7_judge_64 : decode cX7_judge 64 = .ok (.invokevirtual 203, 3) := by decide +kernel
theorem dX7_judge_67 : decode cX7_judge 67 = .ok (.ireturn, 1) := by decide +kernel
set_option maxRecDepth 20000 in
theorem ggX7_share_X3_has : GoodIn wsX7_share wsX3_has := goodIn_r _ [8, 9, 132, 133, 134, 135, 136, 137] (by decide +kernel) (by decide +kernel)
set_option maxRecDepth 20000 in
theorem gX7_share_X3_has : GoodIn wsX7_share (wsV RX7 116 RX3 yX3_has wsX3_has) := goodIn_app (goodIn_of _ (by decide +kernel)) ggX7_share_X3_has
set_option maxRecDepth 20000 in
theorem ggX7_share_X1_shareAbove : GoodIn wsX7_share wsX1_shareAbove := goodIn_r _ [14, 15, 16, 17, 18, 7, 19, 9, 20, 21, 22, 23, 24, 25, 26, 27, 28, 29, 30, 31, 32, 13, 33, 34, 35, 36, 37, 38, 39, 40, 41, 42, 43, 44, 45, 46, 47, 48, 49, 50, 51, 52, 53, 54, 55, 56, 57, 58, 59, 60, 61, 62, 63, 64, 65, 66, 67, 68, 69, 70, 71, 72, 73, 74, 75, 76, 77, 78, 79, 80, 81, 82, 83, 84, 85, 86, 87, 88, 89, 90, 91, 92, 93, 94, 95, 96, 97, 98, 99, 100, 101, 102, 103, 104, 105, 106, 107, 138, 139, 140, 132, 133, 134, 135, 136, 137, 141, 142, 143, 144, 145, 146] (by decide +kernel) (by decide +kernel)
set_option maxRecDepth 20000 in
theorem gX7_share_X1_shareAbove : GoodIn wsX7_share (wsV RX7 207 RX1 yX1_shareAbove wsX1_shareAbove) := goodIn_app (goodIn_of _ (by decide +kernel)) ggX7_share_X1_shareAbove
set_option maxRecDepth 20000 in
theorem ggX7_share_X3_size : GoodIn wsX7_share wsX3_size := goodIn_r _ [19, 9, 132, 133, 134, 135, 136, 137] (by decide +kernel) (by decide +kernel)
set_option maxRecDepth 20000 in
theorem gX7_share_X3_size : GoodIn wsX7_share (wsV RX7 96 RX3 yX3_size wsX3_size) := goodIn_app (goodIn_of _ (by decide +kernel)) ggX7_share_X3_size
set_option maxRecDepth 20000 in
theorem ggX7_share_X7_at : GoodIn wsX7_share wsX7_at := goodIn_r _ [29] (by decide +kernel) (by decide +kernel)
set_option maxRecDepth 20000 in
theorem gX7_share_X7_at : GoodIn wsX7_share (va_wsS RX7 214 yX7_at wsX7_at) := goodIn_app (goodIn_of _ (by decide +kernel)) ggX7_share_X7_at
set_option maxRecDepth 20000 in
theorem ggX7_share_X7_partOf : GoodIn wsX7_share wsX7_partOf := goodIn_r _ [112, 113, 114, 115, 116, 117, 118, 28, 119] (by decide +kernel) (by decide +kernel)
set_option maxRecDepth 20000 in
theorem gX7_share_X7_partOf : GoodIn wsX7_share (va_wsS RX7 218 yX7_partOf wsX7_partOf) := goodIn_app (goodIn_of _ (by decide +kernel)) ggX7_share_X7_partOf
theorem dX7_share_0 : decode cX7_share 0 = .ok (.aload_n 0, 1) := by decide +kernel
theorem dX7_share_1 : decode cX7_share 1 = .ok (.getfield 19, 3) := by decide +kernel
theorem dX7_share_4 : decode cX7_share 4 = .ok (.iload_n 1, 1) := by decide +kernel
theorem dX7_share_5 : decode cX7_share 5 = .ok (.invokevirtual 116, 3) := by decide +kernel
theorem dX7_share_8 : decode cX7_share 8 = .ok (.ifCond .ne 5, 3) := by decide +kernel
theorem dX7_share_11 : decode cX7_share 11 = .ok (.iconst (-1), 1) := by decide +kernel
theorem dX7_share_12 : decode cX7_share 12 = .ok (.ireturn, 1) := by decide +kernel
theorem dX7_share_13 : decode cX7_share 13 = .ok (.aload_n 0, 1) := by decide +kernel
theorem dX7_share_14 : decode cX7_share 14 = .ok (.getfield 56, 3) := by decide +kernel
theorem dX7_share_17 : decode cX7_share 17 = .ok (.iload_n 1, 1) := by decide +kernel
theorem dX7_share_18 : decode cX7_share 18 = .ok (.invokevirtual 207, 3) := by decide +kernel
theorem dX7_share_21 : decode cX7_share 21 = .ok (.getstatic 210, 3) := by decide +kernel
theorem dX7_share_24 : decode cX7_share 24 = .ok (.aload_n 0, 1) := by decide +kernel
theorem dX7_share_25 : decode cX7_share 25 = .ok (.getfield 19, 3) := by decide +kernel
theorem dX7_share_28 : decode cX7_share 28 = .ok (.invokevirtual 96, 3) := by decide +kernel
theorem dX7_share_31 : decode cX7_share 31 = .ok (.invokestatic 214, 3) := by decide +kernel
theorem dX7_share_34 : decode cX7_share 34 = .ok (.iload_n 2, 1) := by decide +kernel
theorem dX7_share_35 : decode cX7_share 35 = .ok (.invokestatic 218, 3) := by decide +kernel
theorem dX7_share_38 : decode cX7_share 38 = .ok (.ireturn, 1) := by decide +kernel
set_option maxRecDepth 20000 in
theorem ggX7_mark_X2_isFull : GoodIn wsX7_mark wsX2_isFull := goodIn_r _ [6, 7, 29, 30, 31] (by decide +kernel) (by decide +kernel)
set_option maxRecDepth 20000 in
theorem gX7_mark_X2_isFull : GoodIn wsX7_mark (wsV RX7 222 RX2 yX2_isFull wsX2_isFull) := goodIn_app (goodIn_of _ (by decide +kernel)) ggX7_mark_X2_isFull
set_option maxRecDepth 20000 in
theorem ggX7_mark_X2_append : GoodIn wsX7_mark wsX2_append := goodIn_r _ [11, 12, 7, 13, 14, 15, 16, 29, 30, 31] (by decide +kernel) (by decide +kernel)
set_option maxRecDepth 20000 in
theorem gX7_mark_X2_append : GoodIn wsX7_mark (wsV RX7 223 RX2 yX2_append wsX2_append) := goodIn_app (goodIn_of _ (by decide +kernel)) ggX7_mark_X2_append
theorem dX7_mark_0 : decode cX7_mark 0 = .ok (.iload_n 1, 1) := by decide +kernel
theorem dX7_mark_1 : decode cX7_mark 1 = .ok (.ifCond .lt 19, 3) := by decide +kernel
theorem dX7_mark_4 : decode cX7_mark 4 = .ok (.iload_n 1, 1) := by decide +kernel
theorem dX7_mark_5 : decode cX7_mark 5 = .ok (.bipush 20, 2) := by decide +kernel
theorem dX7_mark_7 : decode cX7_mark 7 = .ok (.if_icmp .gt 13, 3) := by decide +kernel
theorem dX7_mark_10 : decode cX7_mark 10 = .ok (.iload_n 2, 1) := by decide +kernel
theorem dX7_mark_11 : decode cX7_mark 11 = .ok (.ifCond .lt 9, 3) := by decide +kernel
theorem dX7_mark_14 : decode cX7_mark 14 = .ok (.iload_n 2, 1) := by decide +kernel
theorem dX7_mark_15 : decode cX7_mark 15 = .ok (.bipush 12, 2) := by decide +kernel
theorem dX7_mark_17 : decode cX7_mark 17 = .ok (.if_icmp .le 6, 3) := by decide +kernel
theorem dX7_mark_20 : decode cX7_mark 20 = .ok (.bipush (-2), 2) := by decide +kernel
theorem dX7_mark_22 : decode cX7_mark 22 = .ok (.ireturn, 1) := by decide +kernel
theorem dX7_mark_23 : decode cX7_mark 23 = .ok (.aload_n 0, 1) := by decide +kernel
theorem dX7_mark_24 : decode cX7_mark 24 = .ok (.getfield 47, 3) := by decide +kernel
theorem dX7_mark_27 : decode cX7_mark 27 = .ok (.invokevirtual 222, 3) := by decide +kernel
theorem dX7_mark_30 : decode cX7_mark 30 = .ok (.ifCond .eq 8, 3) := by decide +kernel
theorem dX7_mark_33 : decode cX7_mark 33 = .ok (.bipush (-4), 2) := by decide +kernel
theorem dX7_mark_35 : decode cX7_mark 35 = .ok (.goto 12, 3) := by decide +kernel
theorem dX7_mark_38 : decode cX7_mark 38 = .ok (.aload_n 0, 1) := by decide +kernel
theorem dX7_mark_39 : decode cX7_mark 39 = .ok (.getfield 47, 3) := by decide +kernel
theorem dX7_mark_42 : decode cX7_mark 42 = .ok (.iload_n 1, 1) := by decide +kernel
theorem dX7_mark_43 : decode cX7_mark 43 = .ok (.iload_n 2, 1) := by decide +kernel
theorem dX7_mark_44 : decode cX7_mark 44 = .ok (.invokevirtual 223, 3) := by decide +kernel
theorem dX7_mark_47 : decode cX7_mark 47 = .ok (.ireturn, 1) := by decide +kernel
set_option maxRecDepth 20000 in
theorem ggX7_snowed_X2_clear : GoodIn wsX7_snowed wsX2_clear := goodIn_r _ [6, 7, 20, 21, 22] (by decide +kernel) (by decide +kernel)
set_option maxRecDepth 20000 in
theorem gX7_snowed_X2_clear : GoodIn wsX7_snowed (wsV RX7 225 RX2 yX2_clear wsX2_clear) := goodIn_app (goodIn_of _ (by decide +kernel)) ggX7_snowed_X2_clear
theorem dX7_snowed_0 : decode cX7_snowed 0 = .ok (.aload_n 0, 1) := by decide +kernel
theorem dX7_snowed_1 : decode cX7_snowed 1 = .ok (.getfield 47, 3) := by decide +kernel
theorem dX7_snowed_4 : decode cX7_snowed 4 = .ok (.invokevirtual 225, 3) := by decide +kernel
theorem dX7_snowed_7 : decode cX7_snowed 7 = .ok (.ireturn, 1) := by decide +kernel
set_option maxRecDepth 20000 in
theorem ggX7_whose_X2_fitting : GoodIn wsX7_whose wsX2_fitting := goodIn_r _ [6, 7, 8, 5, 9, 10, 11, 12, 13, 14, 15, 16, 17, 18, 19, 20, 21, 22, 23, 40, 41, 42] (by decide +kernel) (by decide +kernel)
set_option maxRecDepth 20000 in
theorem gX7_whose_X2_fitting : GoodIn wsX7_whose (wsV RX7 226 RX2 yX2_fitting wsX2_fitting) := goodIn_app (goodIn_of _ (by decide +kernel)) ggX7_whose_X2_fitting
set_option maxRecDepth 20000 in
theorem ggX7_whose_X2_firstFitting : GoodIn wsX7_whose wsX2_firstFitting := goodIn_r _ [27, 7, 8, 5, 9, 10, 11, 12, 13, 14, 15, 16, 17, 18, 19, 20, 21, 22, 23, 40, 41, 42] (by decide +kernel) (by decide +kernel)
set_option maxRecDepth 20000 in
theorem gX7_whose_X2_firstFitting : GoodIn wsX7_whose (wsV RX7 229 RX2 yX2_firstFitting wsX2_firstFitting) := goodIn_app (goodIn_of _ (by decide +kernel)) ggX7_whose_X2_firstFitting
theorem dX7_whose_0 : decode cX7_whose 0 = .ok (.iload_n 1, 1) := by decide +kernel
theorem dX7_whose_1 : decode cX7_whose 1 = .ok (.lookupswitch 43 #[(0, 27), (1, 35)], 27) := by decide +kernel
theorem dX7_whose_28 : decode cX7_whose 28 = .ok (.aload_n 0, 1) := by decide +kernel
theorem dX7_whose_29 : decode cX7_whose 29 = .ok (.getfield 47, 3) := by decide +kernel
theorem dX7_whose_32 : decode cX7_whose 32 = .ok (.invokevirtual 226, 3) := by decide +kernel
theorem dX7_whose_35 : decode cX7_whose 35 = .ok (.ireturn, 1) := by decide +kernel
theorem dX7_whose_36 : decode cX7_whose 36 = .ok (.aload_n 0, 1) := by decide +kernel
theorem dX7_whose_37 : decode cX7_whose 37 = .ok (.getfield 47, 3) := by decide +kernel
theorem dX7_whose_40 : decode cX7_whose 40 = .ok (.invokevirtual 229, 3) := by decide +kernel
theorem dX7_whose_43 : decode cX7_whose 43 = .ok (.ireturn, 1) := by decide +kernel
theorem dX7_whose_44 : decode cX7_whose 44 = .ok (.bipush (-2), 2) := by decide +kernel
theorem dX7_whose_46 : decode cX7_whose 46 = .ok (.ireturn, 1) := by decide +kernel
set_option maxRecDepth 20000 in
theorem ggX7_rests_X3_has : GoodIn wsX7_rests wsX3_has := goodIn_r _ [8, 9, 107, 108, 109, 110, 111, 112] (by decide +kernel) (by decide +kernel)
set_option maxRecDepth 20000 in
theorem gX7_rests_X3_has : GoodIn wsX7_rests (wsV RX7 116 RX3 yX3_has wsX3_has) := goodIn_app (goodIn_of _ (by decide +kernel)) ggX7_rests_X3_has
set_option maxRecDepth 20000 in
theorem ggX7_rests_X6_isDown : GoodIn wsX7_rests wsX6_isDown := goodIn_r _ [14, 15, 113, 114, 115, 116, 117, 118] (by decide +kernel) (by decide +kernel)
set_option maxRecDepth 20000 in
theorem gX7_rests_X6_isDown : GoodIn wsX7_rests (wsV RX7 132 RX6 yX6_isDown wsX6_isDown) := goodIn_app (goodIn_of _ (by decide +kernel)) ggX7_rests_X6_isDown
set_option maxRecDepth 20000 in
theorem ggX7_rests_X0_restingPairs : GoodIn wsX7_rests wsX0_restingPairs := goodIn_r _ [20, 21, 22, 23, 24, 25, 19, 26, 27, 28, 29, 30, 31, 32, 33, 34, 35, 13, 36, 37, 38, 39, 15, 40, 41, 42, 43, 44, 45, 46, 47, 48, 49, 50, 51, 52, 53, 54, 55, 56, 57, 58, 59, 60, 61, 7, 62, 63, 64, 65, 66, 67, 68, 69, 9, 70, 71, 72, 73, 74, 11, 12, 14, 75, 76, 77, 78, 79, 80, 81, 82, 83, 84, 85, 86, 87, 88, 89, 90, 91, 92, 93, 94, 119, 120, 121, 122, 123, 113, 114, 115, 116, 117, 118, 107, 108, 109, 110, 111, 112] (by decide +kernel) (by decide +kernel)
set_option maxRecDepth 20000 in
theorem gX7_rests_X0_restingPairs : GoodIn wsX7_rests (wsV RX7 232 RX0 yX0_restingPairs wsX0_restingPairs) := goodIn_app (goodIn_of _ (by decide +kernel)) ggX7_rests_X0_restingPairs
theorem dX7_rests_0 : decode cX7_rests 0 = .ok (.aload_n 0, 1) := by decide +kernel
theorem dX7_rests_1 : decode cX7_rests 1 = .ok (.getfield 19, 3) := by decide +kernel
theorem dX7_rests_4 : decode cX7_rests 4 = .ok (.iload_n 1, 1) := by decide +kernel
theorem dX7_rests_5 : decode cX7_rests 5 = .ok (.invokevirtual 116, 3) := by decide +kernel
theorem dX7_rests_8 : decode cX7_rests 8 = .ok (.ifCond .eq 14, 3) := by decide +kernel
theorem dX7_rests_11 : decode cX7_rests 11 = .ok (.aload_n 0, 1) := by decide +kernel
theorem dX7_rests_12 : decode cX7_rests 12 = .ok (.getfield 19, 3) := by decide +kernel
theorem dX7_rests_15 : decode cX7_rests 15 = .ok (.iload_n 2, 1) := by decide +kernel
theorem dX7_rests_16 : decode cX7_rests 16 = .ok (.invokevirtual 116, 3) := by decide +kernel
theorem dX7_rests_19 : decode cX7_rests 19 = .ok (.ifCond .ne 5, 3) := by decide +kernel
theorem dX7_rests_22 : decode cX7_rests 22 = .ok (.iconst (-1), 1) := by decide +kernel
theorem dX7_rests_23 : decode cX7_rests 23 = .ok (.ireturn, 1) := by decide +kernel
theorem dX7_rests_24 : decode cX7_rests 24 = .ok (.iload_n 1, 1) := by decide +kernel
theorem dX7_rests_25 : decode cX7_rests 25 = .ok (.iload_n 2, 1) := by decide +kernel
theorem dX7_rests_26 : decode cX7_rests 26 = .ok (.if_icmp .eq 12, 3) := by decide +kernel
theorem dX7_rests_29 : decode cX7_rests 29 = .ok (.iload_n 3, 1) := by decide +kernel
theorem dX7_rests_30 : decode cX7_rests 30 = .ok (.ifCond .lt 8, 3) := by decide +kernel
theorem dX7_rests_33 : decode cX7_rests 33 = .ok (.iload_n 3, 1) := by decide +kernel
theorem dX7_rests_34 : decode cX7_rests 34 = .ok (.iconst 1, 1) := by decide +kernel
theorem dX7_rests_35 : decode cX7_rests 35 = .ok (.if_icmp .le 6, 3) := by decide +kernel
theorem dX7_rests_38 : decode cX7_rests 38 = .ok (.bipush (-2), 2) := by decide +kernel
theorem dX7_rests_40 : decode cX7_rests 40 = .ok (.ireturn, 1) := by decide +kernel
theorem dX7_rests_41 : decode cX7_rests 41 = .ok (.aload_n 0, 1) := by decide +kernel
theorem dX7_rests_42 : decode cX7_rests 42 = .ok (.getfield 28, 3) := by decide +kernel
theorem dX7_rests_45 : decode cX7_rests 45 = .ok (.iload_n 1, 1) := by decide +kernel
theorem dX7_rests_46 : decode cX7_rests 46 = .ok (.invokevirtual 132, 3) := by decide +kernel
theorem dX7_rests_49 : decode cX7_rests 49 = .ok (.ifCond .ne 14, 3) := by decide +kernel
theorem dX7_rests_52 : decode cX7_rests 52 = .ok (.aload_n 0, 1) := by decide +kernel
theorem dX7_rests_53 : decode cX7_rests 53 = .ok (.getfield 28, 3) := by decide +kernel
theorem dX7_rests_56 : decode cX7_rests 56 = .ok (.iload_n 2, 1) := by decide +kernel
theorem dX7_rests_57 : decode cX7_rests 57 = .ok (.invokevirtual 132, 3) := by decide +kernel
theorem dX7_rests_60 : decode cX7_rests 60 = .ok (.ifCond .eq 6, 3) := by decide +kernel
theorem dX7_rests_63 : decode cX7_rests 63 = .ok (.bipush (-3), 2) := by decide +kernel
theorem dX7_rests_65 : decode cX7_rests 65 = .ok (.ireturn, 1) := by decide +kernel
theorem dX7_rests_66 : decode cX7_rests 66 = .ok (.aload_n 0, 1) := by decide +kernel
theorem dX7_rests_67 : decode cX7_rests 67 = .ok (.getfield 63, 3) := by decide +kernel
theorem dX7_rests_70 : decode cX7_rests 70 = .ok (.iload_n 1, 1) := by decide +kernel
theorem dX7_rests_71 : decode cX7_rests 71 = .ok (.iload_n 2, 1) := by decide +kernel
theorem dX7_rests_72 : decode cX7_rests 72 = .ok (.iload_n 3, 1) := by decide +kernel
theorem dX7_rests_73 : decode cX7_rests 73 = .ok (.iconst 1, 1) := by decide +kernel
theorem dX7_rests_74 : decode cX7_rests 74 = .ok (.if_icmp .ne 7, 3) := by decide +kernel
theorem dX7_rests_77 : decode cX7_rests 77 = .ok (.iconst 1, 1) := by decide +kernel
theorem dX7_rests_78 : decode cX7_rests 78 = .ok (.goto 4, 3) := by decide +kernel
theorem dX7_rests_81 : decode cX7_rests 81 = .ok (.iconst 0, 1) := by decide +kernel
theorem dX7_rests_82 : decode cX7_rests 82 = .ok (.invokevirtual 232, 3) := by decide +kernel
theorem dX7_rests_85 : decode cX7_rests 85 = .ok (.ireturn, 1) := by decide +kernel
set_option maxRecDepth 20000 in
theorem ggX7_stumbles_X0_stumblesAbove : GoodIn wsX7_stumbles wsX0_stumblesAbove := goodIn_r _ [6, 7, 8, 9, 10, 11, 12, 13, 14, 15, 16, 17, 18, 19, 20, 21, 22, 23, 24, 25, 26, 27, 28, 29, 30, 31, 32, 33, 34, 35, 36, 37, 38, 39, 40, 41, 42, 43, 44, 45, 46, 47, 48, 49, 50, 51, 52, 53, 54, 55, 56, 57, 58, 59, 60, 61, 62, 63, 64, 65, 66, 67, 68, 69, 70, 71, 72, 73, 74, 75, 76, 77, 78, 79, 80, 81, 82, 83, 84, 85, 86, 87, 88, 89, 90, 91, 5, 92, 119, 120, 121, 122, 123, 124, 125, 126, 127, 128, 129, 130, 131, 132, 133, 134, 135] (by decide +kernel) (by decide +kernel)
set_option maxRecDepth 20000 in
theorem gX7_stumbles_X0_stumblesAbove : GoodIn wsX7_stumbles (wsV RX7 235 RX0 yX0_stumblesAbove wsX0_stumblesAbove) := goodIn_app (goodIn_of _ (by decide +kernel)) ggX7_stumbles_X0_stumblesAbove
set_option maxRecDepth 20000 in
theorem ggX7_stumbles_X0_stumblesBelow : GoodIn wsX7_stumbles wsX0_stumblesBelow := goodIn_r _ [96, 7, 10, 11, 12, 13, 14, 15, 119, 120, 121, 122, 123, 124, 125, 126, 127, 128, 129] (by decide +kernel) (by decide +kernel)
set_option maxRecDepth 20000 in
theorem gX7_stumbles_X0_stumblesBelow : GoodIn wsX7_stumbles (wsV RX7 238 RX0 yX0_stumblesBelow wsX0_stumblesBelow) := goodIn_app (goodIn_of _ (by decide +kernel)) ggX7_stumbles_X0_stumblesBelow
set_option maxRecDepth 20000 in
theorem ggX7_stumbles_X7_partOf : GoodIn wsX7_stumbles wsX7_partOf := goodIn_r _ [99, 100, 101, 102, 103, 104, 105, 27, 106] (by decide +kernel) (by decide +kernel)
set_option maxRecDepth 20000 in
theorem gX7_stumbles_X7_partOf : GoodIn wsX7_stumbles (va_wsS RX7 218 yX7_partOf wsX7_partOf) := goodIn_app (goodIn_of _ (by decide +kernel)) ggX7_stumbles_X7_partOf
theorem dX7_stumbles_0 : decode cX7_stumbles 0 = .ok (.iload_n 1, 1) := by decide +kernel
theorem dX7_stumbles_1 : decode cX7_stumbles 1 = .ok (.ifCond .lt 18, 3) := by decide +kernel
theorem dX7_stumbles_4 : decode cX7_stumbles 4 = .ok (.iload_n 1, 1) := by decide +kernel
theorem dX7_stumbles_5 : decode cX7_stumbles 5 = .ok (.iconst 5, 1) := by decide +kernel
theorem dX7_stumbles_6 : decode cX7_stumbles 6 = .ok (.if_icmp .gt 13, 3) := by decide +kernel
theorem dX7_stumbles_9 : decode cX7_stumbles 9 = .ok (.iload_n 2, 1) := by decide +kernel
theorem dX7_stumbles_10 : decode cX7_stumbles 10 = .ok (.ifCond .lt 9, 3) := by decide +kernel
theorem dX7_stumbles_13 : decode cX7_stumbles 13 = .ok (.iload_n 2, 1) := by decide +kernel
theorem dX7_stumbles_14 : decode cX7_stumbles 14 = .ok (.bipush 10, 2) := by decide +kernel
theorem dX7_stumbles_16 : decode cX7_stumbles 16 = .ok (.if_icmp .le 6, 3) := by decide +kernel
theorem dX7_stumbles_19 : decode cX7_stumbles 19 = .ok (.bipush (-2), 2) := by decide +kernel
theorem dX7_stumbles_21 : decode cX7_stumbles 21 = .ok (.ireturn, 1) := by decide +kernel
theorem dX7_stumbles_22 : decode cX7_stumbles 22 = .ok (.aload_n 0, 1) := by decide +kernel
theorem dX7_stumbles_23 : decode cX7_stumbles 23 = .ok (.getfield 63, 3) := by decide +kernel
theorem dX7_stumbles_26 : decode cX7_stumbles 26 = .ok (.iload_n 1, 1) := by decide +kernel
theorem dX7_stumbles_27 : decode cX7_stumbles 27 = .ok (.iload_n 2, 1) := by decide +kernel
theorem dX7_stumbles_28 : decode cX7_stumbles 28 = .ok (.invokevirtual 235, 3) := by decide +kernel
theorem dX7_stumbles_31 : decode cX7_stumbles 31 = .ok (.aload_n 0, 1) := by decide +kernel
theorem dX7_stumbles_32 : decode cX7_stumbles 32 = .ok (.getfield 63, 3) := by decide +kernel
theorem dX7_stumbles_35 : decode cX7_stumbles 35 = .ok (.invokevirtual 238, 3) := by decide +kernel
theorem dX7_stumbles_38 : decode cX7_stumbles 38 = .ok (.iload_n 3, 1) := by decide +kernel
theorem dX7_stumbles_39 : decode cX7_stumbles 39 = .ok (.invokestatic 218, 3) := by decide +kernel
theorem dX7_stumbles_42 : decode cX7_stumbles 42 = .ok (.ireturn, 1) := by decide +kernel
theorem dX7_seed_0 : decode cX7_seed 0 = .ok (.aload_n 0, 1) := by decide +kernel
theorem dX7_seed_1 : decode cX7_seed 1 = .ok (.getfield 241, 3) := by decide +kernel
theorem dX7_seed_4 : decode cX7_seed 4 = .ok (.lstore_n 3, 1) := by decide +kernel
theorem dX7_seed_5 : decode cX7_seed 5 = .ok (.aload_n 0, 1) := by decide +kernel
theorem dX7_seed_6 : decode cX7_seed 6 = .ok (.lload_n 1, 1) := by decide +kernel
theorem dX7_seed_7 : decode cX7_seed 7 = .ok (.putfield 241, 3) := by decide +kernel
theorem dX7_seed_10 : decode cX7_seed 10 = .ok (.lload_n 3, 1) := by decide +kernel
theorem dX7_seed_11 : decode cX7_seed 11 = .ok (.lreturn, 1) := by decide +kernel
set_option maxRecDepth 20000 in
theorem ggX7_winters_X0_beginWinters : GoodIn wsX7_winters wsX0_beginWinters := goodIn_r _ [10, 11, 12, 13, 14, 15, 16, 17, 18, 19, 20, 21, 22, 23, 24, 25, 26, 27, 144, 145, 146, 147, 148, 149, 150, 151, 152, 153, 154] (by decide +kernel) (by decide +kernel)
set_option maxRecDepth 20000 in
theorem gX7_winters_X0_beginWinters : GoodIn wsX7_winters (wsV RX7 245 RX0 yX0_beginWinters wsX0_beginWinters) := goodIn_app (goodIn_of _ (by decide +kernel)) ggX7_winters_X0_beginWinters
set_option maxRecDepth 20000 in
theorem ggX7_winters_X0_winter : GoodIn wsX7_winters wsX0_winter := goodIn_r _ [31, 11, 32, 33, 34, 16, 35, 20, 36, 37, 38, 39, 40, 41, 42, 43, 44, 45, 46, 47, 48, 49, 50, 21, 51, 52, 53, 54, 23, 24, 25, 55, 56, 57, 58, 19, 59, 60, 61, 62, 63, 64, 26, 27, 65, 66, 67, 68, 18, 69, 70, 71, 72, 73, 74, 75, 76, 77, 78, 79, 80, 81, 82, 83, 84, 85, 86, 87, 88, 89, 90, 91, 92, 93, 22, 94, 95, 96, 97, 98, 99, 100, 101, 102, 103, 104, 105, 106, 107, 108, 109, 110, 111, 112, 113, 114, 115, 116, 117, 118, 119, 120, 121, 122, 123, 124, 125, 126, 127, 128, 129, 130, 131, 144, 145, 146, 147, 148, 149, 150, 151, 152, 153, 154, 155, 156, 157, 158, 159, 160] (by decide +kernel) (by decide +kernel)
set_option maxRecDepth 20000 in
theorem gX7_winters_X0_winter : GoodIn wsX7_winters (wsV RX7 254 RX0 yX0_winter wsX0_winter) := goodIn_app (goodIn_of _ (by decide +kernel)) ggX7_winters_X0_winter
theorem dX7_winters_0 : decode cX7_winters 0 = .ok (.iload_n 1, 1) := by decide +kernel
theorem dX7_winters_1 : decode cX7_winters 1 = .ok (.iconst 1, 1) := by decide +kernel
theorem dX7_winters_2 : decode cX7_winters 2 = .ok (.if_icmp .lt 9, 3) := by decide +kernel
theorem dX7_winters_5 : decode cX7_winters 5 = .ok (.iload_n 1, 1) := by decide +kernel
theorem dX7_winters_6 : decode cX7_winters 6 = .ok (.bipush 30, 2) := by decide +kernel
theorem dX7_winters_8 : decode cX7_winters 8 = .ok (.if_icmp .le 6, 3) := by decide +kernel
theorem dX7_winters_11 : decode cX7_winters 11 = .ok (.bipush (-2), 2) := by decide +kernel
theorem dX7_winters_13 : decode cX7_winters 13 = .ok (.ireturn, 1) := by decide +kernel
theorem dX7_winters_14 : decode cX7_winters 14 = .ok (.iconst 0, 1) := by decide +kernel
theorem dX7_winters_15 : decode cX7_winters 15 = .ok (.istore_n 2, 1) := by decide +kernel
theorem dX7_winters_16 : decode cX7_winters 16 = .ok (.aload_n 0, 1) := by decide +kernel
theorem dX7_winters_17 : decode cX7_winters 17 = .ok (.getfield 63, 3) := by decide +kernel
theorem dX7_winters_20 : decode cX7_winters 20 = .ok (.invokevirtual 245, 3) := by decide +kernel
theorem dX7_winters_23 : decode cX7_winters 23 = .ok (.iconst 0, 1) := by decide +kernel
theorem dX7_winters_24 : decode cX7_winters 24 = .ok (.istore_n 3, 1) := by decide +kernel
theorem dX7_winters_25 : decode cX7_winters 25 = .ok (.iload_n 3, 1) := by decide +kernel
theorem dX7_winters_26 : decode cX7_winters 26 = .ok (.iload_n 1, 1) := by decide +kernel
theorem dX7_winters_27 : decode cX7_winters 27 = .ok (.if_icmp .ge 47, 3) := by decide +kernel
theorem dX7_winters_30 : decode cX7_winters 30 = .ok (.aload_n 0, 1) := by decide +kernel
theorem dX7_winters_31 : decode cX7_winters 31 = .ok (.aload_n 0, 1) := by decide +kernel
theorem dX7_winters_32 : decode cX7_winters 32 = .ok (.getfield 241, 3) := by decide +kernel
theorem dX7_winters_35 : decode cX7_winters 35 = .ok (.ldc2_w 248, 3) := by decide +kernel
theorem dX7_winters_38 : decode cX7_winters 38 = .ok (.lmul, 1) := by decide +kernel
theorem dX7_winters_39 : decode cX7_winters 39 = .ok (.ldc2_w 250, 3) := by decide +kernel
theorem dX7_winters_42 : decode cX7_winters 42 = .ok (.ladd, 1) := by decide +kernel
theorem dX7_winters_43 : decode cX7_winters 43 = .ok (.putfield 241, 3) := by decide +kernel
theorem dX7_winters_46 : decode cX7_winters 46 = .ok (.iload_n 2, 1) := by decide +kernel
theorem dX7_winters_47 : decode cX7_winters 47 = .ok (.aload_n 0, 1) := by decide +kernel
theorem dX7_winters_48 : decode cX7_winters 48 = .ok (.getfield 63, 3) := by decide +kernel
theorem dX7_winters_51 : decode cX7_winters 51 = .ok (.aload_n 0, 1) := by decide +kernel
theorem dX7_winters_52 : decode cX7_winters 52 = .ok (.getfield 241, 3) := by decide +kernel
theorem dX7_winters_55 : decode cX7_winters 55 = .ok (.bipush 33, 2) := by decide +kernel
theorem dX7_winters_57 : decode cX7_winters 57 = .ok (.lushr, 1) := by decide +kernel
theorem dX7_winters_58 : decode cX7_winters 58 = .ok (.ldc2_w 252, 3) := by decide +kernel
theorem dX7_winters_61 : decode cX7_winters 61 = .ok (.lrem, 1) := by decide +kernel
theorem dX7_winters_62 : decode cX7_winters 62 = .ok (.l2i, 1) := by decide +kernel
theorem dX7_winters_63 : decode cX7_winters 63 = .ok (.invokevirtual 254, 3) := by decide +kernel
theorem dX7_winters_66 : decode cX7_winters 66 = .ok (.iadd, 1) := by decide +kernel
theorem dX7_winters_67 : decode cX7_winters 67 = .ok (.istore_n 2, 1) := by decide +kernel
theorem dX7_winters_68 : decode cX7_winters 68 = .ok (.iinc 3 1, 3) := by decide +kernel
theorem dX7_winters_71 : decode cX7_winters 71 = .ok (.goto (-46), 3) := by decide +kernel
theorem dX7_winters_74 : decode cX7_winters 74 = .ok (.iload_n 2, 1) := by decide +kernel
theorem dX7_winters_75 : decode cX7_winters 75 = .ok (.ireturn, 1) := by decide +kernel
set_option maxRecDepth 20000 in
theorem ggX7_keep_X7_isSlot : GoodIn wsX7_keep wsX7_isSlot := goodIn_r _ [7] (by decide +kernel) (by decide +kernel)
set_option maxRecDepth 20000 in
theorem gX7_keep_X7_isSlot : GoodIn wsX7_keep (va_wsS RX7 257 yX7_isSlot wsX7_isSlot) := goodIn_app (goodIn_of _ (by decide +kernel)) ggX7_keep_X7_isSlot
set_option maxRecDepth 20000 in
theorem ggX7_keep_X4_save : GoodIn wsX7_keep wsX4_save := goodIn_r _ [12, 13, 14, 15, 16, 17, 18, 19, 20, 21, 22, 23, 24, 6, 25, 26, 27, 44, 45, 46, 47, 48, 49, 50] (by decide +kernel) (by decide +kernel)
set_option maxRecDepth 20000 in
theorem gX7_keep_X4_save : GoodIn wsX7_keep (wsV RX7 178 RX4 yX4_save wsX4_save) := goodIn_app (goodIn_of _ (by decide +kernel)) ggX7_keep_X4_save
set_option maxRecDepth 20000 in
theorem ggX7_keep_X6_stepNumber : GoodIn wsX7_keep wsX6_stepNumber := goodIn_r _ [31, 23, 45, 46, 47, 48, 49, 50] (by decide +kernel) (by decide +kernel)
set_option maxRecDepth 20000 in
theorem gX7_keep_X6_stepNumber : GoodIn wsX7_keep (wsV RX7 99 RX6 yX6_stepNumber wsX6_stepNumber) := goodIn_app (goodIn_of _ (by decide +kernel)) ggX7_keep_X6_stepNumber
theorem dX7_keep_0 : decode cX7_keep 0 = .ok (.iload_n 1, 1) := by decide +kernel
theorem dX7_keep_1 : decode cX7_keep 1 = .ok (.invokestatic 257, 3) := by decide +kernel
theorem dX7_keep_4 : decode cX7_keep 4 = .ok (.ifCond .ne 5, 3) := by decide +kernel
theorem dX7_keep_7 : decode cX7_keep 7 = .ok (.iconst (-1), 1) := by decide +kernel
theorem dX7_keep_8 : decode cX7_keep 8 = .ok (.ireturn, 1) := by decide +kernel
theorem dX7_keep_9 : decode cX7_keep 9 = .ok (.aload_n 0, 1) := by decide +kernel
theorem dX7_keep_10 : decode cX7_keep 10 = .ok (.getfield 41, 3) := by decide +kernel
theorem dX7_keep_13 : decode cX7_keep 13 = .ok (.iload_n 1, 1) := by decide +kernel
theorem dX7_keep_14 : decode cX7_keep 14 = .ok (.aload_n 0, 1) := by decide +kernel
theorem dX7_keep_15 : decode cX7_keep 15 = .ok (.getfield 28, 3) := by decide +kernel
theorem dX7_keep_18 : decode cX7_keep 18 = .ok (.invokevirtual 178, 3) := by decide +kernel
theorem dX7_keep_21 : decode cX7_keep 21 = .ok (.aload_n 0, 1) := by decide +kernel
theorem dX7_keep_22 : decode cX7_keep 22 = .ok (.dup, 1) := by decide +kernel
theorem dX7_keep_23 : decode cX7_keep 23 = .ok (.getfield 92, 3) := by decide +kernel
theorem dX7_keep_26 : decode cX7_keep 26 = .ok (.iconst 1, 1) := by decide +kernel
theorem dX7_keep_27 : decode cX7_keep 27 = .ok (.iload_n 1, 1) := by decide +kernel
theorem dX7_keep_28 : decode cX7_keep 28 = .ok (.ishl, 1) := by decide +kernel
theorem dX7_keep_29 : decode cX7_keep 29 = .ok (.ior, 1) := by decide +kernel
theorem dX7_keep_30 : decode cX7_keep 30 = .ok (.putfield 92, 3) := by decide +kernel
theorem dX7_keep_33 : decode cX7_keep 33 = .ok (.aload_n 0, 1) := by decide +kernel
theorem dX7_keep_34 : decode cX7_keep 34 = .ok (.getfield 28, 3) := by decide +kernel
theorem dX7_keep_37 : decode cX7_keep 37 = .ok (.invokevirtual 99, 3) := by decide +kernel
theorem dX7_keep_40 : decode cX7_keep 40 = .ok (.ireturn, 1) := by decide +kernel
set_option maxRecDepth 20000 in
theorem ggX7_again_X7_isSlot : GoodIn wsX7_again wsX7_isSlot := goodIn_r _ [7] (by decide +kernel) (by decide +kernel)
set_option maxRecDepth 20000 in
theorem gX7_again_X7_isSlot : GoodIn wsX7_again (va_wsS RX7 257 yX7_isSlot wsX7_isSlot) := goodIn_app (goodIn_of _ (by decide +kernel)) ggX7_again_X7_isSlot
set_option maxRecDepth 20000 in
theorem ggX7_again_X4_restore : GoodIn wsX7_again wsX4_restore := goodIn_r _ [12, 13, 14, 15, 16, 17, 18, 19, 20, 21, 22, 23, 24, 6, 25, 26, 27, 50, 51, 52, 53, 54, 55, 56] (by decide +kernel) (by decide +kernel)
set_option maxRecDepth 20000 in
theorem gX7_again_X4_restore : GoodIn wsX7_again (wsV RX7 174 RX4 yX4_restore wsX4_restore) := goodIn_app (goodIn_of _ (by decide +kernel)) ggX7_again_X4_restore
set_option maxRecDepth 20000 in
theorem ggX7_again_X7_forgetActs : GoodIn wsX7_again wsX7_forgetActs := goodIn_r _ [31, 32, 33, 38, 39, 40, 41, 42, 43, 44, 45, 46, 47, 48, 49] (by decide +kernel) (by decide +kernel)
set_option maxRecDepth 20000 in
theorem gX7_again_X7_forgetActs : GoodIn wsX7_again (wsV RX7 89 RX7 yX7_forgetActs wsX7_forgetActs) := goodIn_app (goodIn_of _ (by decide +kernel)) ggX7_again_X7_forgetActs
set_option maxRecDepth 20000 in
theorem ggX7_again_X6_stepNumber : GoodIn wsX7_again wsX6_stepNumber := goodIn_r _ [37, 23, 51, 52, 53, 54, 55, 56] (by decide +kernel) (by decide +kernel)
set_option maxRecDepth 20000 in
theorem gX7_again_X6_stepNumber : GoodIn wsX7_again (wsV RX7 99 RX6 yX6_stepNumber wsX6_stepNumber) := goodIn_app (goodIn_of _ (by decide +kernel)) ggX7_again_X6_stepNumber
theorem dX7_again_0 : decode cX7_again 0 = .ok (.iload_n 1, 1) := by decide +kernel
theorem dX7_again_1 : decode cX7_again 1 = .ok (.invokestatic 257, 3) := by decide +kernel
theorem dX7_again_4 : decode cX7_again 4 = .ok (.ifCond .ne 5, 3) := by decide +kernel
theorem dX7_again_7 : decode cX7_again 7 = .ok (.iconst (-1), 1) := by decide +kernel
theorem dX7_again_8 : decode cX7_again 8 = .ok (.ireturn, 1) := by decide +kernel
theorem dX7_again_9 : decode cX7_again 9 = .ok (.aload_n 0, 1) := by decide +kernel
theorem dX7_again_10 : decode cX7_again 10 = .ok (.getfield 92, 3) := by decide +kernel
theorem dX7_again_13 : decode cX7_again 13 = .ok (.iload_n 1, 1) := by decide +kernel
theorem dX7_again_14 : decode cX7_again 14 = .ok (.ishr, 1) := by decide +kernel
theorem dX7_again_15 : decode cX7_again 15 = .ok (.iconst 1, 1) := by decide +kernel
theorem dX7_again_16 : decode cX7_again 16 = .ok (.iand, 1) := by decide +kernel
theorem dX7_again_17 : decode cX7_again 17 = .ok (.ifCond .ne 6, 3) := by decide +kernel
theorem dX7_again_20 : decode cX7_again 20 = .ok (.bipush (-3), 2) := by decide +kernel
theorem dX7_again_22 : decode cX7_again 22 = .ok (.ireturn, 1) := by decide +kernel
theorem dX7_again_23 : decode cX7_again 23 = .ok (.aload_n 0, 1) := by decide +kernel
theorem dX7_again_24 : decode cX7_again 24 = .ok (.getfield 41, 3) := by decide +kernel
theorem dX7_again_27 : decode cX7_again 27 = .ok (.iload_n 1, 1) := by decide +kernel
theorem dX7_again_28 : decode cX7_again 28 = .ok (.aload_n 0, 1) := by decide +kernel
theorem dX7_again_29 : decode cX7_again 29 = .ok (.getfield 28, 3) := by decide +kernel
theorem dX7_again_32 : decode cX7_again 32 = .ok (.invokevirtual 174, 3) := by decide +kernel
theorem dX7_again_35 : decode cX7_again 35 = .ok (.aload_n 0, 1) := by decide +kernel
theorem dX7_again_36 : decode cX7_again 36 = .ok (.invokevirtual 89, 3) := by decide +kernel
theorem dX7_again_39 : decode cX7_again 39 = .ok (.aload_n 0, 1) := by decide +kernel
theorem dX7_again_40 : decode cX7_again 40 = .ok (.getfield 28, 3) := by decide +kernel
theorem dX7_again_43 : decode cX7_again 43 = .ok (.invokevirtual 99, 3) := by decide +kernel
theorem dX7_again_46 : decode cX7_again 46 = .ok (.ireturn, 1) := by decide +kernel
theorem dX7_isSlot_0 : decode cX7_isSlot 0 = .ok (.iload_n 0, 1) := by decide +kernel
theorem dX7_isSlot_1 : decode cX7_isSlot 1 = .ok (.ifCond .lt 12, 3) := by decide +kernel
theorem dX7_isSlot_4 : decode cX7_isSlot 4 = .ok (.iload_n 0, 1) := by decide +kernel
theorem dX7_isSlot_5 : decode cX7_isSlot 5 = .ok (.iconst 2, 1) := by decide +kernel
theorem dX7_isSlot_6 : decode cX7_isSlot 6 = .ok (.if_icmp .ge 7, 3) := by decide +kernel
theorem dX7_isSlot_9 : decode cX7_isSlot 9 = .ok (.iconst 1, 1) := by decide +kernel
theorem dX7_isSlot_10 : decode cX7_isSlot 10 = .ok (.goto 4, 3) := by decide +kernel
theorem dX7_isSlot_13 : decode cX7_isSlot 13 = .ok (.iconst 0, 1) := by decide +kernel
theorem dX7_isSlot_14 : decode cX7_isSlot 14 = .ok (.ireturn, 1) := by decide +kernel
theorem dX7_at_0 : decode cX7_at 0 = .ok (.iload_n 1, 1) := by decide +kernel
theorem dX7_at_1 : decode cX7_at 1 = .ok (.ifCond .lt 15, 3) := by decide +kernel
theorem dX7_at_4 : decode cX7_at 4 = .ok (.iload_n 1, 1) := by decide +kernel
theorem dX7_at_5 : decode cX7_at 5 = .ok (.aload_n 0, 1) := by decide +kernel
theorem dX7_at_6 : decode cX7_at 6 = .ok (.arraylength, 1) := by decide +kernel
theorem dX7_at_7 : decode cX7_at 7 = .ok (.if_icmp .ge 9, 3) := by decide +kernel
theorem dX7_at_10 : decode cX7_at 10 = .ok (.aload_n 0, 1) := by decide +kernel
theorem dX7_at_11 : decode cX7_at 11 = .ok (.iload_n 1, 1) := by decide +kernel
theorem dX7_at_12 : decode cX7_at 12 = .ok (.iaload, 1) := by decide +kernel
theorem dX7_at_13 : decode cX7_at 13 = .ok (.goto 4, 3) := by decide +kernel
theorem dX7_at_16 : decode cX7_at 16 = .ok (.iconst 0, 1) := by decide +kernel
theorem dX7_at_17 : decode cX7_at 17 = .ok (.ireturn, 1) := by decide +kernel
theorem dX7_put_0 : decode cX7_put 0 = .ok (.iload_n 1, 1) := by decide +kernel
theorem dX7_put_1 : decode cX7_put 1 = .ok (.ifCond .lt 13, 3) := by decide +kernel
theorem dX7_put_4 : decode cX7_put 4 = .ok (.iload_n 1, 1) := by decide +kernel
theorem dX7_put_5 : decode cX7_put 5 = .ok (.aload_n 0, 1) := by decide +kernel
theorem dX7_put_6 : decode cX7_put 6 = .ok (.arraylength, 1) := by decide +kernel
theorem dX7_put_7 : decode cX7_put 7 = .ok (.if_icmp .ge 7, 3) := by decide +kernel
theorem dX7_put_10 : decode cX7_put 10 = .ok (.aload_n 0, 1) := by decide +kernel
theorem dX7_put_11 : decode cX7_put 11 = .ok (.iload_n 1, 1) := by decide +kernel
theorem dX7_put_12 : decode cX7_put 12 = .ok (.iload_n 2, 1) := by decide +kernel
theorem dX7_put_13 : decode cX7_put 13 = .ok (.iastore, 1) := by decide +kernel
theorem dX7_put_14 : decode cX7_put 14 = .ok (.return_, 1) := by decide +kernel
theorem dX7_isBetween_0 : decode cX7_isBetween 0 = .ok (.iload_n 0, 1) := by decide +kernel
theorem dX7_isBetween_1 : decode cX7_isBetween 1 = .ok (.iload_n 1, 1) := by decide +kernel
theorem dX7_isBetween_2 : decode cX7_isBetween 2 = .ok (.if_icmp .lt 12, 3) := by decide +kernel
theorem dX7_isBetween_5 : decode cX7_isBetween 5 = .ok (.iload_n 0, 1) := by decide +kernel
theorem dX7_isBetween_6 : decode cX7_isBetween 6 = .ok (.iload_n 2, 1) := by decide +kernel
theorem dX7_isBetween_7 : decode cX7_isBetween 7 = .ok (.if_icmp .gt 7, 3) := by decide +kernel
theorem dX7_isBetween_10 : decode cX7_isBetween 10 = .ok (.iconst 1, 1) := by decide +kernel
theorem dX7_isBetween_11 : decode cX7_isBetween 11 = .ok (.goto 4, 3) := by decide +kernel
theorem dX7_isBetween_14 : decode cX7_isBetween 14 = .ok (.iconst 0, 1) := by decide +kernel
theorem dX7_isBetween_15 : decode cX7_isBetween 15 = .ok (.ireturn, 1) := by decide +kernel
set_option maxRecDepth 20000 in
theorem ggX7_partOf_X7_commonDivisor : GoodIn wsX7_partOf wsX7_commonDivisor := goodIn_r _ [8] (by decide +kernel) (by decide +kernel)
set_option maxRecDepth 20000 in
theorem gX7_partOf_X7_commonDivisor : GoodIn wsX7_partOf (va_wsS RX7 265 yX7_commonDivisor wsX7_commonDivisor) := goodIn_app (goodIn_of _ (by decide +kernel)) ggX7_partOf_X7_commonDivisor
theorem dX7_partOf_0 : decode cX7_partOf 0 = .ok (.iload_n 0, 1) := by decide +kernel
theorem dX7_partOf_1 : decode cX7_partOf 1 = .ok (.invokestatic 260, 3) := by decide +kernel
theorem dX7_partOf_4 : decode cX7_partOf 4 = .ok (.iload_n 1, 1) := by decide +kernel
theorem dX7_partOf_5 : decode cX7_partOf 5 = .ok (.invokestatic 265, 3) := by decide +kernel
theorem dX7_partOf_8 : decode cX7_partOf 8 = .ok (.istore_n 3, 1) := by decide +kernel
theorem dX7_partOf_9 : decode cX7_partOf 9 = .ok (.iload_n 3, 1) := by decide +kernel
theorem dX7_partOf_10 : decode cX7_partOf 10 = .ok (.ifCond .gt 5, 3) := by decide +kernel
theorem dX7_partOf_13 : decode cX7_partOf 13 = .ok (.iconst 0, 1) := by decide +kernel
theorem dX7_partOf_14 : decode cX7_partOf 14 = .ok (.ireturn, 1) := by decide +kernel
theorem dX7_partOf_15 : decode cX7_partOf 15 = .ok (.iload_n 2, 1) := by decide +kernel
theorem dX7_partOf_16 : decode cX7_partOf 16 = .ok (.ifCond .eq 9, 3) := by decide +kernel
theorem dX7_partOf_19 : decode cX7_partOf 19 = .ok (.iload_n 0, 1) := by decide +kernel
theorem dX7_partOf_20 : decode cX7_partOf 20 = .ok (.iload_n 3, 1) := by decide +kernel
theorem dX7_partOf_21 : decode cX7_partOf 21 = .ok (.idiv, 1) := by decide +kernel
theorem dX7_partOf_22 : decode cX7_partOf 22 = .ok (.goto 6, 3) := by decide +kernel
theorem dX7_partOf_25 : decode cX7_partOf 25 = .ok (.iload_n 1, 1) := by decide +kernel
theorem dX7_partOf_26 : decode cX7_partOf 26 = .ok (.iload_n 3, 1) := by decide +kernel
theorem dX7_partOf_27 : decode cX7_partOf 27 = .ok (.idiv, 1) := by decide +kernel
theorem dX7_partOf_28 : decode cX7_partOf 28 = .ok (.ireturn, 1) := by decide +kernel
theorem dX7_commonDivisor_0 : decode cX7_commonDivisor 0 = .ok (.iload_n 0, 1) := by decide +kernel
theorem dX7_commonDivisor_1 : decode cX7_commonDivisor 1 = .ok (.istore_n 2, 1) := by decide +kernel
theorem dX7_commonDivisor_2 : decode cX7_commonDivisor 2 = .ok (.iload_n 1, 1) := by decide +kernel
theorem dX7_commonDivisor_3 : decode cX7_commonDivisor 3 = .ok (.istore_n 3, 1) := by decide +kernel
theorem dX7_commonDivisor_4 : decode cX7_commonDivisor 4 = .ok (.iconst 0, 1) := by decide +kernel
theorem dX7_commonDivisor_5 : decode cX7_commonDivisor 5 = .ok (.istore 4, 2) := by decide +kernel
theorem dX7_commonDivisor_7 : decode cX7_commonDivisor 7 = .ok (.iload 4, 2) := by decide +kernel
theorem dX7_commonDivisor_9 : decode cX7_commonDivisor 9 = .ok (.bipush 64, 2) := by decide +kernel
theorem dX7_commonDivisor_11 : decode cX7_commonDivisor 11 = .ok (.if_icmp .ge 23, 3) := by decide +kernel
theorem dX7_commonDivisor_14 : decode cX7_commonDivisor 14 = .ok (.iload_n 3, 1) := by decide +kernel
theorem dX7_commonDivisor_15 : decode cX7_commonDivisor 15 = .ok (.ifCond .le 19, 3) := by decide +kernel
theorem dX7_commonDivisor_18 : decode cX7_commonDivisor 18 = .ok (.iload_n 2, 1) := by decide +kernel
theorem dX7_commonDivisor_19 : decode cX7_commonDivisor 19 = .ok (.iload_n 3, 1) := by decide +kernel
theorem dX7_commonDivisor_20 : decode cX7_commonDivisor 20 = .ok (.irem, 1) := by decide +kernel
theorem dX7_commonDivisor_21 : decode cX7_commonDivisor 21 = .ok (.istore 5, 2) := by decide +kernel
theorem dX7_commonDivisor_23 : decode cX7_commonDivisor 23 = .ok (.iload_n 3, 1) := by decide +kernel
theorem dX7_commonDivisor_24 : decode cX7_commonDivisor 24 = .ok (.istore_n 2, 1) := by decide +kernel
theorem dX7_commonDivisor_25 : decode cX7_commonDivisor 25 = .ok (.iload 5, 2) := by decide +kernel
theorem dX7_commonDivisor_27 : decode cX7_commonDivisor 27 = .ok (.istore_n 3, 1) := by decide +kernel
theorem dX7_commonDivisor_28 : decode cX7_commonDivisor 28 = .ok (.iinc 4 1, 3) := by decide +kernel
theorem dX7_commonDivisor_31 : decode cX7_commonDivisor 31 = .ok (.goto (-24), 3) := by decide +kernel
theorem dX7_commonDivisor_34 : decode cX7_commonDivisor 34 = .ok (.iload_n 2, 1) := by decide +kernel
theorem dX7_commonDivisor_35 : decode cX7_commonDivisor 35 = .ok (.ireturn, 1) := by decide +kernel
theorem dX7_treadAlone_0 : decode cX7_treadAlone 0 = .ok (.iload_n 2, 1) := by decide +kernel
theorem dX7_treadAlone_1 : decode cX7_treadAlone 1 = .ok (.ifCond .le 9, 3) := by decide +kernel
theorem dX7_treadAlone_4 : decode cX7_treadAlone 4 = .ok (.iload_n 3, 1) := by decide +kernel
theorem dX7_treadAlone_5 : decode cX7_treadAlone 5 = .ok (.iload_n 2, 1) := by decide +kernel
theorem dX7_treadAlone_6 : decode cX7_treadAlone 6 = .ok (.irem, 1) := by decide +kernel
theorem dX7_treadAlone_7 : decode cX7_treadAlone 7 = .ok (.goto 4, 3) := by decide +kernel
theorem dX7_treadAlone_10 : decode cX7_treadAlone 10 = .ok (.iconst 0, 1) := by decide +kernel
theorem dX7_treadAlone_11 : decode cX7_treadAlone 11 = .ok (.istore 4, 2) := by decide +kernel
theorem dX7_treadAlone_13 : decode cX7_treadAlone 13 = .ok (.iload_n 0, 1) := by decide +kernel
theorem dX7_treadAlone_14 : decode cX7_treadAlone 14 = .ok (.tableswitch 50 1 3 #[26, 32, 45], 26) := by decide +kernel
theorem dX7_treadAlone_40 : decode cX7_treadAlone 40 = .ok (.iload_n 1, 1) := by decide +kernel
theorem dX7_treadAlone_41 : decode cX7_treadAlone 41 = .ok (.iload_n 3, 1) := by decide +kernel
theorem dX7_treadAlone_42 : decode cX7_treadAlone 42 = .ok (.iconst 1, 1) := by decide +kernel
theorem dX7_treadAlone_43 : decode cX7_treadAlone 43 = .ok (.iand, 1) := by decide +kernel
theorem dX7_treadAlone_44 : decode cX7_treadAlone 44 = .ok (.isub, 1) := by decide +kernel
theorem dX7_treadAlone_45 : decode cX7_treadAlone 45 = .ok (.ireturn, 1) := by decide +kernel
theorem dX7_treadAlone_46 : decode cX7_treadAlone 46 = .ok (.iload_n 1, 1) := by decide +kernel
theorem dX7_treadAlone_47 : decode cX7_treadAlone 47 = .ok (.iload 4, 2) := by decide +kernel
theorem dX7_treadAlone_49 : decode cX7_treadAlone 49 = .ok (.ifCond .ne 7, 3) := by decide +kernel
theorem dX7_treadAlone_52 : decode cX7_treadAlone 52 = .ok (.iconst 1, 1) := by decide +kernel
theorem dX7_treadAlone_53 : decode cX7_treadAlone 53 = .ok (.goto 4, 3) := by decide +kernel
theorem dX7_treadAlone_56 : decode cX7_treadAlone 56 = .ok (.iconst 0, 1) := by decide +kernel
theorem dX7_treadAlone_57 : decode cX7_treadAlone 57 = .ok (.iadd, 1) := by decide +kernel
theorem dX7_treadAlone_58 : decode cX7_treadAlone 58 = .ok (.ireturn, 1) := by decide +kernel
theorem dX7_treadAlone_59 : decode cX7_treadAlone 59 = .ok (.iload_n 1, 1) := by decide +kernel
theorem dX7_treadAlone_60 : decode cX7_treadAlone 60 = .ok (.iload 4, 2) := by decide +kernel
theorem dX7_treadAlone_62 : decode cX7_treadAlone 62 = .ok (.iadd, 1) := by decide +kernel
theorem dX7_treadAlone_63 : decode cX7_treadAlone 63 = .ok (.ireturn, 1) := by decide +kernel
theorem dX7_treadAlone_64 : decode cX7_treadAlone 64 = .ok (.iload_n 1, 1) := by decide +kernel
theorem dX7_treadAlone_65 : decode cX7_treadAlone 65 = .ok (.ireturn, 1) := by decide +kernel
theorem dX8_init_0 : decode cX8_init 0 = .ok (.aload_n 0, 1) := by decide +kernel
theorem dX8_init_1 : decode cX8_init 1 = .ok (.invokespecial 1, 3) := by decide +kernel
theorem dX8_init_4 : decode cX8_init 4 = .ok (.aload_n 0, 1) := by decide +kernel
theorem dX8_init_5 : decode cX8_init 5 = .ok (.bipush 48, 2) := by decide +kernel
theorem dX8_init_7 : decode cX8_init 7 = .ok (.newarray .int, 2) := by decide +kernel
theorem dX8_init_9 : decode cX8_init 9 = .ok (.putfield 7, 3) := by decide +kernel
theorem dX8_init_12 : decode cX8_init 12 = .ok (.aload_n 0, 1) := by decide +kernel
theorem dX8_init_13 : decode cX8_init 13 = .ok (.iconst 1, 1) := by decide +kernel
theorem dX8_init_14 : decode cX8_init 14 = .ok (.putfield 13, 3) := by decide +kernel
theorem dX8_init_17 : decode cX8_init 17 = .ok (.aload_n 0, 1) := by decide +kernel
theorem dX8_init_18 : decode cX8_init 18 = .ok (.iconst 1, 1) := by decide +kernel
theorem dX8_init_19 : decode cX8_init 19 = .ok (.putfield 17, 3) := by decide +kernel
theorem dX8_init_22 : decode cX8_init 22 = .ok (.aload_n 0, 1) := by decide +kernel
theorem dX8_init_23 : decode cX8_init 23 = .ok (.iconst 5, 1) := by decide +kernel
theorem dX8_init_24 : decode cX8_init 24 = .ok (.newarray .int, 2) := by decide +kernel
theorem dX8_init_26 : decode cX8_init 26 = .ok (.putfield 20, 3) := by decide +kernel
theorem dX8_init_29 : decode cX8_init 29 = .ok (.aload_n 0, 1) := by decide +kernel
theorem dX8_init_30 : decode cX8_init 30 = .ok (.iconst 5, 1) := by decide +kernel
theorem dX8_init_31 : decode cX8_init 31 = .ok (.newarray .int, 2) := by decide +kernel
theorem dX8_init_33 : decode cX8_init 33 = .ok (.putfield 23, 3) := by decide +kernel
theorem dX8_init_36 : decode cX8_init 36 = .ok (.aload_n 0, 1) := by decide +kernel
theorem dX8_init_37 : decode cX8_init 37 = .ok (.iconst 3, 1) := by decide +kernel
theorem dX8_init_38 : decode cX8_init 38 = .ok (.newarray .int, 2) := by decide +kernel
theorem dX8_init_40 : decode cX8_init 40 = .ok (.putfield 26, 3) := by decide +kernel
theorem dX8_init_43 : decode cX8_init 43 = .ok (.aload_n 0, 1) := by decide +kernel
theorem dX8_init_44 : decode cX8_init 44 = .ok (.bipush 15, 2) := by decide +kernel
theorem dX8_init_46 : decode cX8_init 46 = .ok (.newarray .int, 2) := by decide +kernel
theorem dX8_init_48 : decode cX8_init 48 = .ok (.putfield 29, 3) := by decide +kernel
theorem dX8_init_51 : decode cX8_init 51 = .ok (.aload_n 0, 1) := by decide +kernel
theorem dX8_init_52 : decode cX8_init 52 = .ok (.bipush 17, 2) := by decide +kernel
theorem dX8_init_54 : decode cX8_init 54 = .ok (.newarray .int, 2) := by decide +kernel
theorem dX8_init_56 : decode cX8_init 56 = .ok (.putfield 32, 3) := by decide +kernel
theorem dX8_init_59 : decode cX8_init 59 = .ok (.aload_n 0, 1) := by decide +kernel
theorem dX8_init_60 : decode cX8_init 60 = .ok (.bipush 17, 2) := by decide +kernel
theorem dX8_init_62 : decode cX8_init 62 = .ok (.newarray .int, 2) := by decide +kernel
theorem dX8_init_64 : decode cX8_init 64 = .ok (.putfield 35, 3) := by decide +kernel
theorem dX8_init_67 : decode cX8_init 67 = .ok (.aload_n 0, 1) := by decide +kernel
theorem dX8_init_68 : decode cX8_init 68 = .ok (.sipush 238, 3) := by decide +kernel
theorem dX8_init_71 : decode cX8_init 71 = .ok (.newarray .int, 2) := by decide +kernel
theorem dX8_init_73 : decode cX8_init 73 = .ok (.putfield 38, 3) := by decide +kernel
theorem dX8_init_76 : decode cX8_init 76 = .ok (.aload_n 0, 1) := by decide +kernel
theorem dX8_init_77 : decode cX8_init 77 = .ok (.bipush 34, 2) := by decide +kernel
theorem dX8_init_79 : decode cX8_init 79 = .ok (.newarray .int, 2) := by decide +kernel
theorem dX8_init_81 : decode cX8_init 81 = .ok (.putfield 41, 3) := by decide +kernel
theorem dX8_init_84 : decode cX8_init 84 = .ok (.aload_n 0, 1) := by decide +kernel
theorem dX8_init_85 : decode cX8_init 85 = .ok (.iconst 2, 1) := by decide +kernel
theorem dX8_init_86 : decode cX8_init 86 = .ok (.newarray .boolean, 2) := by decide +kernel
theorem dX8_init_88 : decode cX8_init 88 = .ok (.putfield 44, 3) := by decide +kernel
theorem dX8_init_91 : decode cX8_init 91 = .ok (.aload_n 0, 1) := by decide +kernel
theorem dX8_init_92 : decode cX8_init 92 = .ok (.bipush 6, 2) := by decide +kernel
theorem dX8_init_94 : decode cX8_init 94 = .ok (.newarray .int, 2) := by decide +kernel
theorem dX8_init_96 : decode cX8_init 96 = .ok (.putfield 48, 3) := by decide +kernel
theorem dX8_init_99 : decode cX8_init 99 = .ok (.aload_n 0, 1) := by decide +kernel
theorem dX8_init_100 : decode cX8_init 100 = .ok (.bipush 6, 2) := by decide +kernel
theorem dX8_init_102 : decode cX8_init 102 = .ok (.newarray .int, 2) := by decide +kernel
theorem dX8_init_104 : decode cX8_init 104 = .ok (.putfield 51, 3) := by decide +kernel
theorem dX8_init_107 : decode cX8_init 107 = .ok (.aload_n 0, 1) := by decide +kernel
theorem dX8_init_108 : decode cX8_init 108 = .ok (.iconst 5, 1) := by decide +kernel
theorem dX8_init_109 : decode cX8_init 109 = .ok (.newarray .int, 2) := by decide +kernel
theorem dX8_init_111 : decode cX8_init 111 = .ok (.putfield 54, 3) := by decide +kernel
theorem dX8_init_114 : decode cX8_init 114 = .ok (.aload_n 0, 1) := by decide +kernel
theorem dX8_init_115 : decode cX8_init 115 = .ok (.bipush 8, 2) := by decide +kernel
theorem dX8_init_117 : decode cX8_init 117 = .ok (.newarray .int, 2) := by decide +kernel
theorem dX8_init_119 : decode cX8_init 119 = .ok (.putfield 57, 3) := by decide +kernel
theorem dX8_init_122 : decode cX8_init 122 = .ok (.aload_n 0, 1) := by decide +kernel
theorem dX8_init_123 : decode cX8_init 123 = .ok (.bipush 32, 2) := by decide +kernel
theorem dX8_init_125 : decode cX8_init 125 = .ok (.newarray .int, 2) := by decide +kernel
theorem dX8_init_127 : decode cX8_init 127 = .ok (.putfield 60, 3) := by decide +kernel
theorem dX8_init_130 : decode cX8_init 130 = .ok (.return_, 1) := by decide +kernel
theorem dX8_in_0 : decode cX8_in 0 = .ok (.lload_n 0, 1) := by decide +kernel
theorem dX8_in_1 : decode cX8_in 1 = .ok (.lload_n 2, 1) := by decide +kernel
theorem dX8_in_2 : decode cX8_in 2 = .ok (.lcmp, 1) := by decide +kernel
theorem dX8_in_3 : decode cX8_in 3 = .ok (.ifCond .lt 14, 3) := by decide +kernel
theorem dX8_in_6 : decode cX8_in 6 = .ok (.lload_n 0, 1) := by decide +kernel
theorem dX8_in_7 : decode cX8_in 7 = .ok (.lload 4, 2) := by decide +kernel
theorem dX8_in_9 : decode cX8_in 9 = .ok (.lcmp, 1) := by decide +kernel
theorem dX8_in_10 : decode cX8_in 10 = .ok (.ifCond .gt 7, 3) := by decide +kernel
theorem dX8_in_13 : decode cX8_in 13 = .ok (.iconst 1, 1) := by decide +kernel
theorem dX8_in_14 : decode cX8_in 14 = .ok (.goto 4, 3) := by decide +kernel
theorem dX8_in_17 : decode cX8_in 17 = .ok (.iconst 0, 1) := by decide +kernel
theorem dX8_in_18 : decode cX8_in 18 = .ok (.ireturn, 1) := by decide +kernel
theorem dX8_has_0 : decode cX8_has 0 = .ok (.iload_n 0, 1) := by decide +kernel
theorem dX8_has_1 : decode cX8_has 1 = .ok (.iload_n 1, 1) := by decide +kernel
theorem dX8_has_2 : decode cX8_has 2 = .ok (.ishr, 1) := by decide +kernel
theorem dX8_has_3 : decode cX8_has 3 = .ok (.iconst 1, 1) := by decide +kernel
theorem dX8_has_4 : decode cX8_has 4 = .ok (.iand, 1) := by decide +kernel
theorem dX8_has_5 : decode cX8_has 5 = .ok (.iconst 1, 1) := by decide +kernel
theorem dX8_has_6 : decode cX8_has 6 = .ok (.if_icmp .ne 7, 3) := by decide +kernel
theorem dX8_has_9 : decode cX8_has 9 = .ok (.iconst 1, 1) := by decide +kernel
theorem dX8_has_10 : decode cX8_has 10 = .ok (.goto 4, 3) := by decide +kernel
theorem dX8_has_13 : decode cX8_has 13 = .ok (.iconst 0, 1) := by decide +kernel
theorem dX8_has_14 : decode cX8_has 14 = .ok (.ireturn, 1) := by decide +kernel
theorem dX8_many_0 : decode cX8_many 0 = .ok (.iconst 0, 1) := by decide +kernel
theorem dX8_many_1 : decode cX8_many 1 = .ok (.istore_n 1, 1) := by decide +kernel
theorem dX8_many_2 : decode cX8_many 2 = .ok (.iconst 0, 1) := by decide +kernel
theorem dX8_many_3 : decode cX8_many 3 = .ok (.istore_n 2, 1) := by decide +kernel
theorem dX8_many_4 : decode cX8_many 4 = .ok (.iload_n 2, 1) := by decide +kernel
theorem dX8_many_5 : decode cX8_many 5 = .ok (.iconst 5, 1) := by decide +kernel
theorem dX8_many_6 : decode cX8_many 6 = .ok (.if_icmp .ge 17, 3) := by decide +kernel
theorem dX8_many_9 : decode cX8_many 9 = .ok (.iload_n 1, 1) := by decide +kernel
theorem dX8_many_10 : decode cX8_many 10 = .ok (.iload_n 0, 1) := by decide +kernel
theorem dX8_many_11 : decode cX8_many 11 = .ok (.iload_n 2, 1) := by decide +kernel
theorem dX8_many_12 : decode cX8_many 12 = .ok (.ishr, 1) := by decide +kernel
theorem dX8_many_13 : decode cX8_many 13 = .ok (.iconst 1, 1) := by decide +kernel
theorem dX8_many_14 : decode cX8_many 14 = .ok (.iand, 1) := by decide +kernel
theorem dX8_many_15 : decode cX8_many 15 = .ok (.iadd, 1) := by decide +kernel
theorem dX8_many_16 : decode cX8_many 16 = .ok (.istore_n 1, 1) := by decide +kernel
theorem dX8_many_17 : decode cX8_many 17 = .ok (.iinc 2 1, 3) := by decide +kernel
theorem dX8_many_20 : decode cX8_many 20 = .ok (.goto (-16), 3) := by decide +kernel
theorem dX8_many_23 : decode cX8_many 23 = .ok (.iload_n 1, 1) := by decide +kernel
theorem dX8_many_24 : decode cX8_many 24 = .ok (.ireturn, 1) := by decide +kernel
theorem dX8_power_0 : decode cX8_power 0 = .ok (.iconst 1, 1) := by decide +kernel
theorem dX8_power_1 : decode cX8_power 1 = .ok (.istore_n 2, 1) := by decide +kernel
theorem dX8_power_2 : decode cX8_power 2 = .ok (.iconst 0, 1) := by decide +kernel
theorem dX8_power_3 : decode cX8_power 3 = .ok (.istore_n 3, 1) := by decide +kernel
theorem dX8_power_4 : decode cX8_power 4 = .ok (.iload_n 3, 1) := by decide +kernel
theorem dX8_power_5 : decode cX8_power 5 = .ok (.iload_n 1, 1) := by decide +kernel
theorem dX8_power_6 : decode cX8_power 6 = .ok (.if_icmp .ge 13, 3) := by decide +kernel
theorem dX8_power_9 : decode cX8_power 9 = .ok (.iload_n 2, 1) := by decide +kernel
theorem dX8_power_10 : decode cX8_power 10 = .ok (.iload_n 0, 1) := by decide +kernel
theorem dX8_power_11 : decode cX8_power 11 = .ok (.imul, 1) := by decide +kernel
theorem dX8_power_12 : decode cX8_power 12 = .ok (.istore_n 2, 1) := by decide +kernel
theorem dX8_power_13 : decode cX8_power 13 = .ok (.iinc 3 1, 3) := by decide +kernel
theorem dX8_power_16 : decode cX8_power 16 = .ok (.goto (-12), 3) := by decide +kernel
theorem dX8_power_19 : decode cX8_power 19 = .ok (.iload_n 2, 1) := by decide +kernel
theorem dX8_power_20 : decode cX8_power 20 = .ok (.ireturn, 1) := by decide +kernel
set_option maxRecDepth 20000 in
theorem ggX8_noWalker_X8_in : GoodIn wsX8_noWalker wsX8_in := goodIn_r _ [5] (by decide +kernel) (by decide +kernel)
set_option maxRecDepth 20000 in
theorem gX8_noWalker_X8_in : GoodIn wsX8_noWalker (va_wsS RX8 69 yX8_in wsX8_in) := goodIn_app (goodIn_of _ (by decide +kernel)) ggX8_noWalker_X8_in
theorem dX8_noWalker_0 : decode cX8_noWalker 0 = .ok (.iload_n 1, 1) := by decide +kernel
theorem dX8_noWalker_1 : decode cX8_noWalker 1 = .ok (.i2l, 1) := by decide +kernel
theorem dX8_noWalker_2 : decode cX8_noWalker 2 = .ok (.lconst 0, 1) := by decide +kernel
theorem dX8_noWalker_3 : decode cX8_noWalker 3 = .ok (.aload_n 0, 1) := by decide +kernel
theorem dX8_noWalker_4 : decode cX8_noWalker 4 = .ok (.getfield 66, 3) := by decide +kernel
theorem dX8_noWalker_7 : decode cX8_noWalker 7 = .ok (.iconst 1, 1) := by decide +kernel
theorem dX8_noWalker_8 : decode cX8_noWalker 8 = .ok (.isub, 1) := by decide +kernel
theorem dX8_noWalker_9 : decode cX8_noWalker 9 = .ok (.i2l, 1) := by decide +kernel
theorem dX8_noWalker_10 : decode cX8_noWalker 10 = .ok (.invokestatic 69, 3) := by decide +kernel
theorem dX8_noWalker_13 : decode cX8_noWalker 13 = .ok (.ifCond .ne 7, 3) := by decide +kernel
theorem dX8_noWalker_16 : decode cX8_noWalker 16 = .ok (.iconst 1, 1) := by decide +kernel
theorem dX8_noWalker_17 : decode cX8_noWalker 17 = .ok (.goto 4, 3) := by decide +kernel
theorem dX8_noWalker_20 : decode cX8_noWalker 20 = .ok (.iconst 0, 1) := by decide +kernel
theorem dX8_noWalker_21 : decode cX8_noWalker 21 = .ok (.ireturn, 1) := by decide +kernel
set_option maxRecDepth 20000 in
theorem ggX8_write_X8_in : GoodIn wsX8_write wsX8_in := goodIn_r _ [8] (by decide +kernel) (by decide +kernel)
set_option maxRecDepth 20000 in
theorem gX8_write_X8_in : GoodIn wsX8_write (va_wsS RX8 69 yX8_in wsX8_in) := goodIn_app (goodIn_of _ (by decide +kernel)) ggX8_write_X8_in
theorem dX8_write_0 : decode cX8_write 0 = .ok (.aload_n 0, 1) := by decide +kernel
theorem dX8_write_1 : decode cX8_write 1 = .ok (.iconst 0, 1) := by decide +kernel
theorem dX8_write_2 : decode cX8_write 2 = .ok (.putfield 63, 3) := by decide +kernel
theorem dX8_write_5 : decode cX8_write 5 = .ok (.iload_n 1, 1) := by decide +kernel
theorem dX8_write_6 : decode cX8_write 6 = .ok (.i2l, 1) := by decide +kernel
theorem dX8_write_7 : decode cX8_write 7 = .ok (.lconst 0, 1) := by decide +kernel
theorem dX8_write_8 : decode cX8_write 8 = .ok (.ldc2_w 73, 3) := by decide +kernel
theorem dX8_write_11 : decode cX8_write 11 = .ok (.invokestatic 69, 3) := by decide +kernel
theorem dX8_write_14 : decode cX8_write 14 = .ok (.ifCond .ne 6, 3) := by decide +kernel
theorem dX8_write_17 : decode cX8_write 17 = .ok (.bipush (-2), 2) := by decide +kernel
theorem dX8_write_19 : decode cX8_write 19 = .ok (.ireturn, 1) := by decide +kernel
theorem dX8_write_20 : decode cX8_write 20 = .ok (.aload_n 0, 1) := by decide +kernel
theorem dX8_write_21 : decode cX8_write 21 = .ok (.getfield 75, 3) := by decide +kernel
theorem dX8_write_24 : decode cX8_write 24 = .ok (.bipush 48, 2) := by decide +kernel
theorem dX8_write_26 : decode cX8_write 26 = .ok (.if_icmp .ne 6, 3) := by decide +kernel
theorem dX8_write_29 : decode cX8_write 29 = .ok (.bipush (-4), 2) := by decide +kernel
theorem dX8_write_31 : decode cX8_write 31 = .ok (.ireturn, 1) := by decide +kernel
theorem dX8_write_32 : decode cX8_write 32 = .ok (.aload_n 0, 1) := by decide +kernel
theorem dX8_write_33 : decode cX8_write 33 = .ok (.getfield 7, 3) := by decide +kernel
theorem dX8_write_36 : decode cX8_write 36 = .ok (.aload_n 0, 1) := by decide +kernel
theorem dX8_write_37 : decode cX8_write 37 = .ok (.getfield 75, 3) := by decide +kernel
theorem dX8_write_40 : decode cX8_write 40 = .ok (.iload_n 1, 1) := by decide +kernel
theorem dX8_write_41 : decode cX8_write 41 = .ok (.iastore, 1) := by decide +kernel
theorem dX8_write_42 : decode cX8_write 42 = .ok (.aload_n 0, 1) := by decide +kernel
theorem dX8_write_43 : decode cX8_write 43 = .ok (.dup, 1) := by decide +kernel
theorem dX8_write_44 : decode cX8_write 44 = .ok (.getfield 75, 3) := by decide +kernel
theorem dX8_write_47 : decode cX8_write 47 = .ok (.iconst 1, 1) := by decide +kernel
theorem dX8_write_48 : decode cX8_write 48 = .ok (.iadd, 1) := by decide +kernel
theorem dX8_write_49 : decode cX8_write 49 = .ok (.putfield 75, 3) := by decide +kernel
theorem dX8_write_52 : decode cX8_write 52 = .ok (.aload_n 0, 1) := by decide +kernel
theorem dX8_write_53 : decode cX8_write 53 = .ok (.getfield 75, 3) := by decide +kernel
theorem dX8_write_56 : decode cX8_write 56 = .ok (.ireturn, 1) := by decide +kernel
theorem dX8_wipe_0 : decode cX8_wipe 0 = .ok (.aload_n 0, 1) := by decide +kernel
theorem dX8_wipe_1 : decode cX8_wipe 1 = .ok (.iconst 0, 1) := by decide +kernel
theorem dX8_wipe_2 : decode cX8_wipe 2 = .ok (.putfield 63, 3) := by decide +kernel
theorem dX8_wipe_5 : decode cX8_wipe 5 = .ok (.aload_n 0, 1) := by decide +kernel
theorem dX8_wipe_6 : decode cX8_wipe 6 = .ok (.getfield 75, 3) := by decide +kernel
theorem dX8_wipe_9 : decode cX8_wipe 9 = .ok (.istore_n 1, 1) := by decide +kernel
theorem dX8_wipe_10 : decode cX8_wipe 10 = .ok (.aload_n 0, 1) := by decide +kernel
theorem dX8_wipe_11 : decode cX8_wipe 11 = .ok (.iconst 0, 1) := by decide +kernel
theorem dX8_wipe_12 : decode cX8_wipe 12 = .ok (.putfield 75, 3) := by decide +kernel
theorem dX8_wipe_15 : decode cX8_wipe 15 = .ok (.iload_n 1, 1) := by decide +kernel
theorem dX8_wipe_16 : decode cX8_wipe 16 = .ok (.ireturn, 1) := by decide +kernel
set_option maxRecDepth 20000 in
theorem ggX8_figure_X8_in : GoodIn wsX8_figure wsX8_in := goodIn_r _ [7] (by decide +kernel) (by decide +kernel)
set_option maxRecDepth 20000 in
theorem gX8_figure_X8_in : GoodIn wsX8_figure (va_wsS RX8 69 yX8_in wsX8_in) := goodIn_app (goodIn_of _ (by decide +kernel)) ggX8_figure_X8_in
theorem dX8_figure_0 : decode cX8_figure 0 = .ok (.aload_n 0, 1) := by decide +kernel
theorem dX8_figure_1 : decode cX8_figure 1 = .ok (.getfield 78, 3) := by decide +kernel
theorem dX8_figure_4 : decode cX8_figure 4 = .ok (.aload_n 0, 1) := by decide +kernel
theorem dX8_figure_5 : decode cX8_figure 5 = .ok (.getfield 75, 3) := by decide +kernel
theorem dX8_figure_8 : decode cX8_figure 8 = .ok (.if_icmp .eq 26, 3) := by decide +kernel
theorem dX8_figure_11 : decode cX8_figure 11 = .ok (.aload_n 0, 1) := by decide +kernel
theorem dX8_figure_12 : decode cX8_figure 12 = .ok (.getfield 7, 3) := by decide +kernel
theorem dX8_figure_15 : decode cX8_figure 15 = .ok (.aload_n 0, 1) := by decide +kernel
theorem dX8_figure_16 : decode cX8_figure 16 = .ok (.getfield 78, 3) := by decide +kernel
theorem dX8_figure_19 : decode cX8_figure 19 = .ok (.iaload, 1) := by decide +kernel
theorem dX8_figure_20 : decode cX8_figure 20 = .ok (.bipush 48, 2) := by decide +kernel
theorem dX8_figure_22 : decode cX8_figure 22 = .ok (.isub, 1) := by decide +kernel
theorem dX8_figure_23 : decode cX8_figure 23 = .ok (.i2l, 1) := by decide +kernel
theorem dX8_figure_24 : decode cX8_figure 24 = .ok (.iload_n 1, 1) := by decide +kernel
theorem dX8_figure_25 : decode cX8_figure 25 = .ok (.i2l, 1) := by decide +kernel
theorem dX8_figure_26 : decode cX8_figure 26 = .ok (.iload_n 2, 1) := by decide +kernel
theorem dX8_figure_27 : decode cX8_figure 27 = .ok (.i2l, 1) := by decide +kernel
theorem dX8_figure_28 : decode cX8_figure 28 = .ok (.invokestatic 69, 3) := by decide +kernel
theorem dX8_figure_31 : decode cX8_figure 31 = .ok (.ifCond .ne 6, 3) := by decide +kernel
theorem dX8_figure_34 : decode cX8_figure 34 = .ok (.bipush (-9), 2) := by decide +kernel
theorem dX8_figure_36 : decode cX8_figure 36 = .ok (.ireturn, 1) := by decide +kernel
theorem dX8_figure_37 : decode cX8_figure 37 = .ok (.aload_n 0, 1) := by decide +kernel
theorem dX8_figure_38 : decode cX8_figure 38 = .ok (.dup, 1) := by decide +kernel
theorem dX8_figure_39 : decode cX8_figure 39 = .ok (.getfield 78, 3) := by decide +kernel
theorem dX8_figure_42 : decode cX8_figure 42 = .ok (.iconst 1, 1) := by decide +kernel
theorem dX8_figure_43 : decode cX8_figure 43 = .ok (.iadd, 1) := by decide +kernel
theorem dX8_figure_44 : decode cX8_figure 44 = .ok (.putfield 78, 3) := by decide +kernel
theorem dX8_figure_47 : decode cX8_figure 47 = .ok (.aload_n 0, 1) := by decide +kernel
theorem dX8_figure_48 : decode cX8_figure 48 = .ok (.getfield 7, 3) := by decide +kernel
theorem dX8_figure_51 : decode cX8_figure 51 = .ok (.aload_n 0, 1) := by decide +kernel
theorem dX8_figure_52 : decode cX8_figure 52 = .ok (.getfield 78, 3) := by decide +kernel
theorem dX8_figure_55 : decode cX8_figure 55 = .ok (.iconst 1, 1) := by decide +kernel
theorem dX8_figure_56 : decode cX8_figure 56 = .ok (.isub, 1) := by decide +kernel
theorem dX8_figure_57 : decode cX8_figure 57 = .ok (.iaload, 1) := by decide +kernel
theorem dX8_figure_58 : decode cX8_figure 58 = .ok (.bipush 48, 2) := by decide +kernel
theorem dX8_figure_60 : decode cX8_figure 60 = .ok (.isub, 1) := by decide +kernel
theorem dX8_figure_61 : decode cX8_figure 61 = .ok (.ireturn, 1) := by decide +kernel
set_option maxRecDepth 20000 in
theorem ggX8_readOneWalker_X8_figure : GoodIn wsX8_readOneWalker wsX8_figure := goodIn_r _ [9, 2, 10, 1, 11, 12, 8, 13, 14, 15, 16, 17, 18, 19, 20, 21, 22, 23, 24, 25, 26, 27, 28, 29, 30, 31, 32, 33, 34, 35, 36, 37, 38, 39, 40, 41, 42, 43, 44, 45, 46] (by decide +kernel) (by decide +kernel)
set_option maxRecDepth 20000 in
theorem gX8_readOneWalker_X8_figure : GoodIn wsX8_readOneWalker (wsV RX8 84 RX8 yX8_figure wsX8_figure) := goodIn_app (goodIn_of _ (by decide +kernel)) ggX8_readOneWalker_X8_figure
theorem dX8_readOneWalker_0 : decode cX8_readOneWalker 0 = .ok (.aload_n 0, 1) := by decide +kernel
theorem dX8_readOneWalker_1 : decode cX8_readOneWalker 1 = .ok (.getfield 7, 3) := by decide +kernel
theorem dX8_readOneWalker_4 : decode cX8_readOneWalker 4 = .ok (.aload_n 0, 1) := by decide +kernel
theorem dX8_readOneWalker_5 : decode cX8_readOneWalker 5 = .ok (.getfield 78, 3) := by decide +kernel
theorem dX8_readOneWalker_8 : decode cX8_readOneWalker 8 = .ok (.iaload, 1) := by decide +kernel
theorem dX8_readOneWalker_9 : decode cX8_readOneWalker 9 = .ok (.bipush 87, 2) := by decide +kernel
theorem dX8_readOneWalker_11 : decode cX8_readOneWalker 11 = .ok (.if_icmp .ne 11, 3) := by decide +kernel
theorem dX8_readOneWalker_14 : decode cX8_readOneWalker 14 = .ok (.aload_n 0, 1) := by decide +kernel
theorem dX8_readOneWalker_15 : decode cX8_readOneWalker 15 = .ok (.getfield 81, 3) := by decide +kernel
theorem dX8_readOneWalker_18 : decode cX8_readOneWalker 18 = .ok (.iconst 5, 1) := by decide +kernel
theorem dX8_readOneWalker_19 : decode cX8_readOneWalker 19 = .ok (.if_icmp .ne 5, 3) := by decide +kernel
theorem dX8_readOneWalker_22 : decode cX8_readOneWalker 22 = .ok (.iconst 0, 1) := by decide +kernel
theorem dX8_readOneWalker_23 : decode cX8_readOneWalker 23 = .ok (.ireturn, 1) := by decide +kernel
theorem dX8_readOneWalker_24 : decode cX8_readOneWalker 24 = .ok (.aload_n 0, 1) := by decide +kernel
theorem dX8_readOneWalker_25 : decode cX8_readOneWalker 25 = .ok (.dup, 1) := by decide +kernel
theorem dX8_readOneWalker_26 : decode cX8_readOneWalker 26 = .ok (.getfield 78, 3) := by decide +kernel
theorem dX8_readOneWalker_29 : decode cX8_readOneWalker 29 = .ok (.iconst 1, 1) := by decide +kernel
theorem dX8_readOneWalker_30 : decode cX8_readOneWalker 30 = .ok (.iadd, 1) := by decide +kernel
theorem dX8_readOneWalker_31 : decode cX8_readOneWalker 31 = .ok (.putfield 78, 3) := by decide +kernel
theorem dX8_readOneWalker_34 : decode cX8_readOneWalker 34 = .ok (.aload_n 0, 1) := by decide +kernel
theorem dX8_readOneWalker_35 : decode cX8_readOneWalker 35 = .ok (.iconst 1, 1) := by decide +kernel
theorem dX8_readOneWalker_36 : decode cX8_readOneWalker 36 = .ok (.bipush 9, 2) := by decide +kernel
theorem dX8_readOneWalker_38 : decode cX8_readOneWalker 38 = .ok (.invokevirtual 84, 3) := by decide +kernel
theorem dX8_readOneWalker_41 : decode cX8_readOneWalker 41 = .ok (.istore_n 1, 1) := by decide +kernel
theorem dX8_readOneWalker_42 : decode cX8_readOneWalker 42 = .ok (.iload_n 1, 1) := by decide +kernel
theorem dX8_readOneWalker_43 : decode cX8_readOneWalker 43 = .ok (.bipush (-9), 2) := by decide +kernel
theorem dX8_readOneWalker_45 : decode cX8_readOneWalker 45 = .ok (.if_icmp .ne 8, 3) := by decide +kernel
theorem dX8_readOneWalker_48 : decode cX8_readOneWalker 48 = .ok (.bipush (-9), 2) := by decide +kernel
theorem dX8_readOneWalker_50 : decode cX8_readOneWalker 50 = .ok (.goto 9, 3) := by decide +kernel
theorem dX8_readOneWalker_53 : decode cX8_readOneWalker 53 = .ok (.aload_n 0, 1) := by decide +kernel
theorem dX8_readOneWalker_54 : decode cX8_readOneWalker 54 = .ok (.iconst 1, 1) := by decide +kernel
theorem dX8_readOneWalker_55 : decode cX8_readOneWalker 55 = .ok (.iconst 4, 1) := by decide +kernel
theorem dX8_readOneWalker_56 : decode cX8_readOneWalker 56 = .ok (.invokevirtual 84, 3) := by decide +kernel
theorem dX8_readOneWalker_59 : decode cX8_readOneWalker 59 = .ok (.istore_n 2, 1) := by decide +kernel
theorem dX8_readOneWalker_60 : decode cX8_readOneWalker 60 = .ok (.iload_n 2, 1) := by decide +kernel
theorem dX8_readOneWalker_61 : decode cX8_readOneWalker 61 = .ok (.bipush (-9), 2) := by decide +kernel
theorem dX8_readOneWalker_63 : decode cX8_readOneWalker 63 = .ok (.if_icmp .ne 8, 3) := by decide +kernel
theorem dX8_readOneWalker_66 : decode cX8_readOneWalker 66 = .ok (.bipush (-9), 2) := by decide +kernel
theorem dX8_readOneWalker_68 : decode cX8_readOneWalker 68 = .ok (.goto 9, 3) := by decide +kernel
theorem dX8_readOneWalker_71 : decode cX8_readOneWalker 71 = .ok (.aload_n 0, 1) := by decide +kernel
theorem dX8_readOneWalker_72 : decode cX8_readOneWalker 72 = .ok (.iconst 0, 1) := by decide +kernel
theorem dX8_readOneWalker_73 : decode cX8_readOneWalker 73 = .ok (.iconst 3, 1) := by decide +kernel
theorem dX8_readOneWalker_74 : decode cX8_readOneWalker 74 = .ok (.invokevirtual 84, 3) := by decide +kernel
theorem dX8_readOneWalker_77 : decode cX8_readOneWalker 77 = .ok (.istore_n 3, 1) := by decide +kernel
theorem dX8_readOneWalker_78 : decode cX8_readOneWalker 78 = .ok (.iload_n 3, 1) := by decide +kernel
theorem dX8_readOneWalker_79 : decode cX8_readOneWalker 79 = .ok (.bipush (-9), 2) := by decide +kernel
theorem dX8_readOneWalker_81 : decode cX8_readOneWalker 81 = .ok (.if_icmp .ne 5, 3) := by decide +kernel
theorem dX8_readOneWalker_84 : decode cX8_readOneWalker 84 = .ok (.iconst 0, 1) := by decide +kernel
theorem dX8_readOneWalker_85 : decode cX8_readOneWalker 85 = .ok (.ireturn, 1) := by decide +kernel
theorem dX8_readOneWalker_86 : decode cX8_readOneWalker 86 = .ok (.aload_n 0, 1) := by decide +kernel
theorem dX8_readOneWalker_87 : decode cX8_readOneWalker 87 = .ok (.getfield 29, 3) := by decide +kernel
theorem dX8_readOneWalker_90 : decode cX8_readOneWalker 90 = .ok (.iconst 3, 1) := by decide +kernel
theorem dX8_readOneWalker_91 : decode cX8_readOneWalker 91 = .ok (.aload_n 0, 1) := by decide +kernel
theorem dX8_readOneWalker_92 : decode cX8_readOneWalker 92 = .ok (.getfield 81, 3) := by decide +kernel
theorem dX8_readOneWalker_95 : decode cX8_readOneWalker 95 = .ok (.imul, 1) := by decide +kernel
theorem dX8_readOneWalker_96 : decode cX8_readOneWalker 96 = .ok (.iload_n 1, 1) := by decide +kernel
theorem dX8_readOneWalker_97 : decode cX8_readOneWalker 97 = .ok (.iastore, 1) := by decide +kernel
theorem dX8_readOneWalker_98 : decode cX8_readOneWalker 98 = .ok (.aload_n 0, 1) := by decide +kernel
theorem dX8_readOneWalker_99 : decode cX8_readOneWalker 99 = .ok (.getfield 29, 3) := by decide +kernel
theorem dX8_readOneWalker_102 : decode cX8_readOneWalker 102 = .ok (.iconst 3, 1) := by decide +kernel
theorem dX8_readOneWalker_103 : decode cX8_readOneWalker 103 = .ok (.aload_n 0, 1) := by decide +kernel
theorem dX8_readOneWalker_104 : decode cX8_readOneWalker 104 = .ok (.getfield 81, 3) := by decide +kernel
theorem dX8_readOneWalker_107 : decode cX8_readOneWalker 107 = .ok (.imul, 1) := by decide +kernel
theorem dX8_readOneWalker_108 : decode cX8_readOneWalker 108 = .ok (.iconst 1, 1) := by decide +kernel
theorem dX8_readOneWalker_109 : decode cX8_readOneWalker 109 = .ok (.iadd, 1) := by decide +kernel
theorem dX8_readOneWalker_110 : decode cX8_readOneWalker 110 = .ok (.iload_n 2, 1) := by decide +kernel
theorem dX8_readOneWalker_111 : decode cX8_readOneWalker 111 = .ok (.iastore, 1) := by decide +kernel
theorem dX8_readOneWalker_112 : decode cX8_readOneWalker 112 = .ok (.aload_n 0, 1) := by decide +kernel
theorem dX8_readOneWalker_113 : decode cX8_readOneWalker 113 = .ok (.getfield 29, 3) := by decide +kernel
