theorem dX3_readFrom_83 : decode cX3_readFrom 83 = .ok (.iload_n 2, 1) := by decide +kernel
theorem dX3_readFrom_84 : decode cX3_readFrom 84 = .ok (.iconst 4, 1) := by decide +kernel
theorem dX3_readFrom_85 : decode cX3_readFrom 85 = .ok (.imul, 1) := by decide +kernel
theorem dX3_readFrom_86 : decode cX3_readFrom 86 = .ok (.iadd, 1) := by decide +kernel
theorem dX3_readFrom_87 : decode cX3_readFrom 87 = .ok (.iconst 3, 1) := by decide +kernel
theorem dX3_readFrom_88 : decode cX3_readFrom 88 = .ok (.iadd, 1) := by decide +kernel
theorem dX3_readFrom_89 : decode cX3_readFrom 89 = .ok (.invokevirtual 25, 3) := by decide +kernel
theorem dX3_readFrom_92 : decode cX3_readFrom 92 = .ok (.invokestatic 50, 3) := by decide +kernel
theorem dX3_readFrom_95 : decode cX3_readFrom 95 = .ok (.iinc 2 1, 3) := by decide +kernel
theorem dX3_readFrom_98 : decode cX3_readFrom 98 = .ok (.goto (-49), 3) := by decide +kernel
theorem dX3_readFrom_101 : decode cX3_readFrom 101 = .ok (.return_, 1) := by decide +kernel
theorem dX3_size_0 : decode cX3_size 0 = .ok (.aload_n 0, 1) := by decide +kernel
theorem dX3_size_1 : decode cX3_size 1 = .ok (.getfield 47, 3) := by decide +kernel
theorem dX3_size_4 : decode cX3_size 4 = .ok (.ireturn, 1) := by decide +kernel
theorem dX3_has_0 : decode cX3_has 0 = .ok (.iload_n 1, 1) := by decide +kernel
theorem dX3_has_1 : decode cX3_has 1 = .ok (.ifCond .lt 15, 3) := by decide +kernel
theorem dX3_has_4 : decode cX3_has 4 = .ok (.iload_n 1, 1) := by decide +kernel
theorem dX3_has_5 : decode cX3_has 5 = .ok (.aload_n 0, 1) := by decide +kernel
theorem dX3_has_6 : decode cX3_has 6 = .ok (.getfield 47, 3) := by decide +kernel
theorem dX3_has_9 : decode cX3_has 9 = .ok (.if_icmp .ge 7, 3) := by decide +kernel
theorem dX3_has_12 : decode cX3_has 12 = .ok (.iconst 1, 1) := by decide +kernel
theorem dX3_has_13 : decode cX3_has 13 = .ok (.goto 4, 3) := by decide +kernel
theorem dX3_has_16 : decode cX3_has 16 = .ok (.iconst 0, 1) := by decide +kernel
theorem dX3_has_17 : decode cX3_has 17 = .ok (.ireturn, 1) := by decide +kernel
set_option maxRecDepth 20000 in
theorem ggX3_beatOf_X7_at : GoodIn wsX3_beatOf wsX7_at := goodIn_r _ [4] (by decide +kernel) (by decide +kernel)
set_option maxRecDepth 20000 in
theorem gX3_beatOf_X7_at_n54 : GoodIn wsX3_beatOf (wsX7_at) := ggX3_beatOf_X7_at
theorem dX3_beatOf_0 : decode cX3_beatOf 0 = .ok (.aload_n 0, 1) := by decide +kernel
theorem dX3_beatOf_1 : decode cX3_beatOf 1 = .ok (.getfield 9, 3) := by decide +kernel
theorem dX3_beatOf_4 : decode cX3_beatOf 4 = .ok (.iload_n 1, 1) := by decide +kernel
theorem dX3_beatOf_5 : decode cX3_beatOf 5 = .ok (.invokestatic 54, 3) := by decide +kernel
theorem dX3_beatOf_8 : decode cX3_beatOf 8 = .ok (.ireturn, 1) := by decide +kernel
set_option maxRecDepth 20000 in
theorem ggX3_kindOf_X7_at : GoodIn wsX3_kindOf wsX7_at := goodIn_r _ [4] (by decide +kernel) (by decide +kernel)
set_option maxRecDepth 20000 in
theorem gX3_kindOf_X7_at_n54 : GoodIn wsX3_kindOf (wsX7_at) := ggX3_kindOf_X7_at
theorem dX3_kindOf_0 : decode cX3_kindOf 0 = .ok (.aload_n 0, 1) := by decide +kernel
theorem dX3_kindOf_1 : decode cX3_kindOf 1 = .ok (.getfield 15, 3) := by decide +kernel
theorem dX3_kindOf_4 : decode cX3_kindOf 4 = .ok (.iload_n 1, 1) := by decide +kernel
theorem dX3_kindOf_5 : decode cX3_kindOf 5 = .ok (.invokestatic 54, 3) := by decide +kernel
theorem dX3_kindOf_8 : decode cX3_kindOf 8 = .ok (.ireturn, 1) := by decide +kernel
theorem dX3_snowAt_0 : decode cX3_snowAt 0 = .ok (.iload_n 1, 1) := by decide +kernel
theorem dX3_snowAt_1 : decode cX3_snowAt 1 = .ok (.aload_n 0, 1) := by decide +kernel
theorem dX3_snowAt_2 : decode cX3_snowAt 2 = .ok (.getfield 31, 3) := by decide +kernel
theorem dX3_snowAt_5 : decode cX3_snowAt 5 = .ok (.if_icmp .lt 10, 3) := by decide +kernel
theorem dX3_snowAt_8 : decode cX3_snowAt 8 = .ok (.aload_n 0, 1) := by decide +kernel
theorem dX3_snowAt_9 : decode cX3_snowAt 9 = .ok (.getfield 22, 3) := by decide +kernel
theorem dX3_snowAt_12 : decode cX3_snowAt 12 = .ok (.goto 7, 3) := by decide +kernel
theorem dX3_snowAt_15 : decode cX3_snowAt 15 = .ok (.aload_n 0, 1) := by decide +kernel
theorem dX3_snowAt_16 : decode cX3_snowAt 16 = .ok (.getfield 18, 3) := by decide +kernel
theorem dX3_snowAt_19 : decode cX3_snowAt 19 = .ok (.ireturn, 1) := by decide +kernel
theorem dX4_init_0 : decode cX4_init 0 = .ok (.aload_n 0, 1) := by decide +kernel
theorem dX4_init_1 : decode cX4_init 1 = .ok (.invokespecial 3, 3) := by decide +kernel
theorem dX4_init_4 : decode cX4_init 4 = .ok (.aload_n 0, 1) := by decide +kernel
theorem dX4_init_5 : decode cX4_init 5 = .ok (.iconst 0, 1) := by decide +kernel
theorem dX4_init_6 : decode cX4_init 6 = .ok (.iload_n 1, 1) := by decide +kernel
theorem dX4_init_7 : decode cX4_init 7 = .ok (.bipush 14, 2) := by decide +kernel
theorem dX4_init_9 : decode cX4_init 9 = .ok (.invokestatic 9, 3) := by decide +kernel
theorem dX4_init_12 : decode cX4_init 12 = .ok (.invokestatic 15, 3) := by decide +kernel
theorem dX4_init_15 : decode cX4_init 15 = .ok (.bipush 17, 2) := by decide +kernel
theorem dX4_init_17 : decode cX4_init 17 = .ok (.imul, 1) := by decide +kernel
theorem dX4_init_18 : decode cX4_init 18 = .ok (.newarray .int, 2) := by decide +kernel
theorem dX4_init_20 : decode cX4_init 20 = .ok (.putfield 20, 3) := by decide +kernel
theorem dX4_init_23 : decode cX4_init 23 = .ok (.return_, 1) := by decide +kernel
set_option maxRecDepth 20000 in
theorem ggX4_save_X6_writeTo : GoodIn wsX4_save wsX6_writeTo := goodIn_r _ [6, 7, 8, 9, 10, 11, 12, 13, 14, 15, 16, 18, 19, 20, 21, 22, 23] (by decide +kernel) (by decide +kernel)
set_option maxRecDepth 20000 in
theorem gX4_save_X6_writeTo : GoodIn wsX4_save (wsV RX4 26 RX6 yX6_writeTo wsX6_writeTo) := goodIn_app (goodIn_of _ (by decide +kernel)) ggX4_save_X6_writeTo
theorem dX4_save_0 : decode cX4_save 0 = .ok (.aload_n 2, 1) := by decide +kernel
theorem dX4_save_1 : decode cX4_save 1 = .ok (.aload_n 0, 1) := by decide +kernel
theorem dX4_save_2 : decode cX4_save 2 = .ok (.getfield 20, 3) := by decide +kernel
theorem dX4_save_5 : decode cX4_save 5 = .ok (.iload_n 1, 1) := by decide +kernel
theorem dX4_save_6 : decode cX4_save 6 = .ok (.bipush 17, 2) := by decide +kernel
theorem dX4_save_8 : decode cX4_save 8 = .ok (.imul, 1) := by decide +kernel
theorem dX4_save_9 : decode cX4_save 9 = .ok (.invokevirtual 26, 3) := by decide +kernel
theorem dX4_save_12 : decode cX4_save 12 = .ok (.return_, 1) := by decide +kernel
set_option maxRecDepth 20000 in
theorem ggX4_restore_X6_readFrom : GoodIn wsX4_restore wsX6_readFrom := goodIn_r _ [6, 7, 8, 9, 10, 11, 12, 13, 14, 15, 16, 18, 19, 20, 21, 22, 23] (by decide +kernel) (by decide +kernel)
set_option maxRecDepth 20000 in
theorem gX4_restore_X6_readFrom : GoodIn wsX4_restore (wsV RX4 30 RX6 yX6_readFrom wsX6_readFrom) := goodIn_app (goodIn_of _ (by decide +kernel)) ggX4_restore_X6_readFrom
theorem dX4_restore_0 : decode cX4_restore 0 = .ok (.aload_n 2, 1) := by decide +kernel
theorem dX4_restore_1 : decode cX4_restore 1 = .ok (.aload_n 0, 1) := by decide +kernel
theorem dX4_restore_2 : decode cX4_restore 2 = .ok (.getfield 20, 3) := by decide +kernel
theorem dX4_restore_5 : decode cX4_restore 5 = .ok (.iload_n 1, 1) := by decide +kernel
theorem dX4_restore_6 : decode cX4_restore 6 = .ok (.bipush 17, 2) := by decide +kernel
theorem dX4_restore_8 : decode cX4_restore 8 = .ok (.imul, 1) := by decide +kernel
theorem dX4_restore_9 : decode cX4_restore 9 = .ok (.invokevirtual 30, 3) := by decide +kernel
theorem dX4_restore_12 : decode cX4_restore 12 = .ok (.return_, 1) := by decide +kernel
theorem dX5_init_0 : decode cX5_init 0 = .ok (.aload_n 0, 1) := by decide +kernel
theorem dX5_init_1 : decode cX5_init 1 = .ok (.invokespecial 3, 3) := by decide +kernel
theorem dX5_init_4 : decode cX5_init 4 = .ok (.aload_n 0, 1) := by decide +kernel
theorem dX5_init_5 : decode cX5_init 5 = .ok (.bipush 48, 2) := by decide +kernel
theorem dX5_init_7 : decode cX5_init 7 = .ok (.newarray .int, 2) := by decide +kernel
theorem dX5_init_9 : decode cX5_init 9 = .ok (.putfield 9, 3) := by decide +kernel
theorem dX5_init_12 : decode cX5_init 12 = .ok (.return_, 1) := by decide +kernel
theorem dX5_size_0 : decode cX5_size 0 = .ok (.aload_n 0, 1) := by decide +kernel
theorem dX5_size_1 : decode cX5_size 1 = .ok (.getfield 15, 3) := by decide +kernel
theorem dX5_size_4 : decode cX5_size 4 = .ok (.ireturn, 1) := by decide +kernel
theorem dX5_isFull_0 : decode cX5_isFull 0 = .ok (.aload_n 0, 1) := by decide +kernel
theorem dX5_isFull_1 : decode cX5_isFull 1 = .ok (.getfield 15, 3) := by decide +kernel
theorem dX5_isFull_4 : decode cX5_isFull 4 = .ok (.bipush 48, 2) := by decide +kernel
theorem dX5_isFull_6 : decode cX5_isFull 6 = .ok (.if_icmp .lt 7, 3) := by decide +kernel
theorem dX5_isFull_9 : decode cX5_isFull 9 = .ok (.iconst 1, 1) := by decide +kernel
theorem dX5_isFull_10 : decode cX5_isFull 10 = .ok (.goto 4, 3) := by decide +kernel
theorem dX5_isFull_13 : decode cX5_isFull 13 = .ok (.iconst 0, 1) := by decide +kernel
theorem dX5_isFull_14 : decode cX5_isFull 14 = .ok (.ireturn, 1) := by decide +kernel
set_option maxRecDepth 20000 in
theorem ggX5_append_X7_put : GoodIn wsX5_append wsX7_put := goodIn_r _ [5] (by decide +kernel) (by decide +kernel)
set_option maxRecDepth 20000 in
theorem gX5_append_X7_put_n19 : GoodIn wsX5_append (wsX7_put) := ggX5_append_X7_put
theorem dX5_append_0 : decode cX5_append 0 = .ok (.aload_n 0, 1) := by decide +kernel
theorem dX5_append_1 : decode cX5_append 1 = .ok (.getfield 9, 3) := by decide +kernel
theorem dX5_append_4 : decode cX5_append 4 = .ok (.aload_n 0, 1) := by decide +kernel
theorem dX5_append_5 : decode cX5_append 5 = .ok (.getfield 15, 3) := by decide +kernel
theorem dX5_append_8 : decode cX5_append 8 = .ok (.iload_n 1, 1) := by decide +kernel
theorem dX5_append_9 : decode cX5_append 9 = .ok (.invokestatic 19, 3) := by decide +kernel
theorem dX5_append_12 : decode cX5_append 12 = .ok (.aload_n 0, 1) := by decide +kernel
theorem dX5_append_13 : decode cX5_append 13 = .ok (.dup, 1) := by decide +kernel
theorem dX5_append_14 : decode cX5_append 14 = .ok (.getfield 15, 3) := by decide +kernel
theorem dX5_append_17 : decode cX5_append 17 = .ok (.iconst 1, 1) := by decide +kernel
theorem dX5_append_18 : decode cX5_append 18 = .ok (.iadd, 1) := by decide +kernel
theorem dX5_append_19 : decode cX5_append 19 = .ok (.putfield 15, 3) := by decide +kernel
theorem dX5_append_22 : decode cX5_append 22 = .ok (.aload_n 0, 1) := by decide +kernel
theorem dX5_append_23 : decode cX5_append 23 = .ok (.getfield 15, 3) := by decide +kernel
theorem dX5_append_26 : decode cX5_append 26 = .ok (.ireturn, 1) := by decide +kernel
theorem dX5_clear_0 : decode cX5_clear 0 = .ok (.aload_n 0, 1) := by decide +kernel
theorem dX5_clear_1 : decode cX5_clear 1 = .ok (.getfield 15, 3) := by decide +kernel
theorem dX5_clear_4 : decode cX5_clear 4 = .ok (.istore_n 1, 1) := by decide +kernel
theorem dX5_clear_5 : decode cX5_clear 5 = .ok (.aload_n 0, 1) := by decide +kernel
theorem dX5_clear_6 : decode cX5_clear 6 = .ok (.iconst 0, 1) := by decide +kernel
theorem dX5_clear_7 : decode cX5_clear 7 = .ok (.putfield 15, 3) := by decide +kernel
theorem dX5_clear_10 : decode cX5_clear 10 = .ok (.iload_n 1, 1) := by decide +kernel
theorem dX5_clear_11 : decode cX5_clear 11 = .ok (.ireturn, 1) := by decide +kernel
set_option maxRecDepth 20000 in
theorem ggX5_figureAt_X7_at : GoodIn wsX5_figureAt wsX7_at := goodIn_r _ [4] (by decide +kernel) (by decide +kernel)
set_option maxRecDepth 20000 in
theorem gX5_figureAt_X7_at_n23 : GoodIn wsX5_figureAt (wsX7_at) := ggX5_figureAt_X7_at
theorem dX5_figureAt_0 : decode cX5_figureAt 0 = .ok (.aload_n 0, 1) := by decide +kernel
theorem dX5_figureAt_1 : decode cX5_figureAt 1 = .ok (.getfield 9, 3) := by decide +kernel
theorem dX5_figureAt_4 : decode cX5_figureAt 4 = .ok (.iload_n 1, 1) := by decide +kernel
theorem dX5_figureAt_5 : decode cX5_figureAt 5 = .ok (.invokestatic 23, 3) := by decide +kernel
theorem dX5_figureAt_8 : decode cX5_figureAt 8 = .ok (.bipush 48, 2) := by decide +kernel
theorem dX5_figureAt_10 : decode cX5_figureAt 10 = .ok (.isub, 1) := by decide +kernel
theorem dX5_figureAt_11 : decode cX5_figureAt 11 = .ok (.ireturn, 1) := by decide +kernel
set_option maxRecDepth 20000 in
theorem ggX5_faultPlace_X5_fits : GoodIn wsX5_faultPlace wsX5_fits := goodIn_r _ [6, 7, 8, 9, 5, 10, 11, 12, 13, 14, 15, 16, 17, 18, 19, 20, 21, 22, 23, 24, 25, 26] (by decide +kernel) (by decide +kernel)
set_option maxRecDepth 20000 in
theorem gX5_faultPlace_X5_fits : GoodIn wsX5_faultPlace (wsV RX5 27 RX5 yX5_fits wsX5_fits) := goodIn_app (goodIn_of _ (by decide +kernel)) ggX5_faultPlace_X5_fits
theorem dX5_faultPlace_0 : decode cX5_faultPlace 0 = .ok (.iconst 0, 1) := by decide +kernel
theorem dX5_faultPlace_1 : decode cX5_faultPlace 1 = .ok (.istore_n 1, 1) := by decide +kernel
theorem dX5_faultPlace_2 : decode cX5_faultPlace 2 = .ok (.iload_n 1, 1) := by decide +kernel
theorem dX5_faultPlace_3 : decode cX5_faultPlace 3 = .ok (.aload_n 0, 1) := by decide +kernel
theorem dX5_faultPlace_4 : decode cX5_faultPlace 4 = .ok (.getfield 15, 3) := by decide +kernel
theorem dX5_faultPlace_7 : decode cX5_faultPlace 7 = .ok (.if_icmp .ge 19, 3) := by decide +kernel
theorem dX5_faultPlace_10 : decode cX5_faultPlace 10 = .ok (.aload_n 0, 1) := by decide +kernel
theorem dX5_faultPlace_11 : decode cX5_faultPlace 11 = .ok (.iload_n 1, 1) := by decide +kernel
theorem dX5_faultPlace_12 : decode cX5_faultPlace 12 = .ok (.invokevirtual 27, 3) := by decide +kernel
theorem dX5_faultPlace_15 : decode cX5_faultPlace 15 = .ok (.ifCond .ne 5, 3) := by decide +kernel
theorem dX5_faultPlace_18 : decode cX5_faultPlace 18 = .ok (.iload_n 1, 1) := by decide +kernel
theorem dX5_faultPlace_19 : decode cX5_faultPlace 19 = .ok (.ireturn, 1) := by decide +kernel
theorem dX5_faultPlace_20 : decode cX5_faultPlace 20 = .ok (.iinc 1 1, 3) := by decide +kernel
theorem dX5_faultPlace_23 : decode cX5_faultPlace 23 = .ok (.goto (-21), 3) := by decide +kernel
theorem dX5_faultPlace_26 : decode cX5_faultPlace 26 = .ok (.aload_n 0, 1) := by decide +kernel
theorem dX5_faultPlace_27 : decode cX5_faultPlace 27 = .ok (.getfield 15, 3) := by decide +kernel
theorem dX5_faultPlace_30 : decode cX5_faultPlace 30 = .ok (.iconst 4, 1) := by decide +kernel
theorem dX5_faultPlace_31 : decode cX5_faultPlace 31 = .ok (.if_icmp .lt 19, 3) := by decide +kernel
theorem dX5_faultPlace_34 : decode cX5_faultPlace 34 = .ok (.aload_n 0, 1) := by decide +kernel
theorem dX5_faultPlace_35 : decode cX5_faultPlace 35 = .ok (.getfield 15, 3) := by decide +kernel
theorem dX5_faultPlace_38 : decode cX5_faultPlace 38 = .ok (.iconst 4, 1) := by decide +kernel
theorem dX5_faultPlace_39 : decode cX5_faultPlace 39 = .ok (.isub, 1) := by decide +kernel
theorem dX5_faultPlace_40 : decode cX5_faultPlace 40 = .ok (.iconst 4, 1) := by decide +kernel
theorem dX5_faultPlace_41 : decode cX5_faultPlace 41 = .ok (.irem, 1) := by decide +kernel
theorem dX5_faultPlace_42 : decode cX5_faultPlace 42 = .ok (.ifCond .ne 8, 3) := by decide +kernel
theorem dX5_faultPlace_45 : decode cX5_faultPlace 45 = .ok (.bipush (-9), 2) := by decide +kernel
theorem dX5_faultPlace_47 : decode cX5_faultPlace 47 = .ok (.goto 7, 3) := by decide +kernel
theorem dX5_faultPlace_50 : decode cX5_faultPlace 50 = .ok (.aload_n 0, 1) := by decide +kernel
theorem dX5_faultPlace_51 : decode cX5_faultPlace 51 = .ok (.getfield 15, 3) := by decide +kernel
theorem dX5_faultPlace_54 : decode cX5_faultPlace 54 = .ok (.ireturn, 1) := by decide +kernel
set_option maxRecDepth 20000 in
theorem ggX5_fits_X5_fitsHead : GoodIn wsX5_fits wsX5_fitsHead := goodIn_r _ [5, 6, 7, 8, 9, 10, 11, 12, 4, 13, 14, 15, 20, 21] (by decide +kernel) (by decide +kernel)
set_option maxRecDepth 20000 in
theorem gX5_fits_X5_fitsHead : GoodIn wsX5_fits (wsV RX5 31 RX5 yX5_fitsHead wsX5_fitsHead) := goodIn_app (goodIn_of _ (by decide +kernel)) ggX5_fits_X5_fitsHead
set_option maxRecDepth 20000 in
theorem ggX5_fits_X5_fitsWalker : GoodIn wsX5_fits wsX5_fitsWalker := goodIn_r _ [19, 6, 7, 8, 9, 10, 11, 12, 4, 13, 14, 15, 20, 21] (by decide +kernel) (by decide +kernel)
set_option maxRecDepth 20000 in
theorem gX5_fits_X5_fitsWalker : GoodIn wsX5_fits (wsV RX5 34 RX5 yX5_fitsWalker wsX5_fitsWalker) := goodIn_app (goodIn_of _ (by decide +kernel)) ggX5_fits_X5_fitsWalker
theorem dX5_fits_0 : decode cX5_fits 0 = .ok (.iload_n 1, 1) := by decide +kernel
theorem dX5_fits_1 : decode cX5_fits 1 = .ok (.iconst 4, 1) := by decide +kernel
theorem dX5_fits_2 : decode cX5_fits 2 = .ok (.if_icmp .ge 9, 3) := by decide +kernel
theorem dX5_fits_5 : decode cX5_fits 5 = .ok (.aload_n 0, 1) := by decide +kernel
theorem dX5_fits_6 : decode cX5_fits 6 = .ok (.iload_n 1, 1) := by decide +kernel
theorem dX5_fits_7 : decode cX5_fits 7 = .ok (.invokevirtual 31, 3) := by decide +kernel
theorem dX5_fits_10 : decode cX5_fits 10 = .ok (.ireturn, 1) := by decide +kernel
theorem dX5_fits_11 : decode cX5_fits 11 = .ok (.iload_n 1, 1) := by decide +kernel
theorem dX5_fits_12 : decode cX5_fits 12 = .ok (.bipush 24, 2) := by decide +kernel
theorem dX5_fits_14 : decode cX5_fits 14 = .ok (.if_icmp .ge 20, 3) := by decide +kernel
theorem dX5_fits_17 : decode cX5_fits 17 = .ok (.aload_n 0, 1) := by decide +kernel
theorem dX5_fits_18 : decode cX5_fits 18 = .ok (.iload_n 1, 1) := by decide +kernel
theorem dX5_fits_19 : decode cX5_fits 19 = .ok (.iload_n 1, 1) := by decide +kernel
theorem dX5_fits_20 : decode cX5_fits 20 = .ok (.iconst 4, 1) := by decide +kernel
theorem dX5_fits_21 : decode cX5_fits 21 = .ok (.isub, 1) := by decide +kernel
theorem dX5_fits_22 : decode cX5_fits 22 = .ok (.iconst 4, 1) := by decide +kernel
theorem dX5_fits_23 : decode cX5_fits 23 = .ok (.irem, 1) := by decide +kernel
theorem dX5_fits_24 : decode cX5_fits 24 = .ok (.invokevirtual 34, 3) := by decide +kernel
theorem dX5_fits_27 : decode cX5_fits 27 = .ok (.ifCond .eq 7, 3) := by decide +kernel
theorem dX5_fits_30 : decode cX5_fits 30 = .ok (.iconst 1, 1) := by decide +kernel
theorem dX5_fits_31 : decode cX5_fits 31 = .ok (.goto 4, 3) := by decide +kernel
theorem dX5_fits_34 : decode cX5_fits 34 = .ok (.iconst 0, 1) := by decide +kernel
theorem dX5_fits_35 : decode cX5_fits 35 = .ok (.ireturn, 1) := by decide +kernel
set_option maxRecDepth 20000 in
theorem ggX5_fitsHead_X7_at : GoodIn wsX5_fitsHead wsX7_at := goodIn_r _ [4] (by decide +kernel) (by decide +kernel)
set_option maxRecDepth 20000 in
theorem gX5_fitsHead_X7_at_n23 : GoodIn wsX5_fitsHead (wsX7_at) := ggX5_fitsHead_X7_at
set_option maxRecDepth 20000 in
theorem ggX5_fitsHead_X5_figureAt : GoodIn wsX5_fitsHead wsX5_figureAt := goodIn_r _ [9, 1, 2, 3, 4, 12, 13] (by decide +kernel) (by decide +kernel)
set_option maxRecDepth 20000 in
theorem gX5_fitsHead_X5_figureAt : GoodIn wsX5_fitsHead (wsV RX5 38 RX5 yX5_figureAt wsX5_figureAt) := goodIn_app (goodIn_of _ (by decide +kernel)) ggX5_fitsHead_X5_figureAt
set_option maxRecDepth 20000 in
theorem ggX5_fitsHead_X7_isBetween : GoodIn wsX5_fitsHead wsX7_isBetween := goodIn_r _ [11] (by decide +kernel) (by decide +kernel)
set_option maxRecDepth 20000 in
theorem gX5_fitsHead_X7_isBetween_n42 : GoodIn wsX5_fitsHead (wsX7_isBetween) := ggX5_fitsHead_X7_isBetween
theorem dX5_fitsHead_0 : decode cX5_fitsHead 0 = .ok (.iload_n 1, 1) := by decide +kernel
theorem dX5_fitsHead_1 : decode cX5_fitsHead 1 = .ok (.lookupswitch 58 #[(0, 27), (2, 46)], 27) := by decide +kernel
theorem dX5_fitsHead_28 : decode cX5_fitsHead 28 = .ok (.aload_n 0, 1) := by decide +kernel
theorem dX5_fitsHead_29 : decode cX5_fitsHead 29 = .ok (.getfield 9, 3) := by decide +kernel
theorem dX5_fitsHead_32 : decode cX5_fitsHead 32 = .ok (.iload_n 1, 1) := by decide +kernel
theorem dX5_fitsHead_33 : decode cX5_fitsHead 33 = .ok (.invokestatic 23, 3) := by decide +kernel
theorem dX5_fitsHead_36 : decode cX5_fitsHead 36 = .ok (.bipush 80, 2) := by decide +kernel
theorem dX5_fitsHead_38 : decode cX5_fitsHead 38 = .ok (.if_icmp .ne 7, 3) := by decide +kernel
theorem dX5_fitsHead_41 : decode cX5_fitsHead 41 = .ok (.iconst 1, 1) := by decide +kernel
theorem dX5_fitsHead_42 : decode cX5_fitsHead 42 = .ok (.goto 4, 3) := by decide +kernel
theorem dX5_fitsHead_45 : decode cX5_fitsHead 45 = .ok (.iconst 0, 1) := by decide +kernel
theorem dX5_fitsHead_46 : decode cX5_fitsHead 46 = .ok (.ireturn, 1) := by decide +kernel
theorem dX5_fitsHead_47 : decode cX5_fitsHead 47 = .ok (.aload_n 0, 1) := by decide +kernel
theorem dX5_fitsHead_48 : decode cX5_fitsHead 48 = .ok (.iload_n 1, 1) := by decide +kernel
theorem dX5_fitsHead_49 : decode cX5_fitsHead 49 = .ok (.invokevirtual 38, 3) := by decide +kernel
theorem dX5_fitsHead_52 : decode cX5_fitsHead 52 = .ok (.iconst 0, 1) := by decide +kernel
theorem dX5_fitsHead_53 : decode cX5_fitsHead 53 = .ok (.bipush 9, 2) := by decide +kernel
theorem dX5_fitsHead_55 : decode cX5_fitsHead 55 = .ok (.invokestatic 42, 3) := by decide +kernel
theorem dX5_fitsHead_58 : decode cX5_fitsHead 58 = .ok (.ireturn, 1) := by decide +kernel
theorem dX5_fitsHead_59 : decode cX5_fitsHead 59 = .ok (.aload_n 0, 1) := by decide +kernel
theorem dX5_fitsHead_60 : decode cX5_fitsHead 60 = .ok (.iload_n 1, 1) := by decide +kernel
theorem dX5_fitsHead_61 : decode cX5_fitsHead 61 = .ok (.invokevirtual 38, 3) := by decide +kernel
theorem dX5_fitsHead_64 : decode cX5_fitsHead 64 = .ok (.iconst 1, 1) := by decide +kernel
theorem dX5_fitsHead_65 : decode cX5_fitsHead 65 = .ok (.bipush 9, 2) := by decide +kernel
theorem dX5_fitsHead_67 : decode cX5_fitsHead 67 = .ok (.invokestatic 42, 3) := by decide +kernel
theorem dX5_fitsHead_70 : decode cX5_fitsHead 70 = .ok (.ireturn, 1) := by decide +kernel
set_option maxRecDepth 20000 in
theorem ggX5_fitsWalker_X7_at : GoodIn wsX5_fitsWalker wsX7_at := goodIn_r _ [4] (by decide +kernel) (by decide +kernel)
set_option maxRecDepth 20000 in
theorem gX5_fitsWalker_X7_at_n23 : GoodIn wsX5_fitsWalker (wsX7_at) := ggX5_fitsWalker_X7_at
set_option maxRecDepth 20000 in
theorem ggX5_fitsWalker_X5_figureAt : GoodIn wsX5_fitsWalker wsX5_figureAt := goodIn_r _ [9, 1, 2, 3, 4, 12, 13] (by decide +kernel) (by decide +kernel)
set_option maxRecDepth 20000 in
theorem gX5_fitsWalker_X5_figureAt : GoodIn wsX5_fitsWalker (wsV RX5 38 RX5 yX5_figureAt wsX5_figureAt) := goodIn_app (goodIn_of _ (by decide +kernel)) ggX5_fitsWalker_X5_figureAt
set_option maxRecDepth 20000 in
theorem ggX5_fitsWalker_X7_isBetween : GoodIn wsX5_fitsWalker wsX7_isBetween := goodIn_r _ [11] (by decide +kernel) (by decide +kernel)
set_option maxRecDepth 20000 in
theorem gX5_fitsWalker_X7_isBetween_n42 : GoodIn wsX5_fitsWalker (wsX7_isBetween) := ggX5_fitsWalker_X7_isBetween
theorem dX5_fitsWalker_0 : decode cX5_fitsWalker 0 = .ok (.iload_n 2, 1) := by decide +kernel
theorem dX5_fitsWalker_1 : decode cX5_fitsWalker 1 = .ok (.tableswitch 69 0 2 #[27, 46, 58], 27) := by decide +kernel
theorem dX5_fitsWalker_28 : decode cX5_fitsWalker 28 = .ok (.aload_n 0, 1) := by decide +kernel
theorem dX5_fitsWalker_29 : decode cX5_fitsWalker 29 = .ok (.getfield 9, 3) := by decide +kernel
theorem dX5_fitsWalker_32 : decode cX5_fitsWalker 32 = .ok (.iload_n 1, 1) := by decide +kernel
theorem dX5_fitsWalker_33 : decode cX5_fitsWalker 33 = .ok (.invokestatic 23, 3) := by decide +kernel
theorem dX5_fitsWalker_36 : decode cX5_fitsWalker 36 = .ok (.bipush 87, 2) := by decide +kernel
theorem dX5_fitsWalker_38 : decode cX5_fitsWalker 38 = .ok (.if_icmp .ne 7, 3) := by decide +kernel
theorem dX5_fitsWalker_41 : decode cX5_fitsWalker 41 = .ok (.iconst 1, 1) := by decide +kernel
theorem dX5_fitsWalker_42 : decode cX5_fitsWalker 42 = .ok (.goto 4, 3) := by decide +kernel
theorem dX5_fitsWalker_45 : decode cX5_fitsWalker 45 = .ok (.iconst 0, 1) := by decide +kernel
theorem dX5_fitsWalker_46 : decode cX5_fitsWalker 46 = .ok (.ireturn, 1) := by decide +kernel
theorem dX5_fitsWalker_47 : decode cX5_fitsWalker 47 = .ok (.aload_n 0, 1) := by decide +kernel
theorem dX5_fitsWalker_48 : decode cX5_fitsWalker 48 = .ok (.iload_n 1, 1) := by decide +kernel
theorem dX5_fitsWalker_49 : decode cX5_fitsWalker 49 = .ok (.invokevirtual 38, 3) := by decide +kernel
theorem dX5_fitsWalker_52 : decode cX5_fitsWalker 52 = .ok (.iconst 1, 1) := by decide +kernel
theorem dX5_fitsWalker_53 : decode cX5_fitsWalker 53 = .ok (.bipush 9, 2) := by decide +kernel
theorem dX5_fitsWalker_55 : decode cX5_fitsWalker 55 = .ok (.invokestatic 42, 3) := by decide +kernel
theorem dX5_fitsWalker_58 : decode cX5_fitsWalker 58 = .ok (.ireturn, 1) := by decide +kernel
theorem dX5_fitsWalker_59 : decode cX5_fitsWalker 59 = .ok (.aload_n 0, 1) := by decide +kernel
theorem dX5_fitsWalker_60 : decode cX5_fitsWalker 60 = .ok (.iload_n 1, 1) := by decide +kernel
theorem dX5_fitsWalker_61 : decode cX5_fitsWalker 61 = .ok (.invokevirtual 38, 3) := by decide +kernel
theorem dX5_fitsWalker_64 : decode cX5_fitsWalker 64 = .ok (.iconst 1, 1) := by decide +kernel
theorem dX5_fitsWalker_65 : decode cX5_fitsWalker 65 = .ok (.iconst 4, 1) := by decide +kernel
theorem dX5_fitsWalker_66 : decode cX5_fitsWalker 66 = .ok (.invokestatic 42, 3) := by decide +kernel
theorem dX5_fitsWalker_69 : decode cX5_fitsWalker 69 = .ok (.ireturn, 1) := by decide +kernel
theorem dX5_fitsWalker_70 : decode cX5_fitsWalker 70 = .ok (.aload_n 0, 1) := by decide +kernel
theorem dX5_fitsWalker_71 : decode cX5_fitsWalker 71 = .ok (.iload_n 1, 1) := by decide +kernel
theorem dX5_fitsWalker_72 : decode cX5_fitsWalker 72 = .ok (.invokevirtual 38, 3) := by decide +kernel
theorem dX5_fitsWalker_75 : decode cX5_fitsWalker 75 = .ok (.iconst 0, 1) := by decide +kernel
theorem dX5_fitsWalker_76 : decode cX5_fitsWalker 76 = .ok (.iconst 3, 1) := by decide +kernel
theorem dX5_fitsWalker_77 : decode cX5_fitsWalker 77 = .ok (.invokestatic 42, 3) := by decide +kernel
theorem dX5_fitsWalker_80 : decode cX5_fitsWalker 80 = .ok (.ireturn, 1) := by decide +kernel
theorem dX6_init_0 : decode cX6_init 0 = .ok (.aload_n 0, 1) := by decide +kernel
theorem dX6_init_1 : decode cX6_init 1 = .ok (.invokespecial 3, 3) := by decide +kernel
theorem dX6_init_4 : decode cX6_init 4 = .ok (.aload_n 0, 1) := by decide +kernel
theorem dX6_init_5 : decode cX6_init 5 = .ok (.iconst 5, 1) := by decide +kernel
theorem dX6_init_6 : decode cX6_init 6 = .ok (.newarray .int, 2) := by decide +kernel
theorem dX6_init_8 : decode cX6_init 8 = .ok (.putfield 9, 3) := by decide +kernel
theorem dX6_init_11 : decode cX6_init 11 = .ok (.aload_n 0, 1) := by decide +kernel
theorem dX6_init_12 : decode cX6_init 12 = .ok (.iconst 5, 1) := by decide +kernel
theorem dX6_init_13 : decode cX6_init 13 = .ok (.newarray .int, 2) := by decide +kernel
theorem dX6_init_15 : decode cX6_init 15 = .ok (.putfield 15, 3) := by decide +kernel
theorem dX6_init_18 : decode cX6_init 18 = .ok (.aload_n 0, 1) := by decide +kernel
theorem dX6_init_19 : decode cX6_init 19 = .ok (.iconst 5, 1) := by decide +kernel
theorem dX6_init_20 : decode cX6_init 20 = .ok (.newarray .int, 2) := by decide +kernel
theorem dX6_init_22 : decode cX6_init 22 = .ok (.putfield 18, 3) := by decide +kernel
theorem dX6_init_25 : decode cX6_init 25 = .ok (.aload_n 0, 1) := by decide +kernel
theorem dX6_init_26 : decode cX6_init 26 = .ok (.aload_n 1, 1) := by decide +kernel
theorem dX6_init_27 : decode cX6_init 27 = .ok (.putfield 21, 3) := by decide +kernel
theorem dX6_init_30 : decode cX6_init 30 = .ok (.return_, 1) := by decide +kernel
set_option maxRecDepth 20000 in
theorem ggX6_begin_X7_put : GoodIn wsX6_begin wsX7_put := goodIn_r _ [9] (by decide +kernel) (by decide +kernel)
set_option maxRecDepth 20000 in
theorem gX6_begin_X7_put_n25 : GoodIn wsX6_begin (wsX7_put) := ggX6_begin_X7_put
set_option maxRecDepth 20000 in
theorem ggX6_begin_X3_has : GoodIn wsX6_begin wsX3_has := goodIn_r _ [14, 15, 30, 31, 32, 33, 34, 35] (by decide +kernel) (by decide +kernel)
set_option maxRecDepth 20000 in
theorem gX6_begin_X3_has : GoodIn wsX6_begin (wsV RX6 29 RX3 yX3_has wsX3_has) := goodIn_app (goodIn_of _ (by decide +kernel)) ggX6_begin_X3_has
set_option maxRecDepth 20000 in
theorem ggX6_begin_X5_figureAt : GoodIn wsX6_begin wsX5_figureAt := goodIn_r _ [20, 21, 22, 8, 23, 36, 37] (by decide +kernel) (by decide +kernel)
set_option maxRecDepth 20000 in
theorem gX6_begin_X5_figureAt : GoodIn wsX6_begin (wsV RX6 35 RX5 yX5_figureAt wsX5_figureAt) := goodIn_app (goodIn_of _ (by decide +kernel)) ggX6_begin_X5_figureAt
theorem dX6_begin_0 : decode cX6_begin 0 = .ok (.iconst 0, 1) := by decide +kernel
theorem dX6_begin_1 : decode cX6_begin 1 = .ok (.istore_n 2, 1) := by decide +kernel
theorem dX6_begin_2 : decode cX6_begin 2 = .ok (.iload_n 2, 1) := by decide +kernel
theorem dX6_begin_3 : decode cX6_begin 3 = .ok (.iconst 5, 1) := by decide +kernel
theorem dX6_begin_4 : decode cX6_begin 4 = .ok (.if_icmp .ge 61, 3) := by decide +kernel
theorem dX6_begin_7 : decode cX6_begin 7 = .ok (.aload_n 0, 1) := by decide +kernel
theorem dX6_begin_8 : decode cX6_begin 8 = .ok (.getfield 9, 3) := by decide +kernel
theorem dX6_begin_11 : decode cX6_begin 11 = .ok (.iload_n 2, 1) := by decide +kernel
theorem dX6_begin_12 : decode cX6_begin 12 = .ok (.iload_n 2, 1) := by decide +kernel
theorem dX6_begin_13 : decode cX6_begin 13 = .ok (.invokestatic 25, 3) := by decide +kernel
theorem dX6_begin_16 : decode cX6_begin 16 = .ok (.aload_n 0, 1) := by decide +kernel
theorem dX6_begin_17 : decode cX6_begin 17 = .ok (.getfield 15, 3) := by decide +kernel
theorem dX6_begin_20 : decode cX6_begin 20 = .ok (.iload_n 2, 1) := by decide +kernel
theorem dX6_begin_21 : decode cX6_begin 21 = .ok (.aload_n 0, 1) := by decide +kernel
theorem dX6_begin_22 : decode cX6_begin 22 = .ok (.getfield 21, 3) := by decide +kernel
theorem dX6_begin_25 : decode cX6_begin 25 = .ok (.iload_n 2, 1) := by decide +kernel
theorem dX6_begin_26 : decode cX6_begin 26 = .ok (.invokevirtual 29, 3) := by decide +kernel
theorem dX6_begin_29 : decode cX6_begin 29 = .ok (.ifCond .eq 17, 3) := by decide +kernel
theorem dX6_begin_32 : decode cX6_begin 32 = .ok (.aload_n 1, 1) := by decide +kernel
theorem dX6_begin_33 : decode cX6_begin 33 = .ok (.iconst 4, 1) := by decide +kernel
theorem dX6_begin_34 : decode cX6_begin 34 = .ok (.iload_n 2, 1) := by decide +kernel
theorem dX6_begin_35 : decode cX6_begin 35 = .ok (.iconst 4, 1) := by decide +kernel
theorem dX6_begin_36 : decode cX6_begin 36 = .ok (.imul, 1) := by decide +kernel
theorem dX6_begin_37 : decode cX6_begin 37 = .ok (.iadd, 1) := by decide +kernel
theorem dX6_begin_38 : decode cX6_begin 38 = .ok (.iconst 1, 1) := by decide +kernel
theorem dX6_begin_39 : decode cX6_begin 39 = .ok (.iadd, 1) := by decide +kernel
theorem dX6_begin_40 : decode cX6_begin 40 = .ok (.invokevirtual 35, 3) := by decide +kernel
theorem dX6_begin_43 : decode cX6_begin 43 = .ok (.goto 4, 3) := by decide +kernel
theorem dX6_begin_46 : decode cX6_begin 46 = .ok (.iconst 0, 1) := by decide +kernel
theorem dX6_begin_47 : decode cX6_begin 47 = .ok (.invokestatic 25, 3) := by decide +kernel
theorem dX6_begin_50 : decode cX6_begin 50 = .ok (.aload_n 0, 1) := by decide +kernel
theorem dX6_begin_51 : decode cX6_begin 51 = .ok (.getfield 18, 3) := by decide +kernel
theorem dX6_begin_54 : decode cX6_begin 54 = .ok (.iload_n 2, 1) := by decide +kernel
theorem dX6_begin_55 : decode cX6_begin 55 = .ok (.iconst 0, 1) := by decide +kernel
theorem dX6_begin_56 : decode cX6_begin 56 = .ok (.invokestatic 25, 3) := by decide +kernel
theorem dX6_begin_59 : decode cX6_begin 59 = .ok (.iinc 2 1, 3) := by decide +kernel
theorem dX6_begin_62 : decode cX6_begin 62 = .ok (.goto (-60), 3) := by decide +kernel
theorem dX6_begin_65 : decode cX6_begin 65 = .ok (.aload_n 0, 1) := by decide +kernel
theorem dX6_begin_66 : decode cX6_begin 66 = .ok (.iconst 0, 1) := by decide +kernel
theorem dX6_begin_67 : decode cX6_begin 67 = .ok (.putfield 41, 3) := by decide +kernel
theorem dX6_begin_70 : decode cX6_begin 70 = .ok (.aload_n 0, 1) := by decide +kernel
theorem dX6_begin_71 : decode cX6_begin 71 = .ok (.iconst 0, 1) := by decide +kernel
theorem dX6_begin_72 : decode cX6_begin 72 = .ok (.putfield 45, 3) := by decide +kernel
theorem dX6_begin_75 : decode cX6_begin 75 = .ok (.return_, 1) := by decide +kernel
set_option maxRecDepth 20000 in
theorem ggX6_copyFrom_X7_at : GoodIn wsX6_copyFrom wsX7_at := goodIn_r _ [8] (by decide +kernel) (by decide +kernel)
set_option maxRecDepth 20000 in
theorem gX6_copyFrom_X7_at_n48 : GoodIn wsX6_copyFrom (wsX7_at) := ggX6_copyFrom_X7_at
set_option maxRecDepth 20000 in
theorem ggX6_copyFrom_X7_put : GoodIn wsX6_copyFrom wsX7_put := goodIn_r _ [10] (by decide +kernel) (by decide +kernel)
set_option maxRecDepth 20000 in
theorem gX6_copyFrom_X7_put_n25 : GoodIn wsX6_copyFrom (wsX7_put) := ggX6_copyFrom_X7_put
theorem dX6_copyFrom_0 : decode cX6_copyFrom 0 = .ok (.iconst 0, 1) := by decide +kernel
theorem dX6_copyFrom_1 : decode cX6_copyFrom 1 = .ok (.istore_n 2, 1) := by decide +kernel
theorem dX6_copyFrom_2 : decode cX6_copyFrom 2 = .ok (.iload_n 2, 1) := by decide +kernel
theorem dX6_copyFrom_3 : decode cX6_copyFrom 3 = .ok (.iconst 5, 1) := by decide +kernel
theorem dX6_copyFrom_4 : decode cX6_copyFrom 4 = .ok (.if_icmp .ge 57, 3) := by decide +kernel
theorem dX6_copyFrom_7 : decode cX6_copyFrom 7 = .ok (.aload_n 0, 1) := by decide +kernel
theorem dX6_copyFrom_8 : decode cX6_copyFrom 8 = .ok (.getfield 9, 3) := by decide +kernel
theorem dX6_copyFrom_11 : decode cX6_copyFrom 11 = .ok (.iload_n 2, 1) := by decide +kernel
theorem dX6_copyFrom_12 : decode cX6_copyFrom 12 = .ok (.aload_n 1, 1) := by decide +kernel
theorem dX6_copyFrom_13 : decode cX6_copyFrom 13 = .ok (.getfield 9, 3) := by decide +kernel
theorem dX6_copyFrom_16 : decode cX6_copyFrom 16 = .ok (.iload_n 2, 1) := by decide +kernel
theorem dX6_copyFrom_17 : decode cX6_copyFrom 17 = .ok (.invokestatic 48, 3) := by decide +kernel
theorem dX6_copyFrom_20 : decode cX6_copyFrom 20 = .ok (.invokestatic 25, 3) := by decide +kernel
theorem dX6_copyFrom_23 : decode cX6_copyFrom 23 = .ok (.aload_n 0, 1) := by decide +kernel
theorem dX6_copyFrom_24 : decode cX6_copyFrom 24 = .ok (.getfield 15, 3) := by decide +kernel
theorem dX6_copyFrom_27 : decode cX6_copyFrom 27 = .ok (.iload_n 2, 1) := by decide +kernel
theorem dX6_copyFrom_28 : decode cX6_copyFrom 28 = .ok (.aload_n 1, 1) := by decide +kernel
theorem dX6_copyFrom_29 : decode cX6_copyFrom 29 = .ok (.getfield 15, 3) := by decide +kernel
theorem dX6_copyFrom_32 : decode cX6_copyFrom 32 = .ok (.iload_n 2, 1) := by decide +kernel
theorem dX6_copyFrom_33 : decode cX6_copyFrom 33 = .ok (.invokestatic 48, 3) := by decide +kernel
theorem dX6_copyFrom_36 : decode cX6_copyFrom 36 = .ok (.invokestatic 25, 3) := by decide +kernel
theorem dX6_copyFrom_39 : decode cX6_copyFrom 39 = .ok (.aload_n 0, 1) := by decide +kernel
theorem dX6_copyFrom_40 : decode cX6_copyFrom 40 = .ok (.getfield 18, 3) := by decide +kernel
theorem dX6_copyFrom_43 : decode cX6_copyFrom 43 = .ok (.iload_n 2, 1) := by decide +kernel
theorem dX6_copyFrom_44 : decode cX6_copyFrom 44 = .ok (.aload_n 1, 1) := by decide +kernel
theorem dX6_copyFrom_45 : decode cX6_copyFrom 45 = .ok (.getfield 18, 3) := by decide +kernel
theorem dX6_copyFrom_48 : decode cX6_copyFrom 48 = .ok (.iload_n 2, 1) := by decide +kernel
theorem dX6_copyFrom_49 : decode cX6_copyFrom 49 = .ok (.invokestatic 48, 3) := by decide +kernel
theorem dX6_copyFrom_52 : decode cX6_copyFrom 52 = .ok (.invokestatic 25, 3) := by decide +kernel
theorem dX6_copyFrom_55 : decode cX6_copyFrom 55 = .ok (.iinc 2 1, 3) := by decide +kernel
theorem dX6_copyFrom_58 : decode cX6_copyFrom 58 = .ok (.goto (-56), 3) := by decide +kernel
theorem dX6_copyFrom_61 : decode cX6_copyFrom 61 = .ok (.aload_n 0, 1) := by decide +kernel
theorem dX6_copyFrom_62 : decode cX6_copyFrom 62 = .ok (.aload_n 1, 1) := by decide +kernel
theorem dX6_copyFrom_63 : decode cX6_copyFrom 63 = .ok (.getfield 41, 3) := by decide +kernel
theorem dX6_copyFrom_66 : decode cX6_copyFrom 66 = .ok (.putfield 41, 3) := by decide +kernel
theorem dX6_copyFrom_69 : decode cX6_copyFrom 69 = .ok (.aload_n 0, 1) := by decide +kernel
theorem dX6_copyFrom_70 : decode cX6_copyFrom 70 = .ok (.aload_n 1, 1) := by decide +kernel
theorem dX6_copyFrom_71 : decode cX6_copyFrom 71 = .ok (.getfield 45, 3) := by decide +kernel
theorem dX6_copyFrom_74 : decode cX6_copyFrom 74 = .ok (.putfield 45, 3) := by decide +kernel
theorem dX6_copyFrom_77 : decode cX6_copyFrom 77 = .ok (.return_, 1) := by decide +kernel
set_option maxRecDepth 20000 in
theorem ggX6_writeTo_X7_at : GoodIn wsX6_writeTo wsX7_at := goodIn_r _ [8] (by decide +kernel) (by decide +kernel)
set_option maxRecDepth 20000 in
theorem gX6_writeTo_X7_at_n48 : GoodIn wsX6_writeTo (wsX7_at) := ggX6_writeTo_X7_at
set_option maxRecDepth 20000 in
theorem ggX6_writeTo_X7_put : GoodIn wsX6_writeTo wsX7_put := goodIn_r _ [10] (by decide +kernel) (by decide +kernel)
set_option maxRecDepth 20000 in
theorem gX6_writeTo_X7_put_n25 : GoodIn wsX6_writeTo (wsX7_put) := ggX6_writeTo_X7_put
theorem dX6_writeTo_0 : decode cX6_writeTo 0 = .ok (.iconst 0, 1) := by decide +kernel
theorem dX6_writeTo_1 : decode cX6_writeTo 1 = .ok (.istore_n 3, 1) := by decide +kernel
theorem dX6_writeTo_2 : decode cX6_writeTo 2 = .ok (.iload_n 3, 1) := by decide +kernel
theorem dX6_writeTo_3 : decode cX6_writeTo 3 = .ok (.iconst 5, 1) := by decide +kernel
theorem dX6_writeTo_4 : decode cX6_writeTo 4 = .ok (.if_icmp .ge 59, 3) := by decide +kernel
theorem dX6_writeTo_7 : decode cX6_writeTo 7 = .ok (.aload_n 1, 1) := by decide +kernel
theorem dX6_writeTo_8 : decode cX6_writeTo 8 = .ok (.iload_n 2, 1) := by decide +kernel
theorem dX6_writeTo_9 : decode cX6_writeTo 9 = .ok (.iload_n 3, 1) := by decide +kernel
theorem dX6_writeTo_10 : decode cX6_writeTo 10 = .ok (.iadd, 1) := by decide +kernel
theorem dX6_writeTo_11 : decode cX6_writeTo 11 = .ok (.aload_n 0, 1) := by decide +kernel
theorem dX6_writeTo_12 : decode cX6_writeTo 12 = .ok (.getfield 9, 3) := by decide +kernel
theorem dX6_writeTo_15 : decode cX6_writeTo 15 = .ok (.iload_n 3, 1) := by decide +kernel
theorem dX6_writeTo_16 : decode cX6_writeTo 16 = .ok (.invokestatic 48, 3) := by decide +kernel
theorem dX6_writeTo_19 : decode cX6_writeTo 19 = .ok (.invokestatic 25, 3) := by decide +kernel
theorem dX6_writeTo_22 : decode cX6_writeTo 22 = .ok (.aload_n 1, 1) := by decide +kernel
theorem dX6_writeTo_23 : decode cX6_writeTo 23 = .ok (.iload_n 2, 1) := by decide +kernel
theorem dX6_writeTo_24 : decode cX6_writeTo 24 = .ok (.iconst 5, 1) := by decide +kernel
theorem dX6_writeTo_25 : decode cX6_writeTo 25 = .ok (.iadd, 1) := by decide +kernel
theorem dX6_writeTo_26 : decode cX6_writeTo 26 = .ok (.iload_n 3, 1) := by decide +kernel
theorem dX6_writeTo_27 : decode cX6_writeTo 27 = .ok (.iadd, 1) := by decide +kernel
theorem dX6_writeTo_28 : decode cX6_writeTo 28 = .ok (.aload_n 0, 1) := by decide +kernel
theorem dX6_writeTo_29 : decode cX6_writeTo 29 = .ok (.getfield 15, 3) := by decide +kernel
theorem dX6_writeTo_32 : decode cX6_writeTo 32 = .ok (.iload_n 3, 1) := by decide +kernel
theorem dX6_writeTo_33 : decode cX6_writeTo 33 = .ok (.invokestatic 48, 3) := by decide +kernel
theorem dX6_writeTo_36 : decode cX6_writeTo 36 = .ok (.invokestatic 25, 3) := by decide +kernel
theorem dX6_writeTo_39 : decode cX6_writeTo 39 = .ok (.aload_n 1, 1) := by decide +kernel
theorem dX6_writeTo_40 : decode cX6_writeTo 40 = .ok (.iload_n 2, 1) := by decide +kernel
theorem dX6_writeTo_41 : decode cX6_writeTo 41 = .ok (.bipush 10, 2) := by decide +kernel
theorem dX6_writeTo_43 : decode cX6_writeTo 43 = .ok (.iadd, 1) := by decide +kernel
theorem dX6_writeTo_44 : decode cX6_writeTo 44 = .ok (.iload_n 3, 1) := by decide +kernel
theorem dX6_writeTo_45 : decode cX6_writeTo 45 = .ok (.iadd, 1) := by decide +kernel
theorem dX6_writeTo_46 : decode cX6_writeTo 46 = .ok (.aload_n 0, 1) := by decide +kernel
theorem dX6_writeTo_47 : decode cX6_writeTo 47 = .ok (.getfield 18, 3) := by decide +kernel
theorem dX6_writeTo_50 : decode cX6_writeTo 50 = .ok (.iload_n 3, 1) := by decide +kernel
theorem dX6_writeTo_51 : decode cX6_writeTo 51 = .ok (.invokestatic 48, 3) := by decide +kernel
theorem dX6_writeTo_54 : decode cX6_writeTo 54 = .ok (.invokestatic 25, 3) := by decide +kernel
theorem dX6_writeTo_57 : decode cX6_writeTo 57 = .ok (.iinc 3 1, 3) := by decide +kernel
theorem dX6_writeTo_60 : decode cX6_writeTo 60 = .ok (.goto (-58), 3) := by decide +kernel
theorem dX6_writeTo_63 : decode cX6_writeTo 63 = .ok (.aload_n 1, 1) := by decide +kernel
theorem dX6_writeTo_64 : decode cX6_writeTo 64 = .ok (.iload_n 2, 1) := by decide +kernel
theorem dX6_writeTo_65 : decode cX6_writeTo 65 = .ok (.bipush 15, 2) := by decide +kernel
theorem dX6_writeTo_67 : decode cX6_writeTo 67 = .ok (.iadd, 1) := by decide +kernel
theorem dX6_writeTo_68 : decode cX6_writeTo 68 = .ok (.aload_n 0, 1) := by decide +kernel
theorem dX6_writeTo_69 : decode cX6_writeTo 69 = .ok (.getfield 41, 3) := by decide +kernel
theorem dX6_writeTo_72 : decode cX6_writeTo 72 = .ok (.invokestatic 25, 3) := by decide +kernel
theorem dX6_writeTo_75 : decode cX6_writeTo 75 = .ok (.aload_n 1, 1) := by decide +kernel
theorem dX6_writeTo_76 : decode cX6_writeTo 76 = .ok (.iload_n 2, 1) := by decide +kernel
theorem dX6_writeTo_77 : decode cX6_writeTo 77 = .ok (.bipush 15, 2) := by decide +kernel
theorem dX6_writeTo_79 : decode cX6_writeTo 79 = .ok (.iadd, 1) := by decide +kernel
theorem dX6_writeTo_80 : decode cX6_writeTo 80 = .ok (.iconst 1, 1) := by decide +kernel
theorem dX6_writeTo_81 : decode cX6_writeTo 81 = .ok (.iadd, 1) := by decide +kernel
theorem dX6_writeTo_82 : decode cX6_writeTo 82 = .ok (.aload_n 0, 1) := by decide +kernel
theorem dX6_writeTo_83 : decode cX6_writeTo 83 = .ok (.getfield 45, 3) := by decide +kernel
theorem dX6_writeTo_86 : decode cX6_writeTo 86 = .ok (.invokestatic 25, 3) := by decide +kernel
theorem dX6_writeTo_89 : decode cX6_writeTo 89 = .ok (.return_, 1) := by decide +kernel
set_option maxRecDepth 20000 in
theorem ggX6_readFrom_X7_at : GoodIn wsX6_readFrom wsX7_at := goodIn_r _ [8] (by decide +kernel) (by decide +kernel)
set_option maxRecDepth 20000 in
theorem gX6_readFrom_X7_at_n48 : GoodIn wsX6_readFrom (wsX7_at) := ggX6_readFrom_X7_at
set_option maxRecDepth 20000 in
theorem ggX6_readFrom_X7_put : GoodIn wsX6_readFrom wsX7_put := goodIn_r _ [10] (by decide +kernel) (by decide +kernel)
set_option maxRecDepth 20000 in
theorem gX6_readFrom_X7_put_n25 : GoodIn wsX6_readFrom (wsX7_put) := ggX6_readFrom_X7_put
theorem dX6_readFrom_0 : decode cX6_readFrom 0 = .ok (.iconst 0, 1) := by decide +kernel
theorem dX6_readFrom_1 : decode cX6_readFrom 1 = .ok (.istore_n 3, 1) := by decide +kernel
theorem dX6_readFrom_2 : decode cX6_readFrom 2 = .ok (.iload_n 3, 1) := by decide +kernel
theorem dX6_readFrom_3 : decode cX6_readFrom 3 = .ok (.iconst 5, 1) := by decide +kernel
theorem dX6_readFrom_4 : decode cX6_readFrom 4 = .ok (.if_icmp .ge 59, 3) := by decide +kernel
theorem dX6_readFrom_7 : decode cX6_readFrom 7 = .ok (.aload_n 0, 1) := by decide +kernel
theorem dX6_readFrom_8 : decode cX6_readFrom 8 = .ok (.getfield 9, 3) := by decide +kernel
theorem dX6_readFrom_11 : decode cX6_readFrom 11 = .ok (.iload_n 3, 1) := by decide +kernel
theorem dX6_readFrom_12 : decode cX6_readFrom 12 = .ok (.aload_n 1, 1) := by decide +kernel
theorem dX6_readFrom_13 : decode cX6_readFrom 13 = .ok (.iload_n 2, 1) := by decide +kernel
theorem dX6_readFrom_14 : decode cX6_readFrom 14 = .ok (.iload_n 3, 1) := by decide +kernel
theorem dX6_readFrom_15 : decode cX6_readFrom 15 = .ok (.iadd, 1) := by decide +kernel
theorem dX6_readFrom_16 : decode cX6_readFrom 16 = .ok (.invokestatic 48, 3) := by decide +kernel
theorem dX6_readFrom_19 : decode cX6_readFrom 19 = .ok (.invokestatic 25, 3) := by decide +kernel
theorem dX6_readFrom_22 : decode cX6_readFrom 22 = .ok (.aload_n 0, 1) := by decide +kernel
theorem dX6_readFrom_23 : decode cX6_readFrom 23 = .ok (.getfield 15, 3) := by decide +kernel
theorem dX6_readFrom_26 : decode cX6_readFrom 26 = .ok (.iload_n 3, 1) := by decide +kernel
theorem dX6_readFrom_27 : decode cX6_readFrom 27 = .ok (.aload_n 1, 1) := by decide +kernel
theorem dX6_readFrom_28 : decode cX6_readFrom 28 = .ok (.iload_n 2, 1) := by decide +kernel
theorem dX6_readFrom_29 : decode cX6_readFrom 29 = .ok (.iconst 5, 1) := by decide +kernel
theorem dX6_readFrom_30 : decode cX6_readFrom 30 = .ok (.iadd, 1) := by decide +kernel
theorem dX6_readFrom_31 : decode cX6_readFrom 31 = .ok (.iload_n 3, 1) := by decide +kernel
theorem dX6_readFrom_32 : decode cX6_readFrom 32 = .ok (.iadd, 1) := by decide +kernel
theorem dX6_readFrom_33 : decode cX6_readFrom 33 = .ok (.invokestatic 48, 3) := by decide +kernel
theorem dX6_readFrom_36 : decode cX6_readFrom 36 = .ok (.invokestatic 25, 3) := by decide +kernel
theorem dX6_readFrom_39 : decode cX6_readFrom 39 = .ok (.aload_n 0, 1) := by decide +kernel
theorem dX6_readFrom_40 : decode cX6_readFrom 40 = .ok (.getfield 18, 3) := by decide +kernel
theorem dX6_readFrom_43 : decode cX6_readFrom 43 = .ok (.iload_n 3, 1) := by decide +kernel
theorem dX6_readFrom_44 : decode cX6_readFrom 44 = .ok (.aload_n 1, 1) := by decide +kernel
theorem dX6_readFrom_45 : decode cX6_readFrom 45 = .ok (.iload_n 2, 1) := by decide +kernel
theorem dX6_readFrom_46 : decode cX6_readFrom 46 = .ok (.bipush 10, 2) := by decide +kernel
theorem dX6_readFrom_48 : decode cX6_readFrom 48 = .ok (.iadd, 1) := by decide +kernel
theorem dX6_readFrom_49 : decode cX6_readFrom 49 = .ok (.iload_n 3, 1) := by decide +kernel
theorem dX6_readFrom_50 : decode cX6_readFrom 50 = .ok (.iadd, 1) := by decide +kernel
theorem dX6_readFrom_51 : decode cX6_readFrom 51 = .ok (.invokestatic 48, 3) := by decide +kernel
theorem dX6_readFrom_54 : decode cX6_readFrom 54 = .ok (.invokestatic 25, 3) := by decide +kernel
theorem dX6_readFrom_57 : decode cX6_readFrom 57 = .ok (.iinc 3 1, 3) := by decide +kernel
theorem dX6_readFrom_60 : decode cX6_readFrom 60 = .ok (.goto (-58), 3) := by decide +kernel
theorem dX6_readFrom_63 : decode cX6_readFrom 63 = .ok (.aload_n 0, 1) := by decide +kernel
theorem dX6_readFrom_64 : decode cX6_readFrom 64 = .ok (.aload_n 1, 1) := by decide +kernel
theorem dX6_readFrom_65 : decode cX6_readFrom 65 = .ok (.iload_n 2, 1) := by decide +kernel
theorem dX6_readFrom_66 : decode cX6_readFrom 66 = .ok (.bipush 15, 2) := by decide +kernel
theorem dX6_readFrom_68 : decode cX6_readFrom 68 = .ok (.iadd, 1) := by decide +kernel
theorem dX6_readFrom_69 : decode cX6_readFrom 69 = .ok (.invokestatic 48, 3) := by decide +kernel
theorem dX6_readFrom_72 : decode cX6_readFrom 72 = .ok (.putfield 41, 3) := by decide +kernel
theorem dX6_readFrom_75 : decode cX6_readFrom 75 = .ok (.aload_n 0, 1) := by decide +kernel
theorem dX6_readFrom_76 : decode cX6_readFrom 76 = .ok (.aload_n 1, 1) := by decide +kernel
theorem dX6_readFrom_77 : decode cX6_readFrom 77 = .ok (.iload_n 2, 1) := by decide +kernel
theorem dX6_readFrom_78 : decode cX6_readFrom 78 = .ok (.bipush 15, 2) := by decide +kernel
theorem dX6_readFrom_80 : decode cX6_readFrom 80 = .ok (.iadd, 1) := by decide +kernel
theorem dX6_readFrom_81 : decode cX6_readFrom 81 = .ok (.iconst 1, 1) := by decide +kernel
theorem dX6_readFrom_82 : decode cX6_readFrom 82 = .ok (.iadd, 1) := by decide +kernel
theorem dX6_readFrom_83 : decode cX6_readFrom 83 = .ok (.invokestatic 48, 3) := by decide +kernel
theorem dX6_readFrom_86 : decode cX6_readFrom 86 = .ok (.putfield 45, 3) := by decide +kernel
theorem dX6_readFrom_89 : decode cX6_readFrom 89 = .ok (.return_, 1) := by decide +kernel
theorem dX6_stepNumber_0 : decode cX6_stepNumber 0 = .ok (.aload_n 0, 1) := by decide +kernel
theorem dX6_stepNumber_1 : decode cX6_stepNumber 1 = .ok (.getfield 45, 3) := by decide +kernel
theorem dX6_stepNumber_4 : decode cX6_stepNumber 4 = .ok (.ireturn, 1) := by decide +kernel
theorem dX6_downBits_0 : decode cX6_downBits 0 = .ok (.aload_n 0, 1) := by decide +kernel
theorem dX6_downBits_1 : decode cX6_downBits 1 = .ok (.getfield 41, 3) := by decide +kernel
theorem dX6_downBits_4 : decode cX6_downBits 4 = .ok (.ireturn, 1) := by decide +kernel
set_option maxRecDepth 20000 in
theorem ggX6_standingBits_X3_size : GoodIn wsX6_standingBits wsX3_size := goodIn_r _ [7, 8, 15, 16, 17, 18, 19, 20] (by decide +kernel) (by decide +kernel)
set_option maxRecDepth 20000 in
theorem gX6_standingBits_X3_size : GoodIn wsX6_standingBits (wsV RX6 52 RX3 yX3_size wsX3_size) := goodIn_app (goodIn_of _ (by decide +kernel)) ggX6_standingBits_X3_size
theorem dX6_standingBits_0 : decode cX6_standingBits 0 = .ok (.iconst 1, 1) := by decide +kernel
theorem dX6_standingBits_1 : decode cX6_standingBits 1 = .ok (.aload_n 0, 1) := by decide +kernel
theorem dX6_standingBits_2 : decode cX6_standingBits 2 = .ok (.getfield 21, 3) := by decide +kernel
theorem dX6_standingBits_5 : decode cX6_standingBits 5 = .ok (.invokevirtual 52, 3) := by decide +kernel
theorem dX6_standingBits_8 : decode cX6_standingBits 8 = .ok (.ishl, 1) := by decide +kernel
theorem dX6_standingBits_9 : decode cX6_standingBits 9 = .ok (.iconst 1, 1) := by decide +kernel
theorem dX6_standingBits_10 : decode cX6_standingBits 10 = .ok (.isub, 1) := by decide +kernel
theorem dX6_standingBits_11 : decode cX6_standingBits 11 = .ok (.aload_n 0, 1) := by decide +kernel
theorem dX6_standingBits_12 : decode cX6_standingBits 12 = .ok (.getfield 41, 3) := by decide +kernel
theorem dX6_standingBits_15 : decode cX6_standingBits 15 = .ok (.iconst (-1), 1) := by decide +kernel
theorem dX6_standingBits_16 : decode cX6_standingBits 16 = .ok (.ixor, 1) := by decide +kernel
theorem dX6_standingBits_17 : decode cX6_standingBits 17 = .ok (.iand, 1) := by decide +kernel
theorem dX6_standingBits_18 : decode cX6_standingBits 18 = .ok (.ireturn, 1) := by decide +kernel
set_option maxRecDepth 20000 in
theorem ggX6_standing_X6_standingBits : GoodIn wsX6_standing wsX6_standingBits := goodIn_r _ [5, 6, 7, 8, 9, 10, 11, 12, 13, 21, 22, 23, 24, 25, 26, 27, 28, 29, 30, 31, 32] (by decide +kernel) (by decide +kernel)
set_option maxRecDepth 20000 in
theorem gX6_standing_X6_standingBits : GoodIn wsX6_standing (wsV RX6 56 RX6 yX6_standingBits wsX6_standingBits) := goodIn_app (goodIn_of _ (by decide +kernel)) ggX6_standing_X6_standingBits
set_option maxRecDepth 20000 in
theorem ggX6_standing_J6_bitCount_0f7a4 : GoodIn wsX6_standing wsJ6_bitCount_0f7a4 := goodIn_r _ [17, 18, 19, 20] (by decide +kernel) (by decide +kernel)
set_option maxRecDepth 20000 in
theorem gX6_standing_J6_bitCount_0f7a4 : GoodIn wsX6_standing (va_wsS RX6 59 yJ6_bitCount_0f7a4 wsJ6_bitCount_0f7a4) := goodIn_app (goodIn_of _ (by decide +kernel)) ggX6_standing_J6_bitCount_0f7a4
theorem dX6_standing_0 : decode cX6_standing 0 = .ok (.aload_n 0, 1) := by decide +kernel
theorem dX6_standing_1 : decode cX6_standing 1 = .ok (.invokevirtual 56, 3) := by decide +kernel
theorem dX6_standing_4 : decode cX6_standing 4 = .ok (.invokestatic 59, 3) := by decide +kernel
theorem dX6_standing_7 : decode cX6_standing 7 = .ok (.ireturn, 1) := by decide +kernel
theorem dX6_isDown_0 : decode cX6_isDown 0 = .ok (.aload_n 0, 1) := by decide +kernel
theorem dX6_isDown_1 : decode cX6_isDown 1 = .ok (.getfield 41, 3) := by decide +kernel
theorem dX6_isDown_4 : decode cX6_isDown 4 = .ok (.iload_n 1, 1) := by decide +kernel
theorem dX6_isDown_5 : decode cX6_isDown 5 = .ok (.ishr, 1) := by decide +kernel
theorem dX6_isDown_6 : decode cX6_isDown 6 = .ok (.iconst 1, 1) := by decide +kernel
theorem dX6_isDown_7 : decode cX6_isDown 7 = .ok (.iand, 1) := by decide +kernel
theorem dX6_isDown_8 : decode cX6_isDown 8 = .ok (.ifCond .eq 7, 3) := by decide +kernel
theorem dX6_isDown_11 : decode cX6_isDown 11 = .ok (.iconst 1, 1) := by decide +kernel
theorem dX6_isDown_12 : decode cX6_isDown 12 = .ok (.goto 4, 3) := by decide +kernel
theorem dX6_isDown_15 : decode cX6_isDown 15 = .ok (.iconst 0, 1) := by decide +kernel
theorem dX6_isDown_16 : decode cX6_isDown 16 = .ok (.ireturn, 1) := by decide +kernel
set_option maxRecDepth 20000 in
theorem ggX6_strideOf_X7_at : GoodIn wsX6_strideOf wsX7_at := goodIn_r _ [4] (by decide +kernel) (by decide +kernel)
set_option maxRecDepth 20000 in
theorem gX6_strideOf_X7_at_n48 : GoodIn wsX6_strideOf (wsX7_at) := ggX6_strideOf_X7_at
theorem dX6_strideOf_0 : decode cX6_strideOf 0 = .ok (.aload_n 0, 1) := by decide +kernel
theorem dX6_strideOf_1 : decode cX6_strideOf 1 = .ok (.getfield 15, 3) := by decide +kernel
theorem dX6_strideOf_4 : decode cX6_strideOf 4 = .ok (.iload_n 1, 1) := by decide +kernel
theorem dX6_strideOf_5 : decode cX6_strideOf 5 = .ok (.invokestatic 48, 3) := by decide +kernel
theorem dX6_strideOf_8 : decode cX6_strideOf 8 = .ok (.ireturn, 1) := by decide +kernel
set_option maxRecDepth 20000 in
theorem ggX6_strainOf_X7_at : GoodIn wsX6_strainOf wsX7_at := goodIn_r _ [4] (by decide +kernel) (by decide +kernel)
set_option maxRecDepth 20000 in
theorem gX6_strainOf_X7_at_n48 : GoodIn wsX6_strainOf (wsX7_at) := ggX6_strainOf_X7_at
theorem dX6_strainOf_0 : decode cX6_strainOf 0 = .ok (.aload_n 0, 1) := by decide +kernel
theorem dX6_strainOf_1 : decode cX6_strainOf 1 = .ok (.getfield 18, 3) := by decide +kernel
theorem dX6_strainOf_4 : decode cX6_strainOf 4 = .ok (.iload_n 1, 1) := by decide +kernel
theorem dX6_strainOf_5 : decode cX6_strainOf 5 = .ok (.invokestatic 48, 3) := by decide +kernel
theorem dX6_strainOf_8 : decode cX6_strainOf 8 = .ok (.ireturn, 1) := by decide +kernel
set_option maxRecDepth 20000 in
theorem ggX6_strainOfAll_X3_size : GoodIn wsX6_strainOfAll wsX3_size := goodIn_r _ [7, 8, 18, 19, 20, 21, 22, 23] (by decide +kernel) (by decide +kernel)
set_option maxRecDepth 20000 in
theorem gX6_strainOfAll_X3_size : GoodIn wsX6_strainOfAll (wsV RX6 52 RX3 yX3_size wsX3_size) := goodIn_app (goodIn_of _ (by decide +kernel)) ggX6_strainOfAll_X3_size
set_option maxRecDepth 20000 in
theorem ggX6_strainOfAll_X7_at : GoodIn wsX6_strainOfAll wsX7_at := goodIn_r _ [11] (by decide +kernel) (by decide +kernel)
set_option maxRecDepth 20000 in
theorem gX6_strainOfAll_X7_at_n48 : GoodIn wsX6_strainOfAll (wsX7_at) := ggX6_strainOfAll_X7_at
theorem dX6_strainOfAll_0 : decode cX6_strainOfAll 0 = .ok (.iconst 0, 1) := by decide +kernel
theorem dX6_strainOfAll_1 : decode cX6_strainOfAll 1 = .ok (.istore_n 1, 1) := by decide +kernel
theorem dX6_strainOfAll_2 : decode cX6_strainOfAll 2 = .ok (.iconst 0, 1) := by decide +kernel
theorem dX6_strainOfAll_3 : decode cX6_strainOfAll 3 = .ok (.istore_n 2, 1) := by decide +kernel
theorem dX6_strainOfAll_4 : decode cX6_strainOfAll 4 = .ok (.iload_n 2, 1) := by decide +kernel
theorem dX6_strainOfAll_5 : decode cX6_strainOfAll 5 = .ok (.aload_n 0, 1) := by decide +kernel
theorem dX6_strainOfAll_6 : decode cX6_strainOfAll 6 = .ok (.getfield 21, 3) := by decide +kernel
theorem dX6_strainOfAll_9 : decode cX6_strainOfAll 9 = .ok (.invokevirtual 52, 3) := by decide +kernel
theorem dX6_strainOfAll_12 : decode cX6_strainOfAll 12 = .ok (.if_icmp .ge 20, 3) := by decide +kernel
theorem dX6_strainOfAll_15 : decode cX6_strainOfAll 15 = .ok (.iload_n 1, 1) := by decide +kernel
theorem dX6_strainOfAll_16 : decode cX6_strainOfAll 16 = .ok (.aload_n 0, 1) := by decide +kernel
theorem dX6_strainOfAll_17 : decode cX6_strainOfAll 17 = .ok (.getfield 18, 3) := by decide +kernel
theorem dX6_strainOfAll_20 : decode cX6_strainOfAll 20 = .ok (.iload_n 2, 1) := by decide +kernel
theorem dX6_strainOfAll_21 : decode cX6_strainOfAll 21 = .ok (.invokestatic 48, 3) := by decide +kernel
theorem dX6_strainOfAll_24 : decode cX6_strainOfAll 24 = .ok (.iadd, 1) := by decide +kernel
theorem dX6_strainOfAll_25 : decode cX6_strainOfAll 25 = .ok (.istore_n 1, 1) := by decide +kernel
theorem dX6_strainOfAll_26 : decode cX6_strainOfAll 26 = .ok (.iinc 2 1, 3) := by decide +kernel
theorem dX6_strainOfAll_29 : decode cX6_strainOfAll 29 = .ok (.goto (-25), 3) := by decide +kernel
theorem dX6_strainOfAll_32 : decode cX6_strainOfAll 32 = .ok (.iload_n 1, 1) := by decide +kernel
theorem dX6_strainOfAll_33 : decode cX6_strainOfAll 33 = .ok (.ireturn, 1) := by decide +kernel
set_option maxRecDepth 20000 in
theorem ggX6_walkerAt_X7_at : GoodIn wsX6_walkerAt wsX7_at := goodIn_r _ [4] (by decide +kernel) (by decide +kernel)
set_option maxRecDepth 20000 in
theorem gX6_walkerAt_X7_at_n48 : GoodIn wsX6_walkerAt (wsX7_at) := ggX6_walkerAt_X7_at
theorem dX6_walkerAt_0 : decode cX6_walkerAt 0 = .ok (.aload_n 0, 1) := by decide +kernel
theorem dX6_walkerAt_1 : decode cX6_walkerAt 1 = .ok (.getfield 9, 3) := by decide +kernel
theorem dX6_walkerAt_4 : decode cX6_walkerAt 4 = .ok (.iload_n 1, 1) := by decide +kernel
theorem dX6_walkerAt_5 : decode cX6_walkerAt 5 = .ok (.invokestatic 48, 3) := by decide +kernel
theorem dX6_walkerAt_8 : decode cX6_walkerAt 8 = .ok (.ireturn, 1) := by decide +kernel
set_option maxRecDepth 20000 in
theorem ggX6_placeOf_X3_size : GoodIn wsX6_placeOf wsX3_size := goodIn_r _ [6, 7, 23, 24, 25, 26, 27, 28] (by decide +kernel) (by decide +kernel)
set_option maxRecDepth 20000 in
theorem gX6_placeOf_X3_size : GoodIn wsX6_placeOf (wsV RX6 52 RX3 yX3_size wsX3_size) := goodIn_app (goodIn_of _ (by decide +kernel)) ggX6_placeOf_X3_size
set_option maxRecDepth 20000 in
theorem ggX6_placeOf_X6_walkerAt : GoodIn wsX6_placeOf wsX6_walkerAt := goodIn_r _ [12, 13, 14, 15, 16, 17, 18, 19, 20, 21, 22] (by decide +kernel) (by decide +kernel)
set_option maxRecDepth 20000 in
theorem gX6_placeOf_X6_walkerAt : GoodIn wsX6_placeOf (wsV RX6 64 RX6 yX6_walkerAt wsX6_walkerAt) := goodIn_app (goodIn_of _ (by decide +kernel)) ggX6_placeOf_X6_walkerAt
theorem dX6_placeOf_0 : decode cX6_placeOf 0 = .ok (.iconst 0, 1) := by decide +kernel
theorem dX6_placeOf_1 : decode cX6_placeOf 1 = .ok (.istore_n 2, 1) := by decide +kernel
theorem dX6_placeOf_2 : decode cX6_placeOf 2 = .ok (.iload_n 2, 1) := by decide +kernel
theorem dX6_placeOf_3 : decode cX6_placeOf 3 = .ok (.aload_n 0, 1) := by decide +kernel
theorem dX6_placeOf_4 : decode cX6_placeOf 4 = .ok (.getfield 21, 3) := by decide +kernel
theorem dX6_placeOf_7 : decode cX6_placeOf 7 = .ok (.invokevirtual 52, 3) := by decide +kernel
theorem dX6_placeOf_10 : decode cX6_placeOf 10 = .ok (.if_icmp .ge 20, 3) := by decide +kernel
theorem dX6_placeOf_13 : decode cX6_placeOf 13 = .ok (.aload_n 0, 1) := by decide +kernel
theorem dX6_placeOf_14 : decode cX6_placeOf 14 = .ok (.iload_n 2, 1) := by decide +kernel
theorem dX6_placeOf_15 : decode cX6_placeOf 15 = .ok (.invokevirtual 64, 3) := by decide +kernel
theorem dX6_placeOf_18 : decode cX6_placeOf 18 = .ok (.iload_n 1, 1) := by decide +kernel
theorem dX6_placeOf_19 : decode cX6_placeOf 19 = .ok (.if_icmp .ne 5, 3) := by decide +kernel
theorem dX6_placeOf_22 : decode cX6_placeOf 22 = .ok (.iload_n 2, 1) := by decide +kernel
theorem dX6_placeOf_23 : decode cX6_placeOf 23 = .ok (.ireturn, 1) := by decide +kernel
theorem dX6_placeOf_24 : decode cX6_placeOf 24 = .ok (.iinc 2 1, 3) := by decide +kernel
theorem dX6_placeOf_27 : decode cX6_placeOf 27 = .ok (.goto (-25), 3) := by decide +kernel
theorem dX6_placeOf_30 : decode cX6_placeOf 30 = .ok (.bipush (-9), 2) := by decide +kernel
theorem dX6_placeOf_32 : decode cX6_placeOf 32 = .ok (.ireturn, 1) := by decide +kernel
set_option maxRecDepth 20000 in
theorem ggX6_firstStanding_X3_size : GoodIn wsX6_firstStanding wsX3_size := goodIn_r _ [6, 7, 28, 29, 30, 31, 32, 33] (by decide +kernel) (by decide +kernel)
set_option maxRecDepth 20000 in
theorem gX6_firstStanding_X3_size : GoodIn wsX6_firstStanding (wsV RX6 52 RX3 yX3_size wsX3_size) := goodIn_app (goodIn_of _ (by decide +kernel)) ggX6_firstStanding_X3_size
set_option maxRecDepth 20000 in
theorem ggX6_firstStanding_X6_walkerAt : GoodIn wsX6_firstStanding wsX6_walkerAt := goodIn_r _ [12, 13, 14, 15, 16, 22, 23, 24, 25, 26, 27] (by decide +kernel) (by decide +kernel)
set_option maxRecDepth 20000 in
theorem gX6_firstStanding_X6_walkerAt : GoodIn wsX6_firstStanding (wsV RX6 64 RX6 yX6_walkerAt wsX6_walkerAt) := goodIn_app (goodIn_of _ (by decide +kernel)) ggX6_firstStanding_X6_walkerAt
set_option maxRecDepth 20000 in
theorem ggX6_firstStanding_X6_isDown : GoodIn wsX6_firstStanding wsX6_isDown := goodIn_r _ [20, 21, 22, 23, 24, 25, 26, 27] (by decide +kernel) (by decide +kernel)
set_option maxRecDepth 20000 in
theorem gX6_firstStanding_X6_isDown : GoodIn wsX6_firstStanding (wsV RX6 67 RX6 yX6_isDown wsX6_isDown) := goodIn_app (goodIn_of _ (by decide +kernel)) ggX6_firstStanding_X6_isDown
theorem dX6_firstStanding_0 : decode cX6_firstStanding 0 = .ok (.iconst 0, 1) := by decide +kernel
theorem dX6_firstStanding_1 : decode cX6_firstStanding 1 = .ok (.istore_n 1, 1) := by decide +kernel
theorem dX6_firstStanding_2 : decode cX6_firstStanding 2 = .ok (.iload_n 1, 1) := by decide +kernel
theorem dX6_firstStanding_3 : decode cX6_firstStanding 3 = .ok (.aload_n 0, 1) := by decide +kernel
theorem dX6_firstStanding_4 : decode cX6_firstStanding 4 = .ok (.getfield 21, 3) := by decide +kernel
theorem dX6_firstStanding_7 : decode cX6_firstStanding 7 = .ok (.invokevirtual 52, 3) := by decide +kernel
theorem dX6_firstStanding_10 : decode cX6_firstStanding 10 = .ok (.if_icmp .ge 27, 3) := by decide +kernel
theorem dX6_firstStanding_13 : decode cX6_firstStanding 13 = .ok (.aload_n 0, 1) := by decide +kernel
theorem dX6_firstStanding_14 : decode cX6_firstStanding 14 = .ok (.aload_n 0, 1) := by decide +kernel
theorem dX6_firstStanding_15 : decode cX6_firstStanding 15 = .ok (.iload_n 1, 1) := by decide +kernel
theorem dX6_firstStanding_16 : decode cX6_firstStanding 16 = .ok (.invokevirtual 64, 3) := by decide +kernel
theorem dX6_firstStanding_19 : decode cX6_firstStanding 19 = .ok (.invokevirtual 67, 3) := by decide +kernel
theorem dX6_firstStanding_22 : decode cX6_firstStanding 22 = .ok (.ifCond .ne 9, 3) := by decide +kernel
theorem dX6_firstStanding_25 : decode cX6_firstStanding 25 = .ok (.aload_n 0, 1) := by decide +kernel
theorem dX6_firstStanding_26 : decode cX6_firstStanding 26 = .ok (.iload_n 1, 1) := by decide +kernel
theorem dX6_firstStanding_27 : decode cX6_firstStanding 27 = .ok (.invokevirtual 64, 3) := by decide +kernel
theorem dX6_firstStanding_30 : decode cX6_firstStanding 30 = .ok (.ireturn, 1) := by decide +kernel
theorem dX6_firstStanding_31 : decode cX6_firstStanding 31 = .ok (.iinc 1 1, 3) := by decide +kernel
theorem dX6_firstStanding_34 : decode cX6_firstStanding 34 = .ok (.goto (-32), 3) := by decide +kernel
theorem dX6_firstStanding_37 : decode cX6_firstStanding 37 = .ok (.bipush (-9), 2) := by decide +kernel
theorem dX6_firstStanding_39 : decode cX6_firstStanding 39 = .ok (.ireturn, 1) := by decide +kernel
set_option maxRecDepth 20000 in
theorem ggX6_treadOf_X3_size : GoodIn wsX6_treadOf wsX3_size := goodIn_r _ [6, 7, 50, 51, 52, 53, 54, 55] (by decide +kernel) (by decide +kernel)
set_option maxRecDepth 20000 in
theorem gX6_treadOf_X3_size : GoodIn wsX6_treadOf (wsV RX6 52 RX3 yX3_size wsX3_size) := goodIn_app (goodIn_of _ (by decide +kernel)) ggX6_treadOf_X3_size
set_option maxRecDepth 20000 in
theorem ggX6_treadOf_X6_walkerAt : GoodIn wsX6_treadOf wsX6_walkerAt := goodIn_r _ [12, 13, 14, 15, 16, 44, 45, 46, 47, 48, 49] (by decide +kernel) (by decide +kernel)
set_option maxRecDepth 20000 in
theorem gX6_treadOf_X6_walkerAt : GoodIn wsX6_treadOf (wsV RX6 64 RX6 yX6_walkerAt wsX6_walkerAt) := goodIn_app (goodIn_of _ (by decide +kernel)) ggX6_treadOf_X6_walkerAt
set_option maxRecDepth 20000 in
theorem ggX6_treadOf_X6_isDown : GoodIn wsX6_treadOf wsX6_isDown := goodIn_r _ [20, 21, 44, 45, 46, 47, 48, 49] (by decide +kernel) (by decide +kernel)
set_option maxRecDepth 20000 in
theorem gX6_treadOf_X6_isDown : GoodIn wsX6_treadOf (wsV RX6 67 RX6 yX6_isDown wsX6_isDown) := goodIn_app (goodIn_of _ (by decide +kernel)) ggX6_treadOf_X6_isDown
set_option maxRecDepth 20000 in
theorem ggX6_treadOf_X6_treadBehind : GoodIn wsX6_treadOf wsX6_treadBehind := goodIn_r _ [25, 1, 26, 27, 28, 29, 5, 30, 31, 14, 15, 16, 32, 33, 34, 11, 35, 36, 37, 38, 39, 40, 41, 42, 43, 44, 45, 46, 47, 48, 49, 50, 51, 52, 53, 54, 55] (by decide +kernel) (by decide +kernel)
set_option maxRecDepth 20000 in
theorem gX6_treadOf_X6_treadBehind : GoodIn wsX6_treadOf (wsV RX6 70 RX6 yX6_treadBehind wsX6_treadBehind) := goodIn_app (goodIn_of _ (by decide +kernel)) ggX6_treadOf_X6_treadBehind
theorem dX6_treadOf_0 : decode cX6_treadOf 0 = .ok (.iconst 0, 1) := by decide +kernel
theorem dX6_treadOf_1 : decode cX6_treadOf 1 = .ok (.istore_n 2, 1) := by decide +kernel
theorem dX6_treadOf_2 : decode cX6_treadOf 2 = .ok (.iconst 0, 1) := by decide +kernel
theorem dX6_treadOf_3 : decode cX6_treadOf 3 = .ok (.istore_n 3, 1) := by decide +kernel
theorem dX6_treadOf_4 : decode cX6_treadOf 4 = .ok (.iconst 0, 1) := by decide +kernel
theorem dX6_treadOf_5 : decode cX6_treadOf 5 = .ok (.istore 4, 2) := by decide +kernel
theorem dX6_treadOf_7 : decode cX6_treadOf 7 = .ok (.iload 4, 2) := by decide +kernel
theorem dX6_treadOf_9 : decode cX6_treadOf 9 = .ok (.aload_n 0, 1) := by decide +kernel
theorem dX6_treadOf_10 : decode cX6_treadOf 10 = .ok (.getfield 21, 3) := by decide +kernel
theorem dX6_treadOf_13 : decode cX6_treadOf 13 = .ok (.invokevirtual 52, 3) := by decide +kernel
theorem dX6_treadOf_16 : decode cX6_treadOf 16 = .ok (.if_icmp .ge 46, 3) := by decide +kernel
theorem dX6_treadOf_19 : decode cX6_treadOf 19 = .ok (.aload_n 0, 1) := by decide +kernel
theorem dX6_treadOf_20 : decode cX6_treadOf 20 = .ok (.iload 4, 2) := by decide +kernel
theorem dX6_treadOf_22 : decode cX6_treadOf 22 = .ok (.invokevirtual 64, 3) := by decide +kernel
theorem dX6_treadOf_25 : decode cX6_treadOf 25 = .ok (.istore 5, 2) := by decide +kernel
theorem dX6_treadOf_27 : decode cX6_treadOf 27 = .ok (.aload_n 0, 1) := by decide +kernel
theorem dX6_treadOf_28 : decode cX6_treadOf 28 = .ok (.iload 5, 2) := by decide +kernel
theorem dX6_treadOf_30 : decode cX6_treadOf 30 = .ok (.invokevirtual 67, 3) := by decide +kernel
theorem dX6_treadOf_33 : decode cX6_treadOf 33 = .ok (.ifCond .ne 23, 3) := by decide +kernel
theorem dX6_treadOf_36 : decode cX6_treadOf 36 = .ok (.aload_n 0, 1) := by decide +kernel
theorem dX6_treadOf_37 : decode cX6_treadOf 37 = .ok (.iload 5, 2) := by decide +kernel
theorem dX6_treadOf_39 : decode cX6_treadOf 39 = .ok (.iload_n 2, 1) := by decide +kernel
theorem dX6_treadOf_40 : decode cX6_treadOf 40 = .ok (.iload_n 3, 1) := by decide +kernel
theorem dX6_treadOf_41 : decode cX6_treadOf 41 = .ok (.iconst 0, 1) := by decide +kernel
theorem dX6_treadOf_42 : decode cX6_treadOf 42 = .ok (.invokevirtual 70, 3) := by decide +kernel
theorem dX6_treadOf_45 : decode cX6_treadOf 45 = .ok (.istore_n 3, 1) := by decide +kernel
theorem dX6_treadOf_46 : decode cX6_treadOf 46 = .ok (.iconst 1, 1) := by decide +kernel
theorem dX6_treadOf_47 : decode cX6_treadOf 47 = .ok (.istore_n 2, 1) := by decide +kernel
theorem dX6_treadOf_48 : decode cX6_treadOf 48 = .ok (.iload 5, 2) := by decide +kernel
theorem dX6_treadOf_50 : decode cX6_treadOf 50 = .ok (.iload_n 1, 1) := by decide +kernel
theorem dX6_treadOf_51 : decode cX6_treadOf 51 = .ok (.if_icmp .ne 5, 3) := by decide +kernel
theorem dX6_treadOf_54 : decode cX6_treadOf 54 = .ok (.iload_n 3, 1) := by decide +kernel
theorem dX6_treadOf_55 : decode cX6_treadOf 55 = .ok (.ireturn, 1) := by decide +kernel
theorem dX6_treadOf_56 : decode cX6_treadOf 56 = .ok (.iinc 4 1, 3) := by decide +kernel
theorem dX6_treadOf_59 : decode cX6_treadOf 59 = .ok (.goto (-52), 3) := by decide +kernel
theorem dX6_treadOf_62 : decode cX6_treadOf 62 = .ok (.bipush (-9), 2) := by decide +kernel
theorem dX6_treadOf_64 : decode cX6_treadOf 64 = .ok (.ireturn, 1) := by decide +kernel
set_option maxRecDepth 20000 in
theorem ggX6_treadOfOne_X3_kindOf : GoodIn wsX6_treadOfOne wsX3_kindOf := goodIn_r _ [6, 7, 8, 9, 10, 30, 31, 32, 33, 34, 35] (by decide +kernel) (by decide +kernel)
set_option maxRecDepth 20000 in
theorem gX6_treadOfOne_X3_kindOf : GoodIn wsX6_treadOfOne (wsV RX6 74 RX3 yX3_kindOf wsX3_kindOf) := goodIn_app (goodIn_of _ (by decide +kernel)) ggX6_treadOfOne_X3_kindOf
set_option maxRecDepth 20000 in
theorem ggX6_treadOfOne_X6_strideOf : GoodIn wsX6_treadOfOne wsX6_strideOf := goodIn_r _ [15, 16, 8, 9, 10, 24, 25, 26, 27, 28, 29] (by decide +kernel) (by decide +kernel)
set_option maxRecDepth 20000 in
theorem gX6_treadOfOne_X6_strideOf : GoodIn wsX6_treadOfOne (wsV RX6 77 RX6 yX6_strideOf wsX6_strideOf) := goodIn_app (goodIn_of _ (by decide +kernel)) ggX6_treadOfOne_X6_strideOf
set_option maxRecDepth 20000 in
theorem ggX6_treadOfOne_X3_beatOf : GoodIn wsX6_treadOfOne wsX3_beatOf := goodIn_r _ [20, 21, 8, 9, 10, 30, 31, 32, 33, 34, 35] (by decide +kernel) (by decide +kernel)
set_option maxRecDepth 20000 in
theorem gX6_treadOfOne_X3_beatOf : GoodIn wsX6_treadOfOne (wsV RX6 80 RX3 yX3_beatOf wsX3_beatOf) := goodIn_app (goodIn_of _ (by decide +kernel)) ggX6_treadOfOne_X3_beatOf
set_option maxRecDepth 20000 in
theorem ggX6_treadOfOne_X7_treadAlone : GoodIn wsX6_treadOfOne wsX7_treadAlone := goodIn_r _ [23] (by decide +kernel) (by decide +kernel)
set_option maxRecDepth 20000 in
theorem gX6_treadOfOne_X7_treadAlone_n83 : GoodIn wsX6_treadOfOne (wsX7_treadAlone) := ggX6_treadOfOne_X7_treadAlone
theorem dX6_treadOfOne_0 : decode cX6_treadOfOne 0 = .ok (.aload_n 0, 1) := by decide +kernel
theorem dX6_treadOfOne_1 : decode cX6_treadOfOne 1 = .ok (.getfield 21, 3) := by decide +kernel
theorem dX6_treadOfOne_4 : decode cX6_treadOfOne 4 = .ok (.iload_n 1, 1) := by decide +kernel
theorem dX6_treadOfOne_5 : decode cX6_treadOfOne 5 = .ok (.invokevirtual 74, 3) := by decide +kernel
theorem dX6_treadOfOne_8 : decode cX6_treadOfOne 8 = .ok (.aload_n 0, 1) := by decide +kernel
theorem dX6_treadOfOne_9 : decode cX6_treadOfOne 9 = .ok (.iload_n 1, 1) := by decide +kernel
theorem dX6_treadOfOne_10 : decode cX6_treadOfOne 10 = .ok (.invokevirtual 77, 3) := by decide +kernel
theorem dX6_treadOfOne_13 : decode cX6_treadOfOne 13 = .ok (.aload_n 0, 1) := by decide +kernel
theorem dX6_treadOfOne_14 : decode cX6_treadOfOne 14 = .ok (.getfield 21, 3) := by decide +kernel
theorem dX6_treadOfOne_17 : decode cX6_treadOfOne 17 = .ok (.iload_n 1, 1) := by decide +kernel
theorem dX6_treadOfOne_18 : decode cX6_treadOfOne 18 = .ok (.invokevirtual 80, 3) := by decide +kernel
theorem dX6_treadOfOne_21 : decode cX6_treadOfOne 21 = .ok (.iload_n 2, 1) := by decide +kernel
theorem dX6_treadOfOne_22 : decode cX6_treadOfOne 22 = .ok (.invokestatic 83, 3) := by decide +kernel
theorem dX6_treadOfOne_25 : decode cX6_treadOfOne 25 = .ok (.ireturn, 1) := by decide +kernel
set_option maxRecDepth 20000 in
theorem ggX6_treadBehind_X3_kindOf : GoodIn wsX6_treadBehind wsX3_kindOf := goodIn_r _ [7, 8, 9, 10, 11, 31, 32, 33, 34, 35, 36] (by decide +kernel) (by decide +kernel)
set_option maxRecDepth 20000 in
theorem gX6_treadBehind_X3_kindOf : GoodIn wsX6_treadBehind (wsV RX6 74 RX3 yX3_kindOf wsX3_kindOf) := goodIn_app (goodIn_of _ (by decide +kernel)) ggX6_treadBehind_X3_kindOf
set_option maxRecDepth 20000 in
theorem ggX6_treadBehind_X6_strideOf : GoodIn wsX6_treadBehind wsX6_strideOf := goodIn_r _ [16, 17, 9, 10, 11, 25, 26, 27, 28, 29, 30] (by decide +kernel) (by decide +kernel)
set_option maxRecDepth 20000 in
theorem gX6_treadBehind_X6_strideOf : GoodIn wsX6_treadBehind (wsV RX6 77 RX6 yX6_strideOf wsX6_strideOf) := goodIn_app (goodIn_of _ (by decide +kernel)) ggX6_treadBehind_X6_strideOf
set_option maxRecDepth 20000 in
theorem ggX6_treadBehind_X3_beatOf : GoodIn wsX6_treadBehind wsX3_beatOf := goodIn_r _ [21, 22, 9, 10, 11, 31, 32, 33, 34, 35, 36] (by decide +kernel) (by decide +kernel)
set_option maxRecDepth 20000 in
theorem gX6_treadBehind_X3_beatOf : GoodIn wsX6_treadBehind (wsV RX6 80 RX3 yX3_beatOf wsX3_beatOf) := goodIn_app (goodIn_of _ (by decide +kernel)) ggX6_treadBehind_X3_beatOf
set_option maxRecDepth 20000 in
theorem ggX6_treadBehind_X7_treadAlone : GoodIn wsX6_treadBehind wsX7_treadAlone := goodIn_r _ [24] (by decide +kernel) (by decide +kernel)
set_option maxRecDepth 20000 in
theorem gX6_treadBehind_X7_treadAlone_n83 : GoodIn wsX6_treadBehind (wsX7_treadAlone) := ggX6_treadBehind_X7_treadAlone
theorem dX6_treadBehind_0 : decode cX6_treadBehind 0 = .ok (.aload_n 0, 1) := by decide +kernel
theorem dX6_treadBehind_1 : decode cX6_treadBehind 1 = .ok (.getfield 21, 3) := by decide +kernel
theorem dX6_treadBehind_4 : decode cX6_treadBehind 4 = .ok (.iload_n 1, 1) := by decide +kernel
theorem dX6_treadBehind_5 : decode cX6_treadBehind 5 = .ok (.invokevirtual 74, 3) := by decide +kernel
theorem dX6_treadBehind_8 : decode cX6_treadBehind 8 = .ok (.istore 5, 2) := by decide +kernel
theorem dX6_treadBehind_10 : decode cX6_treadBehind 10 = .ok (.iload 5, 2) := by decide +kernel
theorem dX6_treadBehind_12 : decode cX6_treadBehind 12 = .ok (.iconst 2, 1) := by decide +kernel
theorem dX6_treadBehind_13 : decode cX6_treadBehind 13 = .ok (.if_icmp .ne 9, 3) := by decide +kernel
theorem dX6_treadBehind_16 : decode cX6_treadBehind 16 = .ok (.iload_n 2, 1) := by decide +kernel
theorem dX6_treadBehind_17 : decode cX6_treadBehind 17 = .ok (.ifCond .eq 5, 3) := by decide +kernel
theorem dX6_treadBehind_20 : decode cX6_treadBehind 20 = .ok (.iload_n 3, 1) := by decide +kernel
theorem dX6_treadBehind_21 : decode cX6_treadBehind 21 = .ok (.ireturn, 1) := by decide +kernel
theorem dX6_treadBehind_22 : decode cX6_treadBehind 22 = .ok (.iload 5, 2) := by decide +kernel
theorem dX6_treadBehind_24 : decode cX6_treadBehind 24 = .ok (.iconst 2, 1) := by decide +kernel
theorem dX6_treadBehind_25 : decode cX6_treadBehind 25 = .ok (.if_icmp .ne 7, 3) := by decide +kernel
theorem dX6_treadBehind_28 : decode cX6_treadBehind 28 = .ok (.iconst 0, 1) := by decide +kernel
theorem dX6_treadBehind_29 : decode cX6_treadBehind 29 = .ok (.goto 9, 3) := by decide +kernel
theorem dX6_treadBehind_32 : decode cX6_treadBehind 32 = .ok (.iload 4, 2) := by decide +kernel
theorem dX6_treadBehind_34 : decode cX6_treadBehind 34 = .ok (.iload_n 1, 1) := by decide +kernel
theorem dX6_treadBehind_35 : decode cX6_treadBehind 35 = .ok (.ishr, 1) := by decide +kernel
theorem dX6_treadBehind_36 : decode cX6_treadBehind 36 = .ok (.iconst 1, 1) := by decide +kernel
theorem dX6_treadBehind_37 : decode cX6_treadBehind 37 = .ok (.iand, 1) := by decide +kernel
theorem dX6_treadBehind_38 : decode cX6_treadBehind 38 = .ok (.istore 6, 2) := by decide +kernel
theorem dX6_treadBehind_40 : decode cX6_treadBehind 40 = .ok (.iload 5, 2) := by decide +kernel
theorem dX6_treadBehind_42 : decode cX6_treadBehind 42 = .ok (.aload_n 0, 1) := by decide +kernel
theorem dX6_treadBehind_43 : decode cX6_treadBehind 43 = .ok (.iload_n 1, 1) := by decide +kernel
theorem dX6_treadBehind_44 : decode cX6_treadBehind 44 = .ok (.invokevirtual 77, 3) := by decide +kernel
theorem dX6_treadBehind_47 : decode cX6_treadBehind 47 = .ok (.aload_n 0, 1) := by decide +kernel
theorem dX6_treadBehind_48 : decode cX6_treadBehind 48 = .ok (.getfield 21, 3) := by decide +kernel
theorem dX6_treadBehind_51 : decode cX6_treadBehind 51 = .ok (.iload_n 1, 1) := by decide +kernel
theorem dX6_treadBehind_52 : decode cX6_treadBehind 52 = .ok (.invokevirtual 80, 3) := by decide +kernel
theorem dX6_treadBehind_55 : decode cX6_treadBehind 55 = .ok (.aload_n 0, 1) := by decide +kernel
theorem dX6_treadBehind_56 : decode cX6_treadBehind 56 = .ok (.getfield 45, 3) := by decide +kernel
theorem dX6_treadBehind_59 : decode cX6_treadBehind 59 = .ok (.invokestatic 83, 3) := by decide +kernel
theorem dX6_treadBehind_62 : decode cX6_treadBehind 62 = .ok (.iload 6, 2) := by decide +kernel
theorem dX6_treadBehind_64 : decode cX6_treadBehind 64 = .ok (.iadd, 1) := by decide +kernel
theorem dX6_treadBehind_65 : decode cX6_treadBehind 65 = .ok (.ireturn, 1) := by decide +kernel
set_option maxRecDepth 20000 in
theorem ggX6_takeStep_X3_snowAt : GoodIn wsX6_takeStep wsX3_snowAt := goodIn_r _ [8, 9, 10, 11, 59, 60, 61, 62, 63, 64] (by decide +kernel) (by decide +kernel)
set_option maxRecDepth 20000 in
theorem gX6_takeStep_X3_snowAt : GoodIn wsX6_takeStep (wsV RX6 87 RX3 yX3_snowAt wsX3_snowAt) := goodIn_app (goodIn_of _ (by decide +kernel)) ggX6_takeStep_X3_snowAt
set_option maxRecDepth 20000 in
theorem ggX6_takeStep_X3_size : GoodIn wsX6_takeStep wsX3_size := goodIn_r _ [15, 16, 59, 60, 61, 62, 63, 64] (by decide +kernel) (by decide +kernel)
set_option maxRecDepth 20000 in
theorem gX6_takeStep_X3_size : GoodIn wsX6_takeStep (wsV RX6 52 RX3 yX3_size wsX3_size) := goodIn_app (goodIn_of _ (by decide +kernel)) ggX6_takeStep_X3_size
set_option maxRecDepth 20000 in
theorem ggX6_takeStep_X6_walkerAt : GoodIn wsX6_takeStep wsX6_walkerAt := goodIn_r _ [21, 22, 23, 24, 25, 53, 54, 55, 56, 57, 58] (by decide +kernel) (by decide +kernel)
set_option maxRecDepth 20000 in
theorem gX6_takeStep_X6_walkerAt : GoodIn wsX6_takeStep (wsV RX6 64 RX6 yX6_walkerAt wsX6_walkerAt) := goodIn_app (goodIn_of _ (by decide +kernel)) ggX6_takeStep_X6_walkerAt
set_option maxRecDepth 20000 in
theorem ggX6_takeStep_X6_isDown : GoodIn wsX6_takeStep wsX6_isDown := goodIn_r _ [29, 3, 53, 54, 55, 56, 57, 58] (by decide +kernel) (by decide +kernel)
set_option maxRecDepth 20000 in
theorem gX6_takeStep_X6_isDown : GoodIn wsX6_takeStep (wsV RX6 67 RX6 yX6_isDown wsX6_isDown) := goodIn_app (goodIn_of _ (by decide +kernel)) ggX6_takeStep_X6_isDown
set_option maxRecDepth 20000 in
theorem ggX6_takeStep_X6_treadBehind : GoodIn wsX6_takeStep wsX6_treadBehind := goodIn_r _ [33, 1, 2, 34, 35, 36, 7, 37, 38, 23, 24, 25, 39, 40, 41, 20, 42, 43, 44, 45, 46, 47, 48, 49, 50, 53, 54, 55, 56, 57, 58, 59, 60, 61, 62, 63, 64] (by decide +kernel) (by decide +kernel)
set_option maxRecDepth 20000 in
theorem gX6_takeStep_X6_treadBehind : GoodIn wsX6_takeStep (wsV RX6 70 RX6 yX6_treadBehind wsX6_treadBehind) := goodIn_app (goodIn_of _ (by decide +kernel)) ggX6_takeStep_X6_treadBehind
set_option maxRecDepth 20000 in
theorem ggX6_takeStep_X7_isBetween : GoodIn wsX6_takeStep wsX7_isBetween := goodIn_r _ [52] (by decide +kernel) (by decide +kernel)
set_option maxRecDepth 20000 in
theorem gX6_takeStep_X7_isBetween_n90 : GoodIn wsX6_takeStep (wsX7_isBetween) := ggX6_takeStep_X7_isBetween
theorem dX6_takeStep_0 : decode cX6_takeStep 0 = .ok (.aload_n 0, 1) := by decide +kernel
theorem dX6_takeStep_1 : decode cX6_takeStep 1 = .ok (.getfield 21, 3) := by decide +kernel
theorem dX6_takeStep_4 : decode cX6_takeStep 4 = .ok (.aload_n 0, 1) := by decide +kernel
theorem dX6_takeStep_5 : decode cX6_takeStep 5 = .ok (.getfield 45, 3) := by decide +kernel
theorem dX6_takeStep_8 : decode cX6_takeStep 8 = .ok (.invokevirtual 87, 3) := by decide +kernel
theorem dX6_takeStep_11 : decode cX6_takeStep 11 = .ok (.istore_n 2, 1) := by decide +kernel
theorem dX6_takeStep_12 : decode cX6_takeStep 12 = .ok (.iconst 0, 1) := by decide +kernel
theorem dX6_takeStep_13 : decode cX6_takeStep 13 = .ok (.istore_n 3, 1) := by decide +kernel
theorem dX6_takeStep_14 : decode cX6_takeStep 14 = .ok (.iconst 0, 1) := by decide +kernel
theorem dX6_takeStep_15 : decode cX6_takeStep 15 = .ok (.istore 4, 2) := by decide +kernel
theorem dX6_takeStep_17 : decode cX6_takeStep 17 = .ok (.iconst 0, 1) := by decide +kernel
theorem dX6_takeStep_18 : decode cX6_takeStep 18 = .ok (.istore 5, 2) := by decide +kernel
theorem dX6_takeStep_20 : decode cX6_takeStep 20 = .ok (.iconst 0, 1) := by decide +kernel
theorem dX6_takeStep_21 : decode cX6_takeStep 21 = .ok (.istore 6, 2) := by decide +kernel
theorem dX6_takeStep_23 : decode cX6_takeStep 23 = .ok (.iload 6, 2) := by decide +kernel
theorem dX6_takeStep_25 : decode cX6_takeStep 25 = .ok (.aload_n 0, 1) := by decide +kernel
theorem dX6_takeStep_26 : decode cX6_takeStep 26 = .ok (.getfield 21, 3) := by decide +kernel
theorem dX6_takeStep_29 : decode cX6_takeStep 29 = .ok (.invokevirtual 52, 3) := by decide +kernel
theorem dX6_takeStep_32 : decode cX6_takeStep 32 = .ok (.if_icmp .ge 93, 3) := by decide +kernel
theorem dX6_takeStep_35 : decode cX6_takeStep 35 = .ok (.aload_n 0, 1) := by decide +kernel
theorem dX6_takeStep_36 : decode cX6_takeStep 36 = .ok (.iload 6, 2) := by decide +kernel
theorem dX6_takeStep_38 : decode cX6_takeStep 38 = .ok (.invokevirtual 64, 3) := by decide +kernel
theorem dX6_takeStep_41 : decode cX6_takeStep 41 = .ok (.istore 7, 2) := by decide +kernel
theorem dX6_takeStep_43 : decode cX6_takeStep 43 = .ok (.aload_n 0, 1) := by decide +kernel
theorem dX6_takeStep_44 : decode cX6_takeStep 44 = .ok (.iload 7, 2) := by decide +kernel
theorem dX6_takeStep_46 : decode cX6_takeStep 46 = .ok (.invokevirtual 67, 3) := by decide +kernel
theorem dX6_takeStep_49 : decode cX6_takeStep 49 = .ok (.ifCond .eq 6, 3) := by decide +kernel
theorem dX6_takeStep_52 : decode cX6_takeStep 52 = .ok (.goto 67, 3) := by decide +kernel
theorem dX6_takeStep_55 : decode cX6_takeStep 55 = .ok (.aload_n 0, 1) := by decide +kernel
theorem dX6_takeStep_56 : decode cX6_takeStep 56 = .ok (.iload 7, 2) := by decide +kernel
theorem dX6_takeStep_58 : decode cX6_takeStep 58 = .ok (.iload 4, 2) := by decide +kernel
theorem dX6_takeStep_60 : decode cX6_takeStep 60 = .ok (.iload 5, 2) := by decide +kernel
theorem dX6_takeStep_62 : decode cX6_takeStep 62 = .ok (.iload_n 1, 1) := by decide +kernel
theorem dX6_takeStep_63 : decode cX6_takeStep 63 = .ok (.invokevirtual 70, 3) := by decide +kernel
theorem dX6_takeStep_66 : decode cX6_takeStep 66 = .ok (.istore 8, 2) := by decide +kernel
theorem dX6_takeStep_68 : decode cX6_takeStep 68 = .ok (.iload 4, 2) := by decide +kernel
theorem dX6_takeStep_70 : decode cX6_takeStep 70 = .ok (.ifCond .eq 13, 3) := by decide +kernel
theorem dX6_takeStep_73 : decode cX6_takeStep 73 = .ok (.iload 8, 2) := by decide +kernel
theorem dX6_takeStep_75 : decode cX6_takeStep 75 = .ok (.iload 5, 2) := by decide +kernel
theorem dX6_takeStep_77 : decode cX6_takeStep 77 = .ok (.if_icmp .ne 26, 3) := by decide +kernel
theorem dX6_takeStep_80 : decode cX6_takeStep 80 = .ok (.goto 13, 3) := by decide +kernel
theorem dX6_takeStep_83 : decode cX6_takeStep 83 = .ok (.iload 8, 2) := by decide +kernel
theorem dX6_takeStep_85 : decode cX6_takeStep 85 = .ok (.iconst 1, 1) := by decide +kernel
theorem dX6_takeStep_86 : decode cX6_takeStep 86 = .ok (.iload_n 2, 1) := by decide +kernel
theorem dX6_takeStep_87 : decode cX6_takeStep 87 = .ok (.invokestatic 90, 3) := by decide +kernel
theorem dX6_takeStep_90 : decode cX6_takeStep 90 = .ok (.ifCond .eq 13, 3) := by decide +kernel
theorem dX6_takeStep_93 : decode cX6_takeStep 93 = .ok (.iconst 1, 1) := by decide +kernel
theorem dX6_takeStep_94 : decode cX6_takeStep 94 = .ok (.istore 4, 2) := by decide +kernel
theorem dX6_takeStep_96 : decode cX6_takeStep 96 = .ok (.iload 8, 2) := by decide +kernel
theorem dX6_takeStep_98 : decode cX6_takeStep 98 = .ok (.istore 5, 2) := by decide +kernel
theorem dX6_takeStep_100 : decode cX6_takeStep 100 = .ok (.goto 19, 3) := by decide +kernel
theorem dX6_takeStep_103 : decode cX6_takeStep 103 = .ok (.aload_n 0, 1) := by decide +kernel
theorem dX6_takeStep_104 : decode cX6_takeStep 104 = .ok (.dup, 1) := by decide +kernel
theorem dX6_takeStep_105 : decode cX6_takeStep 105 = .ok (.getfield 41, 3) := by decide +kernel
theorem dX6_takeStep_108 : decode cX6_takeStep 108 = .ok (.iconst 1, 1) := by decide +kernel
theorem dX6_takeStep_109 : decode cX6_takeStep 109 = .ok (.iload 7, 2) := by decide +kernel
theorem dX6_takeStep_111 : decode cX6_takeStep 111 = .ok (.ishl, 1) := by decide +kernel
theorem dX6_takeStep_112 : decode cX6_takeStep 112 = .ok (.ior, 1) := by decide +kernel
theorem dX6_takeStep_113 : decode cX6_takeStep 113 = .ok (.putfield 41, 3) := by decide +kernel
theorem dX6_takeStep_116 : decode cX6_takeStep 116 = .ok (.iinc 3 1, 3) := by decide +kernel
theorem dX6_takeStep_119 : decode cX6_takeStep 119 = .ok (.iinc 6 1, 3) := by decide +kernel
theorem dX6_takeStep_122 : decode cX6_takeStep 122 = .ok (.goto (-99), 3) := by decide +kernel
theorem dX6_takeStep_125 : decode cX6_takeStep 125 = .ok (.aload_n 0, 1) := by decide +kernel
theorem dX6_takeStep_126 : decode cX6_takeStep 126 = .ok (.dup, 1) := by decide +kernel
theorem dX6_takeStep_127 : decode cX6_takeStep 127 = .ok (.getfield 45, 3) := by decide +kernel
theorem dX6_takeStep_130 : decode cX6_takeStep 130 = .ok (.iconst 1, 1) := by decide +kernel
theorem dX6_takeStep_131 : decode cX6_takeStep 131 = .ok (.iadd, 1) := by decide +kernel
theorem dX6_takeStep_132 : decode cX6_takeStep 132 = .ok (.putfield 45, 3) := by decide +kernel
theorem dX6_takeStep_135 : decode cX6_takeStep 135 = .ok (.iload_n 3, 1) := by decide +kernel
theorem dX6_takeStep_136 : decode cX6_takeStep 136 = .ok (.ireturn, 1) := by decide +kernel
set_option maxRecDepth 20000 in
theorem ggX6_canSwap_X3_size : GoodIn wsX6_canSwap wsX3_size := goodIn_r _ [6, 7, 14, 15, 16, 17, 18, 19] (by decide +kernel) (by decide +kernel)
set_option maxRecDepth 20000 in
theorem gX6_canSwap_X3_size : GoodIn wsX6_canSwap (wsV RX6 52 RX3 yX3_size wsX3_size) := goodIn_app (goodIn_of _ (by decide +kernel)) ggX6_canSwap_X3_size
theorem dX6_canSwap_0 : decode cX6_canSwap 0 = .ok (.iload_n 1, 1) := by decide +kernel
theorem dX6_canSwap_1 : decode cX6_canSwap 1 = .ok (.ifCond .lt 20, 3) := by decide +kernel
theorem dX6_canSwap_4 : decode cX6_canSwap 4 = .ok (.iload_n 1, 1) := by decide +kernel
theorem dX6_canSwap_5 : decode cX6_canSwap 5 = .ok (.aload_n 0, 1) := by decide +kernel
theorem dX6_canSwap_6 : decode cX6_canSwap 6 = .ok (.getfield 21, 3) := by decide +kernel
theorem dX6_canSwap_9 : decode cX6_canSwap 9 = .ok (.invokevirtual 52, 3) := by decide +kernel
theorem dX6_canSwap_12 : decode cX6_canSwap 12 = .ok (.iconst 1, 1) := by decide +kernel
theorem dX6_canSwap_13 : decode cX6_canSwap 13 = .ok (.isub, 1) := by decide +kernel
theorem dX6_canSwap_14 : decode cX6_canSwap 14 = .ok (.if_icmp .ge 7, 3) := by decide +kernel
theorem dX6_canSwap_17 : decode cX6_canSwap 17 = .ok (.iconst 1, 1) := by decide +kernel
theorem dX6_canSwap_18 : decode cX6_canSwap 18 = .ok (.goto 4, 3) := by decide +kernel
theorem dX6_canSwap_21 : decode cX6_canSwap 21 = .ok (.iconst 0, 1) := by decide +kernel
theorem dX6_canSwap_22 : decode cX6_canSwap 22 = .ok (.ireturn, 1) := by decide +kernel
set_option maxRecDepth 20000 in
theorem ggX6_trySwap_X6_canSwap : GoodIn wsX6_trySwap wsX6_canSwap := goodIn_r _ [6, 7, 8, 9, 10, 11, 12, 13, 23, 24, 25, 26, 27, 28, 29, 30, 31, 32, 33, 34] (by decide +kernel) (by decide +kernel)
set_option maxRecDepth 20000 in
theorem gX6_trySwap_X6_canSwap : GoodIn wsX6_trySwap (wsV RX6 94 RX6 yX6_canSwap wsX6_canSwap) := goodIn_app (goodIn_of _ (by decide +kernel)) ggX6_trySwap_X6_canSwap
set_option maxRecDepth 20000 in
theorem ggX6_trySwap_X6_walkerAt : GoodIn wsX6_trySwap wsX6_walkerAt := goodIn_r _ [17, 1, 18, 19, 20, 23, 24, 25, 26, 27, 28] (by decide +kernel) (by decide +kernel)
set_option maxRecDepth 20000 in
theorem gX6_trySwap_X6_walkerAt : GoodIn wsX6_trySwap (wsV RX6 64 RX6 yX6_walkerAt wsX6_walkerAt) := goodIn_app (goodIn_of _ (by decide +kernel)) ggX6_trySwap_X6_walkerAt
set_option maxRecDepth 20000 in
theorem ggX6_trySwap_X7_put : GoodIn wsX6_trySwap wsX7_put := goodIn_r _ [22] (by decide +kernel) (by decide +kernel)
set_option maxRecDepth 20000 in
theorem gX6_trySwap_X7_put_n25 : GoodIn wsX6_trySwap (wsX7_put) := ggX6_trySwap_X7_put
theorem dX6_trySwap_0 : decode cX6_trySwap 0 = .ok (.aload_n 0, 1) := by decide +kernel
theorem dX6_trySwap_1 : decode cX6_trySwap 1 = .ok (.iload_n 1, 1) := by decide +kernel
theorem dX6_trySwap_2 : decode cX6_trySwap 2 = .ok (.invokevirtual 94, 3) := by decide +kernel
theorem dX6_trySwap_5 : decode cX6_trySwap 5 = .ok (.ifCond .ne 5, 3) := by decide +kernel
theorem dX6_trySwap_8 : decode cX6_trySwap 8 = .ok (.iconst 0, 1) := by decide +kernel
theorem dX6_trySwap_9 : decode cX6_trySwap 9 = .ok (.ireturn, 1) := by decide +kernel
theorem dX6_trySwap_10 : decode cX6_trySwap 10 = .ok (.aload_n 0, 1) := by decide +kernel
theorem dX6_trySwap_11 : decode cX6_trySwap 11 = .ok (.iload_n 1, 1) := by decide +kernel
theorem dX6_trySwap_12 : decode cX6_trySwap 12 = .ok (.invokevirtual 64, 3) := by decide +kernel
theorem dX6_trySwap_15 : decode cX6_trySwap 15 = .ok (.istore_n 2, 1) := by decide +kernel
theorem dX6_trySwap_16 : decode cX6_trySwap 16 = .ok (.aload_n 0, 1) := by decide +kernel
theorem dX6_trySwap_17 : decode cX6_trySwap 17 = .ok (.getfield 9, 3) := by decide +kernel
theorem dX6_trySwap_20 : decode cX6_trySwap 20 = .ok (.iload_n 1, 1) := by decide +kernel
theorem dX6_trySwap_21 : decode cX6_trySwap 21 = .ok (.aload_n 0, 1) := by decide +kernel
theorem dX6_trySwap_22 : decode cX6_trySwap 22 = .ok (.iload_n 1, 1) := by decide +kernel
theorem dX6_trySwap_23 : decode cX6_trySwap 23 = .ok (.iconst 1, 1) := by decide +kernel
theorem dX6_trySwap_24 : decode cX6_trySwap 24 = .ok (.iadd, 1) := by decide +kernel
theorem dX6_trySwap_25 : decode cX6_trySwap 25 = .ok (.invokevirtual 64, 3) := by decide +kernel
theorem dX6_trySwap_28 : decode cX6_trySwap 28 = .ok (.invokestatic 25, 3) := by decide +kernel
theorem dX6_trySwap_31 : decode cX6_trySwap 31 = .ok (.aload_n 0, 1) := by decide +kernel
theorem dX6_trySwap_32 : decode cX6_trySwap 32 = .ok (.getfield 9, 3) := by decide +kernel
theorem dX6_trySwap_35 : decode cX6_trySwap 35 = .ok (.iload_n 1, 1) := by decide +kernel
theorem dX6_trySwap_36 : decode cX6_trySwap 36 = .ok (.iconst 1, 1) := by decide +kernel
theorem dX6_trySwap_37 : decode cX6_trySwap 37 = .ok (.iadd, 1) := by decide +kernel
theorem dX6_trySwap_38 : decode cX6_trySwap 38 = .ok (.iload_n 2, 1) := by decide +kernel
theorem dX6_trySwap_39 : decode cX6_trySwap 39 = .ok (.invokestatic 25, 3) := by decide +kernel
theorem dX6_trySwap_42 : decode cX6_trySwap 42 = .ok (.iconst 1, 1) := by decide +kernel
theorem dX6_trySwap_43 : decode cX6_trySwap 43 = .ok (.ireturn, 1) := by decide +kernel
set_option maxRecDepth 20000 in
theorem ggX6_canDrill_X3_has : GoodIn wsX6_canDrill wsX3_has := goodIn_r _ [6, 7, 35, 36, 37, 38, 39, 40] (by decide +kernel) (by decide +kernel)
set_option maxRecDepth 20000 in
theorem gX6_canDrill_X3_has : GoodIn wsX6_canDrill (wsV RX6 29 RX3 yX3_has wsX3_has) := goodIn_app (goodIn_of _ (by decide +kernel)) ggX6_canDrill_X3_has
set_option maxRecDepth 20000 in
theorem ggX6_canDrill_X6_isDown : GoodIn wsX6_canDrill wsX6_isDown := goodIn_r _ [12, 13, 29, 30, 31, 32, 33, 34] (by decide +kernel) (by decide +kernel)
set_option maxRecDepth 20000 in
theorem gX6_canDrill_X6_isDown : GoodIn wsX6_canDrill (wsV RX6 67 RX6 yX6_isDown wsX6_isDown) := goodIn_app (goodIn_of _ (by decide +kernel)) ggX6_canDrill_X6_isDown
set_option maxRecDepth 20000 in
theorem ggX6_canDrill_X6_strainOf : GoodIn wsX6_canDrill wsX6_strainOf := goodIn_r _ [17, 18, 19, 20, 21, 29, 30, 31, 32, 33, 34] (by decide +kernel) (by decide +kernel)
set_option maxRecDepth 20000 in
theorem gX6_canDrill_X6_strainOf : GoodIn wsX6_canDrill (wsV RX6 97 RX6 yX6_strainOf wsX6_strainOf) := goodIn_app (goodIn_of _ (by decide +kernel)) ggX6_canDrill_X6_strainOf
set_option maxRecDepth 20000 in
theorem ggX6_canDrill_X6_strideOf : GoodIn wsX6_canDrill wsX6_strideOf := goodIn_r _ [25, 26, 19, 20, 21, 29, 30, 31, 32, 33, 34] (by decide +kernel) (by decide +kernel)
set_option maxRecDepth 20000 in
theorem gX6_canDrill_X6_strideOf : GoodIn wsX6_canDrill (wsV RX6 77 RX6 yX6_strideOf wsX6_strideOf) := goodIn_app (goodIn_of _ (by decide +kernel)) ggX6_canDrill_X6_strideOf
set_option maxRecDepth 20000 in
theorem ggX6_canDrill_X7_isBetween : GoodIn wsX6_canDrill wsX7_isBetween := goodIn_r _ [28] (by decide +kernel) (by decide +kernel)
set_option maxRecDepth 20000 in
theorem gX6_canDrill_X7_isBetween_n90 : GoodIn wsX6_canDrill (wsX7_isBetween) := ggX6_canDrill_X7_isBetween
theorem dX6_canDrill_0 : decode cX6_canDrill 0 = .ok (.aload_n 0, 1) := by decide +kernel
theorem dX6_canDrill_1 : decode cX6_canDrill 1 = .ok (.getfield 21, 3) := by decide +kernel
theorem dX6_canDrill_4 : decode cX6_canDrill 4 = .ok (.iload_n 1, 1) := by decide +kernel
theorem dX6_canDrill_5 : decode cX6_canDrill 5 = .ok (.invokevirtual 29, 3) := by decide +kernel
theorem dX6_canDrill_8 : decode cX6_canDrill 8 = .ok (.ifCond .eq 48, 3) := by decide +kernel
theorem dX6_canDrill_11 : decode cX6_canDrill 11 = .ok (.aload_n 0, 1) := by decide +kernel
theorem dX6_canDrill_12 : decode cX6_canDrill 12 = .ok (.iload_n 1, 1) := by decide +kernel
theorem dX6_canDrill_13 : decode cX6_canDrill 13 = .ok (.invokevirtual 67, 3) := by decide +kernel
theorem dX6_canDrill_16 : decode cX6_canDrill 16 = .ok (.ifCond .ne 40, 3) := by decide +kernel
theorem dX6_canDrill_19 : decode cX6_canDrill 19 = .ok (.aload_n 0, 1) := by decide +kernel
theorem dX6_canDrill_20 : decode cX6_canDrill 20 = .ok (.iload_n 1, 1) := by decide +kernel
theorem dX6_canDrill_21 : decode cX6_canDrill 21 = .ok (.invokevirtual 97, 3) := by decide +kernel
theorem dX6_canDrill_24 : decode cX6_canDrill 24 = .ok (.iconst 5, 1) := by decide +kernel
theorem dX6_canDrill_25 : decode cX6_canDrill 25 = .ok (.if_icmp .ge 31, 3) := by decide +kernel
theorem dX6_canDrill_28 : decode cX6_canDrill 28 = .ok (.aload_n 0, 1) := by decide +kernel
theorem dX6_canDrill_29 : decode cX6_canDrill 29 = .ok (.iload_n 1, 1) := by decide +kernel
theorem dX6_canDrill_30 : decode cX6_canDrill 30 = .ok (.invokevirtual 77, 3) := by decide +kernel
theorem dX6_canDrill_33 : decode cX6_canDrill 33 = .ok (.iload_n 2, 1) := by decide +kernel
theorem dX6_canDrill_34 : decode cX6_canDrill 34 = .ok (.ifCond .eq 7, 3) := by decide +kernel
theorem dX6_canDrill_37 : decode cX6_canDrill 37 = .ok (.iconst 1, 1) := by decide +kernel
theorem dX6_canDrill_38 : decode cX6_canDrill 38 = .ok (.goto 4, 3) := by decide +kernel
theorem dX6_canDrill_41 : decode cX6_canDrill 41 = .ok (.iconst (-1), 1) := by decide +kernel
theorem dX6_canDrill_42 : decode cX6_canDrill 42 = .ok (.iadd, 1) := by decide +kernel
theorem dX6_canDrill_43 : decode cX6_canDrill 43 = .ok (.iconst 1, 1) := by decide +kernel
theorem dX6_canDrill_44 : decode cX6_canDrill 44 = .ok (.bipush 9, 2) := by decide +kernel
theorem dX6_canDrill_46 : decode cX6_canDrill 46 = .ok (.invokestatic 90, 3) := by decide +kernel
theorem dX6_canDrill_49 : decode cX6_canDrill 49 = .ok (.ifCond .eq 7, 3) := by decide +kernel
theorem dX6_canDrill_52 : decode cX6_canDrill 52 = .ok (.iconst 1, 1) := by decide +kernel
theorem dX6_canDrill_53 : decode cX6_canDrill 53 = .ok (.goto 4, 3) := by decide +kernel
theorem dX6_canDrill_56 : decode cX6_canDrill 56 = .ok (.iconst 0, 1) := by decide +kernel
theorem dX6_canDrill_57 : decode cX6_canDrill 57 = .ok (.ireturn, 1) := by decide +kernel
set_option maxRecDepth 20000 in
theorem ggX6_tryDrill_X6_canDrill : GoodIn wsX6_tryDrill wsX6_canDrill := goodIn_r _ [6, 7, 8, 9, 10, 11, 12, 13, 14, 15, 16, 5, 17, 18, 19, 20, 21, 22, 1, 23, 24, 25, 26, 27, 28, 29, 30, 31, 32, 39, 40, 41, 42, 43, 44, 45, 46, 47, 48, 49, 50] (by decide +kernel) (by decide +kernel)
set_option maxRecDepth 20000 in
theorem gX6_tryDrill_X6_canDrill : GoodIn wsX6_tryDrill (wsV RX6 100 RX6 yX6_canDrill wsX6_canDrill) := goodIn_app (goodIn_of _ (by decide +kernel)) ggX6_tryDrill_X6_canDrill
set_option maxRecDepth 20000 in
theorem ggX6_tryDrill_X6_strideOf : GoodIn wsX6_tryDrill wsX6_strideOf := goodIn_r _ [29, 30, 23, 24, 25, 39, 40, 41, 42, 43, 44] (by decide +kernel) (by decide +kernel)
set_option maxRecDepth 20000 in
theorem gX6_tryDrill_X6_strideOf : GoodIn wsX6_tryDrill (wsV RX6 77 RX6 yX6_strideOf wsX6_strideOf) := goodIn_app (goodIn_of _ (by decide +kernel)) ggX6_tryDrill_X6_strideOf
set_option maxRecDepth 20000 in
theorem ggX6_tryDrill_X6_setStride : GoodIn wsX6_tryDrill wsX6_setStride := goodIn_r _ [36, 30, 37, 24, 38, 39, 40, 41, 42, 43, 44] (by decide +kernel) (by decide +kernel)
set_option maxRecDepth 20000 in
theorem gX6_tryDrill_X6_setStride : GoodIn wsX6_tryDrill (wsV RX6 104 RX6 yX6_setStride wsX6_setStride) := goodIn_app (goodIn_of _ (by decide +kernel)) ggX6_tryDrill_X6_setStride
set_option maxRecDepth 20000 in
theorem ggX6_tryDrill_X6_strainOf : GoodIn wsX6_tryDrill wsX6_strainOf := goodIn_r _ [22, 1, 23, 24, 25, 39, 40, 41, 42, 43, 44] (by decide +kernel) (by decide +kernel)
set_option maxRecDepth 20000 in
theorem gX6_tryDrill_X6_strainOf : GoodIn wsX6_tryDrill (wsV RX6 97 RX6 yX6_strainOf wsX6_strainOf) := goodIn_app (goodIn_of _ (by decide +kernel)) ggX6_tryDrill_X6_strainOf
set_option maxRecDepth 20000 in
theorem ggX6_tryDrill_X7_put : GoodIn wsX6_tryDrill wsX7_put := goodIn_r _ [38] (by decide +kernel) (by decide +kernel)
set_option maxRecDepth 20000 in
theorem gX6_tryDrill_X7_put_n25 : GoodIn wsX6_tryDrill (wsX7_put) := ggX6_tryDrill_X7_put
theorem dX6_tryDrill_0 : decode cX6_tryDrill 0 = .ok (.aload_n 0, 1) := by decide +kernel
theorem dX6_tryDrill_1 : decode cX6_tryDrill 1 = .ok (.iload_n 1, 1) := by decide +kernel
theorem dX6_tryDrill_2 : decode cX6_tryDrill 2 = .ok (.iload_n 2, 1) := by decide +kernel
theorem dX6_tryDrill_3 : decode cX6_tryDrill 3 = .ok (.invokevirtual 100, 3) := by decide +kernel
theorem dX6_tryDrill_6 : decode cX6_tryDrill 6 = .ok (.ifCond .ne 5, 3) := by decide +kernel
theorem dX6_tryDrill_9 : decode cX6_tryDrill 9 = .ok (.iconst 0, 1) := by decide +kernel
theorem dX6_tryDrill_10 : decode cX6_tryDrill 10 = .ok (.ireturn, 1) := by decide +kernel
theorem dX6_tryDrill_11 : decode cX6_tryDrill 11 = .ok (.aload_n 0, 1) := by decide +kernel
theorem dX6_tryDrill_12 : decode cX6_tryDrill 12 = .ok (.iload_n 1, 1) := by decide +kernel
theorem dX6_tryDrill_13 : decode cX6_tryDrill 13 = .ok (.aload_n 0, 1) := by decide +kernel
theorem dX6_tryDrill_14 : decode cX6_tryDrill 14 = .ok (.iload_n 1, 1) := by decide +kernel
theorem dX6_tryDrill_15 : decode cX6_tryDrill 15 = .ok (.invokevirtual 77, 3) := by decide +kernel
theorem dX6_tryDrill_18 : decode cX6_tryDrill 18 = .ok (.iload_n 2, 1) := by decide +kernel
theorem dX6_tryDrill_19 : decode cX6_tryDrill 19 = .ok (.ifCond .eq 7, 3) := by decide +kernel
theorem dX6_tryDrill_22 : decode cX6_tryDrill 22 = .ok (.iconst 1, 1) := by decide +kernel
theorem dX6_tryDrill_23 : decode cX6_tryDrill 23 = .ok (.goto 4, 3) := by decide +kernel
theorem dX6_tryDrill_26 : decode cX6_tryDrill 26 = .ok (.iconst (-1), 1) := by decide +kernel
theorem dX6_tryDrill_27 : decode cX6_tryDrill 27 = .ok (.iadd, 1) := by decide +kernel
theorem dX6_tryDrill_28 : decode cX6_tryDrill 28 = .ok (.invokevirtual 104, 3) := by decide +kernel
theorem dX6_tryDrill_31 : decode cX6_tryDrill 31 = .ok (.aload_n 0, 1) := by decide +kernel
theorem dX6_tryDrill_32 : decode cX6_tryDrill 32 = .ok (.getfield 18, 3) := by decide +kernel
theorem dX6_tryDrill_35 : decode cX6_tryDrill 35 = .ok (.iload_n 1, 1) := by decide +kernel
theorem dX6_tryDrill_36 : decode cX6_tryDrill 36 = .ok (.aload_n 0, 1) := by decide +kernel
theorem dX6_tryDrill_37 : decode cX6_tryDrill 37 = .ok (.iload_n 1, 1) := by decide +kernel
theorem dX6_tryDrill_38 : decode cX6_tryDrill 38 = .ok (.invokevirtual 97, 3) := by decide +kernel
theorem dX6_tryDrill_41 : decode cX6_tryDrill 41 = .ok (.iconst 1, 1) := by decide +kernel
theorem dX6_tryDrill_42 : decode cX6_tryDrill 42 = .ok (.iadd, 1) := by decide +kernel
theorem dX6_tryDrill_43 : decode cX6_tryDrill 43 = .ok (.invokestatic 25, 3) := by decide +kernel
theorem dX6_tryDrill_46 : decode cX6_tryDrill 46 = .ok (.iconst 1, 1) := by decide +kernel
theorem dX6_tryDrill_47 : decode cX6_tryDrill 47 = .ok (.ireturn, 1) := by decide +kernel
set_option maxRecDepth 20000 in
theorem ggX6_tryRescue_X3_has : GoodIn wsX6_tryRescue wsX3_has := goodIn_r _ [7, 8, 46, 47, 48, 49, 50, 51] (by decide +kernel) (by decide +kernel)
set_option maxRecDepth 20000 in
theorem gX6_tryRescue_X3_has : GoodIn wsX6_tryRescue (wsV RX6 29 RX3 yX3_has wsX3_has) := goodIn_app (goodIn_of _ (by decide +kernel)) ggX6_tryRescue_X3_has
set_option maxRecDepth 20000 in
theorem ggX6_tryRescue_X6_isDown : GoodIn wsX6_tryRescue wsX6_isDown := goodIn_r _ [13, 2, 40, 41, 42, 43, 44, 45] (by decide +kernel) (by decide +kernel)
set_option maxRecDepth 20000 in
theorem gX6_tryRescue_X6_isDown : GoodIn wsX6_tryRescue (wsV RX6 67 RX6 yX6_isDown wsX6_isDown) := goodIn_app (goodIn_of _ (by decide +kernel)) ggX6_tryRescue_X6_isDown
set_option maxRecDepth 20000 in
theorem ggX6_tryRescue_X6_placeOf : GoodIn wsX6_tryRescue wsX6_placeOf := goodIn_r _ [17, 1, 18, 19, 20, 6, 21, 8, 22, 23, 24, 12, 25, 26, 27, 28, 29, 40, 41, 42, 43, 44, 45, 46, 47, 48, 49, 50, 51] (by decide +kernel) (by decide +kernel)
set_option maxRecDepth 20000 in
theorem gX6_tryRescue_X6_placeOf : GoodIn wsX6_tryRescue (wsV RX6 108 RX6 yX6_placeOf wsX6_placeOf) := goodIn_app (goodIn_of _ (by decide +kernel)) ggX6_tryRescue_X6_placeOf
set_option maxRecDepth 20000 in
theorem ggX6_tryRescue_X3_size : GoodIn wsX6_tryRescue wsX3_size := goodIn_r _ [21, 8, 46, 47, 48, 49, 50, 51] (by decide +kernel) (by decide +kernel)
set_option maxRecDepth 20000 in
theorem gX6_tryRescue_X3_size : GoodIn wsX6_tryRescue (wsV RX6 52 RX3 yX3_size wsX3_size) := goodIn_app (goodIn_of _ (by decide +kernel)) ggX6_tryRescue_X3_size
set_option maxRecDepth 20000 in
theorem ggX6_tryRescue_X6_trySwap : GoodIn wsX6_tryRescue wsX6_trySwap := goodIn_r _ [33, 26, 34, 35, 36, 12, 37, 1, 18, 19, 20, 6, 21, 8, 22, 23, 24, 25, 27, 28, 29, 38, 39, 40, 41, 42, 43, 44, 45, 46, 47, 48, 49, 50, 51] (by decide +kernel) (by decide +kernel)
set_option maxRecDepth 20000 in
theorem gX6_tryRescue_X6_trySwap : GoodIn wsX6_tryRescue (wsV RX6 111 RX6 yX6_trySwap wsX6_trySwap) := goodIn_app (goodIn_of _ (by decide +kernel)) ggX6_tryRescue_X6_trySwap
theorem dX6_tryRescue_0 : decode cX6_tryRescue 0 = .ok (.aload_n 0, 1) := by decide +kernel
theorem dX6_tryRescue_1 : decode cX6_tryRescue 1 = .ok (.getfield 21, 3) := by decide +kernel
theorem dX6_tryRescue_4 : decode cX6_tryRescue 4 = .ok (.iload_n 1, 1) := by decide +kernel
theorem dX6_tryRescue_5 : decode cX6_tryRescue 5 = .ok (.invokevirtual 29, 3) := by decide +kernel
theorem dX6_tryRescue_8 : decode cX6_tryRescue 8 = .ok (.ifCond .eq 11, 3) := by decide +kernel
theorem dX6_tryRescue_11 : decode cX6_tryRescue 11 = .ok (.aload_n 0, 1) := by decide +kernel
theorem dX6_tryRescue_12 : decode cX6_tryRescue 12 = .ok (.iload_n 1, 1) := by decide +kernel
theorem dX6_tryRescue_13 : decode cX6_tryRescue 13 = .ok (.invokevirtual 67, 3) := by decide +kernel
theorem dX6_tryRescue_16 : decode cX6_tryRescue 16 = .ok (.ifCond .ne 5, 3) := by decide +kernel
theorem dX6_tryRescue_19 : decode cX6_tryRescue 19 = .ok (.iconst 0, 1) := by decide +kernel
theorem dX6_tryRescue_20 : decode cX6_tryRescue 20 = .ok (.ireturn, 1) := by decide +kernel
theorem dX6_tryRescue_21 : decode cX6_tryRescue 21 = .ok (.aload_n 0, 1) := by decide +kernel
theorem dX6_tryRescue_22 : decode cX6_tryRescue 22 = .ok (.dup, 1) := by decide +kernel
theorem dX6_tryRescue_23 : decode cX6_tryRescue 23 = .ok (.getfield 41, 3) := by decide +kernel
theorem dX6_tryRescue_26 : decode cX6_tryRescue 26 = .ok (.iconst 1, 1) := by decide +kernel
theorem dX6_tryRescue_27 : decode cX6_tryRescue 27 = .ok (.iload_n 1, 1) := by decide +kernel
theorem dX6_tryRescue_28 : decode cX6_tryRescue 28 = .ok (.ishl, 1) := by decide +kernel
theorem dX6_tryRescue_29 : decode cX6_tryRescue 29 = .ok (.iconst (-1), 1) := by decide +kernel
theorem dX6_tryRescue_30 : decode cX6_tryRescue 30 = .ok (.ixor, 1) := by decide +kernel
theorem dX6_tryRescue_31 : decode cX6_tryRescue 31 = .ok (.iand, 1) := by decide +kernel
theorem dX6_tryRescue_32 : decode cX6_tryRescue 32 = .ok (.putfield 41, 3) := by decide +kernel
theorem dX6_tryRescue_35 : decode cX6_tryRescue 35 = .ok (.aload_n 0, 1) := by decide +kernel
theorem dX6_tryRescue_36 : decode cX6_tryRescue 36 = .ok (.iload_n 1, 1) := by decide +kernel
theorem dX6_tryRescue_37 : decode cX6_tryRescue 37 = .ok (.invokevirtual 108, 3) := by decide +kernel
theorem dX6_tryRescue_40 : decode cX6_tryRescue 40 = .ok (.istore_n 2, 1) := by decide +kernel
theorem dX6_tryRescue_41 : decode cX6_tryRescue 41 = .ok (.iload_n 2, 1) := by decide +kernel
theorem dX6_tryRescue_42 : decode cX6_tryRescue 42 = .ok (.aload_n 0, 1) := by decide +kernel
theorem dX6_tryRescue_43 : decode cX6_tryRescue 43 = .ok (.getfield 21, 3) := by decide +kernel
theorem dX6_tryRescue_46 : decode cX6_tryRescue 46 = .ok (.invokevirtual 52, 3) := by decide +kernel
theorem dX6_tryRescue_49 : decode cX6_tryRescue 49 = .ok (.iconst 1, 1) := by decide +kernel
theorem dX6_tryRescue_50 : decode cX6_tryRescue 50 = .ok (.isub, 1) := by decide +kernel
theorem dX6_tryRescue_51 : decode cX6_tryRescue 51 = .ok (.if_icmp .ge 15, 3) := by decide +kernel
theorem dX6_tryRescue_54 : decode cX6_tryRescue 54 = .ok (.aload_n 0, 1) := by decide +kernel
theorem dX6_tryRescue_55 : decode cX6_tryRescue 55 = .ok (.iload_n 2, 1) := by decide +kernel
theorem dX6_tryRescue_56 : decode cX6_tryRescue 56 = .ok (.invokevirtual 111, 3) := by decide +kernel
theorem dX6_tryRescue_59 : decode cX6_tryRescue 59 = .ok (.pop, 1) := by decide +kernel
theorem dX6_tryRescue_60 : decode cX6_tryRescue 60 = .ok (.iinc 2 1, 3) := by decide +kernel
theorem dX6_tryRescue_63 : decode cX6_tryRescue 63 = .ok (.goto (-22), 3) := by decide +kernel
theorem dX6_tryRescue_66 : decode cX6_tryRescue 66 = .ok (.iconst 1, 1) := by decide +kernel
theorem dX6_tryRescue_67 : decode cX6_tryRescue 67 = .ok (.ireturn, 1) := by decide +kernel
set_option maxRecDepth 20000 in
theorem ggX6_setStride_X7_put : GoodIn wsX6_setStride wsX7_put := goodIn_r _ [4] (by decide +kernel) (by decide +kernel)
set_option maxRecDepth 20000 in
theorem gX6_setStride_X7_put_n25 : GoodIn wsX6_setStride (wsX7_put) := ggX6_setStride_X7_put
theorem dX6_setStride_0 : decode cX6_setStride 0 = .ok (.aload_n 0, 1) := by decide +kernel
theorem dX6_setStride_1 : decode cX6_setStride 1 = .ok (.getfield 15, 3) := by decide +kernel
theorem dX6_setStride_4 : decode cX6_setStride 4 = .ok (.iload_n 1, 1) := by decide +kernel
theorem dX6_setStride_5 : decode cX6_setStride 5 = .ok (.iload_n 2, 1) := by decide +kernel
theorem dX6_setStride_6 : decode cX6_setStride 6 = .ok (.invokestatic 25, 3) := by decide +kernel
theorem dX6_setStride_9 : decode cX6_setStride 9 = .ok (.return_, 1) := by decide +kernel
theorem dX6_leaveOnly_0 : decode cX6_leaveOnly 0 = .ok (.aload_n 0, 1) := by decide +kernel
theorem dX6_leaveOnly_1 : decode cX6_leaveOnly 1 = .ok (.dup, 1) := by decide +kernel
theorem dX6_leaveOnly_2 : decode cX6_leaveOnly 2 = .ok (.getfield 41, 3) := by decide +kernel
theorem dX6_leaveOnly_5 : decode cX6_leaveOnly 5 = .ok (.iload_n 1, 1) := by decide +kernel
theorem dX6_leaveOnly_6 : decode cX6_leaveOnly 6 = .ok (.iconst (-1), 1) := by decide +kernel
theorem dX6_leaveOnly_7 : decode cX6_leaveOnly 7 = .ok (.ixor, 1) := by decide +kernel
theorem dX6_leaveOnly_8 : decode cX6_leaveOnly 8 = .ok (.ior, 1) := by decide +kernel
theorem dX6_leaveOnly_9 : decode cX6_leaveOnly 9 = .ok (.putfield 41, 3) := by decide +kernel
theorem dX6_leaveOnly_12 : decode cX6_leaveOnly 12 = .ok (.return_, 1) := by decide +kernel
set_option maxRecDepth 20000 in
theorem ggX6_setOrder_X3_size : GoodIn wsX6_setOrder wsX3_size := goodIn_r _ [11, 12, 28, 29, 30, 31, 32, 33] (by decide +kernel) (by decide +kernel)
set_option maxRecDepth 20000 in
theorem gX6_setOrder_X3_size : GoodIn wsX6_setOrder (wsV RX6 52 RX3 yX3_size wsX3_size) := goodIn_app (goodIn_of _ (by decide +kernel)) ggX6_setOrder_X3_size
set_option maxRecDepth 20000 in
theorem ggX6_setOrder_X7_at : GoodIn wsX6_setOrder wsX7_at := goodIn_r _ [15] (by decide +kernel) (by decide +kernel)
set_option maxRecDepth 20000 in
theorem gX6_setOrder_X7_at_n48 : GoodIn wsX6_setOrder (wsX7_at) := ggX6_setOrder_X7_at
set_option maxRecDepth 20000 in
theorem ggX6_setOrder_X6_lowestBut : GoodIn wsX6_setOrder wsX6_lowestBut := goodIn_r _ [19] (by decide +kernel) (by decide +kernel)
set_option maxRecDepth 20000 in
theorem gX6_setOrder_X6_lowestBut : GoodIn wsX6_setOrder (va_wsS RX6 123 yX6_lowestBut wsX6_lowestBut) := goodIn_app (goodIn_of _ (by decide +kernel)) ggX6_setOrder_X6_lowestBut
set_option maxRecDepth 20000 in
theorem ggX6_setOrder_X7_put : GoodIn wsX6_setOrder wsX7_put := goodIn_r _ [21] (by decide +kernel) (by decide +kernel)
set_option maxRecDepth 20000 in
theorem gX6_setOrder_X7_put_n25 : GoodIn wsX6_setOrder (wsX7_put) := ggX6_setOrder_X7_put
theorem dX6_setOrder_0 : decode cX6_setOrder 0 = .ok (.iconst 1, 1) := by decide +kernel
theorem dX6_setOrder_1 : decode cX6_setOrder 1 = .ok (.aload_n 0, 1) := by decide +kernel
theorem dX6_setOrder_2 : decode cX6_setOrder 2 = .ok (.getfield 21, 3) := by decide +kernel
theorem dX6_setOrder_5 : decode cX6_setOrder 5 = .ok (.invokevirtual 52, 3) := by decide +kernel
theorem dX6_setOrder_8 : decode cX6_setOrder 8 = .ok (.ishl, 1) := by decide +kernel
theorem dX6_setOrder_9 : decode cX6_setOrder 9 = .ok (.iconst 1, 1) := by decide +kernel
theorem dX6_setOrder_10 : decode cX6_setOrder 10 = .ok (.isub, 1) := by decide +kernel
theorem dX6_setOrder_11 : decode cX6_setOrder 11 = .ok (.istore_n 2, 1) := by decide +kernel
theorem dX6_setOrder_12 : decode cX6_setOrder 12 = .ok (.iload_n 1, 1) := by decide +kernel
theorem dX6_setOrder_13 : decode cX6_setOrder 13 = .ok (.istore_n 3, 1) := by decide +kernel
theorem dX6_setOrder_14 : decode cX6_setOrder 14 = .ok (.iconst 0, 1) := by decide +kernel
theorem dX6_setOrder_15 : decode cX6_setOrder 15 = .ok (.istore 4, 2) := by decide +kernel
theorem dX6_setOrder_17 : decode cX6_setOrder 17 = .ok (.iload 4, 2) := by decide +kernel
theorem dX6_setOrder_19 : decode cX6_setOrder 19 = .ok (.aload_n 0, 1) := by decide +kernel
theorem dX6_setOrder_20 : decode cX6_setOrder 20 = .ok (.getfield 21, 3) := by decide +kernel
theorem dX6_setOrder_23 : decode cX6_setOrder 23 = .ok (.invokevirtual 52, 3) := by decide +kernel
theorem dX6_setOrder_26 : decode cX6_setOrder 26 = .ok (.if_icmp .ge 68, 3) := by decide +kernel
theorem dX6_setOrder_29 : decode cX6_setOrder 29 = .ok (.iconst 1, 1) := by decide +kernel
theorem dX6_setOrder_30 : decode cX6_setOrder 30 = .ok (.getstatic 114, 3) := by decide +kernel
theorem dX6_setOrder_33 : decode cX6_setOrder 33 = .ok (.aload_n 0, 1) := by decide +kernel
theorem dX6_setOrder_34 : decode cX6_setOrder 34 = .ok (.getfield 21, 3) := by decide +kernel
theorem dX6_setOrder_37 : decode cX6_setOrder 37 = .ok (.invokevirtual 52, 3) := by decide +kernel
theorem dX6_setOrder_40 : decode cX6_setOrder 40 = .ok (.iconst 1, 1) := by decide +kernel
theorem dX6_setOrder_41 : decode cX6_setOrder 41 = .ok (.isub, 1) := by decide +kernel
theorem dX6_setOrder_42 : decode cX6_setOrder 42 = .ok (.iload 4, 2) := by decide +kernel
theorem dX6_setOrder_44 : decode cX6_setOrder 44 = .ok (.isub, 1) := by decide +kernel
theorem dX6_setOrder_45 : decode cX6_setOrder 45 = .ok (.invokestatic 48, 3) := by decide +kernel
theorem dX6_setOrder_48 : decode cX6_setOrder 48 = .ok (.invokestatic 117, 3) := by decide +kernel
theorem dX6_setOrder_51 : decode cX6_setOrder 51 = .ok (.istore 5, 2) := by decide +kernel
theorem dX6_setOrder_53 : decode cX6_setOrder 53 = .ok (.iload_n 2, 1) := by decide +kernel
theorem dX6_setOrder_54 : decode cX6_setOrder 54 = .ok (.iload_n 3, 1) := by decide +kernel
theorem dX6_setOrder_55 : decode cX6_setOrder 55 = .ok (.iload 5, 2) := by decide +kernel
theorem dX6_setOrder_57 : decode cX6_setOrder 57 = .ok (.idiv, 1) := by decide +kernel
theorem dX6_setOrder_58 : decode cX6_setOrder 58 = .ok (.invokestatic 123, 3) := by decide +kernel
theorem dX6_setOrder_61 : decode cX6_setOrder 61 = .ok (.istore 6, 2) := by decide +kernel
theorem dX6_setOrder_63 : decode cX6_setOrder 63 = .ok (.iload_n 3, 1) := by decide +kernel
theorem dX6_setOrder_64 : decode cX6_setOrder 64 = .ok (.iload 5, 2) := by decide +kernel
theorem dX6_setOrder_66 : decode cX6_setOrder 66 = .ok (.irem, 1) := by decide +kernel
theorem dX6_setOrder_67 : decode cX6_setOrder 67 = .ok (.istore_n 3, 1) := by decide +kernel
theorem dX6_setOrder_68 : decode cX6_setOrder 68 = .ok (.iload_n 2, 1) := by decide +kernel
theorem dX6_setOrder_69 : decode cX6_setOrder 69 = .ok (.iconst 1, 1) := by decide +kernel
theorem dX6_setOrder_70 : decode cX6_setOrder 70 = .ok (.iload 6, 2) := by decide +kernel
theorem dX6_setOrder_72 : decode cX6_setOrder 72 = .ok (.ishl, 1) := by decide +kernel
theorem dX6_setOrder_73 : decode cX6_setOrder 73 = .ok (.iconst (-1), 1) := by decide +kernel
theorem dX6_setOrder_74 : decode cX6_setOrder 74 = .ok (.ixor, 1) := by decide +kernel
theorem dX6_setOrder_75 : decode cX6_setOrder 75 = .ok (.iand, 1) := by decide +kernel
theorem dX6_setOrder_76 : decode cX6_setOrder 76 = .ok (.istore_n 2, 1) := by decide +kernel
theorem dX6_setOrder_77 : decode cX6_setOrder 77 = .ok (.aload_n 0, 1) := by decide +kernel
theorem dX6_setOrder_78 : decode cX6_setOrder 78 = .ok (.getfield 9, 3) := by decide +kernel
theorem dX6_setOrder_81 : decode cX6_setOrder 81 = .ok (.iload 4, 2) := by decide +kernel
theorem dX6_setOrder_83 : decode cX6_setOrder 83 = .ok (.iload 6, 2) := by decide +kernel
theorem dX6_setOrder_85 : decode cX6_setOrder 85 = .ok (.invokestatic 25, 3) := by decide +kernel
theorem dX6_setOrder_88 : decode cX6_setOrder 88 = .ok (.iinc 4 1, 3) := by decide +kernel
theorem dX6_setOrder_91 : decode cX6_setOrder 91 = .ok (.goto (-74), 3) := by decide +kernel
theorem dX6_setOrder_94 : decode cX6_setOrder 94 = .ok (.return_, 1) := by decide +kernel
theorem dX6_lowestBut_0 : decode cX6_lowestBut 0 = .ok (.iload_n 1, 1) := by decide +kernel
theorem dX6_lowestBut_1 : decode cX6_lowestBut 1 = .ok (.istore_n 2, 1) := by decide +kernel
theorem dX6_lowestBut_2 : decode cX6_lowestBut 2 = .ok (.iconst 0, 1) := by decide +kernel
theorem dX6_lowestBut_3 : decode cX6_lowestBut 3 = .ok (.istore_n 3, 1) := by decide +kernel
theorem dX6_lowestBut_4 : decode cX6_lowestBut 4 = .ok (.iload_n 3, 1) := by decide +kernel
theorem dX6_lowestBut_5 : decode cX6_lowestBut 5 = .ok (.iconst 5, 1) := by decide +kernel
theorem dX6_lowestBut_6 : decode cX6_lowestBut 6 = .ok (.if_icmp .ge 26, 3) := by decide +kernel
theorem dX6_lowestBut_9 : decode cX6_lowestBut 9 = .ok (.iload_n 0, 1) := by decide +kernel
theorem dX6_lowestBut_10 : decode cX6_lowestBut 10 = .ok (.iload_n 3, 1) := by decide +kernel
theorem dX6_lowestBut_11 : decode cX6_lowestBut 11 = .ok (.ishr, 1) := by decide +kernel
theorem dX6_lowestBut_12 : decode cX6_lowestBut 12 = .ok (.iconst 1, 1) := by decide +kernel
theorem dX6_lowestBut_13 : decode cX6_lowestBut 13 = .ok (.iand, 1) := by decide +kernel
theorem dX6_lowestBut_14 : decode cX6_lowestBut 14 = .ok (.ifCond .eq 12, 3) := by decide +kernel
theorem dX6_lowestBut_17 : decode cX6_lowestBut 17 = .ok (.iload_n 2, 1) := by decide +kernel
theorem dX6_lowestBut_18 : decode cX6_lowestBut 18 = .ok (.ifCond .ne 5, 3) := by decide +kernel
theorem dX6_lowestBut_21 : decode cX6_lowestBut 21 = .ok (.iload_n 3, 1) := by decide +kernel
theorem dX6_lowestBut_22 : decode cX6_lowestBut 22 = .ok (.ireturn, 1) := by decide +kernel
theorem dX6_lowestBut_23 : decode cX6_lowestBut 23 = .ok (.iinc 2 (-1), 3) := by decide +kernel
theorem dX6_lowestBut_26 : decode cX6_lowestBut 26 = .ok (.iinc 3 1, 3) := by decide +kernel
theorem dX6_lowestBut_29 : decode cX6_lowestBut 29 = .ok (.goto (-25), 3) := by decide +kernel
theorem dX6_lowestBut_32 : decode cX6_lowestBut 32 = .ok (.iconst 0, 1) := by decide +kernel
theorem dX6_lowestBut_33 : decode cX6_lowestBut 33 = .ok (.ireturn, 1) := by decide +kernel
set_option maxRecDepth 20000 in
theorem ggX6_lineAsFigures_X3_size : GoodIn wsX6_lineAsFigures wsX3_size := goodIn_r _ [6, 7, 23, 24, 25, 26, 27, 28] (by decide +kernel) (by decide +kernel)
set_option maxRecDepth 20000 in
theorem gX6_lineAsFigures_X3_size : GoodIn wsX6_lineAsFigures (wsV RX6 52 RX3 yX3_size wsX3_size) := goodIn_app (goodIn_of _ (by decide +kernel)) ggX6_lineAsFigures_X3_size
set_option maxRecDepth 20000 in
theorem ggX6_lineAsFigures_X6_walkerAt : GoodIn wsX6_lineAsFigures wsX6_walkerAt := goodIn_r _ [12, 13, 14, 15, 16, 17, 18, 19, 20, 21, 22] (by decide +kernel) (by decide +kernel)
set_option maxRecDepth 20000 in
theorem gX6_lineAsFigures_X6_walkerAt : GoodIn wsX6_lineAsFigures (wsV RX6 64 RX6 yX6_walkerAt wsX6_walkerAt) := goodIn_app (goodIn_of _ (by decide +kernel)) ggX6_lineAsFigures_X6_walkerAt
theorem dX6_lineAsFigures_0 : decode cX6_lineAsFigures 0 = .ok (.iconst 0, 1) := by decide +kernel
theorem dX6_lineAsFigures_1 : decode cX6_lineAsFigures 1 = .ok (.istore_n 1, 1) := by decide +kernel
theorem dX6_lineAsFigures_2 : decode cX6_lineAsFigures 2 = .ok (.iconst 0, 1) := by decide +kernel
theorem dX6_lineAsFigures_3 : decode cX6_lineAsFigures 3 = .ok (.istore_n 2, 1) := by decide +kernel
theorem dX6_lineAsFigures_4 : decode cX6_lineAsFigures 4 = .ok (.iload_n 2, 1) := by decide +kernel
theorem dX6_lineAsFigures_5 : decode cX6_lineAsFigures 5 = .ok (.aload_n 0, 1) := by decide +kernel
theorem dX6_lineAsFigures_6 : decode cX6_lineAsFigures 6 = .ok (.getfield 21, 3) := by decide +kernel
theorem dX6_lineAsFigures_9 : decode cX6_lineAsFigures 9 = .ok (.invokevirtual 52, 3) := by decide +kernel
theorem dX6_lineAsFigures_12 : decode cX6_lineAsFigures 12 = .ok (.if_icmp .ge 22, 3) := by decide +kernel
theorem dX6_lineAsFigures_15 : decode cX6_lineAsFigures 15 = .ok (.iload_n 1, 1) := by decide +kernel
theorem dX6_lineAsFigures_16 : decode cX6_lineAsFigures 16 = .ok (.bipush 10, 2) := by decide +kernel
theorem dX6_lineAsFigures_18 : decode cX6_lineAsFigures 18 = .ok (.imul, 1) := by decide +kernel
theorem dX6_lineAsFigures_19 : decode cX6_lineAsFigures 19 = .ok (.aload_n 0, 1) := by decide +kernel
theorem dX6_lineAsFigures_20 : decode cX6_lineAsFigures 20 = .ok (.iload_n 2, 1) := by decide +kernel
theorem dX6_lineAsFigures_21 : decode cX6_lineAsFigures 21 = .ok (.invokevirtual 64, 3) := by decide +kernel
theorem dX6_lineAsFigures_24 : decode cX6_lineAsFigures 24 = .ok (.iadd, 1) := by decide +kernel
theorem dX6_lineAsFigures_25 : decode cX6_lineAsFigures 25 = .ok (.iconst 1, 1) := by decide +kernel
theorem dX6_lineAsFigures_26 : decode cX6_lineAsFigures 26 = .ok (.iadd, 1) := by decide +kernel
theorem dX6_lineAsFigures_27 : decode cX6_lineAsFigures 27 = .ok (.istore_n 1, 1) := by decide +kernel
theorem dX6_lineAsFigures_28 : decode cX6_lineAsFigures 28 = .ok (.iinc 2 1, 3) := by decide +kernel
theorem dX6_lineAsFigures_31 : decode cX6_lineAsFigures 31 = .ok (.goto (-27), 3) := by decide +kernel
theorem dX6_lineAsFigures_34 : decode cX6_lineAsFigures 34 = .ok (.iload_n 1, 1) := by decide +kernel
theorem dX6_lineAsFigures_35 : decode cX6_lineAsFigures 35 = .ok (.ireturn, 1) := by decide +kernel
set_option maxRecDepth 20000 in
theorem ggX7_init_X5_init : GoodIn wsX7_init wsX5_init := goodIn_r _ [34, 35, 2, 3, 36, 37, 86, 87] (by decide +kernel) (by decide +kernel)
set_option maxRecDepth 20000 in
theorem gX7_init_X5_init_n11 : GoodIn wsX7_init (wsX5_init) := ggX7_init_X5_init
set_option maxRecDepth 20000 in
theorem ggX7_init_X3_init : GoodIn wsX7_init wsX3_init := goodIn_r _ [39, 40, 2, 3, 36, 41, 42, 43, 44, 100, 101, 102, 103, 104, 105] (by decide +kernel) (by decide +kernel)
set_option maxRecDepth 20000 in
theorem gX7_init_X3_init_n18 : GoodIn wsX7_init (wsX3_init) := ggX7_init_X3_init
set_option maxRecDepth 20000 in
theorem ggX7_init_X6_init : GoodIn wsX7_init wsX6_init := goodIn_r _ [47, 48, 2, 3, 36, 49, 50, 51, 52, 106, 107, 108, 109, 110, 111] (by decide +kernel) (by decide +kernel)
set_option maxRecDepth 20000 in
theorem gX7_init_X6_init : GoodIn wsX7_init (wsX6_init) := ggX7_init_X6_init
set_option maxRecDepth 20000 in
theorem ggX7_init_X4_init : GoodIn wsX7_init wsX4_init := goodIn_r _ [55, 56, 2, 3, 57, 58, 59, 60, 61, 62, 63, 36, 64, 112] (by decide +kernel) (by decide +kernel)
set_option maxRecDepth 20000 in
theorem gX7_init_X4_init : GoodIn wsX7_init (wsX4_init) := ggX7_init_X4_init
set_option maxRecDepth 20000 in
theorem ggX7_init_X2_init : GoodIn wsX7_init wsX2_init := goodIn_r _ [66, 67, 2, 3, 36, 68, 69, 113, 114, 115] (by decide +kernel) (by decide +kernel)
set_option maxRecDepth 20000 in
theorem gX7_init_X2_init_n46 : GoodIn wsX7_init (wsX2_init) := ggX7_init_X2_init
set_option maxRecDepth 20000 in
theorem ggX7_init_X1_init : GoodIn wsX7_init wsX1_init := goodIn_r _ [72, 73, 2, 3, 74, 75, 76, 116, 117, 118] (by decide +kernel) (by decide +kernel)
set_option maxRecDepth 20000 in
theorem gX7_init_X1_init : GoodIn wsX7_init (wsX1_init) := ggX7_init_X1_init
set_option maxRecDepth 20000 in
theorem ggX7_init_X0_init : GoodIn wsX7_init wsX0_init := goodIn_r _ [79, 80, 2, 3, 36, 81, 82, 83, 84, 85, 119, 120, 121, 122, 123] (by decide +kernel) (by decide +kernel)
set_option maxRecDepth 20000 in
theorem gX7_init_X0_init : GoodIn wsX7_init (wsX0_init) := ggX7_init_X0_init
theorem dX7_init_0 : decode cX7_init 0 = .ok (.aload_n 0, 1) := by decide +kernel
theorem dX7_init_1 : decode cX7_init 1 = .ok (.invokespecial 3, 3) := by decide +kernel
theorem dX7_init_4 : decode cX7_init 4 = .ok (.aload_n 0, 1) := by decide +kernel
theorem dX7_init_5 : decode cX7_init 5 = .ok (.new 9, 3) := by decide +kernel
theorem dX7_init_8 : decode cX7_init 8 = .ok (.dup, 1) := by decide +kernel
theorem dX7_init_9 : decode cX7_init 9 = .ok (.invokespecial 11, 3) := by decide +kernel
theorem dX7_init_12 : decode cX7_init 12 = .ok (.putfield 12, 3) := by decide +kernel
theorem dX7_init_15 : decode cX7_init 15 = .ok (.aload_n 0, 1) := by decide +kernel
theorem dX7_init_16 : decode cX7_init 16 = .ok (.new 16, 3) := by decide +kernel
theorem dX7_init_19 : decode cX7_init 19 = .ok (.dup, 1) := by decide +kernel
theorem dX7_init_20 : decode cX7_init 20 = .ok (.invokespecial 18, 3) := by decide +kernel
theorem dX7_init_23 : decode cX7_init 23 = .ok (.putfield 19, 3) := by decide +kernel
theorem dX7_init_26 : decode cX7_init 26 = .ok (.aload_n 0, 1) := by decide +kernel
theorem dX7_init_27 : decode cX7_init 27 = .ok (.new 23, 3) := by decide +kernel
theorem dX7_init_30 : decode cX7_init 30 = .ok (.dup, 1) := by decide +kernel
theorem dX7_init_31 : decode cX7_init 31 = .ok (.aload_n 0, 1) := by decide +kernel
theorem dX7_init_32 : decode cX7_init 32 = .ok (.getfield 19, 3) := by decide +kernel
theorem dX7_init_35 : decode cX7_init 35 = .ok (.invokespecial 25, 3) := by decide +kernel
theorem dX7_init_38 : decode cX7_init 38 = .ok (.putfield 28, 3) := by decide +kernel
theorem dX7_init_41 : decode cX7_init 41 = .ok (.aload_n 0, 1) := by decide +kernel
theorem dX7_init_42 : decode cX7_init 42 = .ok (.new 32, 3) := by decide +kernel
theorem dX7_init_45 : decode cX7_init 45 = .ok (.dup, 1) := by decide +kernel
theorem dX7_init_46 : decode cX7_init 46 = .ok (.bipush 14, 2) := by decide +kernel
theorem dX7_init_48 : decode cX7_init 48 = .ok (.invokespecial 34, 3) := by decide +kernel
theorem dX7_init_51 : decode cX7_init 51 = .ok (.putfield 37, 3) := by decide +kernel
theorem dX7_init_54 : decode cX7_init 54 = .ok (.aload_n 0, 1) := by decide +kernel
theorem dX7_init_55 : decode cX7_init 55 = .ok (.new 32, 3) := by decide +kernel
theorem dX7_init_58 : decode cX7_init 58 = .ok (.dup, 1) := by decide +kernel
theorem dX7_init_59 : decode cX7_init 59 = .ok (.iconst 2, 1) := by decide +kernel
theorem dX7_init_60 : decode cX7_init 60 = .ok (.invokespecial 34, 3) := by decide +kernel
theorem dX7_init_63 : decode cX7_init 63 = .ok (.putfield 41, 3) := by decide +kernel
theorem dX7_init_66 : decode cX7_init 66 = .ok (.aload_n 0, 1) := by decide +kernel
theorem dX7_init_67 : decode cX7_init 67 = .ok (.new 44, 3) := by decide +kernel
theorem dX7_init_70 : decode cX7_init 70 = .ok (.dup, 1) := by decide +kernel
theorem dX7_init_71 : decode cX7_init 71 = .ok (.invokespecial 46, 3) := by decide +kernel
theorem dX7_init_74 : decode cX7_init 74 = .ok (.putfield 47, 3) := by decide +kernel
theorem dX7_init_77 : decode cX7_init 77 = .ok (.new 23, 3) := by decide +kernel
theorem dX7_init_80 : decode cX7_init 80 = .ok (.dup, 1) := by decide +kernel
theorem dX7_init_81 : decode cX7_init 81 = .ok (.aload_n 0, 1) := by decide +kernel
theorem dX7_init_82 : decode cX7_init 82 = .ok (.getfield 19, 3) := by decide +kernel
theorem dX7_init_85 : decode cX7_init 85 = .ok (.invokespecial 25, 3) := by decide +kernel
theorem dX7_init_88 : decode cX7_init 88 = .ok (.astore_n 1, 1) := by decide +kernel
theorem dX7_init_89 : decode cX7_init 89 = .ok (.aload_n 0, 1) := by decide +kernel
theorem dX7_init_90 : decode cX7_init 90 = .ok (.new 51, 3) := by decide +kernel
theorem dX7_init_93 : decode cX7_init 93 = .ok (.dup, 1) := by decide +kernel
theorem dX7_init_94 : decode cX7_init 94 = .ok (.aload_n 0, 1) := by decide +kernel
theorem dX7_init_95 : decode cX7_init 95 = .ok (.getfield 19, 3) := by decide +kernel
theorem dX7_init_98 : decode cX7_init 98 = .ok (.aload_n 0, 1) := by decide +kernel
theorem dX7_init_99 : decode cX7_init 99 = .ok (.getfield 28, 3) := by decide +kernel
theorem dX7_init_102 : decode cX7_init 102 = .ok (.aload_n 1, 1) := by decide +kernel
theorem dX7_init_103 : decode cX7_init 103 = .ok (.invokespecial 53, 3) := by decide +kernel
theorem dX7_init_106 : decode cX7_init 106 = .ok (.putfield 56, 3) := by decide +kernel
theorem dX7_init_109 : decode cX7_init 109 = .ok (.aload_n 0, 1) := by decide +kernel
theorem dX7_init_110 : decode cX7_init 110 = .ok (.new 60, 3) := by decide +kernel
theorem dX7_init_113 : decode cX7_init 113 = .ok (.dup, 1) := by decide +kernel
theorem dX7_init_114 : decode cX7_init 114 = .ok (.aload_n 0, 1) := by decide +kernel
