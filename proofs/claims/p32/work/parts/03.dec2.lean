set_option maxRecDepth 20000 in
theorem ggX3_init_X5_init : GoodIn wsX3_init wsX5_init := goodIn_r _ [11, 12, 2, 3] (by decide +kernel) (by decide +kernel)
set_option maxRecDepth 20000 in
theorem gX3_init_X5_init_n21 : GoodIn wsX3_init (wsX5_init) := ggX3_init_X5_init
theorem dX3_init_0 : decode cX3_init 0 = .ok (.aload_n 0, 1) := by decide +kernel
theorem dX3_init_1 : decode cX3_init 1 = .ok (.invokespecial 3, 3) := by decide +kernel
theorem dX3_init_4 : decode cX3_init 4 = .ok (.aload_n 0, 1) := by decide +kernel
theorem dX3_init_5 : decode cX3_init 5 = .ok (.bipush 60, 2) := by decide +kernel
theorem dX3_init_7 : decode cX3_init 7 = .ok (.newarray .char, 2) := by decide +kernel
theorem dX3_init_9 : decode cX3_init 9 = .ok (.putfield 9, 3) := by decide +kernel
theorem dX3_init_12 : decode cX3_init 12 = .ok (.aload_n 0, 1) := by decide +kernel
theorem dX3_init_13 : decode cX3_init 13 = .ok (.bipush 15, 2) := by decide +kernel
theorem dX3_init_15 : decode cX3_init 15 = .ok (.anewarray 15, 3) := by decide +kernel
theorem dX3_init_18 : decode cX3_init 18 = .ok (.putfield 17, 3) := by decide +kernel
theorem dX3_init_21 : decode cX3_init 21 = .ok (.iconst 0, 1) := by decide +kernel
theorem dX3_init_22 : decode cX3_init 22 = .ok (.istore_n 1, 1) := by decide +kernel
theorem dX3_init_23 : decode cX3_init 23 = .ok (.iload_n 1, 1) := by decide +kernel
theorem dX3_init_24 : decode cX3_init 24 = .ok (.bipush 15, 2) := by decide +kernel
theorem dX3_init_26 : decode cX3_init 26 = .ok (.if_icmp .ge 22, 3) := by decide +kernel
theorem dX3_init_29 : decode cX3_init 29 = .ok (.aload_n 0, 1) := by decide +kernel
theorem dX3_init_30 : decode cX3_init 30 = .ok (.getfield 17, 3) := by decide +kernel
theorem dX3_init_33 : decode cX3_init 33 = .ok (.iload_n 1, 1) := by decide +kernel
theorem dX3_init_34 : decode cX3_init 34 = .ok (.new 15, 3) := by decide +kernel
theorem dX3_init_37 : decode cX3_init 37 = .ok (.dup, 1) := by decide +kernel
theorem dX3_init_38 : decode cX3_init 38 = .ok (.invokespecial 21, 3) := by decide +kernel
theorem dX3_init_41 : decode cX3_init 41 = .ok (.aastore, 1) := by decide +kernel
theorem dX3_init_42 : decode cX3_init 42 = .ok (.iinc 1 1, 3) := by decide +kernel
theorem dX3_init_45 : decode cX3_init 45 = .ok (.goto (-22), 3) := by decide +kernel
theorem dX3_init_48 : decode cX3_init 48 = .ok (.return_, 1) := by decide +kernel
theorem dX3_isFull_0 : decode cX3_isFull 0 = .ok (.aload_n 0, 1) := by decide +kernel
theorem dX3_isFull_1 : decode cX3_isFull 1 = .ok (.getfield 22, 3) := by decide +kernel
theorem dX3_isFull_4 : decode cX3_isFull 4 = .ok (.bipush 60, 2) := by decide +kernel
theorem dX3_isFull_6 : decode cX3_isFull 6 = .ok (.if_icmp .lt 7, 3) := by decide +kernel
theorem dX3_isFull_9 : decode cX3_isFull 9 = .ok (.iconst 1, 1) := by decide +kernel
theorem dX3_isFull_10 : decode cX3_isFull 10 = .ok (.goto 4, 3) := by decide +kernel
theorem dX3_isFull_13 : decode cX3_isFull 13 = .ok (.iconst 0, 1) := by decide +kernel
theorem dX3_isFull_14 : decode cX3_isFull 14 = .ok (.ireturn, 1) := by decide +kernel
theorem dX3_append_0 : decode cX3_append 0 = .ok (.aload_n 0, 1) := by decide +kernel
theorem dX3_append_1 : decode cX3_append 1 = .ok (.getfield 22, 3) := by decide +kernel
theorem dX3_append_4 : decode cX3_append 4 = .ok (.bipush 60, 2) := by decide +kernel
theorem dX3_append_6 : decode cX3_append 6 = .ok (.if_icmp .ge 23, 3) := by decide +kernel
theorem dX3_append_9 : decode cX3_append 9 = .ok (.aload_n 0, 1) := by decide +kernel
theorem dX3_append_10 : decode cX3_append 10 = .ok (.getfield 9, 3) := by decide +kernel
theorem dX3_append_13 : decode cX3_append 13 = .ok (.aload_n 0, 1) := by decide +kernel
theorem dX3_append_14 : decode cX3_append 14 = .ok (.getfield 22, 3) := by decide +kernel
theorem dX3_append_17 : decode cX3_append 17 = .ok (.iload_n 1, 1) := by decide +kernel
theorem dX3_append_18 : decode cX3_append 18 = .ok (.castore, 1) := by decide +kernel
theorem dX3_append_19 : decode cX3_append 19 = .ok (.aload_n 0, 1) := by decide +kernel
theorem dX3_append_20 : decode cX3_append 20 = .ok (.dup, 1) := by decide +kernel
theorem dX3_append_21 : decode cX3_append 21 = .ok (.getfield 22, 3) := by decide +kernel
theorem dX3_append_24 : decode cX3_append 24 = .ok (.iconst 1, 1) := by decide +kernel
theorem dX3_append_25 : decode cX3_append 25 = .ok (.iadd, 1) := by decide +kernel
theorem dX3_append_26 : decode cX3_append 26 = .ok (.putfield 22, 3) := by decide +kernel
theorem dX3_append_29 : decode cX3_append 29 = .ok (.aload_n 0, 1) := by decide +kernel
theorem dX3_append_30 : decode cX3_append 30 = .ok (.getfield 22, 3) := by decide +kernel
theorem dX3_append_33 : decode cX3_append 33 = .ok (.ireturn, 1) := by decide +kernel
theorem dX3_empty_0 : decode cX3_empty 0 = .ok (.aload_n 0, 1) := by decide +kernel
theorem dX3_empty_1 : decode cX3_empty 1 = .ok (.getfield 22, 3) := by decide +kernel
theorem dX3_empty_4 : decode cX3_empty 4 = .ok (.istore_n 1, 1) := by decide +kernel
theorem dX3_empty_5 : decode cX3_empty 5 = .ok (.aload_n 0, 1) := by decide +kernel
theorem dX3_empty_6 : decode cX3_empty 6 = .ok (.iconst 0, 1) := by decide +kernel
theorem dX3_empty_7 : decode cX3_empty 7 = .ok (.putfield 22, 3) := by decide +kernel
theorem dX3_empty_10 : decode cX3_empty 10 = .ok (.iload_n 1, 1) := by decide +kernel
theorem dX3_empty_11 : decode cX3_empty 11 = .ok (.ireturn, 1) := by decide +kernel
set_option maxRecDepth 20000 in
theorem ggX3_read_X3_readTarget : GoodIn wsX3_read wsX3_readTarget := goodIn_r _ [9, 10, 11, 12, 8, 13, 1, 14, 15, 16, 17, 4, 18, 19, 20, 21, 22, 23, 24, 25, 26, 27, 28, 53, 54, 55, 56, 57, 58, 59, 60, 61] (by decide +kernel) (by decide +kernel)
set_option maxRecDepth 20000 in
theorem gX3_read_X3_readTarget : GoodIn wsX3_read (wsV RX3 32 RX3 yX3_readTarget wsX3_readTarget) := goodIn_app (goodIn_of _ (by decide +kernel)) ggX3_read_X3_readTarget
set_option maxRecDepth 20000 in
theorem ggX3_read_X3_readRightSide : GoodIn wsX3_read wsX3_readRightSide := goodIn_r _ [32, 1, 14, 15, 16, 8, 17, 4, 18, 33, 34, 35, 36, 37, 10, 11, 12, 13, 38, 39, 40, 41, 42, 43, 44, 45, 46, 47, 48, 22, 49, 50, 51, 52, 53, 54, 55, 56, 57, 58, 59, 60, 61] (by decide +kernel) (by decide +kernel)
set_option maxRecDepth 20000 in
theorem gX3_read_X3_readRightSide : GoodIn wsX3_read (wsV RX3 36 RX3 yX3_readRightSide wsX3_readRightSide) := goodIn_app (goodIn_of _ (by decide +kernel)) ggX3_read_X3_readRightSide
set_option maxRecDepth 20000 in
theorem ggX3_read_X3_skip : GoodIn wsX3_read wsX3_skip := goodIn_r _ [28, 1, 14, 15, 16, 8, 17, 4, 18, 53, 54, 55, 56, 57] (by decide +kernel) (by decide +kernel)
set_option maxRecDepth 20000 in
theorem gX3_read_X3_skip : GoodIn wsX3_read (wsV RX3 39 RX3 yX3_skip wsX3_skip) := goodIn_app (goodIn_of _ (by decide +kernel)) ggX3_read_X3_skip
theorem dX3_read_0 : decode cX3_read 0 = .ok (.aload_n 0, 1) := by decide +kernel
theorem dX3_read_1 : decode cX3_read 1 = .ok (.iconst 0, 1) := by decide +kernel
theorem dX3_read_2 : decode cX3_read 2 = .ok (.putfield 26, 3) := by decide +kernel
theorem dX3_read_5 : decode cX3_read 5 = .ok (.aload_n 0, 1) := by decide +kernel
theorem dX3_read_6 : decode cX3_read 6 = .ok (.iconst 0, 1) := by decide +kernel
theorem dX3_read_7 : decode cX3_read 7 = .ok (.putfield 29, 3) := by decide +kernel
theorem dX3_read_10 : decode cX3_read 10 = .ok (.aload_n 0, 1) := by decide +kernel
theorem dX3_read_11 : decode cX3_read 11 = .ok (.getfield 29, 3) := by decide +kernel
theorem dX3_read_14 : decode cX3_read 14 = .ok (.bipush 15, 2) := by decide +kernel
theorem dX3_read_16 : decode cX3_read 16 = .ok (.if_icmp .ge 77, 3) := by decide +kernel
theorem dX3_read_19 : decode cX3_read 19 = .ok (.aload_n 0, 1) := by decide +kernel
theorem dX3_read_20 : decode cX3_read 20 = .ok (.aload_n 0, 1) := by decide +kernel
theorem dX3_read_21 : decode cX3_read 21 = .ok (.getfield 17, 3) := by decide +kernel
theorem dX3_read_24 : decode cX3_read 24 = .ok (.aload_n 0, 1) := by decide +kernel
theorem dX3_read_25 : decode cX3_read 25 = .ok (.getfield 29, 3) := by decide +kernel
theorem dX3_read_28 : decode cX3_read 28 = .ok (.aaload, 1) := by decide +kernel
theorem dX3_read_29 : decode cX3_read 29 = .ok (.invokevirtual 32, 3) := by decide +kernel
theorem dX3_read_32 : decode cX3_read 32 = .ok (.ifCond .eq 19, 3) := by decide +kernel
theorem dX3_read_35 : decode cX3_read 35 = .ok (.aload_n 0, 1) := by decide +kernel
theorem dX3_read_36 : decode cX3_read 36 = .ok (.aload_n 0, 1) := by decide +kernel
theorem dX3_read_37 : decode cX3_read 37 = .ok (.getfield 17, 3) := by decide +kernel
theorem dX3_read_40 : decode cX3_read 40 = .ok (.aload_n 0, 1) := by decide +kernel
theorem dX3_read_41 : decode cX3_read 41 = .ok (.getfield 29, 3) := by decide +kernel
theorem dX3_read_44 : decode cX3_read 44 = .ok (.aaload, 1) := by decide +kernel
theorem dX3_read_45 : decode cX3_read 45 = .ok (.invokevirtual 36, 3) := by decide +kernel
theorem dX3_read_48 : decode cX3_read 48 = .ok (.ifCond .ne 8, 3) := by decide +kernel
theorem dX3_read_51 : decode cX3_read 51 = .ok (.aload_n 0, 1) := by decide +kernel
theorem dX3_read_52 : decode cX3_read 52 = .ok (.getfield 26, 3) := by decide +kernel
theorem dX3_read_55 : decode cX3_read 55 = .ok (.ireturn, 1) := by decide +kernel
theorem dX3_read_56 : decode cX3_read 56 = .ok (.aload_n 0, 1) := by decide +kernel
theorem dX3_read_57 : decode cX3_read 57 = .ok (.dup, 1) := by decide +kernel
theorem dX3_read_58 : decode cX3_read 58 = .ok (.getfield 29, 3) := by decide +kernel
theorem dX3_read_61 : decode cX3_read 61 = .ok (.iconst 1, 1) := by decide +kernel
theorem dX3_read_62 : decode cX3_read 62 = .ok (.iadd, 1) := by decide +kernel
theorem dX3_read_63 : decode cX3_read 63 = .ok (.putfield 29, 3) := by decide +kernel
theorem dX3_read_66 : decode cX3_read 66 = .ok (.aload_n 0, 1) := by decide +kernel
theorem dX3_read_67 : decode cX3_read 67 = .ok (.getfield 26, 3) := by decide +kernel
theorem dX3_read_70 : decode cX3_read 70 = .ok (.aload_n 0, 1) := by decide +kernel
theorem dX3_read_71 : decode cX3_read 71 = .ok (.getfield 22, 3) := by decide +kernel
theorem dX3_read_74 : decode cX3_read 74 = .ok (.if_icmp .ne 5, 3) := by decide +kernel
theorem dX3_read_77 : decode cX3_read 77 = .ok (.iconst (-1), 1) := by decide +kernel
theorem dX3_read_78 : decode cX3_read 78 = .ok (.ireturn, 1) := by decide +kernel
theorem dX3_read_79 : decode cX3_read 79 = .ok (.aload_n 0, 1) := by decide +kernel
theorem dX3_read_80 : decode cX3_read 80 = .ok (.bipush 59, 2) := by decide +kernel
theorem dX3_read_82 : decode cX3_read 82 = .ok (.invokevirtual 39, 3) := by decide +kernel
theorem dX3_read_85 : decode cX3_read 85 = .ok (.ifCond .ne (-75), 3) := by decide +kernel
theorem dX3_read_88 : decode cX3_read 88 = .ok (.aload_n 0, 1) := by decide +kernel
theorem dX3_read_89 : decode cX3_read 89 = .ok (.getfield 26, 3) := by decide +kernel
theorem dX3_read_92 : decode cX3_read 92 = .ok (.ireturn, 1) := by decide +kernel
theorem dX3_read_93 : decode cX3_read 93 = .ok (.aload_n 0, 1) := by decide +kernel
theorem dX3_read_94 : decode cX3_read 94 = .ok (.getfield 26, 3) := by decide +kernel
theorem dX3_read_97 : decode cX3_read 97 = .ok (.ireturn, 1) := by decide +kernel
set_option maxRecDepth 20000 in
theorem ggX3_runOn_X5_doOn : GoodIn wsX3_runOn wsX5_doOn := goodIn_r _ [7, 8, 9, 10, 11, 12, 13, 6, 14, 15, 16, 17, 18, 19, 20, 21, 22, 23, 24, 25, 26, 27, 28, 29, 30, 31, 32, 33, 34, 35, 36, 37, 38, 39, 40, 41, 42, 43, 44, 45, 46, 47, 48, 49, 50, 51, 52, 53, 54, 55, 56, 57, 63, 64, 65, 66, 67, 68, 69] (by decide +kernel) (by decide +kernel)
set_option maxRecDepth 20000 in
theorem gX3_runOn_X5_doOn : GoodIn wsX3_runOn (wsV RX3 43 RX5 yX5_doOn wsX5_doOn) := goodIn_app (goodIn_of _ (by decide +kernel)) ggX3_runOn_X5_doOn
theorem dX3_runOn_0 : decode cX3_runOn 0 = .ok (.iconst 0, 1) := by decide +kernel
theorem dX3_runOn_1 : decode cX3_runOn 1 = .ok (.istore_n 3, 1) := by decide +kernel
theorem dX3_runOn_2 : decode cX3_runOn 2 = .ok (.iload_n 3, 1) := by decide +kernel
theorem dX3_runOn_3 : decode cX3_runOn 3 = .ok (.aload_n 0, 1) := by decide +kernel
theorem dX3_runOn_4 : decode cX3_runOn 4 = .ok (.getfield 29, 3) := by decide +kernel
theorem dX3_runOn_7 : decode cX3_runOn 7 = .ok (.if_icmp .ge 31, 3) := by decide +kernel
theorem dX3_runOn_10 : decode cX3_runOn 10 = .ok (.iload_n 3, 1) := by decide +kernel
theorem dX3_runOn_11 : decode cX3_runOn 11 = .ok (.bipush 15, 2) := by decide +kernel
theorem dX3_runOn_13 : decode cX3_runOn 13 = .ok (.if_icmp .ge 25, 3) := by decide +kernel
theorem dX3_runOn_16 : decode cX3_runOn 16 = .ok (.aload_n 0, 1) := by decide +kernel
theorem dX3_runOn_17 : decode cX3_runOn 17 = .ok (.getfield 17, 3) := by decide +kernel
theorem dX3_runOn_20 : decode cX3_runOn 20 = .ok (.iload_n 3, 1) := by decide +kernel
theorem dX3_runOn_21 : decode cX3_runOn 21 = .ok (.aaload, 1) := by decide +kernel
theorem dX3_runOn_22 : decode cX3_runOn 22 = .ok (.aload_n 1, 1) := by decide +kernel
theorem dX3_runOn_23 : decode cX3_runOn 23 = .ok (.aload_n 2, 1) := by decide +kernel
theorem dX3_runOn_24 : decode cX3_runOn 24 = .ok (.invokevirtual 43, 3) := by decide +kernel
theorem dX3_runOn_27 : decode cX3_runOn 27 = .ok (.ifCond .ne 5, 3) := by decide +kernel
theorem dX3_runOn_30 : decode cX3_runOn 30 = .ok (.iload_n 3, 1) := by decide +kernel
theorem dX3_runOn_31 : decode cX3_runOn 31 = .ok (.ireturn, 1) := by decide +kernel
theorem dX3_runOn_32 : decode cX3_runOn 32 = .ok (.iinc 3 1, 3) := by decide +kernel
theorem dX3_runOn_35 : decode cX3_runOn 35 = .ok (.goto (-33), 3) := by decide +kernel
theorem dX3_runOn_38 : decode cX3_runOn 38 = .ok (.iconst (-1), 1) := by decide +kernel
theorem dX3_runOn_39 : decode cX3_runOn 39 = .ok (.ireturn, 1) := by decide +kernel
set_option maxRecDepth 20000 in
theorem ggX3_lastTarget_X5_target : GoodIn wsX3_lastTarget wsX5_target := goodIn_r _ [7, 8, 14, 15, 16, 17] (by decide +kernel) (by decide +kernel)
set_option maxRecDepth 20000 in
theorem gX3_lastTarget_X5_target : GoodIn wsX3_lastTarget (wsV RX3 47 RX5 yX5_target wsX5_target) := goodIn_app (goodIn_of _ (by decide +kernel)) ggX3_lastTarget_X5_target
theorem dX3_lastTarget_0 : decode cX3_lastTarget 0 = .ok (.aload_n 0, 1) := by decide +kernel
theorem dX3_lastTarget_1 : decode cX3_lastTarget 1 = .ok (.getfield 29, 3) := by decide +kernel
theorem dX3_lastTarget_4 : decode cX3_lastTarget 4 = .ok (.iconst 1, 1) := by decide +kernel
theorem dX3_lastTarget_5 : decode cX3_lastTarget 5 = .ok (.if_icmp .lt 12, 3) := by decide +kernel
theorem dX3_lastTarget_8 : decode cX3_lastTarget 8 = .ok (.aload_n 0, 1) := by decide +kernel
theorem dX3_lastTarget_9 : decode cX3_lastTarget 9 = .ok (.getfield 29, 3) := by decide +kernel
theorem dX3_lastTarget_12 : decode cX3_lastTarget 12 = .ok (.bipush 15, 2) := by decide +kernel
theorem dX3_lastTarget_14 : decode cX3_lastTarget 14 = .ok (.if_icmp .le 7, 3) := by decide +kernel
theorem dX3_lastTarget_17 : decode cX3_lastTarget 17 = .ok (.iconst (-1), 1) := by decide +kernel
theorem dX3_lastTarget_18 : decode cX3_lastTarget 18 = .ok (.goto 17, 3) := by decide +kernel
theorem dX3_lastTarget_21 : decode cX3_lastTarget 21 = .ok (.aload_n 0, 1) := by decide +kernel
theorem dX3_lastTarget_22 : decode cX3_lastTarget 22 = .ok (.getfield 17, 3) := by decide +kernel
theorem dX3_lastTarget_25 : decode cX3_lastTarget 25 = .ok (.aload_n 0, 1) := by decide +kernel
theorem dX3_lastTarget_26 : decode cX3_lastTarget 26 = .ok (.getfield 29, 3) := by decide +kernel
theorem dX3_lastTarget_29 : decode cX3_lastTarget 29 = .ok (.iconst 1, 1) := by decide +kernel
theorem dX3_lastTarget_30 : decode cX3_lastTarget 30 = .ok (.isub, 1) := by decide +kernel
theorem dX3_lastTarget_31 : decode cX3_lastTarget 31 = .ok (.aaload, 1) := by decide +kernel
theorem dX3_lastTarget_32 : decode cX3_lastTarget 32 = .ok (.invokevirtual 47, 3) := by decide +kernel
theorem dX3_lastTarget_35 : decode cX3_lastTarget 35 = .ok (.ireturn, 1) := by decide +kernel
set_option maxRecDepth 20000 in
theorem ggX3_readTarget_X3_readRegister : GoodIn wsX3_readTarget wsX3_readRegister := goodIn_r _ [5, 6, 7, 8, 9, 4, 10, 11, 12, 23, 24, 25, 26, 27] (by decide +kernel) (by decide +kernel)
set_option maxRecDepth 20000 in
theorem gX3_readTarget_X3_readRegister : GoodIn wsX3_readTarget (wsV RX3 51 RX3 yX3_readRegister wsX3_readRegister) := goodIn_app (goodIn_of _ (by decide +kernel)) ggX3_readTarget_X3_readRegister
set_option maxRecDepth 20000 in
theorem ggX3_readTarget_X5_setTarget : GoodIn wsX3_readTarget wsX5_setTarget := goodIn_r _ [17, 18, 28, 29, 30, 31] (by decide +kernel) (by decide +kernel)
set_option maxRecDepth 20000 in
theorem gX3_readTarget_X5_setTarget : GoodIn wsX3_readTarget (wsV RX3 54 RX5 yX5_setTarget wsX5_setTarget) := goodIn_app (goodIn_of _ (by decide +kernel)) ggX3_readTarget_X5_setTarget
set_option maxRecDepth 20000 in
theorem ggX3_readTarget_X3_skip : GoodIn wsX3_readTarget wsX3_skip := goodIn_r _ [22, 6, 7, 8, 9, 4, 10, 11, 12, 23, 24, 25, 26, 27] (by decide +kernel) (by decide +kernel)
set_option maxRecDepth 20000 in
theorem gX3_readTarget_X3_skip : GoodIn wsX3_readTarget (wsV RX3 39 RX3 yX3_skip wsX3_skip) := goodIn_app (goodIn_of _ (by decide +kernel)) ggX3_readTarget_X3_skip
theorem dX3_readTarget_0 : decode cX3_readTarget 0 = .ok (.aload_n 0, 1) := by decide +kernel
theorem dX3_readTarget_1 : decode cX3_readTarget 1 = .ok (.invokevirtual 51, 3) := by decide +kernel
theorem dX3_readTarget_4 : decode cX3_readTarget 4 = .ok (.istore_n 2, 1) := by decide +kernel
theorem dX3_readTarget_5 : decode cX3_readTarget 5 = .ok (.aload_n 1, 1) := by decide +kernel
theorem dX3_readTarget_6 : decode cX3_readTarget 6 = .ok (.iload_n 2, 1) := by decide +kernel
theorem dX3_readTarget_7 : decode cX3_readTarget 7 = .ok (.invokevirtual 54, 3) := by decide +kernel
theorem dX3_readTarget_10 : decode cX3_readTarget 10 = .ok (.iload_n 2, 1) := by decide +kernel
theorem dX3_readTarget_11 : decode cX3_readTarget 11 = .ok (.iconst (-1), 1) := by decide +kernel
theorem dX3_readTarget_12 : decode cX3_readTarget 12 = .ok (.if_icmp .eq 16, 3) := by decide +kernel
theorem dX3_readTarget_15 : decode cX3_readTarget 15 = .ok (.aload_n 0, 1) := by decide +kernel
theorem dX3_readTarget_16 : decode cX3_readTarget 16 = .ok (.bipush 61, 2) := by decide +kernel
theorem dX3_readTarget_18 : decode cX3_readTarget 18 = .ok (.invokevirtual 39, 3) := by decide +kernel
theorem dX3_readTarget_21 : decode cX3_readTarget 21 = .ok (.ifCond .eq 7, 3) := by decide +kernel
theorem dX3_readTarget_24 : decode cX3_readTarget 24 = .ok (.iconst 1, 1) := by decide +kernel
theorem dX3_readTarget_25 : decode cX3_readTarget 25 = .ok (.goto 4, 3) := by decide +kernel
theorem dX3_readTarget_28 : decode cX3_readTarget 28 = .ok (.iconst 0, 1) := by decide +kernel
theorem dX3_readTarget_29 : decode cX3_readTarget 29 = .ok (.ireturn, 1) := by decide +kernel
set_option maxRecDepth 20000 in
theorem ggX3_readRightSide_X3_current : GoodIn wsX3_readRightSide wsX3_current := goodIn_r _ [6, 1, 7, 8, 34, 35, 36, 37, 38] (by decide +kernel) (by decide +kernel)
set_option maxRecDepth 20000 in
theorem gX3_readRightSide_X3_current : GoodIn wsX3_readRightSide (wsV RX3 58 RX3 yX3_current wsX3_current) := goodIn_app (goodIn_of _ (by decide +kernel)) ggX3_readRightSide_X3_current
set_option maxRecDepth 20000 in
theorem ggX3_readRightSide_X3_readOperand : GoodIn wsX3_readRightSide wsX3_readOperand := goodIn_r _ [12, 13, 14, 15, 16, 5, 17, 1, 2, 3, 4, 6, 7, 8, 18, 19, 20, 21, 22, 23, 24, 25, 34, 35, 36, 37, 38] (by decide +kernel) (by decide +kernel)
set_option maxRecDepth 20000 in
theorem gX3_readRightSide_X3_readOperand : GoodIn wsX3_readRightSide (wsV RX3 62 RX3 yX3_readOperand wsX3_readOperand) := goodIn_app (goodIn_of _ (by decide +kernel)) ggX3_readRightSide_X3_readOperand
set_option maxRecDepth 20000 in
theorem ggX3_readRightSide_X5_setRightSide : GoodIn wsX3_readRightSide wsX5_setRightSide := goodIn_r _ [30, 31, 32, 33, 39, 40, 41, 42] (by decide +kernel) (by decide +kernel)
set_option maxRecDepth 20000 in
theorem gX3_readRightSide_X5_setRightSide : GoodIn wsX3_readRightSide (wsV RX3 65 RX5 yX5_setRightSide wsX5_setRightSide) := goodIn_app (goodIn_of _ (by decide +kernel)) ggX3_readRightSide_X5_setRightSide
theorem dX3_readRightSide_0 : decode cX3_readRightSide 0 = .ok (.aload_n 0, 1) := by decide +kernel
theorem dX3_readRightSide_1 : decode cX3_readRightSide 1 = .ok (.invokevirtual 58, 3) := by decide +kernel
theorem dX3_readRightSide_4 : decode cX3_readRightSide 4 = .ok (.istore_n 2, 1) := by decide +kernel
theorem dX3_readRightSide_5 : decode cX3_readRightSide 5 = .ok (.iload_n 2, 1) := by decide +kernel
theorem dX3_readRightSide_6 : decode cX3_readRightSide 6 = .ok (.bipush 126, 2) := by decide +kernel
theorem dX3_readRightSide_8 : decode cX3_readRightSide 8 = .ok (.if_icmp .eq 9, 3) := by decide +kernel
theorem dX3_readRightSide_11 : decode cX3_readRightSide 11 = .ok (.iload_n 2, 1) := by decide +kernel
theorem dX3_readRightSide_12 : decode cX3_readRightSide 12 = .ok (.bipush 37, 2) := by decide +kernel
theorem dX3_readRightSide_14 : decode cX3_readRightSide 14 = .ok (.if_icmp .ne 36, 3) := by decide +kernel
theorem dX3_readRightSide_17 : decode cX3_readRightSide 17 = .ok (.aload_n 0, 1) := by decide +kernel
theorem dX3_readRightSide_18 : decode cX3_readRightSide 18 = .ok (.dup, 1) := by decide +kernel
theorem dX3_readRightSide_19 : decode cX3_readRightSide 19 = .ok (.getfield 26, 3) := by decide +kernel
theorem dX3_readRightSide_22 : decode cX3_readRightSide 22 = .ok (.iconst 1, 1) := by decide +kernel
theorem dX3_readRightSide_23 : decode cX3_readRightSide 23 = .ok (.iadd, 1) := by decide +kernel
theorem dX3_readRightSide_24 : decode cX3_readRightSide 24 = .ok (.putfield 26, 3) := by decide +kernel
theorem dX3_readRightSide_27 : decode cX3_readRightSide 27 = .ok (.aload_n 0, 1) := by decide +kernel
theorem dX3_readRightSide_28 : decode cX3_readRightSide 28 = .ok (.invokevirtual 62, 3) := by decide +kernel
theorem dX3_readRightSide_31 : decode cX3_readRightSide 31 = .ok (.istore_n 3, 1) := by decide +kernel
theorem dX3_readRightSide_32 : decode cX3_readRightSide 32 = .ok (.aload_n 1, 1) := by decide +kernel
theorem dX3_readRightSide_33 : decode cX3_readRightSide 33 = .ok (.iload_n 2, 1) := by decide +kernel
theorem dX3_readRightSide_34 : decode cX3_readRightSide 34 = .ok (.iload_n 3, 1) := by decide +kernel
theorem dX3_readRightSide_35 : decode cX3_readRightSide 35 = .ok (.iconst 0, 1) := by decide +kernel
theorem dX3_readRightSide_36 : decode cX3_readRightSide 36 = .ok (.invokevirtual 65, 3) := by decide +kernel
theorem dX3_readRightSide_39 : decode cX3_readRightSide 39 = .ok (.iload_n 3, 1) := by decide +kernel
theorem dX3_readRightSide_40 : decode cX3_readRightSide 40 = .ok (.iconst (-1), 1) := by decide +kernel
theorem dX3_readRightSide_41 : decode cX3_readRightSide 41 = .ok (.if_icmp .eq 7, 3) := by decide +kernel
theorem dX3_readRightSide_44 : decode cX3_readRightSide 44 = .ok (.iconst 1, 1) := by decide +kernel
theorem dX3_readRightSide_45 : decode cX3_readRightSide 45 = .ok (.goto 4, 3) := by decide +kernel
theorem dX3_readRightSide_48 : decode cX3_readRightSide 48 = .ok (.iconst 0, 1) := by decide +kernel
theorem dX3_readRightSide_49 : decode cX3_readRightSide 49 = .ok (.ireturn, 1) := by decide +kernel
theorem dX3_readRightSide_50 : decode cX3_readRightSide 50 = .ok (.aload_n 0, 1) := by decide +kernel
theorem dX3_readRightSide_51 : decode cX3_readRightSide 51 = .ok (.invokevirtual 62, 3) := by decide +kernel
theorem dX3_readRightSide_54 : decode cX3_readRightSide 54 = .ok (.istore_n 3, 1) := by decide +kernel
theorem dX3_readRightSide_55 : decode cX3_readRightSide 55 = .ok (.iload_n 3, 1) := by decide +kernel
theorem dX3_readRightSide_56 : decode cX3_readRightSide 56 = .ok (.iconst (-1), 1) := by decide +kernel
theorem dX3_readRightSide_57 : decode cX3_readRightSide 57 = .ok (.if_icmp .ne 5, 3) := by decide +kernel
theorem dX3_readRightSide_60 : decode cX3_readRightSide 60 = .ok (.iconst 0, 1) := by decide +kernel
theorem dX3_readRightSide_61 : decode cX3_readRightSide 61 = .ok (.ireturn, 1) := by decide +kernel
theorem dX3_readRightSide_62 : decode cX3_readRightSide 62 = .ok (.aload_n 0, 1) := by decide +kernel
theorem dX3_readRightSide_63 : decode cX3_readRightSide 63 = .ok (.invokevirtual 58, 3) := by decide +kernel
theorem dX3_readRightSide_66 : decode cX3_readRightSide 66 = .ok (.istore_n 2, 1) := by decide +kernel
theorem dX3_readRightSide_67 : decode cX3_readRightSide 67 = .ok (.iload_n 2, 1) := by decide +kernel
theorem dX3_readRightSide_68 : decode cX3_readRightSide 68 = .ok (.bipush 43, 2) := by decide +kernel
theorem dX3_readRightSide_70 : decode cX3_readRightSide 70 = .ok (.if_icmp .eq 30, 3) := by decide +kernel
theorem dX3_readRightSide_73 : decode cX3_readRightSide 73 = .ok (.iload_n 2, 1) := by decide +kernel
theorem dX3_readRightSide_74 : decode cX3_readRightSide 74 = .ok (.bipush 42, 2) := by decide +kernel
theorem dX3_readRightSide_76 : decode cX3_readRightSide 76 = .ok (.if_icmp .eq 24, 3) := by decide +kernel
theorem dX3_readRightSide_79 : decode cX3_readRightSide 79 = .ok (.iload_n 2, 1) := by decide +kernel
theorem dX3_readRightSide_80 : decode cX3_readRightSide 80 = .ok (.bipush 47, 2) := by decide +kernel
theorem dX3_readRightSide_82 : decode cX3_readRightSide 82 = .ok (.if_icmp .eq 18, 3) := by decide +kernel
theorem dX3_readRightSide_85 : decode cX3_readRightSide 85 = .ok (.iload_n 2, 1) := by decide +kernel
theorem dX3_readRightSide_86 : decode cX3_readRightSide 86 = .ok (.bipush 94, 2) := by decide +kernel
theorem dX3_readRightSide_88 : decode cX3_readRightSide 88 = .ok (.if_icmp .eq 12, 3) := by decide +kernel
theorem dX3_readRightSide_91 : decode cX3_readRightSide 91 = .ok (.aload_n 1, 1) := by decide +kernel
theorem dX3_readRightSide_92 : decode cX3_readRightSide 92 = .ok (.iconst 0, 1) := by decide +kernel
theorem dX3_readRightSide_93 : decode cX3_readRightSide 93 = .ok (.iload_n 3, 1) := by decide +kernel
theorem dX3_readRightSide_94 : decode cX3_readRightSide 94 = .ok (.iconst 0, 1) := by decide +kernel
theorem dX3_readRightSide_95 : decode cX3_readRightSide 95 = .ok (.invokevirtual 65, 3) := by decide +kernel
theorem dX3_readRightSide_98 : decode cX3_readRightSide 98 = .ok (.iconst 1, 1) := by decide +kernel
theorem dX3_readRightSide_99 : decode cX3_readRightSide 99 = .ok (.ireturn, 1) := by decide +kernel
theorem dX3_readRightSide_100 : decode cX3_readRightSide 100 = .ok (.aload_n 0, 1) := by decide +kernel
theorem dX3_readRightSide_101 : decode cX3_readRightSide 101 = .ok (.dup, 1) := by decide +kernel
theorem dX3_readRightSide_102 : decode cX3_readRightSide 102 = .ok (.getfield 26, 3) := by decide +kernel
theorem dX3_readRightSide_105 : decode cX3_readRightSide 105 = .ok (.iconst 1, 1) := by decide +kernel
theorem dX3_readRightSide_106 : decode cX3_readRightSide 106 = .ok (.iadd, 1) := by decide +kernel
theorem dX3_readRightSide_107 : decode cX3_readRightSide 107 = .ok (.putfield 26, 3) := by decide +kernel
theorem dX3_readRightSide_110 : decode cX3_readRightSide 110 = .ok (.aload_n 0, 1) := by decide +kernel
theorem dX3_readRightSide_111 : decode cX3_readRightSide 111 = .ok (.invokevirtual 62, 3) := by decide +kernel
theorem dX3_readRightSide_114 : decode cX3_readRightSide 114 = .ok (.istore 4, 2) := by decide +kernel
theorem dX3_readRightSide_116 : decode cX3_readRightSide 116 = .ok (.aload_n 1, 1) := by decide +kernel
theorem dX3_readRightSide_117 : decode cX3_readRightSide 117 = .ok (.iload_n 2, 1) := by decide +kernel
theorem dX3_readRightSide_118 : decode cX3_readRightSide 118 = .ok (.iload_n 3, 1) := by decide +kernel
theorem dX3_readRightSide_119 : decode cX3_readRightSide 119 = .ok (.iload 4, 2) := by decide +kernel
theorem dX3_readRightSide_121 : decode cX3_readRightSide 121 = .ok (.invokevirtual 65, 3) := by decide +kernel
theorem dX3_readRightSide_124 : decode cX3_readRightSide 124 = .ok (.iload 4, 2) := by decide +kernel
theorem dX3_readRightSide_126 : decode cX3_readRightSide 126 = .ok (.iconst (-1), 1) := by decide +kernel
theorem dX3_readRightSide_127 : decode cX3_readRightSide 127 = .ok (.if_icmp .eq 7, 3) := by decide +kernel
theorem dX3_readRightSide_130 : decode cX3_readRightSide 130 = .ok (.iconst 1, 1) := by decide +kernel
theorem dX3_readRightSide_131 : decode cX3_readRightSide 131 = .ok (.goto 4, 3) := by decide +kernel
theorem dX3_readRightSide_134 : decode cX3_readRightSide 134 = .ok (.iconst 0, 1) := by decide +kernel
theorem dX3_readRightSide_135 : decode cX3_readRightSide 135 = .ok (.ireturn, 1) := by decide +kernel
set_option maxRecDepth 20000 in
theorem ggX3_readOperand_X3_readRegister : GoodIn wsX3_readOperand wsX3_readRegister := goodIn_r _ [6, 7, 8, 9, 10, 5, 11, 12, 13, 22, 23, 24, 25, 26] (by decide +kernel) (by decide +kernel)
set_option maxRecDepth 20000 in
theorem gX3_readOperand_X3_readRegister : GoodIn wsX3_readOperand (wsV RX3 51 RX3 yX3_readRegister wsX3_readRegister) := goodIn_app (goodIn_of _ (by decide +kernel)) ggX3_readOperand_X3_readRegister
set_option maxRecDepth 20000 in
theorem ggX3_readOperand_X3_readNumber : GoodIn wsX3_readOperand wsX3_readNumber := goodIn_r _ [17, 7, 12, 18, 8, 9, 10, 5, 11, 13, 19, 20, 21, 22, 23, 24, 25, 26] (by decide +kernel) (by decide +kernel)
set_option maxRecDepth 20000 in
theorem gX3_readOperand_X3_readNumber : GoodIn wsX3_readOperand (wsV RX3 69 RX3 yX3_readNumber wsX3_readNumber) := goodIn_app (goodIn_of _ (by decide +kernel)) ggX3_readOperand_X3_readNumber
theorem dX3_readOperand_0 : decode cX3_readOperand 0 = .ok (.aload_n 0, 1) := by decide +kernel
theorem dX3_readOperand_1 : decode cX3_readOperand 1 = .ok (.invokevirtual 51, 3) := by decide +kernel
theorem dX3_readOperand_4 : decode cX3_readOperand 4 = .ok (.istore_n 1, 1) := by decide +kernel
theorem dX3_readOperand_5 : decode cX3_readOperand 5 = .ok (.iload_n 1, 1) := by decide +kernel
theorem dX3_readOperand_6 : decode cX3_readOperand 6 = .ok (.iconst (-1), 1) := by decide +kernel
theorem dX3_readOperand_7 : decode cX3_readOperand 7 = .ok (.if_icmp .ne 10, 3) := by decide +kernel
theorem dX3_readOperand_10 : decode cX3_readOperand 10 = .ok (.aload_n 0, 1) := by decide +kernel
theorem dX3_readOperand_11 : decode cX3_readOperand 11 = .ok (.invokevirtual 69, 3) := by decide +kernel
theorem dX3_readOperand_14 : decode cX3_readOperand 14 = .ok (.goto 7, 3) := by decide +kernel
theorem dX3_readOperand_17 : decode cX3_readOperand 17 = .ok (.ldc 72, 2) := by decide +kernel
theorem dX3_readOperand_19 : decode cX3_readOperand 19 = .ok (.iload_n 1, 1) := by decide +kernel
theorem dX3_readOperand_20 : decode cX3_readOperand 20 = .ok (.iadd, 1) := by decide +kernel
theorem dX3_readOperand_21 : decode cX3_readOperand 21 = .ok (.ireturn, 1) := by decide +kernel
set_option maxRecDepth 20000 in
theorem ggX3_readRegister_X3_current : GoodIn wsX3_readRegister wsX3_current := goodIn_r _ [6, 1, 7, 8, 9, 10, 11, 12, 13] (by decide +kernel) (by decide +kernel)
set_option maxRecDepth 20000 in
theorem gX3_readRegister_X3_current : GoodIn wsX3_readRegister (wsV RX3 58 RX3 yX3_current wsX3_current) := goodIn_app (goodIn_of _ (by decide +kernel)) ggX3_readRegister_X3_current
theorem dX3_readRegister_0 : decode cX3_readRegister 0 = .ok (.aload_n 0, 1) := by decide +kernel
theorem dX3_readRegister_1 : decode cX3_readRegister 1 = .ok (.invokevirtual 58, 3) := by decide +kernel
theorem dX3_readRegister_4 : decode cX3_readRegister 4 = .ok (.bipush 65, 2) := by decide +kernel
theorem dX3_readRegister_6 : decode cX3_readRegister 6 = .ok (.isub, 1) := by decide +kernel
theorem dX3_readRegister_7 : decode cX3_readRegister 7 = .ok (.istore_n 1, 1) := by decide +kernel
theorem dX3_readRegister_8 : decode cX3_readRegister 8 = .ok (.iload_n 1, 1) := by decide +kernel
theorem dX3_readRegister_9 : decode cX3_readRegister 9 = .ok (.ifCond .lt 9, 3) := by decide +kernel
theorem dX3_readRegister_12 : decode cX3_readRegister 12 = .ok (.iload_n 1, 1) := by decide +kernel
theorem dX3_readRegister_13 : decode cX3_readRegister 13 = .ok (.bipush 8, 2) := by decide +kernel
theorem dX3_readRegister_15 : decode cX3_readRegister 15 = .ok (.if_icmp .lt 5, 3) := by decide +kernel
theorem dX3_readRegister_18 : decode cX3_readRegister 18 = .ok (.iconst (-1), 1) := by decide +kernel
theorem dX3_readRegister_19 : decode cX3_readRegister 19 = .ok (.ireturn, 1) := by decide +kernel
theorem dX3_readRegister_20 : decode cX3_readRegister 20 = .ok (.aload_n 0, 1) := by decide +kernel
theorem dX3_readRegister_21 : decode cX3_readRegister 21 = .ok (.dup, 1) := by decide +kernel
theorem dX3_readRegister_22 : decode cX3_readRegister 22 = .ok (.getfield 26, 3) := by decide +kernel
theorem dX3_readRegister_25 : decode cX3_readRegister 25 = .ok (.iconst 1, 1) := by decide +kernel
theorem dX3_readRegister_26 : decode cX3_readRegister 26 = .ok (.iadd, 1) := by decide +kernel
theorem dX3_readRegister_27 : decode cX3_readRegister 27 = .ok (.putfield 26, 3) := by decide +kernel
theorem dX3_readRegister_30 : decode cX3_readRegister 30 = .ok (.iload_n 1, 1) := by decide +kernel
theorem dX3_readRegister_31 : decode cX3_readRegister 31 = .ok (.ireturn, 1) := by decide +kernel
set_option maxRecDepth 20000 in
theorem ggX3_readNumber_X3_current : GoodIn wsX3_readNumber wsX3_current := goodIn_r _ [8, 1, 2, 9, 13, 14, 15, 16, 17] (by decide +kernel) (by decide +kernel)
set_option maxRecDepth 20000 in
theorem gX3_readNumber_X3_current : GoodIn wsX3_readNumber (wsV RX3 58 RX3 yX3_current wsX3_current) := goodIn_app (goodIn_of _ (by decide +kernel)) ggX3_readNumber_X3_current
set_option maxRecDepth 20000 in
theorem ggX3_readNumber_X3_digitOf : GoodIn wsX3_readNumber wsX3_digitOf := goodIn_r _ [12] (by decide +kernel) (by decide +kernel)
set_option maxRecDepth 20000 in
theorem gX3_readNumber_X3_digitOf : GoodIn wsX3_readNumber (va_wsS RX3 73 yX3_digitOf wsX3_digitOf) := goodIn_app (goodIn_of _ (by decide +kernel)) ggX3_readNumber_X3_digitOf
theorem dX3_readNumber_0 : decode cX3_readNumber 0 = .ok (.aload_n 0, 1) := by decide +kernel
theorem dX3_readNumber_1 : decode cX3_readNumber 1 = .ok (.invokevirtual 58, 3) := by decide +kernel
theorem dX3_readNumber_4 : decode cX3_readNumber 4 = .ok (.invokestatic 73, 3) := by decide +kernel
theorem dX3_readNumber_7 : decode cX3_readNumber 7 = .ok (.istore_n 1, 1) := by decide +kernel
theorem dX3_readNumber_8 : decode cX3_readNumber 8 = .ok (.iload_n 1, 1) := by decide +kernel
theorem dX3_readNumber_9 : decode cX3_readNumber 9 = .ok (.iconst (-1), 1) := by decide +kernel
theorem dX3_readNumber_10 : decode cX3_readNumber 10 = .ok (.if_icmp .ne 5, 3) := by decide +kernel
theorem dX3_readNumber_13 : decode cX3_readNumber 13 = .ok (.iconst (-1), 1) := by decide +kernel
theorem dX3_readNumber_14 : decode cX3_readNumber 14 = .ok (.ireturn, 1) := by decide +kernel
theorem dX3_readNumber_15 : decode cX3_readNumber 15 = .ok (.aload_n 0, 1) := by decide +kernel
theorem dX3_readNumber_16 : decode cX3_readNumber 16 = .ok (.dup, 1) := by decide +kernel
theorem dX3_readNumber_17 : decode cX3_readNumber 17 = .ok (.getfield 26, 3) := by decide +kernel
theorem dX3_readNumber_20 : decode cX3_readNumber 20 = .ok (.iconst 1, 1) := by decide +kernel
theorem dX3_readNumber_21 : decode cX3_readNumber 21 = .ok (.iadd, 1) := by decide +kernel
theorem dX3_readNumber_22 : decode cX3_readNumber 22 = .ok (.putfield 26, 3) := by decide +kernel
theorem dX3_readNumber_25 : decode cX3_readNumber 25 = .ok (.aload_n 0, 1) := by decide +kernel
theorem dX3_readNumber_26 : decode cX3_readNumber 26 = .ok (.getfield 26, 3) := by decide +kernel
theorem dX3_readNumber_29 : decode cX3_readNumber 29 = .ok (.aload_n 0, 1) := by decide +kernel
theorem dX3_readNumber_30 : decode cX3_readNumber 30 = .ok (.getfield 22, 3) := by decide +kernel
theorem dX3_readNumber_33 : decode cX3_readNumber 33 = .ok (.if_icmp .ge 53, 3) := by decide +kernel
theorem dX3_readNumber_36 : decode cX3_readNumber 36 = .ok (.iload_n 1, 1) := by decide +kernel
theorem dX3_readNumber_37 : decode cX3_readNumber 37 = .ok (.ifCond .le 49, 3) := by decide +kernel
theorem dX3_readNumber_40 : decode cX3_readNumber 40 = .ok (.aload_n 0, 1) := by decide +kernel
theorem dX3_readNumber_41 : decode cX3_readNumber 41 = .ok (.invokevirtual 58, 3) := by decide +kernel
theorem dX3_readNumber_44 : decode cX3_readNumber 44 = .ok (.invokestatic 73, 3) := by decide +kernel
theorem dX3_readNumber_47 : decode cX3_readNumber 47 = .ok (.istore_n 2, 1) := by decide +kernel
theorem dX3_readNumber_48 : decode cX3_readNumber 48 = .ok (.iload_n 2, 1) := by decide +kernel
theorem dX3_readNumber_49 : decode cX3_readNumber 49 = .ok (.iconst (-1), 1) := by decide +kernel
theorem dX3_readNumber_50 : decode cX3_readNumber 50 = .ok (.if_icmp .eq 14, 3) := by decide +kernel
theorem dX3_readNumber_53 : decode cX3_readNumber 53 = .ok (.bipush 10, 2) := by decide +kernel
theorem dX3_readNumber_55 : decode cX3_readNumber 55 = .ok (.iload_n 1, 1) := by decide +kernel
theorem dX3_readNumber_56 : decode cX3_readNumber 56 = .ok (.imul, 1) := by decide +kernel
theorem dX3_readNumber_57 : decode cX3_readNumber 57 = .ok (.iload_n 2, 1) := by decide +kernel
theorem dX3_readNumber_58 : decode cX3_readNumber 58 = .ok (.iadd, 1) := by decide +kernel
theorem dX3_readNumber_59 : decode cX3_readNumber 59 = .ok (.ldc 77, 2) := by decide +kernel
theorem dX3_readNumber_61 : decode cX3_readNumber 61 = .ok (.if_icmp .le 5, 3) := by decide +kernel
theorem dX3_readNumber_64 : decode cX3_readNumber 64 = .ok (.iload_n 1, 1) := by decide +kernel
theorem dX3_readNumber_65 : decode cX3_readNumber 65 = .ok (.ireturn, 1) := by decide +kernel
theorem dX3_readNumber_66 : decode cX3_readNumber 66 = .ok (.bipush 10, 2) := by decide +kernel
theorem dX3_readNumber_68 : decode cX3_readNumber 68 = .ok (.iload_n 1, 1) := by decide +kernel
theorem dX3_readNumber_69 : decode cX3_readNumber 69 = .ok (.imul, 1) := by decide +kernel
theorem dX3_readNumber_70 : decode cX3_readNumber 70 = .ok (.iload_n 2, 1) := by decide +kernel
theorem dX3_readNumber_71 : decode cX3_readNumber 71 = .ok (.iadd, 1) := by decide +kernel
theorem dX3_readNumber_72 : decode cX3_readNumber 72 = .ok (.istore_n 1, 1) := by decide +kernel
theorem dX3_readNumber_73 : decode cX3_readNumber 73 = .ok (.aload_n 0, 1) := by decide +kernel
theorem dX3_readNumber_74 : decode cX3_readNumber 74 = .ok (.dup, 1) := by decide +kernel
theorem dX3_readNumber_75 : decode cX3_readNumber 75 = .ok (.getfield 26, 3) := by decide +kernel
theorem dX3_readNumber_78 : decode cX3_readNumber 78 = .ok (.iconst 1, 1) := by decide +kernel
theorem dX3_readNumber_79 : decode cX3_readNumber 79 = .ok (.iadd, 1) := by decide +kernel
theorem dX3_readNumber_80 : decode cX3_readNumber 80 = .ok (.putfield 26, 3) := by decide +kernel
theorem dX3_readNumber_83 : decode cX3_readNumber 83 = .ok (.goto (-58), 3) := by decide +kernel
theorem dX3_readNumber_86 : decode cX3_readNumber 86 = .ok (.iload_n 1, 1) := by decide +kernel
theorem dX3_readNumber_87 : decode cX3_readNumber 87 = .ok (.ireturn, 1) := by decide +kernel
theorem dX3_digitOf_0 : decode cX3_digitOf 0 = .ok (.iload_n 0, 1) := by decide +kernel
theorem dX3_digitOf_1 : decode cX3_digitOf 1 = .ok (.bipush 48, 2) := by decide +kernel
theorem dX3_digitOf_3 : decode cX3_digitOf 3 = .ok (.if_icmp .lt 9, 3) := by decide +kernel
theorem dX3_digitOf_6 : decode cX3_digitOf 6 = .ok (.iload_n 0, 1) := by decide +kernel
theorem dX3_digitOf_7 : decode cX3_digitOf 7 = .ok (.bipush 57, 2) := by decide +kernel
theorem dX3_digitOf_9 : decode cX3_digitOf 9 = .ok (.if_icmp .le 7, 3) := by decide +kernel
theorem dX3_digitOf_12 : decode cX3_digitOf 12 = .ok (.iconst (-1), 1) := by decide +kernel
theorem dX3_digitOf_13 : decode cX3_digitOf 13 = .ok (.goto 7, 3) := by decide +kernel
theorem dX3_digitOf_16 : decode cX3_digitOf 16 = .ok (.iload_n 0, 1) := by decide +kernel
theorem dX3_digitOf_17 : decode cX3_digitOf 17 = .ok (.bipush 48, 2) := by decide +kernel
theorem dX3_digitOf_19 : decode cX3_digitOf 19 = .ok (.isub, 1) := by decide +kernel
theorem dX3_digitOf_20 : decode cX3_digitOf 20 = .ok (.ireturn, 1) := by decide +kernel
set_option maxRecDepth 20000 in
theorem ggX3_skip_X3_current : GoodIn wsX3_skip wsX3_current := goodIn_r _ [6, 1, 7, 8, 9, 10, 11, 12, 13] (by decide +kernel) (by decide +kernel)
set_option maxRecDepth 20000 in
theorem gX3_skip_X3_current : GoodIn wsX3_skip (wsV RX3 58 RX3 yX3_current wsX3_current) := goodIn_app (goodIn_of _ (by decide +kernel)) ggX3_skip_X3_current
theorem dX3_skip_0 : decode cX3_skip 0 = .ok (.aload_n 0, 1) := by decide +kernel
theorem dX3_skip_1 : decode cX3_skip 1 = .ok (.invokevirtual 58, 3) := by decide +kernel
theorem dX3_skip_4 : decode cX3_skip 4 = .ok (.iload_n 1, 1) := by decide +kernel
theorem dX3_skip_5 : decode cX3_skip 5 = .ok (.if_icmp .eq 5, 3) := by decide +kernel
theorem dX3_skip_8 : decode cX3_skip 8 = .ok (.iconst 0, 1) := by decide +kernel
theorem dX3_skip_9 : decode cX3_skip 9 = .ok (.ireturn, 1) := by decide +kernel
theorem dX3_skip_10 : decode cX3_skip 10 = .ok (.aload_n 0, 1) := by decide +kernel
theorem dX3_skip_11 : decode cX3_skip 11 = .ok (.dup, 1) := by decide +kernel
theorem dX3_skip_12 : decode cX3_skip 12 = .ok (.getfield 26, 3) := by decide +kernel
theorem dX3_skip_15 : decode cX3_skip 15 = .ok (.iconst 1, 1) := by decide +kernel
theorem dX3_skip_16 : decode cX3_skip 16 = .ok (.iadd, 1) := by decide +kernel
theorem dX3_skip_17 : decode cX3_skip 17 = .ok (.putfield 26, 3) := by decide +kernel
theorem dX3_skip_20 : decode cX3_skip 20 = .ok (.iconst 1, 1) := by decide +kernel
theorem dX3_skip_21 : decode cX3_skip 21 = .ok (.ireturn, 1) := by decide +kernel
theorem dX3_current_0 : decode cX3_current 0 = .ok (.aload_n 0, 1) := by decide +kernel
theorem dX3_current_1 : decode cX3_current 1 = .ok (.getfield 26, 3) := by decide +kernel
theorem dX3_current_4 : decode cX3_current 4 = .ok (.ifCond .lt 35, 3) := by decide +kernel
theorem dX3_current_7 : decode cX3_current 7 = .ok (.aload_n 0, 1) := by decide +kernel
theorem dX3_current_8 : decode cX3_current 8 = .ok (.getfield 26, 3) := by decide +kernel
theorem dX3_current_11 : decode cX3_current 11 = .ok (.aload_n 0, 1) := by decide +kernel
theorem dX3_current_12 : decode cX3_current 12 = .ok (.getfield 22, 3) := by decide +kernel
theorem dX3_current_15 : decode cX3_current 15 = .ok (.if_icmp .ge 24, 3) := by decide +kernel
theorem dX3_current_18 : decode cX3_current 18 = .ok (.aload_n 0, 1) := by decide +kernel
theorem dX3_current_19 : decode cX3_current 19 = .ok (.getfield 26, 3) := by decide +kernel
theorem dX3_current_22 : decode cX3_current 22 = .ok (.bipush 60, 2) := by decide +kernel
theorem dX3_current_24 : decode cX3_current 24 = .ok (.if_icmp .ge 15, 3) := by decide +kernel
theorem dX3_current_27 : decode cX3_current 27 = .ok (.aload_n 0, 1) := by decide +kernel
theorem dX3_current_28 : decode cX3_current 28 = .ok (.getfield 9, 3) := by decide +kernel
theorem dX3_current_31 : decode cX3_current 31 = .ok (.aload_n 0, 1) := by decide +kernel
theorem dX3_current_32 : decode cX3_current 32 = .ok (.getfield 26, 3) := by decide +kernel
theorem dX3_current_35 : decode cX3_current 35 = .ok (.caload, 1) := by decide +kernel
theorem dX3_current_36 : decode cX3_current 36 = .ok (.goto 4, 3) := by decide +kernel
theorem dX3_current_39 : decode cX3_current 39 = .ok (.iconst 0, 1) := by decide +kernel
theorem dX3_current_40 : decode cX3_current 40 = .ok (.ireturn, 1) := by decide +kernel
theorem dX4_init_0 : decode cX4_init 0 = .ok (.aload_n 0, 1) := by decide +kernel
theorem dX4_init_1 : decode cX4_init 1 = .ok (.invokespecial 3, 3) := by decide +kernel
theorem dX4_init_4 : decode cX4_init 4 = .ok (.aload_n 0, 1) := by decide +kernel
theorem dX4_init_5 : decode cX4_init 5 = .ok (.bipush 8, 2) := by decide +kernel
theorem dX4_init_7 : decode cX4_init 7 = .ok (.newarray .int, 2) := by decide +kernel
theorem dX4_init_9 : decode cX4_init 9 = .ok (.putfield 9, 3) := by decide +kernel
theorem dX4_init_12 : decode cX4_init 12 = .ok (.return_, 1) := by decide +kernel
theorem dX4_nimberIn_0 : decode cX4_nimberIn 0 = .ok (.iload_n 1, 1) := by decide +kernel
theorem dX4_nimberIn_1 : decode cX4_nimberIn 1 = .ok (.ifCond .lt 9, 3) := by decide +kernel
theorem dX4_nimberIn_4 : decode cX4_nimberIn 4 = .ok (.iload_n 1, 1) := by decide +kernel
theorem dX4_nimberIn_5 : decode cX4_nimberIn 5 = .ok (.bipush 8, 2) := by decide +kernel
theorem dX4_nimberIn_7 : decode cX4_nimberIn 7 = .ok (.if_icmp .lt 7, 3) := by decide +kernel
theorem dX4_nimberIn_10 : decode cX4_nimberIn 10 = .ok (.iconst 0, 1) := by decide +kernel
theorem dX4_nimberIn_11 : decode cX4_nimberIn 11 = .ok (.goto 9, 3) := by decide +kernel
theorem dX4_nimberIn_14 : decode cX4_nimberIn 14 = .ok (.aload_n 0, 1) := by decide +kernel
theorem dX4_nimberIn_15 : decode cX4_nimberIn 15 = .ok (.getfield 9, 3) := by decide +kernel
theorem dX4_nimberIn_18 : decode cX4_nimberIn 18 = .ok (.iload_n 1, 1) := by decide +kernel
theorem dX4_nimberIn_19 : decode cX4_nimberIn 19 = .ok (.iaload, 1) := by decide +kernel
theorem dX4_nimberIn_20 : decode cX4_nimberIn 20 = .ok (.ireturn, 1) := by decide +kernel
theorem dX4_put_0 : decode cX4_put 0 = .ok (.iload_n 1, 1) := by decide +kernel
theorem dX4_put_1 : decode cX4_put 1 = .ok (.ifCond .lt 16, 3) := by decide +kernel
theorem dX4_put_4 : decode cX4_put 4 = .ok (.iload_n 1, 1) := by decide +kernel
theorem dX4_put_5 : decode cX4_put 5 = .ok (.bipush 8, 2) := by decide +kernel
theorem dX4_put_7 : decode cX4_put 7 = .ok (.if_icmp .ge 10, 3) := by decide +kernel
theorem dX4_put_10 : decode cX4_put 10 = .ok (.aload_n 0, 1) := by decide +kernel
theorem dX4_put_11 : decode cX4_put 11 = .ok (.getfield 9, 3) := by decide +kernel
theorem dX4_put_14 : decode cX4_put 14 = .ok (.iload_n 1, 1) := by decide +kernel
theorem dX4_put_15 : decode cX4_put 15 = .ok (.iload_n 2, 1) := by decide +kernel
theorem dX4_put_16 : decode cX4_put 16 = .ok (.iastore, 1) := by decide +kernel
theorem dX4_put_17 : decode cX4_put 17 = .ok (.return_, 1) := by decide +kernel
theorem dX4_productCount_0 : decode cX4_productCount 0 = .ok (.aload_n 0, 1) := by decide +kernel
theorem dX4_productCount_1 : decode cX4_productCount 1 = .ok (.getfield 15, 3) := by decide +kernel
theorem dX4_productCount_4 : decode cX4_productCount 4 = .ok (.ireturn, 1) := by decide +kernel
theorem dX4_countProduct_0 : decode cX4_countProduct 0 = .ok (.aload_n 0, 1) := by decide +kernel
theorem dX4_countProduct_1 : decode cX4_countProduct 1 = .ok (.dup, 1) := by decide +kernel
theorem dX4_countProduct_2 : decode cX4_countProduct 2 = .ok (.getfield 15, 3) := by decide +kernel
theorem dX4_countProduct_5 : decode cX4_countProduct 5 = .ok (.iconst 1, 1) := by decide +kernel
theorem dX4_countProduct_6 : decode cX4_countProduct 6 = .ok (.iadd, 1) := by decide +kernel
theorem dX4_countProduct_7 : decode cX4_countProduct 7 = .ok (.putfield 15, 3) := by decide +kernel
theorem dX4_countProduct_10 : decode cX4_countProduct 10 = .ok (.return_, 1) := by decide +kernel
set_option maxRecDepth 20000 in
theorem ggX4_copyFrom_X4_nimberIn : GoodIn wsX4_copyFrom wsX4_nimberIn := goodIn_r _ [7, 1, 12, 13] (by decide +kernel) (by decide +kernel)
set_option maxRecDepth 20000 in
theorem gX4_copyFrom_X4_nimberIn : GoodIn wsX4_copyFrom (wsV RX4 19 RX4 yX4_nimberIn wsX4_nimberIn) := goodIn_app (goodIn_of _ (by decide +kernel)) ggX4_copyFrom_X4_nimberIn
set_option maxRecDepth 20000 in
theorem ggX4_copyFrom_X4_productCount : GoodIn wsX4_copyFrom wsX4_productCount := goodIn_r _ [11, 2, 12, 13] (by decide +kernel) (by decide +kernel)
set_option maxRecDepth 20000 in
theorem gX4_copyFrom_X4_productCount : GoodIn wsX4_copyFrom (wsV RX4 23 RX4 yX4_productCount wsX4_productCount) := goodIn_app (goodIn_of _ (by decide +kernel)) ggX4_copyFrom_X4_productCount
theorem dX4_copyFrom_0 : decode cX4_copyFrom 0 = .ok (.iconst 0, 1) := by decide +kernel
theorem dX4_copyFrom_1 : decode cX4_copyFrom 1 = .ok (.istore_n 2, 1) := by decide +kernel
theorem dX4_copyFrom_2 : decode cX4_copyFrom 2 = .ok (.iload_n 2, 1) := by decide +kernel
theorem dX4_copyFrom_3 : decode cX4_copyFrom 3 = .ok (.bipush 8, 2) := by decide +kernel
theorem dX4_copyFrom_5 : decode cX4_copyFrom 5 = .ok (.if_icmp .ge 20, 3) := by decide +kernel
theorem dX4_copyFrom_8 : decode cX4_copyFrom 8 = .ok (.aload_n 0, 1) := by decide +kernel
theorem dX4_copyFrom_9 : decode cX4_copyFrom 9 = .ok (.getfield 9, 3) := by decide +kernel
theorem dX4_copyFrom_12 : decode cX4_copyFrom 12 = .ok (.iload_n 2, 1) := by decide +kernel
theorem dX4_copyFrom_13 : decode cX4_copyFrom 13 = .ok (.aload_n 1, 1) := by decide +kernel
theorem dX4_copyFrom_14 : decode cX4_copyFrom 14 = .ok (.iload_n 2, 1) := by decide +kernel
theorem dX4_copyFrom_15 : decode cX4_copyFrom 15 = .ok (.invokevirtual 19, 3) := by decide +kernel
theorem dX4_copyFrom_18 : decode cX4_copyFrom 18 = .ok (.iastore, 1) := by decide +kernel
theorem dX4_copyFrom_19 : decode cX4_copyFrom 19 = .ok (.iinc 2 1, 3) := by decide +kernel
theorem dX4_copyFrom_22 : decode cX4_copyFrom 22 = .ok (.goto (-20), 3) := by decide +kernel
theorem dX4_copyFrom_25 : decode cX4_copyFrom 25 = .ok (.aload_n 0, 1) := by decide +kernel
theorem dX4_copyFrom_26 : decode cX4_copyFrom 26 = .ok (.aload_n 1, 1) := by decide +kernel
theorem dX4_copyFrom_27 : decode cX4_copyFrom 27 = .ok (.invokevirtual 23, 3) := by decide +kernel
theorem dX4_copyFrom_30 : decode cX4_copyFrom 30 = .ok (.putfield 15, 3) := by decide +kernel
theorem dX4_copyFrom_33 : decode cX4_copyFrom 33 = .ok (.return_, 1) := by decide +kernel
theorem dX4_sum_0 : decode cX4_sum 0 = .ok (.iconst 0, 1) := by decide +kernel
theorem dX4_sum_1 : decode cX4_sum 1 = .ok (.istore_n 1, 1) := by decide +kernel
theorem dX4_sum_2 : decode cX4_sum 2 = .ok (.iconst 0, 1) := by decide +kernel
theorem dX4_sum_3 : decode cX4_sum 3 = .ok (.istore_n 2, 1) := by decide +kernel
theorem dX4_sum_4 : decode cX4_sum 4 = .ok (.iload_n 2, 1) := by decide +kernel
theorem dX4_sum_5 : decode cX4_sum 5 = .ok (.bipush 8, 2) := by decide +kernel
theorem dX4_sum_7 : decode cX4_sum 7 = .ok (.if_icmp .ge 18, 3) := by decide +kernel
theorem dX4_sum_10 : decode cX4_sum 10 = .ok (.iload_n 1, 1) := by decide +kernel
theorem dX4_sum_11 : decode cX4_sum 11 = .ok (.aload_n 0, 1) := by decide +kernel
theorem dX4_sum_12 : decode cX4_sum 12 = .ok (.getfield 9, 3) := by decide +kernel
theorem dX4_sum_15 : decode cX4_sum 15 = .ok (.iload_n 2, 1) := by decide +kernel
theorem dX4_sum_16 : decode cX4_sum 16 = .ok (.iaload, 1) := by decide +kernel
theorem dX4_sum_17 : decode cX4_sum 17 = .ok (.ixor, 1) := by decide +kernel
theorem dX4_sum_18 : decode cX4_sum 18 = .ok (.istore_n 1, 1) := by decide +kernel
theorem dX4_sum_19 : decode cX4_sum 19 = .ok (.iinc 2 1, 3) := by decide +kernel
theorem dX4_sum_22 : decode cX4_sum 22 = .ok (.goto (-18), 3) := by decide +kernel
theorem dX4_sum_25 : decode cX4_sum 25 = .ok (.iload_n 1, 1) := by decide +kernel
theorem dX4_sum_26 : decode cX4_sum 26 = .ok (.ireturn, 1) := by decide +kernel
theorem dX5_init_0 : decode cX5_init 0 = .ok (.aload_n 0, 1) := by decide +kernel
theorem dX5_init_1 : decode cX5_init 1 = .ok (.invokespecial 3, 3) := by decide +kernel
theorem dX5_init_4 : decode cX5_init 4 = .ok (.return_, 1) := by decide +kernel
theorem dX5_target_0 : decode cX5_target 0 = .ok (.aload_n 0, 1) := by decide +kernel
theorem dX5_target_1 : decode cX5_target 1 = .ok (.getfield 9, 3) := by decide +kernel
theorem dX5_target_4 : decode cX5_target 4 = .ok (.ireturn, 1) := by decide +kernel
theorem dX5_setTarget_0 : decode cX5_setTarget 0 = .ok (.aload_n 0, 1) := by decide +kernel
theorem dX5_setTarget_1 : decode cX5_setTarget 1 = .ok (.iload_n 1, 1) := by decide +kernel
theorem dX5_setTarget_2 : decode cX5_setTarget 2 = .ok (.putfield 9, 3) := by decide +kernel
theorem dX5_setTarget_5 : decode cX5_setTarget 5 = .ok (.return_, 1) := by decide +kernel
theorem dX5_setRightSide_0 : decode cX5_setRightSide 0 = .ok (.aload_n 0, 1) := by decide +kernel
theorem dX5_setRightSide_1 : decode cX5_setRightSide 1 = .ok (.iload_n 1, 1) := by decide +kernel
theorem dX5_setRightSide_2 : decode cX5_setRightSide 2 = .ok (.putfield 15, 3) := by decide +kernel
theorem dX5_setRightSide_5 : decode cX5_setRightSide 5 = .ok (.aload_n 0, 1) := by decide +kernel
theorem dX5_setRightSide_6 : decode cX5_setRightSide 6 = .ok (.iload_n 2, 1) := by decide +kernel
theorem dX5_setRightSide_7 : decode cX5_setRightSide 7 = .ok (.putfield 19, 3) := by decide +kernel
theorem dX5_setRightSide_10 : decode cX5_setRightSide 10 = .ok (.aload_n 0, 1) := by decide +kernel
theorem dX5_setRightSide_11 : decode cX5_setRightSide 11 = .ok (.iload_n 3, 1) := by decide +kernel
theorem dX5_setRightSide_12 : decode cX5_setRightSide 12 = .ok (.putfield 22, 3) := by decide +kernel
theorem dX5_setRightSide_15 : decode cX5_setRightSide 15 = .ok (.return_, 1) := by decide +kernel
set_option maxRecDepth 20000 in
theorem ggX5_doOn_X5_valueOf : GoodIn wsX5_doOn wsX5_valueOf := goodIn_r _ [8, 9, 10, 11, 12, 13, 14, 15, 56, 57] (by decide +kernel) (by decide +kernel)
set_option maxRecDepth 20000 in
theorem gX5_doOn_X5_valueOf : GoodIn wsX5_doOn (va_wsS RX5 25 yX5_valueOf wsX5_valueOf) := goodIn_app (goodIn_of _ (by decide +kernel)) ggX5_doOn_X5_valueOf
set_option maxRecDepth 20000 in
theorem ggX5_doOn_X5_resultOf : GoodIn wsX5_doOn wsX5_resultOf := goodIn_r _ [19, 4, 20, 21, 22, 23, 24, 25, 26, 27, 28, 29, 30, 31, 32, 33, 34, 35, 36, 37, 38, 39, 40, 41, 42, 52, 53, 54, 55, 58] (by decide +kernel) (by decide +kernel)
set_option maxRecDepth 20000 in
theorem gX5_doOn_X5_resultOf : GoodIn wsX5_doOn (wsV RX5 29 RX5 yX5_resultOf wsX5_resultOf) := goodIn_app (goodIn_of _ (by decide +kernel)) ggX5_doOn_X5_resultOf
set_option maxRecDepth 20000 in
theorem ggX5_doOn_X4_put : GoodIn wsX5_doOn wsX4_put := goodIn_r _ [46, 15, 56, 57] (by decide +kernel) (by decide +kernel)
set_option maxRecDepth 20000 in
theorem gX5_doOn_X4_put : GoodIn wsX5_doOn (wsV RX5 33 RX4 yX4_put wsX4_put) := goodIn_app (goodIn_of _ (by decide +kernel)) ggX5_doOn_X4_put
set_option maxRecDepth 20000 in
theorem ggX5_doOn_X4_countProduct : GoodIn wsX5_doOn wsX4_countProduct := goodIn_r _ [50, 51, 56, 57] (by decide +kernel) (by decide +kernel)
set_option maxRecDepth 20000 in
theorem gX5_doOn_X4_countProduct : GoodIn wsX5_doOn (wsV RX5 39 RX4 yX4_countProduct wsX4_countProduct) := goodIn_app (goodIn_of _ (by decide +kernel)) ggX5_doOn_X4_countProduct
theorem dX5_doOn_0 : decode cX5_doOn 0 = .ok (.aload_n 0, 1) := by decide +kernel
theorem dX5_doOn_1 : decode cX5_doOn 1 = .ok (.aload_n 0, 1) := by decide +kernel
theorem dX5_doOn_2 : decode cX5_doOn 2 = .ok (.getfield 19, 3) := by decide +kernel
theorem dX5_doOn_5 : decode cX5_doOn 5 = .ok (.aload_n 1, 1) := by decide +kernel
theorem dX5_doOn_6 : decode cX5_doOn 6 = .ok (.invokestatic 25, 3) := by decide +kernel
theorem dX5_doOn_9 : decode cX5_doOn 9 = .ok (.aload_n 0, 1) := by decide +kernel
theorem dX5_doOn_10 : decode cX5_doOn 10 = .ok (.getfield 22, 3) := by decide +kernel
theorem dX5_doOn_13 : decode cX5_doOn 13 = .ok (.aload_n 1, 1) := by decide +kernel
theorem dX5_doOn_14 : decode cX5_doOn 14 = .ok (.invokestatic 25, 3) := by decide +kernel
theorem dX5_doOn_17 : decode cX5_doOn 17 = .ok (.aload_n 2, 1) := by decide +kernel
theorem dX5_doOn_18 : decode cX5_doOn 18 = .ok (.invokevirtual 29, 3) := by decide +kernel
theorem dX5_doOn_21 : decode cX5_doOn 21 = .ok (.istore_n 3, 1) := by decide +kernel
theorem dX5_doOn_22 : decode cX5_doOn 22 = .ok (.iload_n 3, 1) := by decide +kernel
theorem dX5_doOn_23 : decode cX5_doOn 23 = .ok (.iconst (-1), 1) := by decide +kernel
theorem dX5_doOn_24 : decode cX5_doOn 24 = .ok (.if_icmp .ne 5, 3) := by decide +kernel
theorem dX5_doOn_27 : decode cX5_doOn 27 = .ok (.iconst 0, 1) := by decide +kernel
theorem dX5_doOn_28 : decode cX5_doOn 28 = .ok (.ireturn, 1) := by decide +kernel
theorem dX5_doOn_29 : decode cX5_doOn 29 = .ok (.aload_n 1, 1) := by decide +kernel
theorem dX5_doOn_30 : decode cX5_doOn 30 = .ok (.aload_n 0, 1) := by decide +kernel
theorem dX5_doOn_31 : decode cX5_doOn 31 = .ok (.getfield 9, 3) := by decide +kernel
theorem dX5_doOn_34 : decode cX5_doOn 34 = .ok (.iload_n 3, 1) := by decide +kernel
theorem dX5_doOn_35 : decode cX5_doOn 35 = .ok (.invokevirtual 33, 3) := by decide +kernel
theorem dX5_doOn_38 : decode cX5_doOn 38 = .ok (.aload_n 0, 1) := by decide +kernel
theorem dX5_doOn_39 : decode cX5_doOn 39 = .ok (.getfield 15, 3) := by decide +kernel
theorem dX5_doOn_42 : decode cX5_doOn 42 = .ok (.bipush 42, 2) := by decide +kernel
theorem dX5_doOn_44 : decode cX5_doOn 44 = .ok (.if_icmp .ne 7, 3) := by decide +kernel
theorem dX5_doOn_47 : decode cX5_doOn 47 = .ok (.aload_n 1, 1) := by decide +kernel
theorem dX5_doOn_48 : decode cX5_doOn 48 = .ok (.invokevirtual 39, 3) := by decide +kernel
theorem dX5_doOn_51 : decode cX5_doOn 51 = .ok (.iconst 1, 1) := by decide +kernel
theorem dX5_doOn_52 : decode cX5_doOn 52 = .ok (.ireturn, 1) := by decide +kernel
set_option maxRecDepth 20000 in
theorem ggX5_valueOf_X4_nimberIn : GoodIn wsX5_valueOf wsX4_nimberIn := goodIn_r _ [6, 7, 8, 9] (by decide +kernel) (by decide +kernel)
set_option maxRecDepth 20000 in
theorem gX5_valueOf_X4_nimberIn : GoodIn wsX5_valueOf (wsV RX5 43 RX4 yX4_nimberIn wsX4_nimberIn) := goodIn_app (goodIn_of _ (by decide +kernel)) ggX5_valueOf_X4_nimberIn
theorem dX5_valueOf_0 : decode cX5_valueOf 0 = .ok (.iload_n 0, 1) := by decide +kernel
theorem dX5_valueOf_1 : decode cX5_valueOf 1 = .ok (.ldc 42, 2) := by decide +kernel
theorem dX5_valueOf_3 : decode cX5_valueOf 3 = .ok (.if_icmp .ge 7, 3) := by decide +kernel
theorem dX5_valueOf_6 : decode cX5_valueOf 6 = .ok (.iload_n 0, 1) := by decide +kernel
theorem dX5_valueOf_7 : decode cX5_valueOf 7 = .ok (.goto 11, 3) := by decide +kernel
theorem dX5_valueOf_10 : decode cX5_valueOf 10 = .ok (.aload_n 1, 1) := by decide +kernel
theorem dX5_valueOf_11 : decode cX5_valueOf 11 = .ok (.iload_n 0, 1) := by decide +kernel
theorem dX5_valueOf_12 : decode cX5_valueOf 12 = .ok (.ldc 42, 2) := by decide +kernel
theorem dX5_valueOf_14 : decode cX5_valueOf 14 = .ok (.isub, 1) := by decide +kernel
theorem dX5_valueOf_15 : decode cX5_valueOf 15 = .ok (.invokevirtual 43, 3) := by decide +kernel
theorem dX5_valueOf_18 : decode cX5_valueOf 18 = .ok (.ireturn, 1) := by decide +kernel
set_option maxRecDepth 20000 in
theorem ggX5_resultOf_X2_dividedBy : GoodIn wsX5_resultOf wsX2_dividedBy := goodIn_r _ [6, 7, 8, 9, 5, 10, 11, 12, 13, 14, 15, 29] (by decide +kernel) (by decide +kernel)
set_option maxRecDepth 20000 in
theorem gX5_resultOf_X2_dividedBy : GoodIn wsX5_resultOf (wsV RX5 47 RX2 yX2_dividedBy wsX2_dividedBy) := goodIn_app (goodIn_of _ (by decide +kernel)) ggX5_resultOf_X2_dividedBy
set_option maxRecDepth 20000 in
theorem ggX5_resultOf_X2_root : GoodIn wsX5_resultOf wsX2_root := goodIn_r _ [19, 7, 8, 9, 5, 10, 11, 29] (by decide +kernel) (by decide +kernel)
set_option maxRecDepth 20000 in
theorem gX5_resultOf_X2_root : GoodIn wsX5_resultOf (wsV RX5 53 RX2 yX2_root wsX2_root) := goodIn_app (goodIn_of _ (by decide +kernel)) ggX5_resultOf_X2_root
set_option maxRecDepth 20000 in
theorem ggX5_resultOf_X2_times : GoodIn wsX5_resultOf wsX2_times := goodIn_r _ [15, 11, 29] (by decide +kernel) (by decide +kernel)
set_option maxRecDepth 20000 in
theorem gX5_resultOf_X2_times : GoodIn wsX5_resultOf (wsV RX5 56 RX2 yX2_times wsX2_times) := goodIn_app (goodIn_of _ (by decide +kernel)) ggX5_resultOf_X2_times
set_option maxRecDepth 20000 in
theorem ggX5_resultOf_X2_raised : GoodIn wsX5_resultOf wsX2_raised := goodIn_r _ [24, 12, 13, 14, 5, 15, 11, 7, 8, 9, 10, 29] (by decide +kernel) (by decide +kernel)
set_option maxRecDepth 20000 in
theorem gX5_resultOf_X2_raised : GoodIn wsX5_resultOf (wsV RX5 59 RX2 yX2_raised wsX2_raised) := goodIn_app (goodIn_of _ (by decide +kernel)) ggX5_resultOf_X2_raised
theorem dX5_resultOf_0 : decode cX5_resultOf 0 = .ok (.aload_n 0, 1) := by decide +kernel
theorem dX5_resultOf_1 : decode cX5_resultOf 1 = .ok (.getfield 15, 3) := by decide +kernel
theorem dX5_resultOf_4 : decode cX5_resultOf 4 = .ok (.lookupswitch 98 #[(37, 67), (42, 77), (43, 73), (47, 84), (94, 91), (126, 60)], 60) := by decide +kernel
theorem dX5_resultOf_64 : decode cX5_resultOf 64 = .ok (.aload_n 3, 1) := by decide +kernel
theorem dX5_resultOf_65 : decode cX5_resultOf 65 = .ok (.iconst 1, 1) := by decide +kernel
theorem dX5_resultOf_66 : decode cX5_resultOf 66 = .ok (.iload_n 1, 1) := by decide +kernel
theorem dX5_resultOf_67 : decode cX5_resultOf 67 = .ok (.invokevirtual 47, 3) := by decide +kernel
theorem dX5_resultOf_70 : decode cX5_resultOf 70 = .ok (.ireturn, 1) := by decide +kernel
theorem dX5_resultOf_71 : decode cX5_resultOf 71 = .ok (.aload_n 3, 1) := by decide +kernel
theorem dX5_resultOf_72 : decode cX5_resultOf 72 = .ok (.iload_n 1, 1) := by decide +kernel
theorem dX5_resultOf_73 : decode cX5_resultOf 73 = .ok (.invokevirtual 53, 3) := by decide +kernel
theorem dX5_resultOf_76 : decode cX5_resultOf 76 = .ok (.ireturn, 1) := by decide +kernel
theorem dX5_resultOf_77 : decode cX5_resultOf 77 = .ok (.iload_n 1, 1) := by decide +kernel
theorem dX5_resultOf_78 : decode cX5_resultOf 78 = .ok (.iload_n 2, 1) := by decide +kernel
theorem dX5_resultOf_79 : decode cX5_resultOf 79 = .ok (.ixor, 1) := by decide +kernel
theorem dX5_resultOf_80 : decode cX5_resultOf 80 = .ok (.ireturn, 1) := by decide +kernel
theorem dX5_resultOf_81 : decode cX5_resultOf 81 = .ok (.aload_n 3, 1) := by decide +kernel
theorem dX5_resultOf_82 : decode cX5_resultOf 82 = .ok (.iload_n 1, 1) := by decide +kernel
theorem dX5_resultOf_83 : decode cX5_resultOf 83 = .ok (.iload_n 2, 1) := by decide +kernel
theorem dX5_resultOf_84 : decode cX5_resultOf 84 = .ok (.invokevirtual 56, 3) := by decide +kernel
theorem dX5_resultOf_87 : decode cX5_resultOf 87 = .ok (.ireturn, 1) := by decide +kernel
theorem dX5_resultOf_88 : decode cX5_resultOf 88 = .ok (.aload_n 3, 1) := by decide +kernel
theorem dX5_resultOf_89 : decode cX5_resultOf 89 = .ok (.iload_n 1, 1) := by decide +kernel
theorem dX5_resultOf_90 : decode cX5_resultOf 90 = .ok (.iload_n 2, 1) := by decide +kernel
theorem dX5_resultOf_91 : decode cX5_resultOf 91 = .ok (.invokevirtual 47, 3) := by decide +kernel
theorem dX5_resultOf_94 : decode cX5_resultOf 94 = .ok (.ireturn, 1) := by decide +kernel
theorem dX5_resultOf_95 : decode cX5_resultOf 95 = .ok (.aload_n 3, 1) := by decide +kernel
theorem dX5_resultOf_96 : decode cX5_resultOf 96 = .ok (.iload_n 1, 1) := by decide +kernel
theorem dX5_resultOf_97 : decode cX5_resultOf 97 = .ok (.iload_n 2, 1) := by decide +kernel
theorem dX5_resultOf_98 : decode cX5_resultOf 98 = .ok (.invokevirtual 59, 3) := by decide +kernel
theorem dX5_resultOf_101 : decode cX5_resultOf 101 = .ok (.ireturn, 1) := by decide +kernel
theorem dX5_resultOf_102 : decode cX5_resultOf 102 = .ok (.iload_n 1, 1) := by decide +kernel
theorem dX5_resultOf_103 : decode cX5_resultOf 103 = .ok (.ireturn, 1) := by decide +kernel
