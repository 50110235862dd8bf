set_option maxRecDepth 20000 in
theorem ggX0_init_X4_init : GoodIn wsX0_init wsX4_init := goodIn_r _ [9, 10, 2, 3, 11, 12, 15, 16] (by decide +kernel) (by decide +kernel)
set_option maxRecDepth 20000 in
theorem gX0_init_X4_init_n17 : GoodIn wsX0_init (wsX4_init) := ggX0_init_X4_init
theorem dX0_init_0 : decode cX0_init 0 = .ok (.aload_n 0, 1) := by decide +kernel
theorem dX0_init_1 : decode cX0_init 1 = .ok (.invokespecial 3, 3) := by decide +kernel
theorem dX0_init_4 : decode cX0_init 4 = .ok (.aload_n 0, 1) := by decide +kernel
theorem dX0_init_5 : decode cX0_init 5 = .ok (.iconst 4, 1) := by decide +kernel
theorem dX0_init_6 : decode cX0_init 6 = .ok (.anewarray 9, 3) := by decide +kernel
theorem dX0_init_9 : decode cX0_init 9 = .ok (.putfield 11, 3) := by decide +kernel
theorem dX0_init_12 : decode cX0_init 12 = .ok (.iconst 0, 1) := by decide +kernel
theorem dX0_init_13 : decode cX0_init 13 = .ok (.istore_n 1, 1) := by decide +kernel
theorem dX0_init_14 : decode cX0_init 14 = .ok (.iload_n 1, 1) := by decide +kernel
theorem dX0_init_15 : decode cX0_init 15 = .ok (.iconst 4, 1) := by decide +kernel
theorem dX0_init_16 : decode cX0_init 16 = .ok (.if_icmp .ge 22, 3) := by decide +kernel
theorem dX0_init_19 : decode cX0_init 19 = .ok (.aload_n 0, 1) := by decide +kernel
theorem dX0_init_20 : decode cX0_init 20 = .ok (.getfield 11, 3) := by decide +kernel
theorem dX0_init_23 : decode cX0_init 23 = .ok (.iload_n 1, 1) := by decide +kernel
theorem dX0_init_24 : decode cX0_init 24 = .ok (.new 9, 3) := by decide +kernel
theorem dX0_init_27 : decode cX0_init 27 = .ok (.dup, 1) := by decide +kernel
theorem dX0_init_28 : decode cX0_init 28 = .ok (.invokespecial 17, 3) := by decide +kernel
theorem dX0_init_31 : decode cX0_init 31 = .ok (.aastore, 1) := by decide +kernel
theorem dX0_init_32 : decode cX0_init 32 = .ok (.iinc 1 1, 3) := by decide +kernel
theorem dX0_init_35 : decode cX0_init 35 = .ok (.goto (-21), 3) := by decide +kernel
theorem dX0_init_38 : decode cX0_init 38 = .ok (.return_, 1) := by decide +kernel
theorem dX0_size_0 : decode cX0_size 0 = .ok (.aload_n 0, 1) := by decide +kernel
theorem dX0_size_1 : decode cX0_size 1 = .ok (.getfield 18, 3) := by decide +kernel
theorem dX0_size_4 : decode cX0_size 4 = .ok (.ireturn, 1) := by decide +kernel
set_option maxRecDepth 20000 in
theorem ggX0_record_X4_copyFrom : GoodIn wsX0_record wsX4_copyFrom := goodIn_r _ [11, 12, 13, 14, 15, 16, 10, 17, 18, 19, 20, 21, 24, 25] (by decide +kernel) (by decide +kernel)
set_option maxRecDepth 20000 in
theorem gX0_record_X4_copyFrom : GoodIn wsX0_record (wsV RX0 22 RX4 yX4_copyFrom wsX4_copyFrom) := goodIn_app (goodIn_of _ (by decide +kernel)) ggX0_record_X4_copyFrom
theorem dX0_record_0 : decode cX0_record 0 = .ok (.iconst 3, 1) := by decide +kernel
theorem dX0_record_1 : decode cX0_record 1 = .ok (.istore_n 2, 1) := by decide +kernel
theorem dX0_record_2 : decode cX0_record 2 = .ok (.iload_n 2, 1) := by decide +kernel
theorem dX0_record_3 : decode cX0_record 3 = .ok (.ifCond .le 26, 3) := by decide +kernel
theorem dX0_record_6 : decode cX0_record 6 = .ok (.aload_n 0, 1) := by decide +kernel
theorem dX0_record_7 : decode cX0_record 7 = .ok (.getfield 11, 3) := by decide +kernel
theorem dX0_record_10 : decode cX0_record 10 = .ok (.iload_n 2, 1) := by decide +kernel
theorem dX0_record_11 : decode cX0_record 11 = .ok (.aaload, 1) := by decide +kernel
theorem dX0_record_12 : decode cX0_record 12 = .ok (.aload_n 0, 1) := by decide +kernel
theorem dX0_record_13 : decode cX0_record 13 = .ok (.getfield 11, 3) := by decide +kernel
theorem dX0_record_16 : decode cX0_record 16 = .ok (.iload_n 2, 1) := by decide +kernel
theorem dX0_record_17 : decode cX0_record 17 = .ok (.iconst 1, 1) := by decide +kernel
theorem dX0_record_18 : decode cX0_record 18 = .ok (.isub, 1) := by decide +kernel
theorem dX0_record_19 : decode cX0_record 19 = .ok (.aaload, 1) := by decide +kernel
theorem dX0_record_20 : decode cX0_record 20 = .ok (.invokevirtual 22, 3) := by decide +kernel
theorem dX0_record_23 : decode cX0_record 23 = .ok (.iinc 2 (-1), 3) := by decide +kernel
theorem dX0_record_26 : decode cX0_record 26 = .ok (.goto (-24), 3) := by decide +kernel
theorem dX0_record_29 : decode cX0_record 29 = .ok (.aload_n 0, 1) := by decide +kernel
theorem dX0_record_30 : decode cX0_record 30 = .ok (.getfield 11, 3) := by decide +kernel
theorem dX0_record_33 : decode cX0_record 33 = .ok (.iconst 0, 1) := by decide +kernel
theorem dX0_record_34 : decode cX0_record 34 = .ok (.aaload, 1) := by decide +kernel
theorem dX0_record_35 : decode cX0_record 35 = .ok (.aload_n 1, 1) := by decide +kernel
theorem dX0_record_36 : decode cX0_record 36 = .ok (.invokevirtual 22, 3) := by decide +kernel
theorem dX0_record_39 : decode cX0_record 39 = .ok (.aload_n 0, 1) := by decide +kernel
theorem dX0_record_40 : decode cX0_record 40 = .ok (.aload_n 0, 1) := by decide +kernel
theorem dX0_record_41 : decode cX0_record 41 = .ok (.getfield 18, 3) := by decide +kernel
theorem dX0_record_44 : decode cX0_record 44 = .ok (.iconst 1, 1) := by decide +kernel
theorem dX0_record_45 : decode cX0_record 45 = .ok (.iadd, 1) := by decide +kernel
theorem dX0_record_46 : decode cX0_record 46 = .ok (.iconst 4, 1) := by decide +kernel
theorem dX0_record_47 : decode cX0_record 47 = .ok (.invokestatic 26, 3) := by decide +kernel
theorem dX0_record_50 : decode cX0_record 50 = .ok (.putfield 18, 3) := by decide +kernel
theorem dX0_record_53 : decode cX0_record 53 = .ok (.return_, 1) := by decide +kernel
set_option maxRecDepth 20000 in
theorem ggX0_returnTo_X4_copyFrom : GoodIn wsX0_returnTo wsX4_copyFrom := goodIn_r _ [7, 8, 9, 10, 11, 12, 6, 13, 14, 15, 16, 17, 20, 21] (by decide +kernel) (by decide +kernel)
set_option maxRecDepth 20000 in
theorem gX0_returnTo_X4_copyFrom : GoodIn wsX0_returnTo (wsV RX0 22 RX4 yX4_copyFrom wsX4_copyFrom) := goodIn_app (goodIn_of _ (by decide +kernel)) ggX0_returnTo_X4_copyFrom
theorem dX0_returnTo_0 : decode cX0_returnTo 0 = .ok (.aload_n 0, 1) := by decide +kernel
theorem dX0_returnTo_1 : decode cX0_returnTo 1 = .ok (.getfield 18, 3) := by decide +kernel
theorem dX0_returnTo_4 : decode cX0_returnTo 4 = .ok (.ifCond .le 53, 3) := by decide +kernel
theorem dX0_returnTo_7 : decode cX0_returnTo 7 = .ok (.aload_n 1, 1) := by decide +kernel
theorem dX0_returnTo_8 : decode cX0_returnTo 8 = .ok (.aload_n 0, 1) := by decide +kernel
theorem dX0_returnTo_9 : decode cX0_returnTo 9 = .ok (.getfield 11, 3) := by decide +kernel
theorem dX0_returnTo_12 : decode cX0_returnTo 12 = .ok (.iconst 0, 1) := by decide +kernel
theorem dX0_returnTo_13 : decode cX0_returnTo 13 = .ok (.aaload, 1) := by decide +kernel
theorem dX0_returnTo_14 : decode cX0_returnTo 14 = .ok (.invokevirtual 22, 3) := by decide +kernel
theorem dX0_returnTo_17 : decode cX0_returnTo 17 = .ok (.iconst 1, 1) := by decide +kernel
theorem dX0_returnTo_18 : decode cX0_returnTo 18 = .ok (.istore_n 2, 1) := by decide +kernel
theorem dX0_returnTo_19 : decode cX0_returnTo 19 = .ok (.iload_n 2, 1) := by decide +kernel
theorem dX0_returnTo_20 : decode cX0_returnTo 20 = .ok (.iconst 4, 1) := by decide +kernel
theorem dX0_returnTo_21 : decode cX0_returnTo 21 = .ok (.if_icmp .ge 26, 3) := by decide +kernel
theorem dX0_returnTo_24 : decode cX0_returnTo 24 = .ok (.aload_n 0, 1) := by decide +kernel
theorem dX0_returnTo_25 : decode cX0_returnTo 25 = .ok (.getfield 11, 3) := by decide +kernel
theorem dX0_returnTo_28 : decode cX0_returnTo 28 = .ok (.iload_n 2, 1) := by decide +kernel
theorem dX0_returnTo_29 : decode cX0_returnTo 29 = .ok (.iconst 1, 1) := by decide +kernel
theorem dX0_returnTo_30 : decode cX0_returnTo 30 = .ok (.isub, 1) := by decide +kernel
theorem dX0_returnTo_31 : decode cX0_returnTo 31 = .ok (.aaload, 1) := by decide +kernel
theorem dX0_returnTo_32 : decode cX0_returnTo 32 = .ok (.aload_n 0, 1) := by decide +kernel
theorem dX0_returnTo_33 : decode cX0_returnTo 33 = .ok (.getfield 11, 3) := by decide +kernel
theorem dX0_returnTo_36 : decode cX0_returnTo 36 = .ok (.iload_n 2, 1) := by decide +kernel
theorem dX0_returnTo_37 : decode cX0_returnTo 37 = .ok (.aaload, 1) := by decide +kernel
theorem dX0_returnTo_38 : decode cX0_returnTo 38 = .ok (.invokevirtual 22, 3) := by decide +kernel
theorem dX0_returnTo_41 : decode cX0_returnTo 41 = .ok (.iinc 2 1, 3) := by decide +kernel
theorem dX0_returnTo_44 : decode cX0_returnTo 44 = .ok (.goto (-25), 3) := by decide +kernel
theorem dX0_returnTo_47 : decode cX0_returnTo 47 = .ok (.aload_n 0, 1) := by decide +kernel
theorem dX0_returnTo_48 : decode cX0_returnTo 48 = .ok (.dup, 1) := by decide +kernel
theorem dX0_returnTo_49 : decode cX0_returnTo 49 = .ok (.getfield 18, 3) := by decide +kernel
theorem dX0_returnTo_52 : decode cX0_returnTo 52 = .ok (.iconst 1, 1) := by decide +kernel
theorem dX0_returnTo_53 : decode cX0_returnTo 53 = .ok (.isub, 1) := by decide +kernel
theorem dX0_returnTo_54 : decode cX0_returnTo 54 = .ok (.putfield 18, 3) := by decide +kernel
theorem dX0_returnTo_57 : decode cX0_returnTo 57 = .ok (.aload_n 0, 1) := by decide +kernel
theorem dX0_returnTo_58 : decode cX0_returnTo 58 = .ok (.getfield 18, 3) := by decide +kernel
theorem dX0_returnTo_61 : decode cX0_returnTo 61 = .ok (.ireturn, 1) := by decide +kernel
theorem dX1_init_0 : decode cX1_init 0 = .ok (.aload_n 0, 1) := by decide +kernel
theorem dX1_init_1 : decode cX1_init 1 = .ok (.invokespecial 3, 3) := by decide +kernel
theorem dX1_init_4 : decode cX1_init 4 = .ok (.aload_n 0, 1) := by decide +kernel
theorem dX1_init_5 : decode cX1_init 5 = .ok (.sipush 256, 3) := by decide +kernel
theorem dX1_init_8 : decode cX1_init 8 = .ok (.newarray .int, 2) := by decide +kernel
theorem dX1_init_10 : decode cX1_init 10 = .ok (.putfield 11, 3) := by decide +kernel
theorem dX1_init_13 : decode cX1_init 13 = .ok (.return_, 1) := by decide +kernel
set_option maxRecDepth 20000 in
theorem ggX2_init_X2_productsOfBits : GoodIn wsX2_init wsX2_productsOfBits := goodIn_r _ [8, 9, 10, 11, 7, 12, 13, 14, 15] (by decide +kernel) (by decide +kernel)
set_option maxRecDepth 20000 in
theorem gX2_init_X2_productsOfBits : GoodIn wsX2_init (va_wsS RX2 9 yX2_productsOfBits wsX2_productsOfBits) := goodIn_app (goodIn_of _ (by decide +kernel)) ggX2_init_X2_productsOfBits
theorem dX2_init_0 : decode cX2_init 0 = .ok (.aload_n 0, 1) := by decide +kernel
theorem dX2_init_1 : decode cX2_init 1 = .ok (.invokespecial 3, 3) := by decide +kernel
theorem dX2_init_4 : decode cX2_init 4 = .ok (.aload_n 0, 1) := by decide +kernel
theorem dX2_init_5 : decode cX2_init 5 = .ok (.invokestatic 9, 3) := by decide +kernel
theorem dX2_init_8 : decode cX2_init 8 = .ok (.putfield 15, 3) := by decide +kernel
theorem dX2_init_11 : decode cX2_init 11 = .ok (.return_, 1) := by decide +kernel
set_option maxRecDepth 20000 in
theorem ggX2_productsOfBits_X2_addProductsBelow : GoodIn wsX2_productsOfBits wsX2_addProductsBelow := goodIn_r _ [5, 6, 7, 4, 8] (by decide +kernel) (by decide +kernel)
set_option maxRecDepth 20000 in
theorem gX2_productsOfBits_X2_addProductsBelow : GoodIn wsX2_productsOfBits (va_wsS RX2 19 yX2_addProductsBelow wsX2_addProductsBelow) := goodIn_app (goodIn_of _ (by decide +kernel)) ggX2_productsOfBits_X2_addProductsBelow
theorem dX2_productsOfBits_0 : decode cX2_productsOfBits 0 = .ok (.sipush 256, 3) := by decide +kernel
theorem dX2_productsOfBits_3 : decode cX2_productsOfBits 3 = .ok (.newarray .int, 2) := by decide +kernel
theorem dX2_productsOfBits_5 : decode cX2_productsOfBits 5 = .ok (.astore_n 0, 1) := by decide +kernel
theorem dX2_productsOfBits_6 : decode cX2_productsOfBits 6 = .ok (.aload_n 0, 1) := by decide +kernel
theorem dX2_productsOfBits_7 : decode cX2_productsOfBits 7 = .ok (.iconst 0, 1) := by decide +kernel
theorem dX2_productsOfBits_8 : decode cX2_productsOfBits 8 = .ok (.iconst 1, 1) := by decide +kernel
theorem dX2_productsOfBits_9 : decode cX2_productsOfBits 9 = .ok (.iastore, 1) := by decide +kernel
theorem dX2_productsOfBits_10 : decode cX2_productsOfBits 10 = .ok (.iconst 1, 1) := by decide +kernel
theorem dX2_productsOfBits_11 : decode cX2_productsOfBits 11 = .ok (.istore_n 1, 1) := by decide +kernel
theorem dX2_productsOfBits_12 : decode cX2_productsOfBits 12 = .ok (.iload_n 1, 1) := by decide +kernel
theorem dX2_productsOfBits_13 : decode cX2_productsOfBits 13 = .ok (.bipush 16, 2) := by decide +kernel
theorem dX2_productsOfBits_15 : decode cX2_productsOfBits 15 = .ok (.if_icmp .ge 18, 3) := by decide +kernel
theorem dX2_productsOfBits_18 : decode cX2_productsOfBits 18 = .ok (.iconst 2, 1) := by decide +kernel
theorem dX2_productsOfBits_19 : decode cX2_productsOfBits 19 = .ok (.iload_n 1, 1) := by decide +kernel
theorem dX2_productsOfBits_20 : decode cX2_productsOfBits 20 = .ok (.imul, 1) := by decide +kernel
theorem dX2_productsOfBits_21 : decode cX2_productsOfBits 21 = .ok (.iload_n 1, 1) := by decide +kernel
theorem dX2_productsOfBits_22 : decode cX2_productsOfBits 22 = .ok (.aload_n 0, 1) := by decide +kernel
theorem dX2_productsOfBits_23 : decode cX2_productsOfBits 23 = .ok (.invokestatic 19, 3) := by decide +kernel
theorem dX2_productsOfBits_26 : decode cX2_productsOfBits 26 = .ok (.iload_n 1, 1) := by decide +kernel
theorem dX2_productsOfBits_27 : decode cX2_productsOfBits 27 = .ok (.iconst 2, 1) := by decide +kernel
theorem dX2_productsOfBits_28 : decode cX2_productsOfBits 28 = .ok (.imul, 1) := by decide +kernel
theorem dX2_productsOfBits_29 : decode cX2_productsOfBits 29 = .ok (.istore_n 1, 1) := by decide +kernel
theorem dX2_productsOfBits_30 : decode cX2_productsOfBits 30 = .ok (.goto (-18), 3) := by decide +kernel
theorem dX2_productsOfBits_33 : decode cX2_productsOfBits 33 = .ok (.aload_n 0, 1) := by decide +kernel
theorem dX2_productsOfBits_34 : decode cX2_productsOfBits 34 = .ok (.areturn, 1) := by decide +kernel
set_option maxRecDepth 20000 in
theorem ggX2_addProductsBelow_X2_timesSquareOfPower : GoodIn wsX2_addProductsBelow wsX2_timesSquareOfPower := goodIn_r _ [4] (by decide +kernel) (by decide +kernel)
set_option maxRecDepth 20000 in
theorem gX2_addProductsBelow_X2_timesSquareOfPower : GoodIn wsX2_addProductsBelow (va_wsS RX2 23 yX2_timesSquareOfPower wsX2_timesSquareOfPower) := goodIn_app (goodIn_of _ (by decide +kernel)) ggX2_addProductsBelow_X2_timesSquareOfPower
theorem dX2_addProductsBelow_0 : decode cX2_addProductsBelow 0 = .ok (.iconst 0, 1) := by decide +kernel
theorem dX2_addProductsBelow_1 : decode cX2_addProductsBelow 1 = .ok (.istore_n 3, 1) := by decide +kernel
theorem dX2_addProductsBelow_2 : decode cX2_addProductsBelow 2 = .ok (.iload_n 3, 1) := by decide +kernel
theorem dX2_addProductsBelow_3 : decode cX2_addProductsBelow 3 = .ok (.iload_n 0, 1) := by decide +kernel
theorem dX2_addProductsBelow_4 : decode cX2_addProductsBelow 4 = .ok (.if_icmp .ge 140, 3) := by decide +kernel
theorem dX2_addProductsBelow_7 : decode cX2_addProductsBelow 7 = .ok (.iload_n 3, 1) := by decide +kernel
theorem dX2_addProductsBelow_8 : decode cX2_addProductsBelow 8 = .ok (.bipush 16, 2) := by decide +kernel
theorem dX2_addProductsBelow_10 : decode cX2_addProductsBelow 10 = .ok (.if_icmp .ge 134, 3) := by decide +kernel
theorem dX2_addProductsBelow_13 : decode cX2_addProductsBelow 13 = .ok (.iconst 0, 1) := by decide +kernel
theorem dX2_addProductsBelow_14 : decode cX2_addProductsBelow 14 = .ok (.istore 4, 2) := by decide +kernel
theorem dX2_addProductsBelow_16 : decode cX2_addProductsBelow 16 = .ok (.iload 4, 2) := by decide +kernel
theorem dX2_addProductsBelow_18 : decode cX2_addProductsBelow 18 = .ok (.iload_n 0, 1) := by decide +kernel
theorem dX2_addProductsBelow_19 : decode cX2_addProductsBelow 19 = .ok (.if_icmp .ge 119, 3) := by decide +kernel
theorem dX2_addProductsBelow_22 : decode cX2_addProductsBelow 22 = .ok (.iload 4, 2) := by decide +kernel
theorem dX2_addProductsBelow_24 : decode cX2_addProductsBelow 24 = .ok (.bipush 16, 2) := by decide +kernel
theorem dX2_addProductsBelow_26 : decode cX2_addProductsBelow 26 = .ok (.if_icmp .ge 112, 3) := by decide +kernel
theorem dX2_addProductsBelow_29 : decode cX2_addProductsBelow 29 = .ok (.iload_n 3, 1) := by decide +kernel
theorem dX2_addProductsBelow_30 : decode cX2_addProductsBelow 30 = .ok (.iload_n 1, 1) := by decide +kernel
theorem dX2_addProductsBelow_31 : decode cX2_addProductsBelow 31 = .ok (.if_icmp .lt 43, 3) := by decide +kernel
theorem dX2_addProductsBelow_34 : decode cX2_addProductsBelow 34 = .ok (.iload 4, 2) := by decide +kernel
theorem dX2_addProductsBelow_36 : decode cX2_addProductsBelow 36 = .ok (.iload_n 1, 1) := by decide +kernel
theorem dX2_addProductsBelow_37 : decode cX2_addProductsBelow 37 = .ok (.if_icmp .lt 37, 3) := by decide +kernel
theorem dX2_addProductsBelow_40 : decode cX2_addProductsBelow 40 = .ok (.aload_n 2, 1) := by decide +kernel
theorem dX2_addProductsBelow_41 : decode cX2_addProductsBelow 41 = .ok (.bipush 16, 2) := by decide +kernel
theorem dX2_addProductsBelow_43 : decode cX2_addProductsBelow 43 = .ok (.iload_n 3, 1) := by decide +kernel
theorem dX2_addProductsBelow_44 : decode cX2_addProductsBelow 44 = .ok (.iload_n 1, 1) := by decide +kernel
theorem dX2_addProductsBelow_45 : decode cX2_addProductsBelow 45 = .ok (.isub, 1) := by decide +kernel
theorem dX2_addProductsBelow_46 : decode cX2_addProductsBelow 46 = .ok (.imul, 1) := by decide +kernel
theorem dX2_addProductsBelow_47 : decode cX2_addProductsBelow 47 = .ok (.iload 4, 2) := by decide +kernel
theorem dX2_addProductsBelow_49 : decode cX2_addProductsBelow 49 = .ok (.iadd, 1) := by decide +kernel
theorem dX2_addProductsBelow_50 : decode cX2_addProductsBelow 50 = .ok (.iload_n 1, 1) := by decide +kernel
theorem dX2_addProductsBelow_51 : decode cX2_addProductsBelow 51 = .ok (.isub, 1) := by decide +kernel
theorem dX2_addProductsBelow_52 : decode cX2_addProductsBelow 52 = .ok (.iaload, 1) := by decide +kernel
theorem dX2_addProductsBelow_53 : decode cX2_addProductsBelow 53 = .ok (.istore 5, 2) := by decide +kernel
theorem dX2_addProductsBelow_55 : decode cX2_addProductsBelow 55 = .ok (.aload_n 2, 1) := by decide +kernel
theorem dX2_addProductsBelow_56 : decode cX2_addProductsBelow 56 = .ok (.bipush 16, 2) := by decide +kernel
theorem dX2_addProductsBelow_58 : decode cX2_addProductsBelow 58 = .ok (.iload_n 3, 1) := by decide +kernel
theorem dX2_addProductsBelow_59 : decode cX2_addProductsBelow 59 = .ok (.imul, 1) := by decide +kernel
theorem dX2_addProductsBelow_60 : decode cX2_addProductsBelow 60 = .ok (.iload 4, 2) := by decide +kernel
theorem dX2_addProductsBelow_62 : decode cX2_addProductsBelow 62 = .ok (.iadd, 1) := by decide +kernel
theorem dX2_addProductsBelow_63 : decode cX2_addProductsBelow 63 = .ok (.iload 5, 2) := by decide +kernel
theorem dX2_addProductsBelow_65 : decode cX2_addProductsBelow 65 = .ok (.iload_n 1, 1) := by decide +kernel
theorem dX2_addProductsBelow_66 : decode cX2_addProductsBelow 66 = .ok (.aload_n 2, 1) := by decide +kernel
theorem dX2_addProductsBelow_67 : decode cX2_addProductsBelow 67 = .ok (.invokestatic 23, 3) := by decide +kernel
theorem dX2_addProductsBelow_70 : decode cX2_addProductsBelow 70 = .ok (.iastore, 1) := by decide +kernel
theorem dX2_addProductsBelow_71 : decode cX2_addProductsBelow 71 = .ok (.goto 61, 3) := by decide +kernel
theorem dX2_addProductsBelow_74 : decode cX2_addProductsBelow 74 = .ok (.iload_n 3, 1) := by decide +kernel
theorem dX2_addProductsBelow_75 : decode cX2_addProductsBelow 75 = .ok (.iload_n 1, 1) := by decide +kernel
theorem dX2_addProductsBelow_76 : decode cX2_addProductsBelow 76 = .ok (.if_icmp .lt 28, 3) := by decide +kernel
theorem dX2_addProductsBelow_79 : decode cX2_addProductsBelow 79 = .ok (.aload_n 2, 1) := by decide +kernel
theorem dX2_addProductsBelow_80 : decode cX2_addProductsBelow 80 = .ok (.bipush 16, 2) := by decide +kernel
theorem dX2_addProductsBelow_82 : decode cX2_addProductsBelow 82 = .ok (.iload_n 3, 1) := by decide +kernel
theorem dX2_addProductsBelow_83 : decode cX2_addProductsBelow 83 = .ok (.imul, 1) := by decide +kernel
theorem dX2_addProductsBelow_84 : decode cX2_addProductsBelow 84 = .ok (.iload 4, 2) := by decide +kernel
theorem dX2_addProductsBelow_86 : decode cX2_addProductsBelow 86 = .ok (.iadd, 1) := by decide +kernel
theorem dX2_addProductsBelow_87 : decode cX2_addProductsBelow 87 = .ok (.aload_n 2, 1) := by decide +kernel
theorem dX2_addProductsBelow_88 : decode cX2_addProductsBelow 88 = .ok (.bipush 16, 2) := by decide +kernel
theorem dX2_addProductsBelow_90 : decode cX2_addProductsBelow 90 = .ok (.iload_n 3, 1) := by decide +kernel
theorem dX2_addProductsBelow_91 : decode cX2_addProductsBelow 91 = .ok (.iload_n 1, 1) := by decide +kernel
theorem dX2_addProductsBelow_92 : decode cX2_addProductsBelow 92 = .ok (.isub, 1) := by decide +kernel
theorem dX2_addProductsBelow_93 : decode cX2_addProductsBelow 93 = .ok (.imul, 1) := by decide +kernel
theorem dX2_addProductsBelow_94 : decode cX2_addProductsBelow 94 = .ok (.iload 4, 2) := by decide +kernel
theorem dX2_addProductsBelow_96 : decode cX2_addProductsBelow 96 = .ok (.iadd, 1) := by decide +kernel
theorem dX2_addProductsBelow_97 : decode cX2_addProductsBelow 97 = .ok (.iaload, 1) := by decide +kernel
theorem dX2_addProductsBelow_98 : decode cX2_addProductsBelow 98 = .ok (.iload_n 1, 1) := by decide +kernel
theorem dX2_addProductsBelow_99 : decode cX2_addProductsBelow 99 = .ok (.ishl, 1) := by decide +kernel
theorem dX2_addProductsBelow_100 : decode cX2_addProductsBelow 100 = .ok (.iastore, 1) := by decide +kernel
theorem dX2_addProductsBelow_101 : decode cX2_addProductsBelow 101 = .ok (.goto 31, 3) := by decide +kernel
theorem dX2_addProductsBelow_104 : decode cX2_addProductsBelow 104 = .ok (.iload 4, 2) := by decide +kernel
theorem dX2_addProductsBelow_106 : decode cX2_addProductsBelow 106 = .ok (.iload_n 1, 1) := by decide +kernel
theorem dX2_addProductsBelow_107 : decode cX2_addProductsBelow 107 = .ok (.if_icmp .lt 25, 3) := by decide +kernel
theorem dX2_addProductsBelow_110 : decode cX2_addProductsBelow 110 = .ok (.aload_n 2, 1) := by decide +kernel
theorem dX2_addProductsBelow_111 : decode cX2_addProductsBelow 111 = .ok (.bipush 16, 2) := by decide +kernel
theorem dX2_addProductsBelow_113 : decode cX2_addProductsBelow 113 = .ok (.iload_n 3, 1) := by decide +kernel
theorem dX2_addProductsBelow_114 : decode cX2_addProductsBelow 114 = .ok (.imul, 1) := by decide +kernel
theorem dX2_addProductsBelow_115 : decode cX2_addProductsBelow 115 = .ok (.iload 4, 2) := by decide +kernel
theorem dX2_addProductsBelow_117 : decode cX2_addProductsBelow 117 = .ok (.iadd, 1) := by decide +kernel
theorem dX2_addProductsBelow_118 : decode cX2_addProductsBelow 118 = .ok (.aload_n 2, 1) := by decide +kernel
theorem dX2_addProductsBelow_119 : decode cX2_addProductsBelow 119 = .ok (.bipush 16, 2) := by decide +kernel
theorem dX2_addProductsBelow_121 : decode cX2_addProductsBelow 121 = .ok (.iload_n 3, 1) := by decide +kernel
theorem dX2_addProductsBelow_122 : decode cX2_addProductsBelow 122 = .ok (.imul, 1) := by decide +kernel
theorem dX2_addProductsBelow_123 : decode cX2_addProductsBelow 123 = .ok (.iload 4, 2) := by decide +kernel
theorem dX2_addProductsBelow_125 : decode cX2_addProductsBelow 125 = .ok (.iadd, 1) := by decide +kernel
theorem dX2_addProductsBelow_126 : decode cX2_addProductsBelow 126 = .ok (.iload_n 1, 1) := by decide +kernel
theorem dX2_addProductsBelow_127 : decode cX2_addProductsBelow 127 = .ok (.isub, 1) := by decide +kernel
theorem dX2_addProductsBelow_128 : decode cX2_addProductsBelow 128 = .ok (.iaload, 1) := by decide +kernel
theorem dX2_addProductsBelow_129 : decode cX2_addProductsBelow 129 = .ok (.iload_n 1, 1) := by decide +kernel
theorem dX2_addProductsBelow_130 : decode cX2_addProductsBelow 130 = .ok (.ishl, 1) := by decide +kernel
theorem dX2_addProductsBelow_131 : decode cX2_addProductsBelow 131 = .ok (.iastore, 1) := by decide +kernel
theorem dX2_addProductsBelow_132 : decode cX2_addProductsBelow 132 = .ok (.iinc 4 1, 3) := by decide +kernel
theorem dX2_addProductsBelow_135 : decode cX2_addProductsBelow 135 = .ok (.goto (-119), 3) := by decide +kernel
theorem dX2_addProductsBelow_138 : decode cX2_addProductsBelow 138 = .ok (.iinc 3 1, 3) := by decide +kernel
theorem dX2_addProductsBelow_141 : decode cX2_addProductsBelow 141 = .ok (.goto (-139), 3) := by decide +kernel
theorem dX2_addProductsBelow_144 : decode cX2_addProductsBelow 144 = .ok (.return_, 1) := by decide +kernel
theorem dX2_timesSquareOfPower_0 : decode cX2_timesSquareOfPower 0 = .ok (.iload_n 0, 1) := by decide +kernel
theorem dX2_timesSquareOfPower_1 : decode cX2_timesSquareOfPower 1 = .ok (.iload_n 1, 1) := by decide +kernel
theorem dX2_timesSquareOfPower_2 : decode cX2_timesSquareOfPower 2 = .ok (.ishl, 1) := by decide +kernel
theorem dX2_timesSquareOfPower_3 : decode cX2_timesSquareOfPower 3 = .ok (.istore_n 3, 1) := by decide +kernel
theorem dX2_timesSquareOfPower_4 : decode cX2_timesSquareOfPower 4 = .ok (.iconst 0, 1) := by decide +kernel
theorem dX2_timesSquareOfPower_5 : decode cX2_timesSquareOfPower 5 = .ok (.istore 4, 2) := by decide +kernel
theorem dX2_timesSquareOfPower_7 : decode cX2_timesSquareOfPower 7 = .ok (.iload 4, 2) := by decide +kernel
theorem dX2_timesSquareOfPower_9 : decode cX2_timesSquareOfPower 9 = .ok (.iload_n 1, 1) := by decide +kernel
theorem dX2_timesSquareOfPower_10 : decode cX2_timesSquareOfPower 10 = .ok (.if_icmp .ge 40, 3) := by decide +kernel
theorem dX2_timesSquareOfPower_13 : decode cX2_timesSquareOfPower 13 = .ok (.iload 4, 2) := by decide +kernel
theorem dX2_timesSquareOfPower_15 : decode cX2_timesSquareOfPower 15 = .ok (.bipush 16, 2) := by decide +kernel
theorem dX2_timesSquareOfPower_17 : decode cX2_timesSquareOfPower 17 = .ok (.if_icmp .ge 33, 3) := by decide +kernel
theorem dX2_timesSquareOfPower_20 : decode cX2_timesSquareOfPower 20 = .ok (.iload_n 0, 1) := by decide +kernel
theorem dX2_timesSquareOfPower_21 : decode cX2_timesSquareOfPower 21 = .ok (.iload 4, 2) := by decide +kernel
theorem dX2_timesSquareOfPower_23 : decode cX2_timesSquareOfPower 23 = .ok (.ishr, 1) := by decide +kernel
theorem dX2_timesSquareOfPower_24 : decode cX2_timesSquareOfPower 24 = .ok (.iconst 1, 1) := by decide +kernel
theorem dX2_timesSquareOfPower_25 : decode cX2_timesSquareOfPower 25 = .ok (.iand, 1) := by decide +kernel
theorem dX2_timesSquareOfPower_26 : decode cX2_timesSquareOfPower 26 = .ok (.iconst 1, 1) := by decide +kernel
theorem dX2_timesSquareOfPower_27 : decode cX2_timesSquareOfPower 27 = .ok (.if_icmp .ne 17, 3) := by decide +kernel
theorem dX2_timesSquareOfPower_30 : decode cX2_timesSquareOfPower 30 = .ok (.iload_n 3, 1) := by decide +kernel
theorem dX2_timesSquareOfPower_31 : decode cX2_timesSquareOfPower 31 = .ok (.aload_n 2, 1) := by decide +kernel
theorem dX2_timesSquareOfPower_32 : decode cX2_timesSquareOfPower 32 = .ok (.bipush 16, 2) := by decide +kernel
theorem dX2_timesSquareOfPower_34 : decode cX2_timesSquareOfPower 34 = .ok (.iload 4, 2) := by decide +kernel
theorem dX2_timesSquareOfPower_36 : decode cX2_timesSquareOfPower 36 = .ok (.imul, 1) := by decide +kernel
theorem dX2_timesSquareOfPower_37 : decode cX2_timesSquareOfPower 37 = .ok (.iload_n 1, 1) := by decide +kernel
theorem dX2_timesSquareOfPower_38 : decode cX2_timesSquareOfPower 38 = .ok (.iadd, 1) := by decide +kernel
theorem dX2_timesSquareOfPower_39 : decode cX2_timesSquareOfPower 39 = .ok (.iconst 1, 1) := by decide +kernel
theorem dX2_timesSquareOfPower_40 : decode cX2_timesSquareOfPower 40 = .ok (.isub, 1) := by decide +kernel
theorem dX2_timesSquareOfPower_41 : decode cX2_timesSquareOfPower 41 = .ok (.iaload, 1) := by decide +kernel
theorem dX2_timesSquareOfPower_42 : decode cX2_timesSquareOfPower 42 = .ok (.ixor, 1) := by decide +kernel
theorem dX2_timesSquareOfPower_43 : decode cX2_timesSquareOfPower 43 = .ok (.istore_n 3, 1) := by decide +kernel
theorem dX2_timesSquareOfPower_44 : decode cX2_timesSquareOfPower 44 = .ok (.iinc 4 1, 3) := by decide +kernel
theorem dX2_timesSquareOfPower_47 : decode cX2_timesSquareOfPower 47 = .ok (.goto (-40), 3) := by decide +kernel
theorem dX2_timesSquareOfPower_50 : decode cX2_timesSquareOfPower 50 = .ok (.iload_n 3, 1) := by decide +kernel
theorem dX2_timesSquareOfPower_51 : decode cX2_timesSquareOfPower 51 = .ok (.ireturn, 1) := by decide +kernel
set_option maxRecDepth 20000 in
theorem ggX2_timesByHalves_X2_timesByHalves : GoodIn wsX2_timesByHalves wsX2_timesByHalves := goodIn_r _ [0, 1, 2, 3] (by decide +kernel) (by decide +kernel)
set_option maxRecDepth 20000 in
theorem gX2_timesByHalves_X2_timesByHalves : GoodIn wsX2_timesByHalves (va_wsS RX2 27 yX2_timesByHalves wsX2_timesByHalves) := goodIn_app (goodIn_of _ (by decide +kernel)) ggX2_timesByHalves_X2_timesByHalves
theorem dX2_timesByHalves_0 : decode cX2_timesByHalves 0 = .ok (.iload_n 2, 1) := by decide +kernel
theorem dX2_timesByHalves_1 : decode cX2_timesByHalves 1 = .ok (.iconst 1, 1) := by decide +kernel
theorem dX2_timesByHalves_2 : decode cX2_timesByHalves 2 = .ok (.if_icmp .lt 13, 3) := by decide +kernel
theorem dX2_timesByHalves_5 : decode cX2_timesByHalves 5 = .ok (.iload_n 0, 1) := by decide +kernel
theorem dX2_timesByHalves_6 : decode cX2_timesByHalves 6 = .ok (.iconst 2, 1) := by decide +kernel
theorem dX2_timesByHalves_7 : decode cX2_timesByHalves 7 = .ok (.if_icmp .lt 8, 3) := by decide +kernel
theorem dX2_timesByHalves_10 : decode cX2_timesByHalves 10 = .ok (.iload_n 1, 1) := by decide +kernel
theorem dX2_timesByHalves_11 : decode cX2_timesByHalves 11 = .ok (.iconst 2, 1) := by decide +kernel
theorem dX2_timesByHalves_12 : decode cX2_timesByHalves 12 = .ok (.if_icmp .ge 7, 3) := by decide +kernel
theorem dX2_timesByHalves_15 : decode cX2_timesByHalves 15 = .ok (.iload_n 0, 1) := by decide +kernel
theorem dX2_timesByHalves_16 : decode cX2_timesByHalves 16 = .ok (.iload_n 1, 1) := by decide +kernel
theorem dX2_timesByHalves_17 : decode cX2_timesByHalves 17 = .ok (.imul, 1) := by decide +kernel
theorem dX2_timesByHalves_18 : decode cX2_timesByHalves 18 = .ok (.ireturn, 1) := by decide +kernel
theorem dX2_timesByHalves_19 : decode cX2_timesByHalves 19 = .ok (.iconst 1, 1) := by decide +kernel
theorem dX2_timesByHalves_20 : decode cX2_timesByHalves 20 = .ok (.iload_n 2, 1) := by decide +kernel
theorem dX2_timesByHalves_21 : decode cX2_timesByHalves 21 = .ok (.ishl, 1) := by decide +kernel
theorem dX2_timesByHalves_22 : decode cX2_timesByHalves 22 = .ok (.iconst 1, 1) := by decide +kernel
theorem dX2_timesByHalves_23 : decode cX2_timesByHalves 23 = .ok (.isub, 1) := by decide +kernel
theorem dX2_timesByHalves_24 : decode cX2_timesByHalves 24 = .ok (.istore_n 3, 1) := by decide +kernel
theorem dX2_timesByHalves_25 : decode cX2_timesByHalves 25 = .ok (.iload_n 0, 1) := by decide +kernel
theorem dX2_timesByHalves_26 : decode cX2_timesByHalves 26 = .ok (.iload_n 2, 1) := by decide +kernel
theorem dX2_timesByHalves_27 : decode cX2_timesByHalves 27 = .ok (.ishr, 1) := by decide +kernel
theorem dX2_timesByHalves_28 : decode cX2_timesByHalves 28 = .ok (.istore 4, 2) := by decide +kernel
theorem dX2_timesByHalves_30 : decode cX2_timesByHalves 30 = .ok (.iload_n 0, 1) := by decide +kernel
theorem dX2_timesByHalves_31 : decode cX2_timesByHalves 31 = .ok (.iload_n 3, 1) := by decide +kernel
theorem dX2_timesByHalves_32 : decode cX2_timesByHalves 32 = .ok (.iand, 1) := by decide +kernel
theorem dX2_timesByHalves_33 : decode cX2_timesByHalves 33 = .ok (.istore 5, 2) := by decide +kernel
theorem dX2_timesByHalves_35 : decode cX2_timesByHalves 35 = .ok (.iload_n 1, 1) := by decide +kernel
theorem dX2_timesByHalves_36 : decode cX2_timesByHalves 36 = .ok (.iload_n 2, 1) := by decide +kernel
theorem dX2_timesByHalves_37 : decode cX2_timesByHalves 37 = .ok (.ishr, 1) := by decide +kernel
theorem dX2_timesByHalves_38 : decode cX2_timesByHalves 38 = .ok (.istore 6, 2) := by decide +kernel
theorem dX2_timesByHalves_40 : decode cX2_timesByHalves 40 = .ok (.iload_n 1, 1) := by decide +kernel
theorem dX2_timesByHalves_41 : decode cX2_timesByHalves 41 = .ok (.iload_n 3, 1) := by decide +kernel
theorem dX2_timesByHalves_42 : decode cX2_timesByHalves 42 = .ok (.iand, 1) := by decide +kernel
theorem dX2_timesByHalves_43 : decode cX2_timesByHalves 43 = .ok (.istore 7, 2) := by decide +kernel
theorem dX2_timesByHalves_45 : decode cX2_timesByHalves 45 = .ok (.iload 5, 2) := by decide +kernel
theorem dX2_timesByHalves_47 : decode cX2_timesByHalves 47 = .ok (.iload 7, 2) := by decide +kernel
theorem dX2_timesByHalves_49 : decode cX2_timesByHalves 49 = .ok (.iload_n 2, 1) := by decide +kernel
theorem dX2_timesByHalves_50 : decode cX2_timesByHalves 50 = .ok (.iconst 2, 1) := by decide +kernel
theorem dX2_timesByHalves_51 : decode cX2_timesByHalves 51 = .ok (.idiv, 1) := by decide +kernel
theorem dX2_timesByHalves_52 : decode cX2_timesByHalves 52 = .ok (.invokestatic 27, 3) := by decide +kernel
theorem dX2_timesByHalves_55 : decode cX2_timesByHalves 55 = .ok (.istore 8, 2) := by decide +kernel
theorem dX2_timesByHalves_57 : decode cX2_timesByHalves 57 = .ok (.iload 4, 2) := by decide +kernel
theorem dX2_timesByHalves_59 : decode cX2_timesByHalves 59 = .ok (.iload 6, 2) := by decide +kernel
theorem dX2_timesByHalves_61 : decode cX2_timesByHalves 61 = .ok (.iload_n 2, 1) := by decide +kernel
theorem dX2_timesByHalves_62 : decode cX2_timesByHalves 62 = .ok (.iconst 2, 1) := by decide +kernel
theorem dX2_timesByHalves_63 : decode cX2_timesByHalves 63 = .ok (.idiv, 1) := by decide +kernel
theorem dX2_timesByHalves_64 : decode cX2_timesByHalves 64 = .ok (.invokestatic 27, 3) := by decide +kernel
theorem dX2_timesByHalves_67 : decode cX2_timesByHalves 67 = .ok (.istore 9, 2) := by decide +kernel
theorem dX2_timesByHalves_69 : decode cX2_timesByHalves 69 = .ok (.iload 4, 2) := by decide +kernel
theorem dX2_timesByHalves_71 : decode cX2_timesByHalves 71 = .ok (.iload 5, 2) := by decide +kernel
theorem dX2_timesByHalves_73 : decode cX2_timesByHalves 73 = .ok (.ixor, 1) := by decide +kernel
theorem dX2_timesByHalves_74 : decode cX2_timesByHalves 74 = .ok (.iload 6, 2) := by decide +kernel
theorem dX2_timesByHalves_76 : decode cX2_timesByHalves 76 = .ok (.iload 7, 2) := by decide +kernel
theorem dX2_timesByHalves_78 : decode cX2_timesByHalves 78 = .ok (.ixor, 1) := by decide +kernel
theorem dX2_timesByHalves_79 : decode cX2_timesByHalves 79 = .ok (.iload_n 2, 1) := by decide +kernel
theorem dX2_timesByHalves_80 : decode cX2_timesByHalves 80 = .ok (.iconst 2, 1) := by decide +kernel
theorem dX2_timesByHalves_81 : decode cX2_timesByHalves 81 = .ok (.idiv, 1) := by decide +kernel
theorem dX2_timesByHalves_82 : decode cX2_timesByHalves 82 = .ok (.invokestatic 27, 3) := by decide +kernel
theorem dX2_timesByHalves_85 : decode cX2_timesByHalves 85 = .ok (.istore 10, 2) := by decide +kernel
theorem dX2_timesByHalves_87 : decode cX2_timesByHalves 87 = .ok (.iload 9, 2) := by decide +kernel
theorem dX2_timesByHalves_89 : decode cX2_timesByHalves 89 = .ok (.iconst 1, 1) := by decide +kernel
theorem dX2_timesByHalves_90 : decode cX2_timesByHalves 90 = .ok (.iload_n 2, 1) := by decide +kernel
theorem dX2_timesByHalves_91 : decode cX2_timesByHalves 91 = .ok (.iconst 1, 1) := by decide +kernel
theorem dX2_timesByHalves_92 : decode cX2_timesByHalves 92 = .ok (.isub, 1) := by decide +kernel
theorem dX2_timesByHalves_93 : decode cX2_timesByHalves 93 = .ok (.ishl, 1) := by decide +kernel
theorem dX2_timesByHalves_94 : decode cX2_timesByHalves 94 = .ok (.iload_n 2, 1) := by decide +kernel
theorem dX2_timesByHalves_95 : decode cX2_timesByHalves 95 = .ok (.iconst 2, 1) := by decide +kernel
theorem dX2_timesByHalves_96 : decode cX2_timesByHalves 96 = .ok (.idiv, 1) := by decide +kernel
theorem dX2_timesByHalves_97 : decode cX2_timesByHalves 97 = .ok (.invokestatic 27, 3) := by decide +kernel
theorem dX2_timesByHalves_100 : decode cX2_timesByHalves 100 = .ok (.istore 11, 2) := by decide +kernel
theorem dX2_timesByHalves_102 : decode cX2_timesByHalves 102 = .ok (.iload 10, 2) := by decide +kernel
theorem dX2_timesByHalves_104 : decode cX2_timesByHalves 104 = .ok (.iload 8, 2) := by decide +kernel
theorem dX2_timesByHalves_106 : decode cX2_timesByHalves 106 = .ok (.ixor, 1) := by decide +kernel
theorem dX2_timesByHalves_107 : decode cX2_timesByHalves 107 = .ok (.iload_n 2, 1) := by decide +kernel
theorem dX2_timesByHalves_108 : decode cX2_timesByHalves 108 = .ok (.ishl, 1) := by decide +kernel
theorem dX2_timesByHalves_109 : decode cX2_timesByHalves 109 = .ok (.iload 11, 2) := by decide +kernel
theorem dX2_timesByHalves_111 : decode cX2_timesByHalves 111 = .ok (.ixor, 1) := by decide +kernel
theorem dX2_timesByHalves_112 : decode cX2_timesByHalves 112 = .ok (.iload 8, 2) := by decide +kernel
theorem dX2_timesByHalves_114 : decode cX2_timesByHalves 114 = .ok (.ixor, 1) := by decide +kernel
theorem dX2_timesByHalves_115 : decode cX2_timesByHalves 115 = .ok (.ireturn, 1) := by decide +kernel
theorem dX2_times_0 : decode cX2_times 0 = .ok (.iconst 0, 1) := by decide +kernel
theorem dX2_times_1 : decode cX2_times 1 = .ok (.istore_n 3, 1) := by decide +kernel
theorem dX2_times_2 : decode cX2_times 2 = .ok (.iconst 0, 1) := by decide +kernel
theorem dX2_times_3 : decode cX2_times 3 = .ok (.istore 4, 2) := by decide +kernel
theorem dX2_times_5 : decode cX2_times 5 = .ok (.iload 4, 2) := by decide +kernel
theorem dX2_times_7 : decode cX2_times 7 = .ok (.bipush 16, 2) := by decide +kernel
theorem dX2_times_9 : decode cX2_times 9 = .ok (.if_icmp .ge 61, 3) := by decide +kernel
theorem dX2_times_12 : decode cX2_times 12 = .ok (.iload_n 1, 1) := by decide +kernel
theorem dX2_times_13 : decode cX2_times 13 = .ok (.iload 4, 2) := by decide +kernel
theorem dX2_times_15 : decode cX2_times 15 = .ok (.ishr, 1) := by decide +kernel
theorem dX2_times_16 : decode cX2_times 16 = .ok (.iconst 1, 1) := by decide +kernel
theorem dX2_times_17 : decode cX2_times 17 = .ok (.iand, 1) := by decide +kernel
theorem dX2_times_18 : decode cX2_times 18 = .ok (.iconst 1, 1) := by decide +kernel
theorem dX2_times_19 : decode cX2_times 19 = .ok (.if_icmp .ne 45, 3) := by decide +kernel
theorem dX2_times_22 : decode cX2_times 22 = .ok (.iconst 0, 1) := by decide +kernel
theorem dX2_times_23 : decode cX2_times 23 = .ok (.istore 5, 2) := by decide +kernel
theorem dX2_times_25 : decode cX2_times 25 = .ok (.iload 5, 2) := by decide +kernel
theorem dX2_times_27 : decode cX2_times 27 = .ok (.bipush 16, 2) := by decide +kernel
theorem dX2_times_29 : decode cX2_times 29 = .ok (.if_icmp .ge 35, 3) := by decide +kernel
theorem dX2_times_32 : decode cX2_times 32 = .ok (.iload_n 2, 1) := by decide +kernel
theorem dX2_times_33 : decode cX2_times 33 = .ok (.iload 5, 2) := by decide +kernel
theorem dX2_times_35 : decode cX2_times 35 = .ok (.ishr, 1) := by decide +kernel
theorem dX2_times_36 : decode cX2_times 36 = .ok (.iconst 1, 1) := by decide +kernel
theorem dX2_times_37 : decode cX2_times 37 = .ok (.iand, 1) := by decide +kernel
theorem dX2_times_38 : decode cX2_times 38 = .ok (.iconst 1, 1) := by decide +kernel
theorem dX2_times_39 : decode cX2_times 39 = .ok (.if_icmp .ne 19, 3) := by decide +kernel
theorem dX2_times_42 : decode cX2_times 42 = .ok (.iload_n 3, 1) := by decide +kernel
theorem dX2_times_43 : decode cX2_times 43 = .ok (.aload_n 0, 1) := by decide +kernel
theorem dX2_times_44 : decode cX2_times 44 = .ok (.getfield 15, 3) := by decide +kernel
theorem dX2_times_47 : decode cX2_times 47 = .ok (.bipush 16, 2) := by decide +kernel
theorem dX2_times_49 : decode cX2_times 49 = .ok (.iload 4, 2) := by decide +kernel
theorem dX2_times_51 : decode cX2_times 51 = .ok (.imul, 1) := by decide +kernel
theorem dX2_times_52 : decode cX2_times 52 = .ok (.iload 5, 2) := by decide +kernel
theorem dX2_times_54 : decode cX2_times 54 = .ok (.iadd, 1) := by decide +kernel
theorem dX2_times_55 : decode cX2_times 55 = .ok (.iaload, 1) := by decide +kernel
theorem dX2_times_56 : decode cX2_times 56 = .ok (.ixor, 1) := by decide +kernel
theorem dX2_times_57 : decode cX2_times 57 = .ok (.istore_n 3, 1) := by decide +kernel
theorem dX2_times_58 : decode cX2_times 58 = .ok (.iinc 5 1, 3) := by decide +kernel
theorem dX2_times_61 : decode cX2_times 61 = .ok (.goto (-36), 3) := by decide +kernel
theorem dX2_times_64 : decode cX2_times 64 = .ok (.iinc 4 1, 3) := by decide +kernel
theorem dX2_times_67 : decode cX2_times 67 = .ok (.goto (-62), 3) := by decide +kernel
theorem dX2_times_70 : decode cX2_times 70 = .ok (.iload_n 3, 1) := by decide +kernel
theorem dX2_times_71 : decode cX2_times 71 = .ok (.ireturn, 1) := by decide +kernel
theorem dX2_square_0 : decode cX2_square 0 = .ok (.iconst 0, 1) := by decide +kernel
theorem dX2_square_1 : decode cX2_square 1 = .ok (.istore_n 2, 1) := by decide +kernel
theorem dX2_square_2 : decode cX2_square 2 = .ok (.iconst 0, 1) := by decide +kernel
theorem dX2_square_3 : decode cX2_square 3 = .ok (.istore_n 3, 1) := by decide +kernel
theorem dX2_square_4 : decode cX2_square 4 = .ok (.iload_n 3, 1) := by decide +kernel
theorem dX2_square_5 : decode cX2_square 5 = .ok (.bipush 16, 2) := by decide +kernel
theorem dX2_square_7 : decode cX2_square 7 = .ok (.if_icmp .ge 32, 3) := by decide +kernel
theorem dX2_square_10 : decode cX2_square 10 = .ok (.iload_n 1, 1) := by decide +kernel
theorem dX2_square_11 : decode cX2_square 11 = .ok (.iload_n 3, 1) := by decide +kernel
theorem dX2_square_12 : decode cX2_square 12 = .ok (.ishr, 1) := by decide +kernel
theorem dX2_square_13 : decode cX2_square 13 = .ok (.iconst 1, 1) := by decide +kernel
theorem dX2_square_14 : decode cX2_square 14 = .ok (.iand, 1) := by decide +kernel
theorem dX2_square_15 : decode cX2_square 15 = .ok (.iconst 1, 1) := by decide +kernel
theorem dX2_square_16 : decode cX2_square 16 = .ok (.if_icmp .ne 17, 3) := by decide +kernel
theorem dX2_square_19 : decode cX2_square 19 = .ok (.iload_n 2, 1) := by decide +kernel
theorem dX2_square_20 : decode cX2_square 20 = .ok (.aload_n 0, 1) := by decide +kernel
theorem dX2_square_21 : decode cX2_square 21 = .ok (.getfield 15, 3) := by decide +kernel
theorem dX2_square_24 : decode cX2_square 24 = .ok (.bipush 16, 2) := by decide +kernel
theorem dX2_square_26 : decode cX2_square 26 = .ok (.iload_n 3, 1) := by decide +kernel
theorem dX2_square_27 : decode cX2_square 27 = .ok (.imul, 1) := by decide +kernel
theorem dX2_square_28 : decode cX2_square 28 = .ok (.iload_n 3, 1) := by decide +kernel
theorem dX2_square_29 : decode cX2_square 29 = .ok (.iadd, 1) := by decide +kernel
theorem dX2_square_30 : decode cX2_square 30 = .ok (.iaload, 1) := by decide +kernel
theorem dX2_square_31 : decode cX2_square 31 = .ok (.ixor, 1) := by decide +kernel
theorem dX2_square_32 : decode cX2_square 32 = .ok (.istore_n 2, 1) := by decide +kernel
theorem dX2_square_33 : decode cX2_square 33 = .ok (.iinc 3 1, 3) := by decide +kernel
theorem dX2_square_36 : decode cX2_square 36 = .ok (.goto (-32), 3) := by decide +kernel
theorem dX2_square_39 : decode cX2_square 39 = .ok (.iload_n 2, 1) := by decide +kernel
theorem dX2_square_40 : decode cX2_square 40 = .ok (.ireturn, 1) := by decide +kernel
set_option maxRecDepth 20000 in
theorem ggX2_raised_X2_times : GoodIn wsX2_raised wsX2_times := goodIn_r _ [5, 6, 11] (by decide +kernel) (by decide +kernel)
set_option maxRecDepth 20000 in
theorem gX2_raised_X2_times : GoodIn wsX2_raised (wsV RX2 31 RX2 yX2_times wsX2_times) := goodIn_app (goodIn_of _ (by decide +kernel)) ggX2_raised_X2_times
set_option maxRecDepth 20000 in
theorem ggX2_raised_X2_square : GoodIn wsX2_raised wsX2_square := goodIn_r _ [10, 6, 11] (by decide +kernel) (by decide +kernel)
set_option maxRecDepth 20000 in
theorem gX2_raised_X2_square : GoodIn wsX2_raised (wsV RX2 35 RX2 yX2_square wsX2_square) := goodIn_app (goodIn_of _ (by decide +kernel)) ggX2_raised_X2_square
theorem dX2_raised_0 : decode cX2_raised 0 = .ok (.iconst 1, 1) := by decide +kernel
theorem dX2_raised_1 : decode cX2_raised 1 = .ok (.istore_n 3, 1) := by decide +kernel
theorem dX2_raised_2 : decode cX2_raised 2 = .ok (.iload_n 1, 1) := by decide +kernel
theorem dX2_raised_3 : decode cX2_raised 3 = .ok (.istore 4, 2) := by decide +kernel
theorem dX2_raised_5 : decode cX2_raised 5 = .ok (.iload_n 2, 1) := by decide +kernel
theorem dX2_raised_6 : decode cX2_raised 6 = .ok (.istore 5, 2) := by decide +kernel
theorem dX2_raised_8 : decode cX2_raised 8 = .ok (.iload 5, 2) := by decide +kernel
theorem dX2_raised_10 : decode cX2_raised 10 = .ok (.ifCond .le 36, 3) := by decide +kernel
theorem dX2_raised_13 : decode cX2_raised 13 = .ok (.iload 5, 2) := by decide +kernel
theorem dX2_raised_15 : decode cX2_raised 15 = .ok (.iconst 2, 1) := by decide +kernel
theorem dX2_raised_16 : decode cX2_raised 16 = .ok (.irem, 1) := by decide +kernel
theorem dX2_raised_17 : decode cX2_raised 17 = .ok (.iconst 1, 1) := by decide +kernel
theorem dX2_raised_18 : decode cX2_raised 18 = .ok (.if_icmp .ne 11, 3) := by decide +kernel
theorem dX2_raised_21 : decode cX2_raised 21 = .ok (.aload_n 0, 1) := by decide +kernel
theorem dX2_raised_22 : decode cX2_raised 22 = .ok (.iload_n 3, 1) := by decide +kernel
theorem dX2_raised_23 : decode cX2_raised 23 = .ok (.iload 4, 2) := by decide +kernel
theorem dX2_raised_25 : decode cX2_raised 25 = .ok (.invokevirtual 31, 3) := by decide +kernel
theorem dX2_raised_28 : decode cX2_raised 28 = .ok (.istore_n 3, 1) := by decide +kernel
theorem dX2_raised_29 : decode cX2_raised 29 = .ok (.aload_n 0, 1) := by decide +kernel
theorem dX2_raised_30 : decode cX2_raised 30 = .ok (.iload 4, 2) := by decide +kernel
theorem dX2_raised_32 : decode cX2_raised 32 = .ok (.invokevirtual 35, 3) := by decide +kernel
theorem dX2_raised_35 : decode cX2_raised 35 = .ok (.istore 4, 2) := by decide +kernel
theorem dX2_raised_37 : decode cX2_raised 37 = .ok (.iload 5, 2) := by decide +kernel
theorem dX2_raised_39 : decode cX2_raised 39 = .ok (.iconst 2, 1) := by decide +kernel
theorem dX2_raised_40 : decode cX2_raised 40 = .ok (.idiv, 1) := by decide +kernel
theorem dX2_raised_41 : decode cX2_raised 41 = .ok (.istore 5, 2) := by decide +kernel
theorem dX2_raised_43 : decode cX2_raised 43 = .ok (.goto (-35), 3) := by decide +kernel
theorem dX2_raised_46 : decode cX2_raised 46 = .ok (.iload_n 3, 1) := by decide +kernel
theorem dX2_raised_47 : decode cX2_raised 47 = .ok (.ireturn, 1) := by decide +kernel
set_option maxRecDepth 20000 in
theorem ggX2_dividedBy_X2_square : GoodIn wsX2_dividedBy wsX2_square := goodIn_r _ [5, 6, 11] (by decide +kernel) (by decide +kernel)
set_option maxRecDepth 20000 in
theorem gX2_dividedBy_X2_square : GoodIn wsX2_dividedBy (wsV RX2 35 RX2 yX2_square wsX2_square) := goodIn_app (goodIn_of _ (by decide +kernel)) ggX2_dividedBy_X2_square
set_option maxRecDepth 20000 in
theorem ggX2_dividedBy_X2_times : GoodIn wsX2_dividedBy wsX2_times := goodIn_r _ [10, 6, 11] (by decide +kernel) (by decide +kernel)
set_option maxRecDepth 20000 in
theorem gX2_dividedBy_X2_times : GoodIn wsX2_dividedBy (wsV RX2 31 RX2 yX2_times wsX2_times) := goodIn_app (goodIn_of _ (by decide +kernel)) ggX2_dividedBy_X2_times
theorem dX2_dividedBy_0 : decode cX2_dividedBy 0 = .ok (.iload_n 2, 1) := by decide +kernel
theorem dX2_dividedBy_1 : decode cX2_dividedBy 1 = .ok (.ifCond .ne 5, 3) := by decide +kernel
theorem dX2_dividedBy_4 : decode cX2_dividedBy 4 = .ok (.iconst (-1), 1) := by decide +kernel
theorem dX2_dividedBy_5 : decode cX2_dividedBy 5 = .ok (.ireturn, 1) := by decide +kernel
theorem dX2_dividedBy_6 : decode cX2_dividedBy 6 = .ok (.iload_n 1, 1) := by decide +kernel
theorem dX2_dividedBy_7 : decode cX2_dividedBy 7 = .ok (.istore_n 3, 1) := by decide +kernel
theorem dX2_dividedBy_8 : decode cX2_dividedBy 8 = .ok (.iload_n 2, 1) := by decide +kernel
theorem dX2_dividedBy_9 : decode cX2_dividedBy 9 = .ok (.istore 4, 2) := by decide +kernel
theorem dX2_dividedBy_11 : decode cX2_dividedBy 11 = .ok (.iconst 1, 1) := by decide +kernel
theorem dX2_dividedBy_12 : decode cX2_dividedBy 12 = .ok (.istore 5, 2) := by decide +kernel
theorem dX2_dividedBy_14 : decode cX2_dividedBy 14 = .ok (.iload 5, 2) := by decide +kernel
theorem dX2_dividedBy_16 : decode cX2_dividedBy 16 = .ok (.bipush 16, 2) := by decide +kernel
theorem dX2_dividedBy_18 : decode cX2_dividedBy 18 = .ok (.if_icmp .ge 25, 3) := by decide +kernel
theorem dX2_dividedBy_21 : decode cX2_dividedBy 21 = .ok (.aload_n 0, 1) := by decide +kernel
theorem dX2_dividedBy_22 : decode cX2_dividedBy 22 = .ok (.iload 4, 2) := by decide +kernel
theorem dX2_dividedBy_24 : decode cX2_dividedBy 24 = .ok (.invokevirtual 35, 3) := by decide +kernel
theorem dX2_dividedBy_27 : decode cX2_dividedBy 27 = .ok (.istore 4, 2) := by decide +kernel
theorem dX2_dividedBy_29 : decode cX2_dividedBy 29 = .ok (.aload_n 0, 1) := by decide +kernel
theorem dX2_dividedBy_30 : decode cX2_dividedBy 30 = .ok (.iload_n 3, 1) := by decide +kernel
theorem dX2_dividedBy_31 : decode cX2_dividedBy 31 = .ok (.iload 4, 2) := by decide +kernel
theorem dX2_dividedBy_33 : decode cX2_dividedBy 33 = .ok (.invokevirtual 31, 3) := by decide +kernel
theorem dX2_dividedBy_36 : decode cX2_dividedBy 36 = .ok (.istore_n 3, 1) := by decide +kernel
theorem dX2_dividedBy_37 : decode cX2_dividedBy 37 = .ok (.iinc 5 1, 3) := by decide +kernel
theorem dX2_dividedBy_40 : decode cX2_dividedBy 40 = .ok (.goto (-26), 3) := by decide +kernel
theorem dX2_dividedBy_43 : decode cX2_dividedBy 43 = .ok (.iload_n 3, 1) := by decide +kernel
theorem dX2_dividedBy_44 : decode cX2_dividedBy 44 = .ok (.ireturn, 1) := by decide +kernel
set_option maxRecDepth 20000 in
theorem ggX2_root_X2_square : GoodIn wsX2_root wsX2_square := goodIn_r _ [5, 6, 7] (by decide +kernel) (by decide +kernel)
set_option maxRecDepth 20000 in
theorem gX2_root_X2_square : GoodIn wsX2_root (wsV RX2 35 RX2 yX2_square wsX2_square) := goodIn_app (goodIn_of _ (by decide +kernel)) ggX2_root_X2_square
theorem dX2_root_0 : decode cX2_root 0 = .ok (.iload_n 1, 1) := by decide +kernel
theorem dX2_root_1 : decode cX2_root 1 = .ok (.istore_n 2, 1) := by decide +kernel
theorem dX2_root_2 : decode cX2_root 2 = .ok (.iconst 1, 1) := by decide +kernel
theorem dX2_root_3 : decode cX2_root 3 = .ok (.istore_n 3, 1) := by decide +kernel
theorem dX2_root_4 : decode cX2_root 4 = .ok (.iload_n 3, 1) := by decide +kernel
theorem dX2_root_5 : decode cX2_root 5 = .ok (.bipush 16, 2) := by decide +kernel
theorem dX2_root_7 : decode cX2_root 7 = .ok (.if_icmp .ge 15, 3) := by decide +kernel
theorem dX2_root_10 : decode cX2_root 10 = .ok (.aload_n 0, 1) := by decide +kernel
theorem dX2_root_11 : decode cX2_root 11 = .ok (.iload_n 2, 1) := by decide +kernel
theorem dX2_root_12 : decode cX2_root 12 = .ok (.invokevirtual 35, 3) := by decide +kernel
theorem dX2_root_15 : decode cX2_root 15 = .ok (.istore_n 2, 1) := by decide +kernel
theorem dX2_root_16 : decode cX2_root 16 = .ok (.iinc 3 1, 3) := by decide +kernel
theorem dX2_root_19 : decode cX2_root 19 = .ok (.goto (-15), 3) := by decide +kernel
theorem dX2_root_22 : decode cX2_root 22 = .ok (.iload_n 2, 1) := by decide +kernel
theorem dX2_root_23 : decode cX2_root 23 = .ok (.ireturn, 1) := by decide +kernel
set_option maxRecDepth 20000 in
theorem ggX2_orderByQuotients_X2_raised : GoodIn wsX2_orderByQuotients wsX2_raised := goodIn_r _ [7, 8, 9, 10, 6, 11, 12, 13, 14, 15, 16, 17] (by decide +kernel) (by decide +kernel)
set_option maxRecDepth 20000 in
theorem gX2_orderByQuotients_X2_raised : GoodIn wsX2_orderByQuotients (wsV RX2 43 RX2 yX2_raised wsX2_raised) := goodIn_app (goodIn_of _ (by decide +kernel)) ggX2_orderByQuotients_X2_raised
theorem dX2_orderByQuotients_0 : decode cX2_orderByQuotients 0 = .ok (.iload_n 1, 1) := by decide +kernel
theorem dX2_orderByQuotients_1 : decode cX2_orderByQuotients 1 = .ok (.ifCond .ne 5, 3) := by decide +kernel
theorem dX2_orderByQuotients_4 : decode cX2_orderByQuotients 4 = .ok (.iconst (-1), 1) := by decide +kernel
theorem dX2_orderByQuotients_5 : decode cX2_orderByQuotients 5 = .ok (.ireturn, 1) := by decide +kernel
theorem dX2_orderByQuotients_6 : decode cX2_orderByQuotients 6 = .ok (.ldc 39, 2) := by decide +kernel
theorem dX2_orderByQuotients_8 : decode cX2_orderByQuotients 8 = .ok (.istore_n 2, 1) := by decide +kernel
theorem dX2_orderByQuotients_9 : decode cX2_orderByQuotients 9 = .ok (.getstatic 40, 3) := by decide +kernel
theorem dX2_orderByQuotients_12 : decode cX2_orderByQuotients 12 = .ok (.astore_n 3, 1) := by decide +kernel
theorem dX2_orderByQuotients_13 : decode cX2_orderByQuotients 13 = .ok (.aload_n 3, 1) := by decide +kernel
theorem dX2_orderByQuotients_14 : decode cX2_orderByQuotients 14 = .ok (.arraylength, 1) := by decide +kernel
theorem dX2_orderByQuotients_15 : decode cX2_orderByQuotients 15 = .ok (.istore 4, 2) := by decide +kernel
theorem dX2_orderByQuotients_17 : decode cX2_orderByQuotients 17 = .ok (.iconst 0, 1) := by decide +kernel
theorem dX2_orderByQuotients_18 : decode cX2_orderByQuotients 18 = .ok (.istore 5, 2) := by decide +kernel
theorem dX2_orderByQuotients_20 : decode cX2_orderByQuotients 20 = .ok (.iload 5, 2) := by decide +kernel
theorem dX2_orderByQuotients_22 : decode cX2_orderByQuotients 22 = .ok (.iload 4, 2) := by decide +kernel
theorem dX2_orderByQuotients_24 : decode cX2_orderByQuotients 24 = .ok (.if_icmp .ge 38, 3) := by decide +kernel
theorem dX2_orderByQuotients_27 : decode cX2_orderByQuotients 27 = .ok (.aload_n 3, 1) := by decide +kernel
theorem dX2_orderByQuotients_28 : decode cX2_orderByQuotients 28 = .ok (.iload 5, 2) := by decide +kernel
theorem dX2_orderByQuotients_30 : decode cX2_orderByQuotients 30 = .ok (.iaload, 1) := by decide +kernel
theorem dX2_orderByQuotients_31 : decode cX2_orderByQuotients 31 = .ok (.istore 6, 2) := by decide +kernel
theorem dX2_orderByQuotients_33 : decode cX2_orderByQuotients 33 = .ok (.iload 6, 2) := by decide +kernel
theorem dX2_orderByQuotients_35 : decode cX2_orderByQuotients 35 = .ok (.ifCond .le 21, 3) := by decide +kernel
theorem dX2_orderByQuotients_38 : decode cX2_orderByQuotients 38 = .ok (.aload_n 0, 1) := by decide +kernel
theorem dX2_orderByQuotients_39 : decode cX2_orderByQuotients 39 = .ok (.iload_n 1, 1) := by decide +kernel
theorem dX2_orderByQuotients_40 : decode cX2_orderByQuotients 40 = .ok (.iload_n 2, 1) := by decide +kernel
theorem dX2_orderByQuotients_41 : decode cX2_orderByQuotients 41 = .ok (.iload 6, 2) := by decide +kernel
theorem dX2_orderByQuotients_43 : decode cX2_orderByQuotients 43 = .ok (.idiv, 1) := by decide +kernel
theorem dX2_orderByQuotients_44 : decode cX2_orderByQuotients 44 = .ok (.invokevirtual 43, 3) := by decide +kernel
theorem dX2_orderByQuotients_47 : decode cX2_orderByQuotients 47 = .ok (.iconst 1, 1) := by decide +kernel
theorem dX2_orderByQuotients_48 : decode cX2_orderByQuotients 48 = .ok (.if_icmp .ne 8, 3) := by decide +kernel
theorem dX2_orderByQuotients_51 : decode cX2_orderByQuotients 51 = .ok (.iload_n 2, 1) := by decide +kernel
theorem dX2_orderByQuotients_52 : decode cX2_orderByQuotients 52 = .ok (.iload 6, 2) := by decide +kernel
theorem dX2_orderByQuotients_54 : decode cX2_orderByQuotients 54 = .ok (.idiv, 1) := by decide +kernel
theorem dX2_orderByQuotients_55 : decode cX2_orderByQuotients 55 = .ok (.istore_n 2, 1) := by decide +kernel
theorem dX2_orderByQuotients_56 : decode cX2_orderByQuotients 56 = .ok (.iinc 5 1, 3) := by decide +kernel
theorem dX2_orderByQuotients_59 : decode cX2_orderByQuotients 59 = .ok (.goto (-39), 3) := by decide +kernel
theorem dX2_orderByQuotients_62 : decode cX2_orderByQuotients 62 = .ok (.iload_n 2, 1) := by decide +kernel
theorem dX2_orderByQuotients_63 : decode cX2_orderByQuotients 63 = .ok (.ireturn, 1) := by decide +kernel
set_option maxRecDepth 20000 in
theorem ggX2_trace_X2_square : GoodIn wsX2_trace wsX2_square := goodIn_r _ [5, 6, 7] (by decide +kernel) (by decide +kernel)
set_option maxRecDepth 20000 in
theorem gX2_trace_X2_square : GoodIn wsX2_trace (wsV RX2 35 RX2 yX2_square wsX2_square) := goodIn_app (goodIn_of _ (by decide +kernel)) ggX2_trace_X2_square
theorem dX2_trace_0 : decode cX2_trace 0 = .ok (.iconst 0, 1) := by decide +kernel
theorem dX2_trace_1 : decode cX2_trace 1 = .ok (.istore_n 2, 1) := by decide +kernel
theorem dX2_trace_2 : decode cX2_trace 2 = .ok (.iload_n 1, 1) := by decide +kernel
theorem dX2_trace_3 : decode cX2_trace 3 = .ok (.istore_n 3, 1) := by decide +kernel
theorem dX2_trace_4 : decode cX2_trace 4 = .ok (.iconst 0, 1) := by decide +kernel
theorem dX2_trace_5 : decode cX2_trace 5 = .ok (.istore 4, 2) := by decide +kernel
theorem dX2_trace_7 : decode cX2_trace 7 = .ok (.iload 4, 2) := by decide +kernel
theorem dX2_trace_9 : decode cX2_trace 9 = .ok (.bipush 16, 2) := by decide +kernel
theorem dX2_trace_11 : decode cX2_trace 11 = .ok (.if_icmp .ge 19, 3) := by decide +kernel
theorem dX2_trace_14 : decode cX2_trace 14 = .ok (.iload_n 2, 1) := by decide +kernel
theorem dX2_trace_15 : decode cX2_trace 15 = .ok (.iload_n 3, 1) := by decide +kernel
theorem dX2_trace_16 : decode cX2_trace 16 = .ok (.ixor, 1) := by decide +kernel
theorem dX2_trace_17 : decode cX2_trace 17 = .ok (.istore_n 2, 1) := by decide +kernel
theorem dX2_trace_18 : decode cX2_trace 18 = .ok (.aload_n 0, 1) := by decide +kernel
theorem dX2_trace_19 : decode cX2_trace 19 = .ok (.iload_n 3, 1) := by decide +kernel
theorem dX2_trace_20 : decode cX2_trace 20 = .ok (.invokevirtual 35, 3) := by decide +kernel
theorem dX2_trace_23 : decode cX2_trace 23 = .ok (.istore_n 3, 1) := by decide +kernel
theorem dX2_trace_24 : decode cX2_trace 24 = .ok (.iinc 4 1, 3) := by decide +kernel
theorem dX2_trace_27 : decode cX2_trace 27 = .ok (.goto (-20), 3) := by decide +kernel
theorem dX2_trace_30 : decode cX2_trace 30 = .ok (.iload_n 2, 1) := by decide +kernel
theorem dX2_trace_31 : decode cX2_trace 31 = .ok (.ireturn, 1) := by decide +kernel
set_option maxRecDepth 20000 in
theorem ggX2_leastSolution_X2_square : GoodIn wsX2_leastSolution wsX2_square := goodIn_r _ [5, 6, 7] (by decide +kernel) (by decide +kernel)
set_option maxRecDepth 20000 in
theorem gX2_leastSolution_X2_square : GoodIn wsX2_leastSolution (wsV RX2 35 RX2 yX2_square wsX2_square) := goodIn_app (goodIn_of _ (by decide +kernel)) ggX2_leastSolution_X2_square
theorem dX2_leastSolution_0 : decode cX2_leastSolution 0 = .ok (.iconst 0, 1) := by decide +kernel
theorem dX2_leastSolution_1 : decode cX2_leastSolution 1 = .ok (.istore_n 2, 1) := by decide +kernel
theorem dX2_leastSolution_2 : decode cX2_leastSolution 2 = .ok (.iload_n 1, 1) := by decide +kernel
theorem dX2_leastSolution_3 : decode cX2_leastSolution 3 = .ok (.istore_n 3, 1) := by decide +kernel
theorem dX2_leastSolution_4 : decode cX2_leastSolution 4 = .ok (.bipush 15, 2) := by decide +kernel
theorem dX2_leastSolution_6 : decode cX2_leastSolution 6 = .ok (.istore 4, 2) := by decide +kernel
theorem dX2_leastSolution_8 : decode cX2_leastSolution 8 = .ok (.iload 4, 2) := by decide +kernel
theorem dX2_leastSolution_10 : decode cX2_leastSolution 10 = .ok (.ifCond .le 44, 3) := by decide +kernel
theorem dX2_leastSolution_13 : decode cX2_leastSolution 13 = .ok (.iload_n 3, 1) := by decide +kernel
theorem dX2_leastSolution_14 : decode cX2_leastSolution 14 = .ok (.iload 4, 2) := by decide +kernel
theorem dX2_leastSolution_16 : decode cX2_leastSolution 16 = .ok (.iconst 1, 1) := by decide +kernel
theorem dX2_leastSolution_17 : decode cX2_leastSolution 17 = .ok (.isub, 1) := by decide +kernel
theorem dX2_leastSolution_18 : decode cX2_leastSolution 18 = .ok (.ishr, 1) := by decide +kernel
theorem dX2_leastSolution_19 : decode cX2_leastSolution 19 = .ok (.iconst 1, 1) := by decide +kernel
theorem dX2_leastSolution_20 : decode cX2_leastSolution 20 = .ok (.iand, 1) := by decide +kernel
theorem dX2_leastSolution_21 : decode cX2_leastSolution 21 = .ok (.iconst 1, 1) := by decide +kernel
theorem dX2_leastSolution_22 : decode cX2_leastSolution 22 = .ok (.if_icmp .ne 26, 3) := by decide +kernel
theorem dX2_leastSolution_25 : decode cX2_leastSolution 25 = .ok (.iload_n 2, 1) := by decide +kernel
theorem dX2_leastSolution_26 : decode cX2_leastSolution 26 = .ok (.iconst 1, 1) := by decide +kernel
theorem dX2_leastSolution_27 : decode cX2_leastSolution 27 = .ok (.iload 4, 2) := by decide +kernel
theorem dX2_leastSolution_29 : decode cX2_leastSolution 29 = .ok (.ishl, 1) := by decide +kernel
theorem dX2_leastSolution_30 : decode cX2_leastSolution 30 = .ok (.ixor, 1) := by decide +kernel
theorem dX2_leastSolution_31 : decode cX2_leastSolution 31 = .ok (.istore_n 2, 1) := by decide +kernel
theorem dX2_leastSolution_32 : decode cX2_leastSolution 32 = .ok (.iload_n 3, 1) := by decide +kernel
theorem dX2_leastSolution_33 : decode cX2_leastSolution 33 = .ok (.aload_n 0, 1) := by decide +kernel
theorem dX2_leastSolution_34 : decode cX2_leastSolution 34 = .ok (.iconst 1, 1) := by decide +kernel
theorem dX2_leastSolution_35 : decode cX2_leastSolution 35 = .ok (.iload 4, 2) := by decide +kernel
theorem dX2_leastSolution_37 : decode cX2_leastSolution 37 = .ok (.ishl, 1) := by decide +kernel
theorem dX2_leastSolution_38 : decode cX2_leastSolution 38 = .ok (.invokevirtual 35, 3) := by decide +kernel
theorem dX2_leastSolution_41 : decode cX2_leastSolution 41 = .ok (.iconst 1, 1) := by decide +kernel
theorem dX2_leastSolution_42 : decode cX2_leastSolution 42 = .ok (.iload 4, 2) := by decide +kernel
theorem dX2_leastSolution_44 : decode cX2_leastSolution 44 = .ok (.ishl, 1) := by decide +kernel
theorem dX2_leastSolution_45 : decode cX2_leastSolution 45 = .ok (.ixor, 1) := by decide +kernel
theorem dX2_leastSolution_46 : decode cX2_leastSolution 46 = .ok (.ixor, 1) := by decide +kernel
theorem dX2_leastSolution_47 : decode cX2_leastSolution 47 = .ok (.istore_n 3, 1) := by decide +kernel
theorem dX2_leastSolution_48 : decode cX2_leastSolution 48 = .ok (.iinc 4 (-1), 3) := by decide +kernel
theorem dX2_leastSolution_51 : decode cX2_leastSolution 51 = .ok (.goto (-43), 3) := by decide +kernel
theorem dX2_leastSolution_54 : decode cX2_leastSolution 54 = .ok (.iload_n 3, 1) := by decide +kernel
theorem dX2_leastSolution_55 : decode cX2_leastSolution 55 = .ok (.ifCond .ne 7, 3) := by decide +kernel
theorem dX2_leastSolution_58 : decode cX2_leastSolution 58 = .ok (.iload_n 2, 1) := by decide +kernel
theorem dX2_leastSolution_59 : decode cX2_leastSolution 59 = .ok (.goto 4, 3) := by decide +kernel
theorem dX2_leastSolution_62 : decode cX2_leastSolution 62 = .ok (.iconst (-1), 1) := by decide +kernel
theorem dX2_leastSolution_63 : decode cX2_leastSolution 63 = .ok (.ireturn, 1) := by decide +kernel
