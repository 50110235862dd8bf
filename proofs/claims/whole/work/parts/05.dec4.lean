theorem dX7_init_0 : decode cX7_init 0 = .ok (.aload_n 0, 1) := by decide +kernel
theorem dX7_init_1 : decode cX7_init 1 = .ok (.invokespecial 1, 3) := by decide +kernel
theorem dX7_init_4 : decode cX7_init 4 = .ok (.aload_n 0, 1) := by decide +kernel
theorem dX7_init_5 : decode cX7_init 5 = .ok (.bipush 9, 2) := by decide +kernel
theorem dX7_init_7 : decode cX7_init 7 = .ok (.newarray .int, 2) := by decide +kernel
theorem dX7_init_9 : decode cX7_init 9 = .ok (.putfield 7, 3) := by decide +kernel
theorem dX7_init_12 : decode cX7_init 12 = .ok (.aload_n 0, 1) := by decide +kernel
theorem dX7_init_13 : decode cX7_init 13 = .ok (.bipush 9, 2) := by decide +kernel
theorem dX7_init_15 : decode cX7_init 15 = .ok (.newarray .int, 2) := by decide +kernel
theorem dX7_init_17 : decode cX7_init 17 = .ok (.putfield 13, 3) := by decide +kernel
theorem dX7_init_20 : decode cX7_init 20 = .ok (.aload_n 0, 1) := by decide +kernel
theorem dX7_init_21 : decode cX7_init 21 = .ok (.bipush 36, 2) := by decide +kernel
theorem dX7_init_23 : decode cX7_init 23 = .ok (.newarray .int, 2) := by decide +kernel
theorem dX7_init_25 : decode cX7_init 25 = .ok (.putfield 16, 3) := by decide +kernel
theorem dX7_init_28 : decode cX7_init 28 = .ok (.aload_n 0, 1) := by decide +kernel
theorem dX7_init_29 : decode cX7_init 29 = .ok (.bipush 9, 2) := by decide +kernel
theorem dX7_init_31 : decode cX7_init 31 = .ok (.newarray .int, 2) := by decide +kernel
theorem dX7_init_33 : decode cX7_init 33 = .ok (.putfield 19, 3) := by decide +kernel
theorem dX7_init_36 : decode cX7_init 36 = .ok (.aload_n 0, 1) := by decide +kernel
theorem dX7_init_37 : decode cX7_init 37 = .ok (.bipush 60, 2) := by decide +kernel
theorem dX7_init_39 : decode cX7_init 39 = .ok (.newarray .int, 2) := by decide +kernel
theorem dX7_init_41 : decode cX7_init 41 = .ok (.putfield 22, 3) := by decide +kernel
theorem dX7_init_44 : decode cX7_init 44 = .ok (.aload_n 0, 1) := by decide +kernel
theorem dX7_init_45 : decode cX7_init 45 = .ok (.bipush 16, 2) := by decide +kernel
theorem dX7_init_47 : decode cX7_init 47 = .ok (.newarray .int, 2) := by decide +kernel
theorem dX7_init_49 : decode cX7_init 49 = .ok (.putfield 25, 3) := by decide +kernel
theorem dX7_init_52 : decode cX7_init 52 = .ok (.aload_n 0, 1) := by decide +kernel
theorem dX7_init_53 : decode cX7_init 53 = .ok (.bipush 16, 2) := by decide +kernel
theorem dX7_init_55 : decode cX7_init 55 = .ok (.newarray .int, 2) := by decide +kernel
theorem dX7_init_57 : decode cX7_init 57 = .ok (.putfield 28, 3) := by decide +kernel
theorem dX7_init_60 : decode cX7_init 60 = .ok (.return_, 1) := by decide +kernel
theorem dX7_thrown_0 : decode cX7_thrown 0 = .ok (.aload_n 0, 1) := by decide +kernel
theorem dX7_thrown_1 : decode cX7_thrown 1 = .ok (.getfield 31, 3) := by decide +kernel
theorem dX7_thrown_4 : decode cX7_thrown 4 = .ok (.ireturn, 1) := by decide +kernel
theorem dX7_fails_0 : decode cX7_fails 0 = .ok (.aload_n 0, 1) := by decide +kernel
theorem dX7_fails_1 : decode cX7_fails 1 = .ok (.iload_n 1, 1) := by decide +kernel
theorem dX7_fails_2 : decode cX7_fails 2 = .ok (.putfield 31, 3) := by decide +kernel
theorem dX7_fails_5 : decode cX7_fails 5 = .ok (.iconst 0, 1) := by decide +kernel
theorem dX7_fails_6 : decode cX7_fails 6 = .ok (.ireturn, 1) := by decide +kernel
theorem dX7_in_0 : decode cX7_in 0 = .ok (.lload_n 0, 1) := by decide +kernel
theorem dX7_in_1 : decode cX7_in 1 = .ok (.lload_n 2, 1) := by decide +kernel
theorem dX7_in_2 : decode cX7_in 2 = .ok (.lcmp, 1) := by decide +kernel
theorem dX7_in_3 : decode cX7_in 3 = .ok (.ifCond .lt 14, 3) := by decide +kernel
theorem dX7_in_6 : decode cX7_in 6 = .ok (.lload_n 0, 1) := by decide +kernel
theorem dX7_in_7 : decode cX7_in 7 = .ok (.lload 4, 2) := by decide +kernel
theorem dX7_in_9 : decode cX7_in 9 = .ok (.lcmp, 1) := by decide +kernel
theorem dX7_in_10 : decode cX7_in 10 = .ok (.ifCond .gt 7, 3) := by decide +kernel
theorem dX7_in_13 : decode cX7_in 13 = .ok (.iconst 1, 1) := by decide +kernel
theorem dX7_in_14 : decode cX7_in 14 = .ok (.goto 4, 3) := by decide +kernel
theorem dX7_in_17 : decode cX7_in 17 = .ok (.iconst 0, 1) := by decide +kernel
theorem dX7_in_18 : decode cX7_in 18 = .ok (.ireturn, 1) := by decide +kernel
theorem dX7_records_0 : decode cX7_records 0 = .ok (.aload_n 0, 1) := by decide +kernel
theorem dX7_records_1 : decode cX7_records 1 = .ok (.iconst 0, 1) := by decide +kernel
theorem dX7_records_2 : decode cX7_records 2 = .ok (.putfield 31, 3) := by decide +kernel
theorem dX7_records_5 : decode cX7_records 5 = .ok (.aload_n 0, 1) := by decide +kernel
theorem dX7_records_6 : decode cX7_records 6 = .ok (.getfield 35, 3) := by decide +kernel
theorem dX7_records_9 : decode cX7_records 9 = .ok (.iconst 4, 1) := by decide +kernel
theorem dX7_records_10 : decode cX7_records 10 = .ok (.if_icmp .ne 42, 3) := by decide +kernel
theorem dX7_records_13 : decode cX7_records 13 = .ok (.iconst 0, 1) := by decide +kernel
theorem dX7_records_14 : decode cX7_records 14 = .ok (.istore_n 1, 1) := by decide +kernel
theorem dX7_records_15 : decode cX7_records 15 = .ok (.iload_n 1, 1) := by decide +kernel
theorem dX7_records_16 : decode cX7_records 16 = .ok (.bipush 27, 2) := by decide +kernel
theorem dX7_records_18 : decode cX7_records 18 = .ok (.if_icmp .ge 24, 3) := by decide +kernel
theorem dX7_records_21 : decode cX7_records 21 = .ok (.aload_n 0, 1) := by decide +kernel
theorem dX7_records_22 : decode cX7_records 22 = .ok (.getfield 16, 3) := by decide +kernel
theorem dX7_records_25 : decode cX7_records 25 = .ok (.iload_n 1, 1) := by decide +kernel
theorem dX7_records_26 : decode cX7_records 26 = .ok (.aload_n 0, 1) := by decide +kernel
theorem dX7_records_27 : decode cX7_records 27 = .ok (.getfield 16, 3) := by decide +kernel
theorem dX7_records_30 : decode cX7_records 30 = .ok (.iload_n 1, 1) := by decide +kernel
theorem dX7_records_31 : decode cX7_records 31 = .ok (.bipush 9, 2) := by decide +kernel
theorem dX7_records_33 : decode cX7_records 33 = .ok (.iadd, 1) := by decide +kernel
theorem dX7_records_34 : decode cX7_records 34 = .ok (.iaload, 1) := by decide +kernel
theorem dX7_records_35 : decode cX7_records 35 = .ok (.iastore, 1) := by decide +kernel
theorem dX7_records_36 : decode cX7_records 36 = .ok (.iinc 1 1, 3) := by decide +kernel
theorem dX7_records_39 : decode cX7_records 39 = .ok (.goto (-24), 3) := by decide +kernel
theorem dX7_records_42 : decode cX7_records 42 = .ok (.aload_n 0, 1) := by decide +kernel
theorem dX7_records_43 : decode cX7_records 43 = .ok (.dup, 1) := by decide +kernel
theorem dX7_records_44 : decode cX7_records 44 = .ok (.getfield 35, 3) := by decide +kernel
theorem dX7_records_47 : decode cX7_records 47 = .ok (.iconst 1, 1) := by decide +kernel
theorem dX7_records_48 : decode cX7_records 48 = .ok (.isub, 1) := by decide +kernel
theorem dX7_records_49 : decode cX7_records 49 = .ok (.putfield 35, 3) := by decide +kernel
theorem dX7_records_52 : decode cX7_records 52 = .ok (.iconst 0, 1) := by decide +kernel
theorem dX7_records_53 : decode cX7_records 53 = .ok (.istore_n 1, 1) := by decide +kernel
theorem dX7_records_54 : decode cX7_records 54 = .ok (.iload_n 1, 1) := by decide +kernel
theorem dX7_records_55 : decode cX7_records 55 = .ok (.bipush 9, 2) := by decide +kernel
theorem dX7_records_57 : decode cX7_records 57 = .ok (.if_icmp .ge 29, 3) := by decide +kernel
theorem dX7_records_60 : decode cX7_records 60 = .ok (.aload_n 0, 1) := by decide +kernel
theorem dX7_records_61 : decode cX7_records 61 = .ok (.getfield 16, 3) := by decide +kernel
theorem dX7_records_64 : decode cX7_records 64 = .ok (.bipush 9, 2) := by decide +kernel
theorem dX7_records_66 : decode cX7_records 66 = .ok (.aload_n 0, 1) := by decide +kernel
theorem dX7_records_67 : decode cX7_records 67 = .ok (.getfield 35, 3) := by decide +kernel
theorem dX7_records_70 : decode cX7_records 70 = .ok (.imul, 1) := by decide +kernel
theorem dX7_records_71 : decode cX7_records 71 = .ok (.iload_n 1, 1) := by decide +kernel
theorem dX7_records_72 : decode cX7_records 72 = .ok (.iadd, 1) := by decide +kernel
theorem dX7_records_73 : decode cX7_records 73 = .ok (.aload_n 0, 1) := by decide +kernel
theorem dX7_records_74 : decode cX7_records 74 = .ok (.getfield 7, 3) := by decide +kernel
theorem dX7_records_77 : decode cX7_records 77 = .ok (.iload_n 1, 1) := by decide +kernel
theorem dX7_records_78 : decode cX7_records 78 = .ok (.iaload, 1) := by decide +kernel
theorem dX7_records_79 : decode cX7_records 79 = .ok (.iastore, 1) := by decide +kernel
theorem dX7_records_80 : decode cX7_records 80 = .ok (.iinc 1 1, 3) := by decide +kernel
theorem dX7_records_83 : decode cX7_records 83 = .ok (.goto (-29), 3) := by decide +kernel
theorem dX7_records_86 : decode cX7_records 86 = .ok (.aload_n 0, 1) := by decide +kernel
theorem dX7_records_87 : decode cX7_records 87 = .ok (.dup, 1) := by decide +kernel
theorem dX7_records_88 : decode cX7_records 88 = .ok (.getfield 35, 3) := by decide +kernel
theorem dX7_records_91 : decode cX7_records 91 = .ok (.iconst 1, 1) := by decide +kernel
theorem dX7_records_92 : decode cX7_records 92 = .ok (.iadd, 1) := by decide +kernel
theorem dX7_records_93 : decode cX7_records 93 = .ok (.putfield 35, 3) := by decide +kernel
theorem dX7_records_96 : decode cX7_records 96 = .ok (.return_, 1) := by decide +kernel
theorem dX7_told_0 : decode cX7_told 0 = .ok (.aload_n 0, 1) := by decide +kernel
theorem dX7_told_1 : decode cX7_told 1 = .ok (.iconst 0, 1) := by decide +kernel
theorem dX7_told_2 : decode cX7_told 2 = .ok (.putfield 31, 3) := by decide +kernel
theorem dX7_told_5 : decode cX7_told 5 = .ok (.iload_n 1, 1) := by decide +kernel
theorem dX7_told_6 : decode cX7_told 6 = .ok (.ireturn, 1) := by decide +kernel
set_option maxRecDepth 20000 in
theorem ggX7_isRegister_X7_in : GoodIn wsX7_isRegister wsX7_in := goodIn_r _ [5] (by decide +kernel) (by decide +kernel)
set_option maxRecDepth 20000 in
theorem gX7_isRegister_X7_in : GoodIn wsX7_isRegister (va_wsS RX7 40 yX7_in wsX7_in) := goodIn_app (goodIn_of _ (by decide +kernel)) ggX7_isRegister_X7_in
theorem dX7_isRegister_0 : decode cX7_isRegister 0 = .ok (.iload_n 0, 1) := by decide +kernel
theorem dX7_isRegister_1 : decode cX7_isRegister 1 = .ok (.i2l, 1) := by decide +kernel
theorem dX7_isRegister_2 : decode cX7_isRegister 2 = .ok (.lconst 0, 1) := by decide +kernel
theorem dX7_isRegister_3 : decode cX7_isRegister 3 = .ok (.ldc2_w 38, 3) := by decide +kernel
theorem dX7_isRegister_6 : decode cX7_isRegister 6 = .ok (.invokestatic 40, 3) := by decide +kernel
theorem dX7_isRegister_9 : decode cX7_isRegister 9 = .ok (.ireturn, 1) := by decide +kernel
set_option maxRecDepth 20000 in
theorem ggX7_isNimber_X7_in : GoodIn wsX7_isNimber wsX7_in := goodIn_r _ [5] (by decide +kernel) (by decide +kernel)
set_option maxRecDepth 20000 in
theorem gX7_isNimber_X7_in : GoodIn wsX7_isNimber (va_wsS RX7 40 yX7_in wsX7_in) := goodIn_app (goodIn_of _ (by decide +kernel)) ggX7_isNimber_X7_in
theorem dX7_isNimber_0 : decode cX7_isNimber 0 = .ok (.iload_n 0, 1) := by decide +kernel
theorem dX7_isNimber_1 : decode cX7_isNimber 1 = .ok (.i2l, 1) := by decide +kernel
theorem dX7_isNimber_2 : decode cX7_isNimber 2 = .ok (.lconst 0, 1) := by decide +kernel
theorem dX7_isNimber_3 : decode cX7_isNimber 3 = .ok (.ldc2_w 44, 3) := by decide +kernel
theorem dX7_isNimber_6 : decode cX7_isNimber 6 = .ok (.invokestatic 40, 3) := by decide +kernel
theorem dX7_isNimber_9 : decode cX7_isNimber 9 = .ok (.ireturn, 1) := by decide +kernel
theorem dX7_times2_0 : decode cX7_times2 0 = .ok (.iload_n 0, 1) := by decide +kernel
theorem dX7_times2_1 : decode cX7_times2 1 = .ok (.iconst 1, 1) := by decide +kernel
theorem dX7_times2_2 : decode cX7_times2 2 = .ok (.ishr, 1) := by decide +kernel
theorem dX7_times2_3 : decode cX7_times2 3 = .ok (.iload_n 1, 1) := by decide +kernel
theorem dX7_times2_4 : decode cX7_times2 4 = .ok (.iconst 1, 1) := by decide +kernel
theorem dX7_times2_5 : decode cX7_times2 5 = .ok (.ishr, 1) := by decide +kernel
theorem dX7_times2_6 : decode cX7_times2 6 = .ok (.iand, 1) := by decide +kernel
theorem dX7_times2_7 : decode cX7_times2 7 = .ok (.istore_n 2, 1) := by decide +kernel
theorem dX7_times2_8 : decode cX7_times2 8 = .ok (.iload_n 0, 1) := by decide +kernel
theorem dX7_times2_9 : decode cX7_times2 9 = .ok (.iconst 1, 1) := by decide +kernel
theorem dX7_times2_10 : decode cX7_times2 10 = .ok (.ishr, 1) := by decide +kernel
theorem dX7_times2_11 : decode cX7_times2 11 = .ok (.iload_n 1, 1) := by decide +kernel
theorem dX7_times2_12 : decode cX7_times2 12 = .ok (.iconst 1, 1) := by decide +kernel
theorem dX7_times2_13 : decode cX7_times2 13 = .ok (.iand, 1) := by decide +kernel
theorem dX7_times2_14 : decode cX7_times2 14 = .ok (.iand, 1) := by decide +kernel
theorem dX7_times2_15 : decode cX7_times2 15 = .ok (.iload_n 0, 1) := by decide +kernel
theorem dX7_times2_16 : decode cX7_times2 16 = .ok (.iconst 1, 1) := by decide +kernel
theorem dX7_times2_17 : decode cX7_times2 17 = .ok (.iand, 1) := by decide +kernel
theorem dX7_times2_18 : decode cX7_times2 18 = .ok (.iload_n 1, 1) := by decide +kernel
theorem dX7_times2_19 : decode cX7_times2 19 = .ok (.iconst 1, 1) := by decide +kernel
theorem dX7_times2_20 : decode cX7_times2 20 = .ok (.ishr, 1) := by decide +kernel
theorem dX7_times2_21 : decode cX7_times2 21 = .ok (.iand, 1) := by decide +kernel
theorem dX7_times2_22 : decode cX7_times2 22 = .ok (.ixor, 1) := by decide +kernel
theorem dX7_times2_23 : decode cX7_times2 23 = .ok (.istore_n 3, 1) := by decide +kernel
theorem dX7_times2_24 : decode cX7_times2 24 = .ok (.iload_n 0, 1) := by decide +kernel
theorem dX7_times2_25 : decode cX7_times2 25 = .ok (.iload_n 1, 1) := by decide +kernel
theorem dX7_times2_26 : decode cX7_times2 26 = .ok (.iand, 1) := by decide +kernel
theorem dX7_times2_27 : decode cX7_times2 27 = .ok (.iconst 1, 1) := by decide +kernel
theorem dX7_times2_28 : decode cX7_times2 28 = .ok (.iand, 1) := by decide +kernel
theorem dX7_times2_29 : decode cX7_times2 29 = .ok (.istore 4, 2) := by decide +kernel
theorem dX7_times2_31 : decode cX7_times2 31 = .ok (.iload_n 2, 1) := by decide +kernel
theorem dX7_times2_32 : decode cX7_times2 32 = .ok (.iload_n 3, 1) := by decide +kernel
theorem dX7_times2_33 : decode cX7_times2 33 = .ok (.ixor, 1) := by decide +kernel
theorem dX7_times2_34 : decode cX7_times2 34 = .ok (.iconst 1, 1) := by decide +kernel
theorem dX7_times2_35 : decode cX7_times2 35 = .ok (.ishl, 1) := by decide +kernel
theorem dX7_times2_36 : decode cX7_times2 36 = .ok (.iload 4, 2) := by decide +kernel
theorem dX7_times2_38 : decode cX7_times2 38 = .ok (.iload_n 2, 1) := by decide +kernel
theorem dX7_times2_39 : decode cX7_times2 39 = .ok (.ixor, 1) := by decide +kernel
theorem dX7_times2_40 : decode cX7_times2 40 = .ok (.ior, 1) := by decide +kernel
theorem dX7_times2_41 : decode cX7_times2 41 = .ok (.ireturn, 1) := by decide +kernel
set_option maxRecDepth 20000 in
theorem ggX7_times4_X7_times2 : GoodIn wsX7_times4 wsX7_times2 := goodIn_r _ [4] (by decide +kernel) (by decide +kernel)
set_option maxRecDepth 20000 in
theorem gX7_times4_X7_times2 : GoodIn wsX7_times4 (va_wsS RX7 46 yX7_times2 wsX7_times2) := goodIn_app (goodIn_of _ (by decide +kernel)) ggX7_times4_X7_times2
theorem dX7_times4_0 : decode cX7_times4 0 = .ok (.iload_n 0, 1) := by decide +kernel
theorem dX7_times4_1 : decode cX7_times4 1 = .ok (.iconst 2, 1) := by decide +kernel
theorem dX7_times4_2 : decode cX7_times4 2 = .ok (.ishr, 1) := by decide +kernel
theorem dX7_times4_3 : decode cX7_times4 3 = .ok (.iload_n 1, 1) := by decide +kernel
theorem dX7_times4_4 : decode cX7_times4 4 = .ok (.iconst 2, 1) := by decide +kernel
theorem dX7_times4_5 : decode cX7_times4 5 = .ok (.ishr, 1) := by decide +kernel
theorem dX7_times4_6 : decode cX7_times4 6 = .ok (.invokestatic 46, 3) := by decide +kernel
theorem dX7_times4_9 : decode cX7_times4 9 = .ok (.istore_n 2, 1) := by decide +kernel
theorem dX7_times4_10 : decode cX7_times4 10 = .ok (.iload_n 0, 1) := by decide +kernel
theorem dX7_times4_11 : decode cX7_times4 11 = .ok (.iconst 2, 1) := by decide +kernel
theorem dX7_times4_12 : decode cX7_times4 12 = .ok (.ishr, 1) := by decide +kernel
theorem dX7_times4_13 : decode cX7_times4 13 = .ok (.iload_n 1, 1) := by decide +kernel
theorem dX7_times4_14 : decode cX7_times4 14 = .ok (.iconst 3, 1) := by decide +kernel
theorem dX7_times4_15 : decode cX7_times4 15 = .ok (.iand, 1) := by decide +kernel
theorem dX7_times4_16 : decode cX7_times4 16 = .ok (.invokestatic 46, 3) := by decide +kernel
theorem dX7_times4_19 : decode cX7_times4 19 = .ok (.iload_n 0, 1) := by decide +kernel
theorem dX7_times4_20 : decode cX7_times4 20 = .ok (.iconst 3, 1) := by decide +kernel
theorem dX7_times4_21 : decode cX7_times4 21 = .ok (.iand, 1) := by decide +kernel
theorem dX7_times4_22 : decode cX7_times4 22 = .ok (.iload_n 1, 1) := by decide +kernel
theorem dX7_times4_23 : decode cX7_times4 23 = .ok (.iconst 2, 1) := by decide +kernel
theorem dX7_times4_24 : decode cX7_times4 24 = .ok (.ishr, 1) := by decide +kernel
theorem dX7_times4_25 : decode cX7_times4 25 = .ok (.invokestatic 46, 3) := by decide +kernel
theorem dX7_times4_28 : decode cX7_times4 28 = .ok (.ixor, 1) := by decide +kernel
theorem dX7_times4_29 : decode cX7_times4 29 = .ok (.istore_n 3, 1) := by decide +kernel
theorem dX7_times4_30 : decode cX7_times4 30 = .ok (.iload_n 0, 1) := by decide +kernel
theorem dX7_times4_31 : decode cX7_times4 31 = .ok (.iconst 3, 1) := by decide +kernel
theorem dX7_times4_32 : decode cX7_times4 32 = .ok (.iand, 1) := by decide +kernel
theorem dX7_times4_33 : decode cX7_times4 33 = .ok (.iload_n 1, 1) := by decide +kernel
theorem dX7_times4_34 : decode cX7_times4 34 = .ok (.iconst 3, 1) := by decide +kernel
theorem dX7_times4_35 : decode cX7_times4 35 = .ok (.iand, 1) := by decide +kernel
theorem dX7_times4_36 : decode cX7_times4 36 = .ok (.invokestatic 46, 3) := by decide +kernel
theorem dX7_times4_39 : decode cX7_times4 39 = .ok (.istore 4, 2) := by decide +kernel
theorem dX7_times4_41 : decode cX7_times4 41 = .ok (.iload_n 2, 1) := by decide +kernel
theorem dX7_times4_42 : decode cX7_times4 42 = .ok (.iload_n 3, 1) := by decide +kernel
theorem dX7_times4_43 : decode cX7_times4 43 = .ok (.ixor, 1) := by decide +kernel
theorem dX7_times4_44 : decode cX7_times4 44 = .ok (.iconst 2, 1) := by decide +kernel
theorem dX7_times4_45 : decode cX7_times4 45 = .ok (.ishl, 1) := by decide +kernel
theorem dX7_times4_46 : decode cX7_times4 46 = .ok (.iload 4, 2) := by decide +kernel
theorem dX7_times4_48 : decode cX7_times4 48 = .ok (.iload_n 2, 1) := by decide +kernel
theorem dX7_times4_49 : decode cX7_times4 49 = .ok (.iconst 2, 1) := by decide +kernel
theorem dX7_times4_50 : decode cX7_times4 50 = .ok (.invokestatic 46, 3) := by decide +kernel
theorem dX7_times4_53 : decode cX7_times4 53 = .ok (.ixor, 1) := by decide +kernel
theorem dX7_times4_54 : decode cX7_times4 54 = .ok (.ior, 1) := by decide +kernel
theorem dX7_times4_55 : decode cX7_times4 55 = .ok (.ireturn, 1) := by decide +kernel
set_option maxRecDepth 20000 in
theorem ggX7_times8_X7_times4 : GoodIn wsX7_times8 wsX7_times4 := goodIn_r _ [4, 5, 6, 3, 7] (by decide +kernel) (by decide +kernel)
set_option maxRecDepth 20000 in
theorem gX7_times8_X7_times4 : GoodIn wsX7_times8 (va_wsS RX7 50 yX7_times4 wsX7_times4) := goodIn_app (goodIn_of _ (by decide +kernel)) ggX7_times8_X7_times4
theorem dX7_times8_0 : decode cX7_times8 0 = .ok (.iload_n 0, 1) := by decide +kernel
theorem dX7_times8_1 : decode cX7_times8 1 = .ok (.iconst 4, 1) := by decide +kernel
theorem dX7_times8_2 : decode cX7_times8 2 = .ok (.ishr, 1) := by decide +kernel
theorem dX7_times8_3 : decode cX7_times8 3 = .ok (.iload_n 1, 1) := by decide +kernel
theorem dX7_times8_4 : decode cX7_times8 4 = .ok (.iconst 4, 1) := by decide +kernel
theorem dX7_times8_5 : decode cX7_times8 5 = .ok (.ishr, 1) := by decide +kernel
theorem dX7_times8_6 : decode cX7_times8 6 = .ok (.invokestatic 50, 3) := by decide +kernel
theorem dX7_times8_9 : decode cX7_times8 9 = .ok (.istore_n 2, 1) := by decide +kernel
theorem dX7_times8_10 : decode cX7_times8 10 = .ok (.iload_n 0, 1) := by decide +kernel
theorem dX7_times8_11 : decode cX7_times8 11 = .ok (.iconst 4, 1) := by decide +kernel
theorem dX7_times8_12 : decode cX7_times8 12 = .ok (.ishr, 1) := by decide +kernel
theorem dX7_times8_13 : decode cX7_times8 13 = .ok (.iload_n 1, 1) := by decide +kernel
theorem dX7_times8_14 : decode cX7_times8 14 = .ok (.bipush 15, 2) := by decide +kernel
theorem dX7_times8_16 : decode cX7_times8 16 = .ok (.iand, 1) := by decide +kernel
theorem dX7_times8_17 : decode cX7_times8 17 = .ok (.invokestatic 50, 3) := by decide +kernel
theorem dX7_times8_20 : decode cX7_times8 20 = .ok (.iload_n 0, 1) := by decide +kernel
theorem dX7_times8_21 : decode cX7_times8 21 = .ok (.bipush 15, 2) := by decide +kernel
theorem dX7_times8_23 : decode cX7_times8 23 = .ok (.iand, 1) := by decide +kernel
theorem dX7_times8_24 : decode cX7_times8 24 = .ok (.iload_n 1, 1) := by decide +kernel
theorem dX7_times8_25 : decode cX7_times8 25 = .ok (.iconst 4, 1) := by decide +kernel
theorem dX7_times8_26 : decode cX7_times8 26 = .ok (.ishr, 1) := by decide +kernel
theorem dX7_times8_27 : decode cX7_times8 27 = .ok (.invokestatic 50, 3) := by decide +kernel
theorem dX7_times8_30 : decode cX7_times8 30 = .ok (.ixor, 1) := by decide +kernel
theorem dX7_times8_31 : decode cX7_times8 31 = .ok (.istore_n 3, 1) := by decide +kernel
theorem dX7_times8_32 : decode cX7_times8 32 = .ok (.iload_n 0, 1) := by decide +kernel
theorem dX7_times8_33 : decode cX7_times8 33 = .ok (.bipush 15, 2) := by decide +kernel
theorem dX7_times8_35 : decode cX7_times8 35 = .ok (.iand, 1) := by decide +kernel
theorem dX7_times8_36 : decode cX7_times8 36 = .ok (.iload_n 1, 1) := by decide +kernel
theorem dX7_times8_37 : decode cX7_times8 37 = .ok (.bipush 15, 2) := by decide +kernel
theorem dX7_times8_39 : decode cX7_times8 39 = .ok (.iand, 1) := by decide +kernel
theorem dX7_times8_40 : decode cX7_times8 40 = .ok (.invokestatic 50, 3) := by decide +kernel
theorem dX7_times8_43 : decode cX7_times8 43 = .ok (.istore 4, 2) := by decide +kernel
theorem dX7_times8_45 : decode cX7_times8 45 = .ok (.iload_n 2, 1) := by decide +kernel
theorem dX7_times8_46 : decode cX7_times8 46 = .ok (.iload_n 3, 1) := by decide +kernel
theorem dX7_times8_47 : decode cX7_times8 47 = .ok (.ixor, 1) := by decide +kernel
theorem dX7_times8_48 : decode cX7_times8 48 = .ok (.iconst 4, 1) := by decide +kernel
theorem dX7_times8_49 : decode cX7_times8 49 = .ok (.ishl, 1) := by decide +kernel
theorem dX7_times8_50 : decode cX7_times8 50 = .ok (.iload 4, 2) := by decide +kernel
theorem dX7_times8_52 : decode cX7_times8 52 = .ok (.iload_n 2, 1) := by decide +kernel
theorem dX7_times8_53 : decode cX7_times8 53 = .ok (.bipush 8, 2) := by decide +kernel
theorem dX7_times8_55 : decode cX7_times8 55 = .ok (.invokestatic 50, 3) := by decide +kernel
theorem dX7_times8_58 : decode cX7_times8 58 = .ok (.ixor, 1) := by decide +kernel
theorem dX7_times8_59 : decode cX7_times8 59 = .ok (.ior, 1) := by decide +kernel
theorem dX7_times8_60 : decode cX7_times8 60 = .ok (.ireturn, 1) := by decide +kernel
set_option maxRecDepth 20000 in
theorem ggX7_times_X7_times8 : GoodIn wsX7_times wsX7_times8 := goodIn_r _ [4, 5, 6, 3, 7, 8, 9, 10] (by decide +kernel) (by decide +kernel)
set_option maxRecDepth 20000 in
theorem gX7_times_X7_times8 : GoodIn wsX7_times (va_wsS RX7 53 yX7_times8 wsX7_times8) := goodIn_app (goodIn_of _ (by decide +kernel)) ggX7_times_X7_times8
theorem dX7_times_0 : decode cX7_times 0 = .ok (.iload_n 0, 1) := by decide +kernel
theorem dX7_times_1 : decode cX7_times 1 = .ok (.bipush 8, 2) := by decide +kernel
theorem dX7_times_3 : decode cX7_times 3 = .ok (.ishr, 1) := by decide +kernel
theorem dX7_times_4 : decode cX7_times 4 = .ok (.iload_n 1, 1) := by decide +kernel
theorem dX7_times_5 : decode cX7_times 5 = .ok (.bipush 8, 2) := by decide +kernel
theorem dX7_times_7 : decode cX7_times 7 = .ok (.ishr, 1) := by decide +kernel
theorem dX7_times_8 : decode cX7_times 8 = .ok (.invokestatic 53, 3) := by decide +kernel
theorem dX7_times_11 : decode cX7_times 11 = .ok (.istore_n 2, 1) := by decide +kernel
theorem dX7_times_12 : decode cX7_times 12 = .ok (.iload_n 0, 1) := by decide +kernel
theorem dX7_times_13 : decode cX7_times 13 = .ok (.bipush 8, 2) := by decide +kernel
theorem dX7_times_15 : decode cX7_times 15 = .ok (.ishr, 1) := by decide +kernel
theorem dX7_times_16 : decode cX7_times 16 = .ok (.iload_n 1, 1) := by decide +kernel
theorem dX7_times_17 : decode cX7_times 17 = .ok (.sipush 255, 3) := by decide +kernel
theorem dX7_times_20 : decode cX7_times 20 = .ok (.iand, 1) := by decide +kernel
theorem dX7_times_21 : decode cX7_times 21 = .ok (.invokestatic 53, 3) := by decide +kernel
theorem dX7_times_24 : decode cX7_times 24 = .ok (.iload_n 0, 1) := by decide +kernel
theorem dX7_times_25 : decode cX7_times 25 = .ok (.sipush 255, 3) := by decide +kernel
theorem dX7_times_28 : decode cX7_times 28 = .ok (.iand, 1) := by decide +kernel
theorem dX7_times_29 : decode cX7_times 29 = .ok (.iload_n 1, 1) := by decide +kernel
theorem dX7_times_30 : decode cX7_times 30 = .ok (.bipush 8, 2) := by decide +kernel
theorem dX7_times_32 : decode cX7_times 32 = .ok (.ishr, 1) := by decide +kernel
theorem dX7_times_33 : decode cX7_times 33 = .ok (.invokestatic 53, 3) := by decide +kernel
theorem dX7_times_36 : decode cX7_times 36 = .ok (.ixor, 1) := by decide +kernel
theorem dX7_times_37 : decode cX7_times 37 = .ok (.istore_n 3, 1) := by decide +kernel
theorem dX7_times_38 : decode cX7_times 38 = .ok (.iload_n 0, 1) := by decide +kernel
theorem dX7_times_39 : decode cX7_times 39 = .ok (.sipush 255, 3) := by decide +kernel
theorem dX7_times_42 : decode cX7_times 42 = .ok (.iand, 1) := by decide +kernel
theorem dX7_times_43 : decode cX7_times 43 = .ok (.iload_n 1, 1) := by decide +kernel
theorem dX7_times_44 : decode cX7_times 44 = .ok (.sipush 255, 3) := by decide +kernel
theorem dX7_times_47 : decode cX7_times 47 = .ok (.iand, 1) := by decide +kernel
theorem dX7_times_48 : decode cX7_times 48 = .ok (.invokestatic 53, 3) := by decide +kernel
theorem dX7_times_51 : decode cX7_times 51 = .ok (.istore 4, 2) := by decide +kernel
theorem dX7_times_53 : decode cX7_times 53 = .ok (.iload_n 2, 1) := by decide +kernel
theorem dX7_times_54 : decode cX7_times 54 = .ok (.iload_n 3, 1) := by decide +kernel
theorem dX7_times_55 : decode cX7_times 55 = .ok (.ixor, 1) := by decide +kernel
theorem dX7_times_56 : decode cX7_times 56 = .ok (.bipush 8, 2) := by decide +kernel
theorem dX7_times_58 : decode cX7_times 58 = .ok (.ishl, 1) := by decide +kernel
theorem dX7_times_59 : decode cX7_times 59 = .ok (.iload 4, 2) := by decide +kernel
theorem dX7_times_61 : decode cX7_times 61 = .ok (.iload_n 2, 1) := by decide +kernel
theorem dX7_times_62 : decode cX7_times 62 = .ok (.sipush 128, 3) := by decide +kernel
theorem dX7_times_65 : decode cX7_times 65 = .ok (.invokestatic 53, 3) := by decide +kernel
theorem dX7_times_68 : decode cX7_times 68 = .ok (.ixor, 1) := by decide +kernel
theorem dX7_times_69 : decode cX7_times 69 = .ok (.ior, 1) := by decide +kernel
theorem dX7_times_70 : decode cX7_times 70 = .ok (.ireturn, 1) := by decide +kernel
set_option maxRecDepth 20000 in
theorem ggX7_powered_X7_times : GoodIn wsX7_powered wsX7_times := goodIn_r _ [4, 5, 6, 3, 7, 8, 9, 10, 11, 12, 13] (by decide +kernel) (by decide +kernel)
set_option maxRecDepth 20000 in
theorem gX7_powered_X7_times : GoodIn wsX7_powered (va_wsS RX7 56 yX7_times wsX7_times) := goodIn_app (goodIn_of _ (by decide +kernel)) ggX7_powered_X7_times
theorem dX7_powered_0 : decode cX7_powered 0 = .ok (.iconst 1, 1) := by decide +kernel
theorem dX7_powered_1 : decode cX7_powered 1 = .ok (.istore_n 2, 1) := by decide +kernel
theorem dX7_powered_2 : decode cX7_powered 2 = .ok (.iload_n 0, 1) := by decide +kernel
theorem dX7_powered_3 : decode cX7_powered 3 = .ok (.istore_n 3, 1) := by decide +kernel
theorem dX7_powered_4 : decode cX7_powered 4 = .ok (.iload_n 1, 1) := by decide +kernel
theorem dX7_powered_5 : decode cX7_powered 5 = .ok (.istore 4, 2) := by decide +kernel
theorem dX7_powered_7 : decode cX7_powered 7 = .ok (.iload 4, 2) := by decide +kernel
theorem dX7_powered_9 : decode cX7_powered 9 = .ok (.ifCond .le 36, 3) := by decide +kernel
theorem dX7_powered_12 : decode cX7_powered 12 = .ok (.iload 4, 2) := by decide +kernel
theorem dX7_powered_14 : decode cX7_powered 14 = .ok (.iconst 1, 1) := by decide +kernel
theorem dX7_powered_15 : decode cX7_powered 15 = .ok (.iand, 1) := by decide +kernel
theorem dX7_powered_16 : decode cX7_powered 16 = .ok (.iconst 1, 1) := by decide +kernel
theorem dX7_powered_17 : decode cX7_powered 17 = .ok (.if_icmp .ne 11, 3) := by decide +kernel
theorem dX7_powered_20 : decode cX7_powered 20 = .ok (.iload_n 2, 1) := by decide +kernel
theorem dX7_powered_21 : decode cX7_powered 21 = .ok (.iload_n 3, 1) := by decide +kernel
theorem dX7_powered_22 : decode cX7_powered 22 = .ok (.invokestatic 56, 3) := by decide +kernel
theorem dX7_powered_25 : decode cX7_powered 25 = .ok (.goto 4, 3) := by decide +kernel
theorem dX7_powered_28 : decode cX7_powered 28 = .ok (.iload_n 2, 1) := by decide +kernel
theorem dX7_powered_29 : decode cX7_powered 29 = .ok (.istore_n 2, 1) := by decide +kernel
theorem dX7_powered_30 : decode cX7_powered 30 = .ok (.iload_n 3, 1) := by decide +kernel
theorem dX7_powered_31 : decode cX7_powered 31 = .ok (.iload_n 3, 1) := by decide +kernel
theorem dX7_powered_32 : decode cX7_powered 32 = .ok (.invokestatic 56, 3) := by decide +kernel
theorem dX7_powered_35 : decode cX7_powered 35 = .ok (.istore_n 3, 1) := by decide +kernel
theorem dX7_powered_36 : decode cX7_powered 36 = .ok (.iload 4, 2) := by decide +kernel
theorem dX7_powered_38 : decode cX7_powered 38 = .ok (.iconst 1, 1) := by decide +kernel
theorem dX7_powered_39 : decode cX7_powered 39 = .ok (.ishr, 1) := by decide +kernel
theorem dX7_powered_40 : decode cX7_powered 40 = .ok (.istore 4, 2) := by decide +kernel
theorem dX7_powered_42 : decode cX7_powered 42 = .ok (.goto (-35), 3) := by decide +kernel
theorem dX7_powered_45 : decode cX7_powered 45 = .ok (.iload_n 2, 1) := by decide +kernel
theorem dX7_powered_46 : decode cX7_powered 46 = .ok (.ireturn, 1) := by decide +kernel
set_option maxRecDepth 20000 in
theorem ggX7_inverted_X7_powered : GoodIn wsX7_inverted wsX7_powered := goodIn_r _ [5, 6, 7, 4, 8, 9, 10, 11, 12, 13, 14, 15, 16, 17] (by decide +kernel) (by decide +kernel)
set_option maxRecDepth 20000 in
theorem gX7_inverted_X7_powered : GoodIn wsX7_inverted (va_wsS RX7 60 yX7_powered wsX7_powered) := goodIn_app (goodIn_of _ (by decide +kernel)) ggX7_inverted_X7_powered
theorem dX7_inverted_0 : decode cX7_inverted 0 = .ok (.iload_n 0, 1) := by decide +kernel
theorem dX7_inverted_1 : decode cX7_inverted 1 = .ok (.ldc 59, 2) := by decide +kernel
theorem dX7_inverted_3 : decode cX7_inverted 3 = .ok (.invokestatic 60, 3) := by decide +kernel
theorem dX7_inverted_6 : decode cX7_inverted 6 = .ok (.ireturn, 1) := by decide +kernel
set_option maxRecDepth 20000 in
theorem ggX7_root_X7_powered : GoodIn wsX7_root wsX7_powered := goodIn_r _ [5, 6, 7, 4, 8, 9, 10, 11, 12, 13, 14, 15, 16, 17] (by decide +kernel) (by decide +kernel)
set_option maxRecDepth 20000 in
theorem gX7_root_X7_powered : GoodIn wsX7_root (va_wsS RX7 60 yX7_powered wsX7_powered) := goodIn_app (goodIn_of _ (by decide +kernel)) ggX7_root_X7_powered
theorem dX7_root_0 : decode cX7_root 0 = .ok (.iload_n 0, 1) := by decide +kernel
theorem dX7_root_1 : decode cX7_root 1 = .ok (.ldc 63, 2) := by decide +kernel
theorem dX7_root_3 : decode cX7_root 3 = .ok (.invokestatic 60, 3) := by decide +kernel
theorem dX7_root_6 : decode cX7_root 6 = .ok (.ireturn, 1) := by decide +kernel
theorem dX7_puts_0 : decode cX7_puts 0 = .ok (.aload_n 0, 1) := by decide +kernel
theorem dX7_puts_1 : decode cX7_puts 1 = .ok (.getfield 7, 3) := by decide +kernel
theorem dX7_puts_4 : decode cX7_puts 4 = .ok (.iload_n 1, 1) := by decide +kernel
theorem dX7_puts_5 : decode cX7_puts 5 = .ok (.iaload, 1) := by decide +kernel
theorem dX7_puts_6 : decode cX7_puts 6 = .ok (.istore_n 3, 1) := by decide +kernel
theorem dX7_puts_7 : decode cX7_puts 7 = .ok (.aload_n 0, 1) := by decide +kernel
theorem dX7_puts_8 : decode cX7_puts 8 = .ok (.getfield 7, 3) := by decide +kernel
theorem dX7_puts_11 : decode cX7_puts 11 = .ok (.iload_n 1, 1) := by decide +kernel
theorem dX7_puts_12 : decode cX7_puts 12 = .ok (.iload_n 2, 1) := by decide +kernel
theorem dX7_puts_13 : decode cX7_puts 13 = .ok (.iastore, 1) := by decide +kernel
theorem dX7_puts_14 : decode cX7_puts 14 = .ok (.iload_n 3, 1) := by decide +kernel
theorem dX7_puts_15 : decode cX7_puts 15 = .ok (.ireturn, 1) := by decide +kernel
set_option maxRecDepth 20000 in
theorem ggX7_set_X7_isRegister : GoodIn wsX7_set wsX7_isRegister := goodIn_r _ [4, 5, 6, 7, 3, 8] (by decide +kernel) (by decide +kernel)
set_option maxRecDepth 20000 in
theorem gX7_set_X7_isRegister : GoodIn wsX7_set (va_wsS RX7 64 yX7_isRegister wsX7_isRegister) := goodIn_app (goodIn_of _ (by decide +kernel)) ggX7_set_X7_isRegister
set_option maxRecDepth 20000 in
theorem ggX7_set_X7_fails : GoodIn wsX7_set wsX7_fails := goodIn_r _ [12, 13, 29, 30, 31, 32, 33, 34, 35, 36, 37, 38, 39, 40, 41, 42, 43, 44, 45] (by decide +kernel) (by decide +kernel)
set_option maxRecDepth 20000 in
theorem gX7_set_X7_fails : GoodIn wsX7_set (wsV RX7 68 RX7 yX7_fails wsX7_fails) := goodIn_app (goodIn_of _ (by decide +kernel)) ggX7_set_X7_fails
set_option maxRecDepth 20000 in
theorem ggX7_set_X7_isNimber : GoodIn wsX7_set wsX7_isNimber := goodIn_r _ [16, 17, 6, 7, 3, 8] (by decide +kernel) (by decide +kernel)
set_option maxRecDepth 20000 in
theorem gX7_set_X7_isNimber : GoodIn wsX7_set (va_wsS RX7 72 yX7_isNimber wsX7_isNimber) := goodIn_app (goodIn_of _ (by decide +kernel)) ggX7_set_X7_isNimber
set_option maxRecDepth 20000 in
theorem ggX7_set_X7_records : GoodIn wsX7_set wsX7_records := goodIn_r _ [21, 13, 22, 23, 24, 29, 30, 31, 32, 33, 34, 35, 36, 37, 38, 39, 40, 41, 42, 43, 44, 45] (by decide +kernel) (by decide +kernel)
set_option maxRecDepth 20000 in
theorem gX7_set_X7_records : GoodIn wsX7_set (wsV RX7 75 RX7 yX7_records wsX7_records) := goodIn_app (goodIn_of _ (by decide +kernel)) ggX7_set_X7_records
set_option maxRecDepth 20000 in
theorem ggX7_set_X7_puts : GoodIn wsX7_set wsX7_puts := goodIn_r _ [28, 24, 29, 30, 31, 32, 33, 34, 35, 36, 37, 38, 39, 40, 41, 42, 43, 44, 45] (by decide +kernel) (by decide +kernel)
set_option maxRecDepth 20000 in
theorem gX7_set_X7_puts : GoodIn wsX7_set (wsV RX7 78 RX7 yX7_puts wsX7_puts) := goodIn_app (goodIn_of _ (by decide +kernel)) ggX7_set_X7_puts
theorem dX7_set_0 : decode cX7_set 0 = .ok (.iload_n 1, 1) := by decide +kernel
theorem dX7_set_1 : decode cX7_set 1 = .ok (.invokestatic 64, 3) := by decide +kernel
theorem dX7_set_4 : decode cX7_set 4 = .ok (.ifCond .ne 9, 3) := by decide +kernel
theorem dX7_set_7 : decode cX7_set 7 = .ok (.aload_n 0, 1) := by decide +kernel
theorem dX7_set_8 : decode cX7_set 8 = .ok (.iconst 1, 1) := by decide +kernel
theorem dX7_set_9 : decode cX7_set 9 = .ok (.invokevirtual 68, 3) := by decide +kernel
theorem dX7_set_12 : decode cX7_set 12 = .ok (.ireturn, 1) := by decide +kernel
theorem dX7_set_13 : decode cX7_set 13 = .ok (.iload_n 2, 1) := by decide +kernel
theorem dX7_set_14 : decode cX7_set 14 = .ok (.invokestatic 72, 3) := by decide +kernel
theorem dX7_set_17 : decode cX7_set 17 = .ok (.ifCond .ne 9, 3) := by decide +kernel
theorem dX7_set_20 : decode cX7_set 20 = .ok (.aload_n 0, 1) := by decide +kernel
theorem dX7_set_21 : decode cX7_set 21 = .ok (.iconst 2, 1) := by decide +kernel
theorem dX7_set_22 : decode cX7_set 22 = .ok (.invokevirtual 68, 3) := by decide +kernel
theorem dX7_set_25 : decode cX7_set 25 = .ok (.ireturn, 1) := by decide +kernel
theorem dX7_set_26 : decode cX7_set 26 = .ok (.aload_n 0, 1) := by decide +kernel
theorem dX7_set_27 : decode cX7_set 27 = .ok (.invokevirtual 75, 3) := by decide +kernel
theorem dX7_set_30 : decode cX7_set 30 = .ok (.aload_n 0, 1) := by decide +kernel
theorem dX7_set_31 : decode cX7_set 31 = .ok (.iload_n 1, 1) := by decide +kernel
theorem dX7_set_32 : decode cX7_set 32 = .ok (.iload_n 2, 1) := by decide +kernel
theorem dX7_set_33 : decode cX7_set 33 = .ok (.invokevirtual 78, 3) := by decide +kernel
theorem dX7_set_36 : decode cX7_set 36 = .ok (.ireturn, 1) := by decide +kernel
set_option maxRecDepth 20000 in
theorem ggX7_invert_X7_isRegister : GoodIn wsX7_invert wsX7_isRegister := goodIn_r _ [5, 6, 7, 8, 4, 9] (by decide +kernel) (by decide +kernel)
set_option maxRecDepth 20000 in
theorem gX7_invert_X7_isRegister : GoodIn wsX7_invert (va_wsS RX7 64 yX7_isRegister wsX7_isRegister) := goodIn_app (goodIn_of _ (by decide +kernel)) ggX7_invert_X7_isRegister
set_option maxRecDepth 20000 in
theorem ggX7_invert_X7_fails : GoodIn wsX7_invert wsX7_fails := goodIn_r _ [13, 14, 40, 41, 42, 43, 44, 45, 46, 47, 48, 49, 50, 51, 52, 53, 54, 55, 56] (by decide +kernel) (by decide +kernel)
set_option maxRecDepth 20000 in
theorem gX7_invert_X7_fails : GoodIn wsX7_invert (wsV RX7 68 RX7 yX7_fails wsX7_fails) := goodIn_app (goodIn_of _ (by decide +kernel)) ggX7_invert_X7_fails
set_option maxRecDepth 20000 in
theorem ggX7_invert_X7_records : GoodIn wsX7_invert wsX7_records := goodIn_r _ [18, 14, 19, 20, 1, 40, 41, 42, 43, 44, 45, 46, 47, 48, 49, 50, 51, 52, 53, 54, 55, 56] (by decide +kernel) (by decide +kernel)
set_option maxRecDepth 20000 in
theorem gX7_invert_X7_records : GoodIn wsX7_invert (wsV RX7 75 RX7 yX7_records wsX7_records) := goodIn_app (goodIn_of _ (by decide +kernel)) ggX7_invert_X7_records
set_option maxRecDepth 20000 in
theorem ggX7_invert_X7_inverted : GoodIn wsX7_invert wsX7_inverted := goodIn_r _ [23, 24, 25, 26, 4, 27, 28, 29, 30, 31, 32, 33, 34, 35, 36, 37, 38, 39] (by decide +kernel) (by decide +kernel)
set_option maxRecDepth 20000 in
theorem gX7_invert_X7_inverted : GoodIn wsX7_invert (va_wsS RX7 81 yX7_inverted wsX7_inverted) := goodIn_app (goodIn_of _ (by decide +kernel)) ggX7_invert_X7_inverted
theorem dX7_invert_0 : decode cX7_invert 0 = .ok (.iload_n 1, 1) := by decide +kernel
theorem dX7_invert_1 : decode cX7_invert 1 = .ok (.invokestatic 64, 3) := by decide +kernel
theorem dX7_invert_4 : decode cX7_invert 4 = .ok (.ifCond .ne 9, 3) := by decide +kernel
theorem dX7_invert_7 : decode cX7_invert 7 = .ok (.aload_n 0, 1) := by decide +kernel
theorem dX7_invert_8 : decode cX7_invert 8 = .ok (.iconst 1, 1) := by decide +kernel
theorem dX7_invert_9 : decode cX7_invert 9 = .ok (.invokevirtual 68, 3) := by decide +kernel
theorem dX7_invert_12 : decode cX7_invert 12 = .ok (.ireturn, 1) := by decide +kernel
theorem dX7_invert_13 : decode cX7_invert 13 = .ok (.aload_n 0, 1) := by decide +kernel
theorem dX7_invert_14 : decode cX7_invert 14 = .ok (.getfield 7, 3) := by decide +kernel
theorem dX7_invert_17 : decode cX7_invert 17 = .ok (.iload_n 1, 1) := by decide +kernel
theorem dX7_invert_18 : decode cX7_invert 18 = .ok (.iaload, 1) := by decide +kernel
theorem dX7_invert_19 : decode cX7_invert 19 = .ok (.ifCond .ne 9, 3) := by decide +kernel
theorem dX7_invert_22 : decode cX7_invert 22 = .ok (.aload_n 0, 1) := by decide +kernel
theorem dX7_invert_23 : decode cX7_invert 23 = .ok (.iconst 2, 1) := by decide +kernel
theorem dX7_invert_24 : decode cX7_invert 24 = .ok (.invokevirtual 68, 3) := by decide +kernel
theorem dX7_invert_27 : decode cX7_invert 27 = .ok (.ireturn, 1) := by decide +kernel
theorem dX7_invert_28 : decode cX7_invert 28 = .ok (.aload_n 0, 1) := by decide +kernel
theorem dX7_invert_29 : decode cX7_invert 29 = .ok (.invokevirtual 75, 3) := by decide +kernel
theorem dX7_invert_32 : decode cX7_invert 32 = .ok (.aload_n 0, 1) := by decide +kernel
theorem dX7_invert_33 : decode cX7_invert 33 = .ok (.getfield 7, 3) := by decide +kernel
theorem dX7_invert_36 : decode cX7_invert 36 = .ok (.iload_n 1, 1) := by decide +kernel
theorem dX7_invert_37 : decode cX7_invert 37 = .ok (.aload_n 0, 1) := by decide +kernel
theorem dX7_invert_38 : decode cX7_invert 38 = .ok (.getfield 7, 3) := by decide +kernel
theorem dX7_invert_41 : decode cX7_invert 41 = .ok (.iload_n 1, 1) := by decide +kernel
theorem dX7_invert_42 : decode cX7_invert 42 = .ok (.iaload, 1) := by decide +kernel
theorem dX7_invert_43 : decode cX7_invert 43 = .ok (.invokestatic 81, 3) := by decide +kernel
theorem dX7_invert_46 : decode cX7_invert 46 = .ok (.iastore, 1) := by decide +kernel
theorem dX7_invert_47 : decode cX7_invert 47 = .ok (.aload_n 0, 1) := by decide +kernel
theorem dX7_invert_48 : decode cX7_invert 48 = .ok (.getfield 7, 3) := by decide +kernel
theorem dX7_invert_51 : decode cX7_invert 51 = .ok (.iload_n 1, 1) := by decide +kernel
theorem dX7_invert_52 : decode cX7_invert 52 = .ok (.iaload, 1) := by decide +kernel
theorem dX7_invert_53 : decode cX7_invert 53 = .ok (.ireturn, 1) := by decide +kernel
set_option maxRecDepth 20000 in
theorem ggX7_takeRoot_X7_isRegister : GoodIn wsX7_takeRoot wsX7_isRegister := goodIn_r _ [5, 6, 7, 8, 4, 9] (by decide +kernel) (by decide +kernel)
set_option maxRecDepth 20000 in
theorem gX7_takeRoot_X7_isRegister : GoodIn wsX7_takeRoot (va_wsS RX7 64 yX7_isRegister wsX7_isRegister) := goodIn_app (goodIn_of _ (by decide +kernel)) ggX7_takeRoot_X7_isRegister
set_option maxRecDepth 20000 in
theorem ggX7_takeRoot_X7_fails : GoodIn wsX7_takeRoot wsX7_fails := goodIn_r _ [13, 14, 40, 41, 42, 43, 44, 45, 46, 47, 48, 49, 50, 51, 52, 53, 54, 55, 56] (by decide +kernel) (by decide +kernel)
set_option maxRecDepth 20000 in
theorem gX7_takeRoot_X7_fails : GoodIn wsX7_takeRoot (wsV RX7 68 RX7 yX7_fails wsX7_fails) := goodIn_app (goodIn_of _ (by decide +kernel)) ggX7_takeRoot_X7_fails
set_option maxRecDepth 20000 in
theorem ggX7_takeRoot_X7_records : GoodIn wsX7_takeRoot wsX7_records := goodIn_r _ [18, 14, 19, 20, 1, 40, 41, 42, 43, 44, 45, 46, 47, 48, 49, 50, 51, 52, 53, 54, 55, 56] (by decide +kernel) (by decide +kernel)
set_option maxRecDepth 20000 in
theorem gX7_takeRoot_X7_records : GoodIn wsX7_takeRoot (wsV RX7 75 RX7 yX7_records wsX7_records) := goodIn_app (goodIn_of _ (by decide +kernel)) ggX7_takeRoot_X7_records
set_option maxRecDepth 20000 in
theorem ggX7_takeRoot_X7_root : GoodIn wsX7_takeRoot wsX7_root := goodIn_r _ [23, 24, 25, 26, 4, 27, 28, 29, 30, 31, 32, 33, 34, 35, 36, 37, 38, 39] (by decide +kernel) (by decide +kernel)
set_option maxRecDepth 20000 in
theorem gX7_takeRoot_X7_root : GoodIn wsX7_takeRoot (va_wsS RX7 84 yX7_root wsX7_root) := goodIn_app (goodIn_of _ (by decide +kernel)) ggX7_takeRoot_X7_root
theorem dX7_takeRoot_0 : decode cX7_takeRoot 0 = .ok (.iload_n 1, 1) := by decide +kernel
theorem dX7_takeRoot_1 : decode cX7_takeRoot 1 = .ok (.invokestatic 64, 3) := by decide +kernel
theorem dX7_takeRoot_4 : decode cX7_takeRoot 4 = .ok (.ifCond .ne 9, 3) := by decide +kernel
theorem dX7_takeRoot_7 : decode cX7_takeRoot 7 = .ok (.aload_n 0, 1) := by decide +kernel
theorem dX7_takeRoot_8 : decode cX7_takeRoot 8 = .ok (.iconst 1, 1) := by decide +kernel
theorem dX7_takeRoot_9 : decode cX7_takeRoot 9 = .ok (.invokevirtual 68, 3) := by decide +kernel
theorem dX7_takeRoot_12 : decode cX7_takeRoot 12 = .ok (.ireturn, 1) := by decide +kernel
theorem dX7_takeRoot_13 : decode cX7_takeRoot 13 = .ok (.aload_n 0, 1) := by decide +kernel
theorem dX7_takeRoot_14 : decode cX7_takeRoot 14 = .ok (.invokevirtual 75, 3) := by decide +kernel
theorem dX7_takeRoot_17 : decode cX7_takeRoot 17 = .ok (.aload_n 0, 1) := by decide +kernel
theorem dX7_takeRoot_18 : decode cX7_takeRoot 18 = .ok (.getfield 7, 3) := by decide +kernel
theorem dX7_takeRoot_21 : decode cX7_takeRoot 21 = .ok (.iload_n 1, 1) := by decide +kernel
theorem dX7_takeRoot_22 : decode cX7_takeRoot 22 = .ok (.aload_n 0, 1) := by decide +kernel
theorem dX7_takeRoot_23 : decode cX7_takeRoot 23 = .ok (.getfield 7, 3) := by decide +kernel
theorem dX7_takeRoot_26 : decode cX7_takeRoot 26 = .ok (.iload_n 1, 1) := by decide +kernel
theorem dX7_takeRoot_27 : decode cX7_takeRoot 27 = .ok (.iaload, 1) := by decide +kernel
theorem dX7_takeRoot_28 : decode cX7_takeRoot 28 = .ok (.invokestatic 84, 3) := by decide +kernel
theorem dX7_takeRoot_31 : decode cX7_takeRoot 31 = .ok (.iastore, 1) := by decide +kernel
theorem dX7_takeRoot_32 : decode cX7_takeRoot 32 = .ok (.aload_n 0, 1) := by decide +kernel
theorem dX7_takeRoot_33 : decode cX7_takeRoot 33 = .ok (.getfield 7, 3) := by decide +kernel
theorem dX7_takeRoot_36 : decode cX7_takeRoot 36 = .ok (.iload_n 1, 1) := by decide +kernel
theorem dX7_takeRoot_37 : decode cX7_takeRoot 37 = .ok (.iaload, 1) := by decide +kernel
theorem dX7_takeRoot_38 : decode cX7_takeRoot 38 = .ok (.ireturn, 1) := by decide +kernel
set_option maxRecDepth 20000 in
theorem ggX7_multiply_X7_isRegister : GoodIn wsX7_multiply wsX7_isRegister := goodIn_r _ [5, 6, 7, 8, 4, 9] (by decide +kernel) (by decide +kernel)
set_option maxRecDepth 20000 in
theorem gX7_multiply_X7_isRegister : GoodIn wsX7_multiply (va_wsS RX7 64 yX7_isRegister wsX7_isRegister) := goodIn_app (goodIn_of _ (by decide +kernel)) ggX7_multiply_X7_isRegister
set_option maxRecDepth 20000 in
theorem ggX7_multiply_X7_fails : GoodIn wsX7_multiply wsX7_fails := goodIn_r _ [13, 14, 33, 34, 35, 36, 37, 38, 39, 40, 41, 42, 43, 44, 45, 46, 47, 48, 49] (by decide +kernel) (by decide +kernel)
set_option maxRecDepth 20000 in
theorem gX7_multiply_X7_fails : GoodIn wsX7_multiply (wsV RX7 68 RX7 yX7_fails wsX7_fails) := goodIn_app (goodIn_of _ (by decide +kernel)) ggX7_multiply_X7_fails
set_option maxRecDepth 20000 in
theorem ggX7_multiply_X7_records : GoodIn wsX7_multiply wsX7_records := goodIn_r _ [18, 14, 19, 20, 1, 33, 34, 35, 36, 37, 38, 39, 40, 41, 42, 43, 44, 45, 46, 47, 48, 49] (by decide +kernel) (by decide +kernel)
set_option maxRecDepth 20000 in
theorem gX7_multiply_X7_records : GoodIn wsX7_multiply (wsV RX7 75 RX7 yX7_records wsX7_records) := goodIn_app (goodIn_of _ (by decide +kernel)) ggX7_multiply_X7_records
set_option maxRecDepth 20000 in
theorem ggX7_multiply_X7_times : GoodIn wsX7_multiply wsX7_times := goodIn_r _ [23, 24, 25, 4, 26, 27, 28, 29, 30, 31, 32] (by decide +kernel) (by decide +kernel)
set_option maxRecDepth 20000 in
theorem gX7_multiply_X7_times : GoodIn wsX7_multiply (va_wsS RX7 56 yX7_times wsX7_times) := goodIn_app (goodIn_of _ (by decide +kernel)) ggX7_multiply_X7_times
theorem dX7_multiply_0 : decode cX7_multiply 0 = .ok (.iload_n 1, 1) := by decide +kernel
theorem dX7_multiply_1 : decode cX7_multiply 1 = .ok (.invokestatic 64, 3) := by decide +kernel
theorem dX7_multiply_4 : decode cX7_multiply 4 = .ok (.ifCond .eq 10, 3) := by decide +kernel
theorem dX7_multiply_7 : decode cX7_multiply 7 = .ok (.iload_n 2, 1) := by decide +kernel
theorem dX7_multiply_8 : decode cX7_multiply 8 = .ok (.invokestatic 64, 3) := by decide +kernel
theorem dX7_multiply_11 : decode cX7_multiply 11 = .ok (.ifCond .ne 9, 3) := by decide +kernel
theorem dX7_multiply_14 : decode cX7_multiply 14 = .ok (.aload_n 0, 1) := by decide +kernel
theorem dX7_multiply_15 : decode cX7_multiply 15 = .ok (.iconst 1, 1) := by decide +kernel
theorem dX7_multiply_16 : decode cX7_multiply 16 = .ok (.invokevirtual 68, 3) := by decide +kernel
theorem dX7_multiply_19 : decode cX7_multiply 19 = .ok (.ireturn, 1) := by decide +kernel
theorem dX7_multiply_20 : decode cX7_multiply 20 = .ok (.aload_n 0, 1) := by decide +kernel
theorem dX7_multiply_21 : decode cX7_multiply 21 = .ok (.invokevirtual 75, 3) := by decide +kernel
theorem dX7_multiply_24 : decode cX7_multiply 24 = .ok (.aload_n 0, 1) := by decide +kernel
theorem dX7_multiply_25 : decode cX7_multiply 25 = .ok (.getfield 7, 3) := by decide +kernel
theorem dX7_multiply_28 : decode cX7_multiply 28 = .ok (.iload_n 1, 1) := by decide +kernel
theorem dX7_multiply_29 : decode cX7_multiply 29 = .ok (.aload_n 0, 1) := by decide +kernel
theorem dX7_multiply_30 : decode cX7_multiply 30 = .ok (.getfield 7, 3) := by decide +kernel
theorem dX7_multiply_33 : decode cX7_multiply 33 = .ok (.iload_n 1, 1) := by decide +kernel
theorem dX7_multiply_34 : decode cX7_multiply 34 = .ok (.iaload, 1) := by decide +kernel
theorem dX7_multiply_35 : decode cX7_multiply 35 = .ok (.aload_n 0, 1) := by decide +kernel
theorem dX7_multiply_36 : decode cX7_multiply 36 = .ok (.getfield 7, 3) := by decide +kernel
theorem dX7_multiply_39 : decode cX7_multiply 39 = .ok (.iload_n 2, 1) := by decide +kernel
theorem dX7_multiply_40 : decode cX7_multiply 40 = .ok (.iaload, 1) := by decide +kernel
theorem dX7_multiply_41 : decode cX7_multiply 41 = .ok (.invokestatic 56, 3) := by decide +kernel
theorem dX7_multiply_44 : decode cX7_multiply 44 = .ok (.iastore, 1) := by decide +kernel
theorem dX7_multiply_45 : decode cX7_multiply 45 = .ok (.aload_n 0, 1) := by decide +kernel
theorem dX7_multiply_46 : decode cX7_multiply 46 = .ok (.getfield 7, 3) := by decide +kernel
theorem dX7_multiply_49 : decode cX7_multiply 49 = .ok (.bipush 8, 2) := by decide +kernel
theorem dX7_multiply_51 : decode cX7_multiply 51 = .ok (.dup2, 1) := by decide +kernel
theorem dX7_multiply_52 : decode cX7_multiply 52 = .ok (.iaload, 1) := by decide +kernel
theorem dX7_multiply_53 : decode cX7_multiply 53 = .ok (.iconst 1, 1) := by decide +kernel
theorem dX7_multiply_54 : decode cX7_multiply 54 = .ok (.iadd, 1) := by decide +kernel
theorem dX7_multiply_55 : decode cX7_multiply 55 = .ok (.iastore, 1) := by decide +kernel
theorem dX7_multiply_56 : decode cX7_multiply 56 = .ok (.aload_n 0, 1) := by decide +kernel
theorem dX7_multiply_57 : decode cX7_multiply 57 = .ok (.getfield 7, 3) := by decide +kernel
theorem dX7_multiply_60 : decode cX7_multiply 60 = .ok (.iload_n 1, 1) := by decide +kernel
theorem dX7_multiply_61 : decode cX7_multiply 61 = .ok (.iaload, 1) := by decide +kernel
theorem dX7_multiply_62 : decode cX7_multiply 62 = .ok (.ireturn, 1) := by decide +kernel
set_option maxRecDepth 20000 in
theorem ggX7_exchange_X7_isRegister : GoodIn wsX7_exchange wsX7_isRegister := goodIn_r _ [5, 6, 7, 8, 4, 9] (by decide +kernel) (by decide +kernel)
set_option maxRecDepth 20000 in
theorem gX7_exchange_X7_isRegister : GoodIn wsX7_exchange (va_wsS RX7 64 yX7_isRegister wsX7_isRegister) := goodIn_app (goodIn_of _ (by decide +kernel)) ggX7_exchange_X7_isRegister
set_option maxRecDepth 20000 in
theorem ggX7_exchange_X7_fails : GoodIn wsX7_exchange wsX7_fails := goodIn_r _ [13, 14, 25, 26, 27, 28, 29, 30, 31, 32, 33, 34, 35, 36, 37, 38, 39, 40, 41] (by decide +kernel) (by decide +kernel)
set_option maxRecDepth 20000 in
theorem gX7_exchange_X7_fails : GoodIn wsX7_exchange (wsV RX7 68 RX7 yX7_fails wsX7_fails) := goodIn_app (goodIn_of _ (by decide +kernel)) ggX7_exchange_X7_fails
set_option maxRecDepth 20000 in
theorem ggX7_exchange_X7_records : GoodIn wsX7_exchange wsX7_records := goodIn_r _ [18, 14, 19, 20, 1, 25, 26, 27, 28, 29, 30, 31, 32, 33, 34, 35, 36, 37, 38, 39, 40, 41] (by decide +kernel) (by decide +kernel)
set_option maxRecDepth 20000 in
theorem gX7_exchange_X7_records : GoodIn wsX7_exchange (wsV RX7 75 RX7 yX7_records wsX7_records) := goodIn_app (goodIn_of _ (by decide +kernel)) ggX7_exchange_X7_records
set_option maxRecDepth 20000 in
theorem ggX7_exchange_X7_puts : GoodIn wsX7_exchange wsX7_puts := goodIn_r _ [24, 1, 25, 26, 27, 28, 29, 30, 31, 32, 33, 34, 35, 36, 37, 38, 39, 40, 41] (by decide +kernel) (by decide +kernel)
set_option maxRecDepth 20000 in
theorem gX7_exchange_X7_puts : GoodIn wsX7_exchange (wsV RX7 78 RX7 yX7_puts wsX7_puts) := goodIn_app (goodIn_of _ (by decide +kernel)) ggX7_exchange_X7_puts
theorem dX7_exchange_0 : decode cX7_exchange 0 = .ok (.iload_n 1, 1) := by decide +kernel
theorem dX7_exchange_1 : decode cX7_exchange 1 = .ok (.invokestatic 64, 3) := by decide +kernel
theorem dX7_exchange_4 : decode cX7_exchange 4 = .ok (.ifCond .eq 10, 3) := by decide +kernel
theorem dX7_exchange_7 : decode cX7_exchange 7 = .ok (.iload_n 2, 1) := by decide +kernel
theorem dX7_exchange_8 : decode cX7_exchange 8 = .ok (.invokestatic 64, 3) := by decide +kernel
theorem dX7_exchange_11 : decode cX7_exchange 11 = .ok (.ifCond .ne 9, 3) := by decide +kernel
theorem dX7_exchange_14 : decode cX7_exchange 14 = .ok (.aload_n 0, 1) := by decide +kernel
theorem dX7_exchange_15 : decode cX7_exchange 15 = .ok (.iconst 1, 1) := by decide +kernel
theorem dX7_exchange_16 : decode cX7_exchange 16 = .ok (.invokevirtual 68, 3) := by decide +kernel
theorem dX7_exchange_19 : decode cX7_exchange 19 = .ok (.ireturn, 1) := by decide +kernel
theorem dX7_exchange_20 : decode cX7_exchange 20 = .ok (.aload_n 0, 1) := by decide +kernel
theorem dX7_exchange_21 : decode cX7_exchange 21 = .ok (.invokevirtual 75, 3) := by decide +kernel
theorem dX7_exchange_24 : decode cX7_exchange 24 = .ok (.aload_n 0, 1) := by decide +kernel
theorem dX7_exchange_25 : decode cX7_exchange 25 = .ok (.iload_n 1, 1) := by decide +kernel
theorem dX7_exchange_26 : decode cX7_exchange 26 = .ok (.aload_n 0, 1) := by decide +kernel
theorem dX7_exchange_27 : decode cX7_exchange 27 = .ok (.getfield 7, 3) := by decide +kernel
theorem dX7_exchange_30 : decode cX7_exchange 30 = .ok (.iload_n 2, 1) := by decide +kernel
theorem dX7_exchange_31 : decode cX7_exchange 31 = .ok (.iaload, 1) := by decide +kernel
theorem dX7_exchange_32 : decode cX7_exchange 32 = .ok (.invokevirtual 78, 3) := by decide +kernel
theorem dX7_exchange_35 : decode cX7_exchange 35 = .ok (.istore_n 3, 1) := by decide +kernel
theorem dX7_exchange_36 : decode cX7_exchange 36 = .ok (.aload_n 0, 1) := by decide +kernel
theorem dX7_exchange_37 : decode cX7_exchange 37 = .ok (.getfield 7, 3) := by decide +kernel
theorem dX7_exchange_40 : decode cX7_exchange 40 = .ok (.iload_n 2, 1) := by decide +kernel
theorem dX7_exchange_41 : decode cX7_exchange 41 = .ok (.iload_n 3, 1) := by decide +kernel
theorem dX7_exchange_42 : decode cX7_exchange 42 = .ok (.iastore, 1) := by decide +kernel
theorem dX7_exchange_43 : decode cX7_exchange 43 = .ok (.aload_n 0, 1) := by decide +kernel
theorem dX7_exchange_44 : decode cX7_exchange 44 = .ok (.getfield 7, 3) := by decide +kernel
theorem dX7_exchange_47 : decode cX7_exchange 47 = .ok (.iload_n 1, 1) := by decide +kernel
theorem dX7_exchange_48 : decode cX7_exchange 48 = .ok (.iaload, 1) := by decide +kernel
theorem dX7_exchange_49 : decode cX7_exchange 49 = .ok (.ireturn, 1) := by decide +kernel
set_option maxRecDepth 20000 in
theorem ggX7_type_X7_fails : GoodIn wsX7_type wsX7_fails := goodIn_r _ [8, 2, 9, 10, 11, 12, 13, 14, 15, 16, 17, 18, 19, 20, 21, 22, 23, 24, 25] (by decide +kernel) (by decide +kernel)
set_option maxRecDepth 20000 in
theorem gX7_type_X7_fails : GoodIn wsX7_type (wsV RX7 68 RX7 yX7_fails wsX7_fails) := goodIn_app (goodIn_of _ (by decide +kernel)) ggX7_type_X7_fails
theorem dX7_type_0 : decode cX7_type 0 = .ok (.aload_n 0, 1) := by decide +kernel
theorem dX7_type_1 : decode cX7_type 1 = .ok (.getfield 87, 3) := by decide +kernel
theorem dX7_type_4 : decode cX7_type 4 = .ok (.bipush 60, 2) := by decide +kernel
theorem dX7_type_6 : decode cX7_type 6 = .ok (.if_icmp .ne 9, 3) := by decide +kernel
theorem dX7_type_9 : decode cX7_type 9 = .ok (.aload_n 0, 1) := by decide +kernel
theorem dX7_type_10 : decode cX7_type 10 = .ok (.iconst 1, 1) := by decide +kernel
theorem dX7_type_11 : decode cX7_type 11 = .ok (.invokevirtual 68, 3) := by decide +kernel
theorem dX7_type_14 : decode cX7_type 14 = .ok (.ireturn, 1) := by decide +kernel
theorem dX7_type_15 : decode cX7_type 15 = .ok (.aload_n 0, 1) := by decide +kernel
theorem dX7_type_16 : decode cX7_type 16 = .ok (.iconst 0, 1) := by decide +kernel
theorem dX7_type_17 : decode cX7_type 17 = .ok (.putfield 31, 3) := by decide +kernel
theorem dX7_type_20 : decode cX7_type 20 = .ok (.aload_n 0, 1) := by decide +kernel
theorem dX7_type_21 : decode cX7_type 21 = .ok (.getfield 22, 3) := by decide +kernel
theorem dX7_type_24 : decode cX7_type 24 = .ok (.aload_n 0, 1) := by decide +kernel
theorem dX7_type_25 : decode cX7_type 25 = .ok (.getfield 87, 3) := by decide +kernel
theorem dX7_type_28 : decode cX7_type 28 = .ok (.iload_n 1, 1) := by decide +kernel
theorem dX7_type_29 : decode cX7_type 29 = .ok (.iastore, 1) := by decide +kernel
theorem dX7_type_30 : decode cX7_type 30 = .ok (.aload_n 0, 1) := by decide +kernel
theorem dX7_type_31 : decode cX7_type 31 = .ok (.dup, 1) := by decide +kernel
theorem dX7_type_32 : decode cX7_type 32 = .ok (.getfield 87, 3) := by decide +kernel
theorem dX7_type_35 : decode cX7_type 35 = .ok (.iconst 1, 1) := by decide +kernel
theorem dX7_type_36 : decode cX7_type 36 = .ok (.iadd, 1) := by decide +kernel
theorem dX7_type_37 : decode cX7_type 37 = .ok (.putfield 87, 3) := by decide +kernel
theorem dX7_type_40 : decode cX7_type 40 = .ok (.aload_n 0, 1) := by decide +kernel
theorem dX7_type_41 : decode cX7_type 41 = .ok (.getfield 87, 3) := by decide +kernel
theorem dX7_type_44 : decode cX7_type 44 = .ok (.ireturn, 1) := by decide +kernel
theorem dX7_clearProgram_0 : decode cX7_clearProgram 0 = .ok (.aload_n 0, 1) := by decide +kernel
theorem dX7_clearProgram_1 : decode cX7_clearProgram 1 = .ok (.iconst 0, 1) := by decide +kernel
theorem dX7_clearProgram_2 : decode cX7_clearProgram 2 = .ok (.putfield 31, 3) := by decide +kernel
theorem dX7_clearProgram_5 : decode cX7_clearProgram 5 = .ok (.aload_n 0, 1) := by decide +kernel
theorem dX7_clearProgram_6 : decode cX7_clearProgram 6 = .ok (.getfield 87, 3) := by decide +kernel
theorem dX7_clearProgram_9 : decode cX7_clearProgram 9 = .ok (.istore_n 1, 1) := by decide +kernel
theorem dX7_clearProgram_10 : decode cX7_clearProgram 10 = .ok (.aload_n 0, 1) := by decide +kernel
theorem dX7_clearProgram_11 : decode cX7_clearProgram 11 = .ok (.iconst 0, 1) := by decide +kernel
theorem dX7_clearProgram_12 : decode cX7_clearProgram 12 = .ok (.putfield 87, 3) := by decide +kernel
theorem dX7_clearProgram_15 : decode cX7_clearProgram 15 = .ok (.iload_n 1, 1) := by decide +kernel
theorem dX7_clearProgram_16 : decode cX7_clearProgram 16 = .ok (.ireturn, 1) := by decide +kernel
set_option maxRecDepth 20000 in
theorem ggX7_isHere_X7_in : GoodIn wsX7_isHere wsX7_in := goodIn_r _ [7] (by decide +kernel) (by decide +kernel)
set_option maxRecDepth 20000 in
theorem gX7_isHere_X7_in : GoodIn wsX7_isHere (va_wsS RX7 40 yX7_in wsX7_in) := goodIn_app (goodIn_of _ (by decide +kernel)) ggX7_isHere_X7_in
theorem dX7_isHere_0 : decode cX7_isHere 0 = .ok (.aload_n 0, 1) := by decide +kernel
theorem dX7_isHere_1 : decode cX7_isHere 1 = .ok (.getfield 90, 3) := by decide +kernel
theorem dX7_isHere_4 : decode cX7_isHere 4 = .ok (.aload_n 0, 1) := by decide +kernel
theorem dX7_isHere_5 : decode cX7_isHere 5 = .ok (.getfield 87, 3) := by decide +kernel
theorem dX7_isHere_8 : decode cX7_isHere 8 = .ok (.if_icmp .ge 27, 3) := by decide +kernel
theorem dX7_isHere_11 : decode cX7_isHere 11 = .ok (.aload_n 0, 1) := by decide +kernel
theorem dX7_isHere_12 : decode cX7_isHere 12 = .ok (.getfield 22, 3) := by decide +kernel
theorem dX7_isHere_15 : decode cX7_isHere 15 = .ok (.aload_n 0, 1) := by decide +kernel
theorem dX7_isHere_16 : decode cX7_isHere 16 = .ok (.getfield 90, 3) := by decide +kernel
theorem dX7_isHere_19 : decode cX7_isHere 19 = .ok (.iaload, 1) := by decide +kernel
theorem dX7_isHere_20 : decode cX7_isHere 20 = .ok (.i2l, 1) := by decide +kernel
theorem dX7_isHere_21 : decode cX7_isHere 21 = .ok (.iload_n 1, 1) := by decide +kernel
theorem dX7_isHere_22 : decode cX7_isHere 22 = .ok (.i2l, 1) := by decide +kernel
theorem dX7_isHere_23 : decode cX7_isHere 23 = .ok (.iload_n 2, 1) := by decide +kernel
theorem dX7_isHere_24 : decode cX7_isHere 24 = .ok (.i2l, 1) := by decide +kernel
theorem dX7_isHere_25 : decode cX7_isHere 25 = .ok (.invokestatic 40, 3) := by decide +kernel
theorem dX7_isHere_28 : decode cX7_isHere 28 = .ok (.ifCond .eq 7, 3) := by decide +kernel
theorem dX7_isHere_31 : decode cX7_isHere 31 = .ok (.iconst 1, 1) := by decide +kernel
theorem dX7_isHere_32 : decode cX7_isHere 32 = .ok (.goto 4, 3) := by decide +kernel
theorem dX7_isHere_35 : decode cX7_isHere 35 = .ok (.iconst 0, 1) := by decide +kernel
theorem dX7_isHere_36 : decode cX7_isHere 36 = .ok (.ireturn, 1) := by decide +kernel
