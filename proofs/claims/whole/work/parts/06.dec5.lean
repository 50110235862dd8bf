set_option maxRecDepth 20000 in
theorem ggX7_takesOne_X7_isHere : GoodIn wsX7_takesOne wsX7_isHere := goodIn_r _ [6, 1, 7, 8, 9, 10, 5, 11, 12, 13, 14, 15, 16, 17, 18, 19, 20, 21, 22, 23, 24, 25, 26, 27, 28] (by decide +kernel) (by decide +kernel)
set_option maxRecDepth 20000 in
theorem gX7_takesOne_X7_isHere : GoodIn wsX7_takesOne (wsV RX7 93 RX7 yX7_isHere wsX7_isHere) := goodIn_app (goodIn_of _ (by decide +kernel)) ggX7_takesOne_X7_isHere
theorem dX7_takesOne_0 : decode cX7_takesOne 0 = .ok (.aload_n 0, 1) := by decide +kernel
theorem dX7_takesOne_1 : decode cX7_takesOne 1 = .ok (.iload_n 1, 1) := by decide +kernel
theorem dX7_takesOne_2 : decode cX7_takesOne 2 = .ok (.iload_n 1, 1) := by decide +kernel
theorem dX7_takesOne_3 : decode cX7_takesOne 3 = .ok (.invokevirtual 93, 3) := by decide +kernel
theorem dX7_takesOne_6 : decode cX7_takesOne 6 = .ok (.istore_n 2, 1) := by decide +kernel
theorem dX7_takesOne_7 : decode cX7_takesOne 7 = .ok (.aload_n 0, 1) := by decide +kernel
theorem dX7_takesOne_8 : decode cX7_takesOne 8 = .ok (.dup, 1) := by decide +kernel
theorem dX7_takesOne_9 : decode cX7_takesOne 9 = .ok (.getfield 90, 3) := by decide +kernel
theorem dX7_takesOne_12 : decode cX7_takesOne 12 = .ok (.iload_n 2, 1) := by decide +kernel
theorem dX7_takesOne_13 : decode cX7_takesOne 13 = .ok (.ifCond .eq 7, 3) := by decide +kernel
theorem dX7_takesOne_16 : decode cX7_takesOne 16 = .ok (.iconst 1, 1) := by decide +kernel
theorem dX7_takesOne_17 : decode cX7_takesOne 17 = .ok (.goto 4, 3) := by decide +kernel
theorem dX7_takesOne_20 : decode cX7_takesOne 20 = .ok (.iconst 0, 1) := by decide +kernel
theorem dX7_takesOne_21 : decode cX7_takesOne 21 = .ok (.iadd, 1) := by decide +kernel
theorem dX7_takesOne_22 : decode cX7_takesOne 22 = .ok (.putfield 90, 3) := by decide +kernel
theorem dX7_takesOne_25 : decode cX7_takesOne 25 = .ok (.iload_n 2, 1) := by decide +kernel
theorem dX7_takesOne_26 : decode cX7_takesOne 26 = .ok (.ireturn, 1) := by decide +kernel
set_option maxRecDepth 20000 in
theorem ggX7_readsOperand_X7_isHere : GoodIn wsX7_readsOperand wsX7_isHere := goodIn_r _ [9, 2, 10, 1, 11, 12, 8, 13, 14, 15, 16, 17, 18, 19, 20, 21, 22, 23, 24, 25, 26, 27, 28, 29, 30] (by decide +kernel) (by decide +kernel)
set_option maxRecDepth 20000 in
theorem gX7_readsOperand_X7_isHere : GoodIn wsX7_readsOperand (wsV RX7 93 RX7 yX7_isHere wsX7_isHere) := goodIn_app (goodIn_of _ (by decide +kernel)) ggX7_readsOperand_X7_isHere
theorem dX7_readsOperand_0 : decode cX7_readsOperand 0 = .ok (.aload_n 0, 1) := by decide +kernel
theorem dX7_readsOperand_1 : decode cX7_readsOperand 1 = .ok (.bipush 65, 2) := by decide +kernel
theorem dX7_readsOperand_3 : decode cX7_readsOperand 3 = .ok (.bipush 72, 2) := by decide +kernel
theorem dX7_readsOperand_5 : decode cX7_readsOperand 5 = .ok (.invokevirtual 93, 3) := by decide +kernel
theorem dX7_readsOperand_8 : decode cX7_readsOperand 8 = .ok (.ifCond .eq 33, 3) := by decide +kernel
theorem dX7_readsOperand_11 : decode cX7_readsOperand 11 = .ok (.aload_n 0, 1) := by decide +kernel
theorem dX7_readsOperand_12 : decode cX7_readsOperand 12 = .ok (.bipush 65, 2) := by decide +kernel
theorem dX7_readsOperand_14 : decode cX7_readsOperand 14 = .ok (.aload_n 0, 1) := by decide +kernel
theorem dX7_readsOperand_15 : decode cX7_readsOperand 15 = .ok (.getfield 22, 3) := by decide +kernel
theorem dX7_readsOperand_18 : decode cX7_readsOperand 18 = .ok (.aload_n 0, 1) := by decide +kernel
theorem dX7_readsOperand_19 : decode cX7_readsOperand 19 = .ok (.getfield 90, 3) := by decide +kernel
theorem dX7_readsOperand_22 : decode cX7_readsOperand 22 = .ok (.iaload, 1) := by decide +kernel
theorem dX7_readsOperand_23 : decode cX7_readsOperand 23 = .ok (.isub, 1) := by decide +kernel
theorem dX7_readsOperand_24 : decode cX7_readsOperand 24 = .ok (.iconst 1, 1) := by decide +kernel
theorem dX7_readsOperand_25 : decode cX7_readsOperand 25 = .ok (.isub, 1) := by decide +kernel
theorem dX7_readsOperand_26 : decode cX7_readsOperand 26 = .ok (.putfield 97, 3) := by decide +kernel
theorem dX7_readsOperand_29 : decode cX7_readsOperand 29 = .ok (.aload_n 0, 1) := by decide +kernel
theorem dX7_readsOperand_30 : decode cX7_readsOperand 30 = .ok (.dup, 1) := by decide +kernel
theorem dX7_readsOperand_31 : decode cX7_readsOperand 31 = .ok (.getfield 90, 3) := by decide +kernel
theorem dX7_readsOperand_34 : decode cX7_readsOperand 34 = .ok (.iconst 1, 1) := by decide +kernel
theorem dX7_readsOperand_35 : decode cX7_readsOperand 35 = .ok (.iadd, 1) := by decide +kernel
theorem dX7_readsOperand_36 : decode cX7_readsOperand 36 = .ok (.putfield 90, 3) := by decide +kernel
theorem dX7_readsOperand_39 : decode cX7_readsOperand 39 = .ok (.iconst 1, 1) := by decide +kernel
theorem dX7_readsOperand_40 : decode cX7_readsOperand 40 = .ok (.ireturn, 1) := by decide +kernel
theorem dX7_readsOperand_41 : decode cX7_readsOperand 41 = .ok (.aload_n 0, 1) := by decide +kernel
theorem dX7_readsOperand_42 : decode cX7_readsOperand 42 = .ok (.bipush 48, 2) := by decide +kernel
theorem dX7_readsOperand_44 : decode cX7_readsOperand 44 = .ok (.bipush 57, 2) := by decide +kernel
theorem dX7_readsOperand_46 : decode cX7_readsOperand 46 = .ok (.invokevirtual 93, 3) := by decide +kernel
theorem dX7_readsOperand_49 : decode cX7_readsOperand 49 = .ok (.ifCond .ne 5, 3) := by decide +kernel
theorem dX7_readsOperand_52 : decode cX7_readsOperand 52 = .ok (.iconst 0, 1) := by decide +kernel
theorem dX7_readsOperand_53 : decode cX7_readsOperand 53 = .ok (.ireturn, 1) := by decide +kernel
theorem dX7_readsOperand_54 : decode cX7_readsOperand 54 = .ok (.aload_n 0, 1) := by decide +kernel
theorem dX7_readsOperand_55 : decode cX7_readsOperand 55 = .ok (.aload_n 0, 1) := by decide +kernel
theorem dX7_readsOperand_56 : decode cX7_readsOperand 56 = .ok (.getfield 22, 3) := by decide +kernel
theorem dX7_readsOperand_59 : decode cX7_readsOperand 59 = .ok (.aload_n 0, 1) := by decide +kernel
theorem dX7_readsOperand_60 : decode cX7_readsOperand 60 = .ok (.getfield 90, 3) := by decide +kernel
theorem dX7_readsOperand_63 : decode cX7_readsOperand 63 = .ok (.iaload, 1) := by decide +kernel
theorem dX7_readsOperand_64 : decode cX7_readsOperand 64 = .ok (.bipush 48, 2) := by decide +kernel
theorem dX7_readsOperand_66 : decode cX7_readsOperand 66 = .ok (.isub, 1) := by decide +kernel
theorem dX7_readsOperand_67 : decode cX7_readsOperand 67 = .ok (.putfield 97, 3) := by decide +kernel
theorem dX7_readsOperand_70 : decode cX7_readsOperand 70 = .ok (.aload_n 0, 1) := by decide +kernel
theorem dX7_readsOperand_71 : decode cX7_readsOperand 71 = .ok (.dup, 1) := by decide +kernel
theorem dX7_readsOperand_72 : decode cX7_readsOperand 72 = .ok (.getfield 90, 3) := by decide +kernel
theorem dX7_readsOperand_75 : decode cX7_readsOperand 75 = .ok (.iconst 1, 1) := by decide +kernel
theorem dX7_readsOperand_76 : decode cX7_readsOperand 76 = .ok (.iadd, 1) := by decide +kernel
theorem dX7_readsOperand_77 : decode cX7_readsOperand 77 = .ok (.putfield 90, 3) := by decide +kernel
theorem dX7_readsOperand_80 : decode cX7_readsOperand 80 = .ok (.aload_n 0, 1) := by decide +kernel
theorem dX7_readsOperand_81 : decode cX7_readsOperand 81 = .ok (.getfield 97, 3) := by decide +kernel
theorem dX7_readsOperand_84 : decode cX7_readsOperand 84 = .ok (.ifCond .le 76, 3) := by decide +kernel
theorem dX7_readsOperand_87 : decode cX7_readsOperand 87 = .ok (.aload_n 0, 1) := by decide +kernel
theorem dX7_readsOperand_88 : decode cX7_readsOperand 88 = .ok (.bipush 48, 2) := by decide +kernel
theorem dX7_readsOperand_90 : decode cX7_readsOperand 90 = .ok (.bipush 57, 2) := by decide +kernel
theorem dX7_readsOperand_92 : decode cX7_readsOperand 92 = .ok (.invokevirtual 93, 3) := by decide +kernel
theorem dX7_readsOperand_95 : decode cX7_readsOperand 95 = .ok (.ifCond .eq 65, 3) := by decide +kernel
theorem dX7_readsOperand_98 : decode cX7_readsOperand 98 = .ok (.bipush 10, 2) := by decide +kernel
theorem dX7_readsOperand_100 : decode cX7_readsOperand 100 = .ok (.aload_n 0, 1) := by decide +kernel
theorem dX7_readsOperand_101 : decode cX7_readsOperand 101 = .ok (.getfield 97, 3) := by decide +kernel
theorem dX7_readsOperand_104 : decode cX7_readsOperand 104 = .ok (.imul, 1) := by decide +kernel
theorem dX7_readsOperand_105 : decode cX7_readsOperand 105 = .ok (.aload_n 0, 1) := by decide +kernel
theorem dX7_readsOperand_106 : decode cX7_readsOperand 106 = .ok (.getfield 22, 3) := by decide +kernel
theorem dX7_readsOperand_109 : decode cX7_readsOperand 109 = .ok (.aload_n 0, 1) := by decide +kernel
theorem dX7_readsOperand_110 : decode cX7_readsOperand 110 = .ok (.getfield 90, 3) := by decide +kernel
theorem dX7_readsOperand_113 : decode cX7_readsOperand 113 = .ok (.iaload, 1) := by decide +kernel
theorem dX7_readsOperand_114 : decode cX7_readsOperand 114 = .ok (.iadd, 1) := by decide +kernel
theorem dX7_readsOperand_115 : decode cX7_readsOperand 115 = .ok (.bipush 48, 2) := by decide +kernel
theorem dX7_readsOperand_117 : decode cX7_readsOperand 117 = .ok (.isub, 1) := by decide +kernel
theorem dX7_readsOperand_118 : decode cX7_readsOperand 118 = .ok (.ldc 100, 2) := by decide +kernel
theorem dX7_readsOperand_120 : decode cX7_readsOperand 120 = .ok (.if_icmp .gt 40, 3) := by decide +kernel
theorem dX7_readsOperand_123 : decode cX7_readsOperand 123 = .ok (.aload_n 0, 1) := by decide +kernel
theorem dX7_readsOperand_124 : decode cX7_readsOperand 124 = .ok (.bipush 10, 2) := by decide +kernel
theorem dX7_readsOperand_126 : decode cX7_readsOperand 126 = .ok (.aload_n 0, 1) := by decide +kernel
theorem dX7_readsOperand_127 : decode cX7_readsOperand 127 = .ok (.getfield 97, 3) := by decide +kernel
theorem dX7_readsOperand_130 : decode cX7_readsOperand 130 = .ok (.imul, 1) := by decide +kernel
theorem dX7_readsOperand_131 : decode cX7_readsOperand 131 = .ok (.aload_n 0, 1) := by decide +kernel
theorem dX7_readsOperand_132 : decode cX7_readsOperand 132 = .ok (.getfield 22, 3) := by decide +kernel
theorem dX7_readsOperand_135 : decode cX7_readsOperand 135 = .ok (.aload_n 0, 1) := by decide +kernel
theorem dX7_readsOperand_136 : decode cX7_readsOperand 136 = .ok (.getfield 90, 3) := by decide +kernel
theorem dX7_readsOperand_139 : decode cX7_readsOperand 139 = .ok (.iaload, 1) := by decide +kernel
theorem dX7_readsOperand_140 : decode cX7_readsOperand 140 = .ok (.iadd, 1) := by decide +kernel
theorem dX7_readsOperand_141 : decode cX7_readsOperand 141 = .ok (.bipush 48, 2) := by decide +kernel
theorem dX7_readsOperand_143 : decode cX7_readsOperand 143 = .ok (.isub, 1) := by decide +kernel
theorem dX7_readsOperand_144 : decode cX7_readsOperand 144 = .ok (.putfield 97, 3) := by decide +kernel
theorem dX7_readsOperand_147 : decode cX7_readsOperand 147 = .ok (.aload_n 0, 1) := by decide +kernel
theorem dX7_readsOperand_148 : decode cX7_readsOperand 148 = .ok (.dup, 1) := by decide +kernel
theorem dX7_readsOperand_149 : decode cX7_readsOperand 149 = .ok (.getfield 90, 3) := by decide +kernel
theorem dX7_readsOperand_152 : decode cX7_readsOperand 152 = .ok (.iconst 1, 1) := by decide +kernel
theorem dX7_readsOperand_153 : decode cX7_readsOperand 153 = .ok (.iadd, 1) := by decide +kernel
theorem dX7_readsOperand_154 : decode cX7_readsOperand 154 = .ok (.putfield 90, 3) := by decide +kernel
theorem dX7_readsOperand_157 : decode cX7_readsOperand 157 = .ok (.goto (-77), 3) := by decide +kernel
theorem dX7_readsOperand_160 : decode cX7_readsOperand 160 = .ok (.iconst 1, 1) := by decide +kernel
theorem dX7_readsOperand_161 : decode cX7_readsOperand 161 = .ok (.ireturn, 1) := by decide +kernel
set_option maxRecDepth 20000 in
theorem ggX7_readsStep_X7_isHere : GoodIn wsX7_readsStep wsX7_isHere := goodIn_r _ [12, 2, 13, 1, 14, 15, 11, 16, 26, 27, 28, 29, 30, 31, 32, 33, 34, 35, 36, 37, 38, 39, 40, 41, 42] (by decide +kernel) (by decide +kernel)
set_option maxRecDepth 20000 in
theorem gX7_readsStep_X7_isHere : GoodIn wsX7_readsStep (wsV RX7 93 RX7 yX7_isHere wsX7_isHere) := goodIn_app (goodIn_of _ (by decide +kernel)) ggX7_readsStep_X7_isHere
set_option maxRecDepth 20000 in
theorem ggX7_readsStep_X7_takesOne : GoodIn wsX7_readsStep wsX7_takesOne := goodIn_r _ [20, 2, 8, 9, 10, 11, 12, 13, 1, 14, 15, 16, 26, 27, 28, 29, 30, 31, 32, 33, 34, 35, 36, 37, 38, 39, 40, 41, 42] (by decide +kernel) (by decide +kernel)
set_option maxRecDepth 20000 in
theorem gX7_readsStep_X7_takesOne : GoodIn wsX7_readsStep (wsV RX7 104 RX7 yX7_takesOne wsX7_takesOne) := goodIn_app (goodIn_of _ (by decide +kernel)) ggX7_readsStep_X7_takesOne
set_option maxRecDepth 20000 in
theorem ggX7_readsStep_X7_readsOperand : GoodIn wsX7_readsStep wsX7_readsOperand := goodIn_r _ [24, 1, 2, 5, 25, 8, 9, 10, 11, 12, 13, 14, 15, 16, 26, 27, 28, 29, 30, 31, 32, 33, 34, 35, 36, 37, 38, 39, 40, 41, 42] (by decide +kernel) (by decide +kernel)
set_option maxRecDepth 20000 in
theorem gX7_readsStep_X7_readsOperand : GoodIn wsX7_readsStep (wsV RX7 110 RX7 yX7_readsOperand wsX7_readsOperand) := goodIn_app (goodIn_of _ (by decide +kernel)) ggX7_readsStep_X7_readsOperand
theorem dX7_readsStep_0 : decode cX7_readsStep 0 = .ok (.aload_n 0, 1) := by decide +kernel
theorem dX7_readsStep_1 : decode cX7_readsStep 1 = .ok (.bipush 65, 2) := by decide +kernel
theorem dX7_readsStep_3 : decode cX7_readsStep 3 = .ok (.bipush 72, 2) := by decide +kernel
theorem dX7_readsStep_5 : decode cX7_readsStep 5 = .ok (.invokevirtual 93, 3) := by decide +kernel
theorem dX7_readsStep_8 : decode cX7_readsStep 8 = .ok (.ifCond .ne 5, 3) := by decide +kernel
theorem dX7_readsStep_11 : decode cX7_readsStep 11 = .ok (.iconst 0, 1) := by decide +kernel
theorem dX7_readsStep_12 : decode cX7_readsStep 12 = .ok (.ireturn, 1) := by decide +kernel
theorem dX7_readsStep_13 : decode cX7_readsStep 13 = .ok (.aload_n 0, 1) := by decide +kernel
theorem dX7_readsStep_14 : decode cX7_readsStep 14 = .ok (.aload_n 0, 1) := by decide +kernel
theorem dX7_readsStep_15 : decode cX7_readsStep 15 = .ok (.getfield 22, 3) := by decide +kernel
theorem dX7_readsStep_18 : decode cX7_readsStep 18 = .ok (.aload_n 0, 1) := by decide +kernel
theorem dX7_readsStep_19 : decode cX7_readsStep 19 = .ok (.getfield 90, 3) := by decide +kernel
theorem dX7_readsStep_22 : decode cX7_readsStep 22 = .ok (.iaload, 1) := by decide +kernel
theorem dX7_readsStep_23 : decode cX7_readsStep 23 = .ok (.bipush 65, 2) := by decide +kernel
theorem dX7_readsStep_25 : decode cX7_readsStep 25 = .ok (.isub, 1) := by decide +kernel
theorem dX7_readsStep_26 : decode cX7_readsStep 26 = .ok (.putfield 101, 3) := by decide +kernel
theorem dX7_readsStep_29 : decode cX7_readsStep 29 = .ok (.aload_n 0, 1) := by decide +kernel
theorem dX7_readsStep_30 : decode cX7_readsStep 30 = .ok (.dup, 1) := by decide +kernel
theorem dX7_readsStep_31 : decode cX7_readsStep 31 = .ok (.getfield 90, 3) := by decide +kernel
theorem dX7_readsStep_34 : decode cX7_readsStep 34 = .ok (.iconst 1, 1) := by decide +kernel
theorem dX7_readsStep_35 : decode cX7_readsStep 35 = .ok (.iadd, 1) := by decide +kernel
theorem dX7_readsStep_36 : decode cX7_readsStep 36 = .ok (.putfield 90, 3) := by decide +kernel
theorem dX7_readsStep_39 : decode cX7_readsStep 39 = .ok (.aload_n 0, 1) := by decide +kernel
theorem dX7_readsStep_40 : decode cX7_readsStep 40 = .ok (.bipush 61, 2) := by decide +kernel
theorem dX7_readsStep_42 : decode cX7_readsStep 42 = .ok (.invokevirtual 104, 3) := by decide +kernel
theorem dX7_readsStep_45 : decode cX7_readsStep 45 = .ok (.ifCond .ne 5, 3) := by decide +kernel
theorem dX7_readsStep_48 : decode cX7_readsStep 48 = .ok (.iconst 0, 1) := by decide +kernel
theorem dX7_readsStep_49 : decode cX7_readsStep 49 = .ok (.ireturn, 1) := by decide +kernel
theorem dX7_readsStep_50 : decode cX7_readsStep 50 = .ok (.aload_n 0, 1) := by decide +kernel
theorem dX7_readsStep_51 : decode cX7_readsStep 51 = .ok (.aload_n 0, 1) := by decide +kernel
theorem dX7_readsStep_52 : decode cX7_readsStep 52 = .ok (.bipush 126, 2) := by decide +kernel
theorem dX7_readsStep_54 : decode cX7_readsStep 54 = .ok (.bipush 126, 2) := by decide +kernel
theorem dX7_readsStep_56 : decode cX7_readsStep 56 = .ok (.invokevirtual 93, 3) := by decide +kernel
theorem dX7_readsStep_59 : decode cX7_readsStep 59 = .ok (.ifCond .ne 14, 3) := by decide +kernel
theorem dX7_readsStep_62 : decode cX7_readsStep 62 = .ok (.aload_n 0, 1) := by decide +kernel
theorem dX7_readsStep_63 : decode cX7_readsStep 63 = .ok (.bipush 37, 2) := by decide +kernel
theorem dX7_readsStep_65 : decode cX7_readsStep 65 = .ok (.bipush 37, 2) := by decide +kernel
theorem dX7_readsStep_67 : decode cX7_readsStep 67 = .ok (.invokevirtual 93, 3) := by decide +kernel
theorem dX7_readsStep_70 : decode cX7_readsStep 70 = .ok (.ifCond .eq 15, 3) := by decide +kernel
theorem dX7_readsStep_73 : decode cX7_readsStep 73 = .ok (.aload_n 0, 1) := by decide +kernel
theorem dX7_readsStep_74 : decode cX7_readsStep 74 = .ok (.getfield 22, 3) := by decide +kernel
theorem dX7_readsStep_77 : decode cX7_readsStep 77 = .ok (.aload_n 0, 1) := by decide +kernel
theorem dX7_readsStep_78 : decode cX7_readsStep 78 = .ok (.getfield 90, 3) := by decide +kernel
theorem dX7_readsStep_81 : decode cX7_readsStep 81 = .ok (.iaload, 1) := by decide +kernel
theorem dX7_readsStep_82 : decode cX7_readsStep 82 = .ok (.goto 4, 3) := by decide +kernel
theorem dX7_readsStep_85 : decode cX7_readsStep 85 = .ok (.iconst 0, 1) := by decide +kernel
theorem dX7_readsStep_86 : decode cX7_readsStep 86 = .ok (.putfield 107, 3) := by decide +kernel
theorem dX7_readsStep_89 : decode cX7_readsStep 89 = .ok (.aload_n 0, 1) := by decide +kernel
theorem dX7_readsStep_90 : decode cX7_readsStep 90 = .ok (.dup, 1) := by decide +kernel
theorem dX7_readsStep_91 : decode cX7_readsStep 91 = .ok (.getfield 90, 3) := by decide +kernel
theorem dX7_readsStep_94 : decode cX7_readsStep 94 = .ok (.aload_n 0, 1) := by decide +kernel
theorem dX7_readsStep_95 : decode cX7_readsStep 95 = .ok (.getfield 107, 3) := by decide +kernel
theorem dX7_readsStep_98 : decode cX7_readsStep 98 = .ok (.ifCond .eq 7, 3) := by decide +kernel
theorem dX7_readsStep_101 : decode cX7_readsStep 101 = .ok (.iconst 1, 1) := by decide +kernel
theorem dX7_readsStep_102 : decode cX7_readsStep 102 = .ok (.goto 4, 3) := by decide +kernel
theorem dX7_readsStep_105 : decode cX7_readsStep 105 = .ok (.iconst 0, 1) := by decide +kernel
theorem dX7_readsStep_106 : decode cX7_readsStep 106 = .ok (.iadd, 1) := by decide +kernel
theorem dX7_readsStep_107 : decode cX7_readsStep 107 = .ok (.putfield 90, 3) := by decide +kernel
theorem dX7_readsStep_110 : decode cX7_readsStep 110 = .ok (.aload_n 0, 1) := by decide +kernel
theorem dX7_readsStep_111 : decode cX7_readsStep 111 = .ok (.invokevirtual 110, 3) := by decide +kernel
theorem dX7_readsStep_114 : decode cX7_readsStep 114 = .ok (.ifCond .ne 5, 3) := by decide +kernel
theorem dX7_readsStep_117 : decode cX7_readsStep 117 = .ok (.iconst 0, 1) := by decide +kernel
theorem dX7_readsStep_118 : decode cX7_readsStep 118 = .ok (.ireturn, 1) := by decide +kernel
theorem dX7_readsStep_119 : decode cX7_readsStep 119 = .ok (.aload_n 0, 1) := by decide +kernel
theorem dX7_readsStep_120 : decode cX7_readsStep 120 = .ok (.aload_n 0, 1) := by decide +kernel
theorem dX7_readsStep_121 : decode cX7_readsStep 121 = .ok (.getfield 97, 3) := by decide +kernel
theorem dX7_readsStep_124 : decode cX7_readsStep 124 = .ok (.putfield 114, 3) := by decide +kernel
theorem dX7_readsStep_127 : decode cX7_readsStep 127 = .ok (.aload_n 0, 1) := by decide +kernel
theorem dX7_readsStep_128 : decode cX7_readsStep 128 = .ok (.getfield 107, 3) := by decide +kernel
theorem dX7_readsStep_131 : decode cX7_readsStep 131 = .ok (.ifCond .ne 47, 3) := by decide +kernel
theorem dX7_readsStep_134 : decode cX7_readsStep 134 = .ok (.aload_n 0, 1) := by decide +kernel
theorem dX7_readsStep_135 : decode cX7_readsStep 135 = .ok (.bipush 43, 2) := by decide +kernel
theorem dX7_readsStep_137 : decode cX7_readsStep 137 = .ok (.bipush 43, 2) := by decide +kernel
theorem dX7_readsStep_139 : decode cX7_readsStep 139 = .ok (.invokevirtual 93, 3) := by decide +kernel
theorem dX7_readsStep_142 : decode cX7_readsStep 142 = .ok (.ifCond .ne 38, 3) := by decide +kernel
theorem dX7_readsStep_145 : decode cX7_readsStep 145 = .ok (.aload_n 0, 1) := by decide +kernel
theorem dX7_readsStep_146 : decode cX7_readsStep 146 = .ok (.bipush 42, 2) := by decide +kernel
theorem dX7_readsStep_148 : decode cX7_readsStep 148 = .ok (.bipush 42, 2) := by decide +kernel
theorem dX7_readsStep_150 : decode cX7_readsStep 150 = .ok (.invokevirtual 93, 3) := by decide +kernel
theorem dX7_readsStep_153 : decode cX7_readsStep 153 = .ok (.ifCond .ne 27, 3) := by decide +kernel
theorem dX7_readsStep_156 : decode cX7_readsStep 156 = .ok (.aload_n 0, 1) := by decide +kernel
theorem dX7_readsStep_157 : decode cX7_readsStep 157 = .ok (.bipush 47, 2) := by decide +kernel
theorem dX7_readsStep_159 : decode cX7_readsStep 159 = .ok (.bipush 47, 2) := by decide +kernel
theorem dX7_readsStep_161 : decode cX7_readsStep 161 = .ok (.invokevirtual 93, 3) := by decide +kernel
theorem dX7_readsStep_164 : decode cX7_readsStep 164 = .ok (.ifCond .ne 16, 3) := by decide +kernel
theorem dX7_readsStep_167 : decode cX7_readsStep 167 = .ok (.aload_n 0, 1) := by decide +kernel
theorem dX7_readsStep_168 : decode cX7_readsStep 168 = .ok (.bipush 94, 2) := by decide +kernel
theorem dX7_readsStep_170 : decode cX7_readsStep 170 = .ok (.bipush 94, 2) := by decide +kernel
theorem dX7_readsStep_172 : decode cX7_readsStep 172 = .ok (.invokevirtual 93, 3) := by decide +kernel
theorem dX7_readsStep_175 : decode cX7_readsStep 175 = .ok (.ifCond .ne 5, 3) := by decide +kernel
theorem dX7_readsStep_178 : decode cX7_readsStep 178 = .ok (.iconst 1, 1) := by decide +kernel
theorem dX7_readsStep_179 : decode cX7_readsStep 179 = .ok (.ireturn, 1) := by decide +kernel
theorem dX7_readsStep_180 : decode cX7_readsStep 180 = .ok (.aload_n 0, 1) := by decide +kernel
theorem dX7_readsStep_181 : decode cX7_readsStep 181 = .ok (.aload_n 0, 1) := by decide +kernel
theorem dX7_readsStep_182 : decode cX7_readsStep 182 = .ok (.getfield 22, 3) := by decide +kernel
theorem dX7_readsStep_185 : decode cX7_readsStep 185 = .ok (.aload_n 0, 1) := by decide +kernel
theorem dX7_readsStep_186 : decode cX7_readsStep 186 = .ok (.getfield 90, 3) := by decide +kernel
theorem dX7_readsStep_189 : decode cX7_readsStep 189 = .ok (.iaload, 1) := by decide +kernel
theorem dX7_readsStep_190 : decode cX7_readsStep 190 = .ok (.putfield 107, 3) := by decide +kernel
theorem dX7_readsStep_193 : decode cX7_readsStep 193 = .ok (.aload_n 0, 1) := by decide +kernel
theorem dX7_readsStep_194 : decode cX7_readsStep 194 = .ok (.dup, 1) := by decide +kernel
theorem dX7_readsStep_195 : decode cX7_readsStep 195 = .ok (.getfield 90, 3) := by decide +kernel
theorem dX7_readsStep_198 : decode cX7_readsStep 198 = .ok (.iconst 1, 1) := by decide +kernel
theorem dX7_readsStep_199 : decode cX7_readsStep 199 = .ok (.iadd, 1) := by decide +kernel
theorem dX7_readsStep_200 : decode cX7_readsStep 200 = .ok (.putfield 90, 3) := by decide +kernel
theorem dX7_readsStep_203 : decode cX7_readsStep 203 = .ok (.aload_n 0, 1) := by decide +kernel
theorem dX7_readsStep_204 : decode cX7_readsStep 204 = .ok (.invokevirtual 110, 3) := by decide +kernel
theorem dX7_readsStep_207 : decode cX7_readsStep 207 = .ok (.istore_n 1, 1) := by decide +kernel
theorem dX7_readsStep_208 : decode cX7_readsStep 208 = .ok (.aload_n 0, 1) := by decide +kernel
theorem dX7_readsStep_209 : decode cX7_readsStep 209 = .ok (.aload_n 0, 1) := by decide +kernel
theorem dX7_readsStep_210 : decode cX7_readsStep 210 = .ok (.getfield 97, 3) := by decide +kernel
theorem dX7_readsStep_213 : decode cX7_readsStep 213 = .ok (.putfield 117, 3) := by decide +kernel
theorem dX7_readsStep_216 : decode cX7_readsStep 216 = .ok (.iload_n 1, 1) := by decide +kernel
theorem dX7_readsStep_217 : decode cX7_readsStep 217 = .ok (.ireturn, 1) := by decide +kernel
set_option maxRecDepth 20000 in
theorem ggX7_errorOfProgram_X7_readsStep : GoodIn wsX7_errorOfProgram wsX7_readsStep := goodIn_r _ [7, 8, 1, 9, 10, 11, 12, 13, 14, 15, 16, 6, 17, 2, 18, 19, 20, 21, 22, 23, 24, 25, 26, 27, 28, 29, 30, 31, 32, 33, 34, 35, 36, 37, 38, 39, 40, 41, 42, 43, 44, 45, 46] (by decide +kernel) (by decide +kernel)
set_option maxRecDepth 20000 in
theorem gX7_errorOfProgram_X7_readsStep : GoodIn wsX7_errorOfProgram (wsV RX7 120 RX7 yX7_readsStep wsX7_readsStep) := goodIn_app (goodIn_of _ (by decide +kernel)) ggX7_errorOfProgram_X7_readsStep
set_option maxRecDepth 20000 in
theorem ggX7_errorOfProgram_X7_takesOne : GoodIn wsX7_errorOfProgram wsX7_takesOne := goodIn_r _ [24, 1, 14, 15, 16, 6, 17, 2, 8, 18, 19, 20, 30, 31, 32, 33, 34, 35, 36, 37, 38, 39, 40, 41, 42, 43, 44, 45, 46] (by decide +kernel) (by decide +kernel)
set_option maxRecDepth 20000 in
theorem gX7_errorOfProgram_X7_takesOne : GoodIn wsX7_errorOfProgram (wsV RX7 104 RX7 yX7_takesOne wsX7_takesOne) := goodIn_app (goodIn_of _ (by decide +kernel)) ggX7_errorOfProgram_X7_takesOne
theorem dX7_errorOfProgram_0 : decode cX7_errorOfProgram 0 = .ok (.aload_n 0, 1) := by decide +kernel
theorem dX7_errorOfProgram_1 : decode cX7_errorOfProgram 1 = .ok (.iconst 0, 1) := by decide +kernel
theorem dX7_errorOfProgram_2 : decode cX7_errorOfProgram 2 = .ok (.putfield 90, 3) := by decide +kernel
theorem dX7_errorOfProgram_5 : decode cX7_errorOfProgram 5 = .ok (.iconst 1, 1) := by decide +kernel
theorem dX7_errorOfProgram_6 : decode cX7_errorOfProgram 6 = .ok (.istore_n 1, 1) := by decide +kernel
theorem dX7_errorOfProgram_7 : decode cX7_errorOfProgram 7 = .ok (.iload_n 1, 1) := by decide +kernel
theorem dX7_errorOfProgram_8 : decode cX7_errorOfProgram 8 = .ok (.ifCond .eq 25, 3) := by decide +kernel
theorem dX7_errorOfProgram_11 : decode cX7_errorOfProgram 11 = .ok (.aload_n 0, 1) := by decide +kernel
theorem dX7_errorOfProgram_12 : decode cX7_errorOfProgram 12 = .ok (.invokevirtual 120, 3) := by decide +kernel
theorem dX7_errorOfProgram_15 : decode cX7_errorOfProgram 15 = .ok (.ifCond .ne 8, 3) := by decide +kernel
theorem dX7_errorOfProgram_18 : decode cX7_errorOfProgram 18 = .ok (.aload_n 0, 1) := by decide +kernel
theorem dX7_errorOfProgram_19 : decode cX7_errorOfProgram 19 = .ok (.getfield 90, 3) := by decide +kernel
theorem dX7_errorOfProgram_22 : decode cX7_errorOfProgram 22 = .ok (.ireturn, 1) := by decide +kernel
theorem dX7_errorOfProgram_23 : decode cX7_errorOfProgram 23 = .ok (.aload_n 0, 1) := by decide +kernel
theorem dX7_errorOfProgram_24 : decode cX7_errorOfProgram 24 = .ok (.bipush 59, 2) := by decide +kernel
theorem dX7_errorOfProgram_26 : decode cX7_errorOfProgram 26 = .ok (.invokevirtual 104, 3) := by decide +kernel
theorem dX7_errorOfProgram_29 : decode cX7_errorOfProgram 29 = .ok (.istore_n 1, 1) := by decide +kernel
theorem dX7_errorOfProgram_30 : decode cX7_errorOfProgram 30 = .ok (.goto (-23), 3) := by decide +kernel
theorem dX7_errorOfProgram_33 : decode cX7_errorOfProgram 33 = .ok (.aload_n 0, 1) := by decide +kernel
theorem dX7_errorOfProgram_34 : decode cX7_errorOfProgram 34 = .ok (.getfield 90, 3) := by decide +kernel
theorem dX7_errorOfProgram_37 : decode cX7_errorOfProgram 37 = .ok (.aload_n 0, 1) := by decide +kernel
theorem dX7_errorOfProgram_38 : decode cX7_errorOfProgram 38 = .ok (.getfield 87, 3) := by decide +kernel
theorem dX7_errorOfProgram_41 : decode cX7_errorOfProgram 41 = .ok (.if_icmp .ne 7, 3) := by decide +kernel
theorem dX7_errorOfProgram_44 : decode cX7_errorOfProgram 44 = .ok (.iconst (-1), 1) := by decide +kernel
theorem dX7_errorOfProgram_45 : decode cX7_errorOfProgram 45 = .ok (.goto 7, 3) := by decide +kernel
theorem dX7_errorOfProgram_48 : decode cX7_errorOfProgram 48 = .ok (.aload_n 0, 1) := by decide +kernel
theorem dX7_errorOfProgram_49 : decode cX7_errorOfProgram 49 = .ok (.getfield 90, 3) := by decide +kernel
theorem dX7_errorOfProgram_52 : decode cX7_errorOfProgram 52 = .ok (.ireturn, 1) := by decide +kernel
set_option maxRecDepth 20000 in
theorem ggX7_programError_X7_errorOfProgram : GoodIn wsX7_programError wsX7_errorOfProgram := goodIn_r _ [5, 6, 7, 8, 9, 10, 4, 11, 12, 13, 14, 15, 16, 17, 18, 19, 20, 21, 22, 23, 24, 25, 26, 27, 28, 29, 30, 31, 32, 33, 39, 40, 41, 42, 43, 44, 45, 46, 47, 48, 49, 50, 51, 52, 53, 54, 55] (by decide +kernel) (by decide +kernel)
set_option maxRecDepth 20000 in
theorem gX7_programError_X7_errorOfProgram : GoodIn wsX7_programError (wsV RX7 123 RX7 yX7_errorOfProgram wsX7_errorOfProgram) := goodIn_app (goodIn_of _ (by decide +kernel)) ggX7_programError_X7_errorOfProgram
set_option maxRecDepth 20000 in
theorem ggX7_programError_X7_told : GoodIn wsX7_programError wsX7_told := goodIn_r _ [37, 38, 39, 40, 41, 42, 43, 44, 45, 46, 47, 48, 49, 50, 51, 52, 53, 54, 55] (by decide +kernel) (by decide +kernel)
set_option maxRecDepth 20000 in
theorem gX7_programError_X7_told : GoodIn wsX7_programError (wsV RX7 127 RX7 yX7_told wsX7_told) := goodIn_app (goodIn_of _ (by decide +kernel)) ggX7_programError_X7_told
theorem dX7_programError_0 : decode cX7_programError 0 = .ok (.aload_n 0, 1) := by decide +kernel
theorem dX7_programError_1 : decode cX7_programError 1 = .ok (.aload_n 0, 1) := by decide +kernel
theorem dX7_programError_2 : decode cX7_programError 2 = .ok (.invokevirtual 123, 3) := by decide +kernel
theorem dX7_programError_5 : decode cX7_programError 5 = .ok (.invokevirtual 127, 3) := by decide +kernel
theorem dX7_programError_8 : decode cX7_programError 8 = .ok (.ireturn, 1) := by decide +kernel
theorem dX7_valueOf_0 : decode cX7_valueOf 0 = .ok (.iload_n 1, 1) := by decide +kernel
theorem dX7_valueOf_1 : decode cX7_valueOf 1 = .ok (.ifCond .ge 15, 3) := by decide +kernel
theorem dX7_valueOf_4 : decode cX7_valueOf 4 = .ok (.aload_n 0, 1) := by decide +kernel
theorem dX7_valueOf_5 : decode cX7_valueOf 5 = .ok (.getfield 7, 3) := by decide +kernel
theorem dX7_valueOf_8 : decode cX7_valueOf 8 = .ok (.iload_n 1, 1) := by decide +kernel
theorem dX7_valueOf_9 : decode cX7_valueOf 9 = .ok (.ineg, 1) := by decide +kernel
theorem dX7_valueOf_10 : decode cX7_valueOf 10 = .ok (.iconst 1, 1) := by decide +kernel
theorem dX7_valueOf_11 : decode cX7_valueOf 11 = .ok (.isub, 1) := by decide +kernel
theorem dX7_valueOf_12 : decode cX7_valueOf 12 = .ok (.iaload, 1) := by decide +kernel
theorem dX7_valueOf_13 : decode cX7_valueOf 13 = .ok (.goto 4, 3) := by decide +kernel
theorem dX7_valueOf_16 : decode cX7_valueOf 16 = .ok (.iload_n 1, 1) := by decide +kernel
theorem dX7_valueOf_17 : decode cX7_valueOf 17 = .ok (.ireturn, 1) := by decide +kernel
set_option maxRecDepth 20000 in
theorem ggX7_does_X7_valueOf : GoodIn wsX7_does wsX7_valueOf := goodIn_r _ [10, 4, 34, 35, 36, 37, 38, 39, 40, 41, 42, 43, 44, 45, 46, 47, 48, 49, 50] (by decide +kernel) (by decide +kernel)
set_option maxRecDepth 20000 in
theorem gX7_does_X7_valueOf : GoodIn wsX7_does (wsV RX7 130 RX7 yX7_valueOf wsX7_valueOf) := goodIn_app (goodIn_of _ (by decide +kernel)) ggX7_does_X7_valueOf
set_option maxRecDepth 20000 in
theorem ggX7_does_X7_inverted : GoodIn wsX7_does wsX7_inverted := goodIn_r _ [13, 14, 15, 16, 9, 17, 18, 19, 20, 21, 22, 23, 24, 25, 26, 27, 28, 29] (by decide +kernel) (by decide +kernel)
set_option maxRecDepth 20000 in
theorem gX7_does_X7_inverted : GoodIn wsX7_does (va_wsS RX7 81 yX7_inverted wsX7_inverted) := goodIn_app (goodIn_of _ (by decide +kernel)) ggX7_does_X7_inverted
set_option maxRecDepth 20000 in
theorem ggX7_does_X7_root : GoodIn wsX7_does wsX7_root := goodIn_r _ [32, 33, 15, 16, 9, 17, 18, 19, 20, 21, 22, 23, 24, 25, 26, 27, 28, 29] (by decide +kernel) (by decide +kernel)
set_option maxRecDepth 20000 in
theorem gX7_does_X7_root : GoodIn wsX7_does (va_wsS RX7 84 yX7_root wsX7_root) := goodIn_app (goodIn_of _ (by decide +kernel)) ggX7_does_X7_root
set_option maxRecDepth 20000 in
theorem ggX7_does_X7_times : GoodIn wsX7_does wsX7_times := goodIn_r _ [20, 21, 22, 9, 23, 24, 25, 26, 27, 28, 29] (by decide +kernel) (by decide +kernel)
set_option maxRecDepth 20000 in
theorem gX7_does_X7_times : GoodIn wsX7_does (va_wsS RX7 56 yX7_times wsX7_times) := goodIn_app (goodIn_of _ (by decide +kernel)) ggX7_does_X7_times
set_option maxRecDepth 20000 in
theorem ggX7_does_X7_powered : GoodIn wsX7_does wsX7_powered := goodIn_r _ [17, 18, 19, 9, 20, 21, 22, 23, 24, 25, 26, 27, 28, 29] (by decide +kernel) (by decide +kernel)
set_option maxRecDepth 20000 in
theorem gX7_does_X7_powered : GoodIn wsX7_does (va_wsS RX7 60 yX7_powered wsX7_powered) := goodIn_app (goodIn_of _ (by decide +kernel)) ggX7_does_X7_powered
theorem dX7_does_0 : decode cX7_does 0 = .ok (.aload_n 0, 1) := by decide +kernel
theorem dX7_does_1 : decode cX7_does 1 = .ok (.aload_n 0, 1) := by decide +kernel
theorem dX7_does_2 : decode cX7_does 2 = .ok (.getfield 114, 3) := by decide +kernel
theorem dX7_does_5 : decode cX7_does 5 = .ok (.invokevirtual 130, 3) := by decide +kernel
theorem dX7_does_8 : decode cX7_does 8 = .ok (.istore_n 1, 1) := by decide +kernel
theorem dX7_does_9 : decode cX7_does 9 = .ok (.aload_n 0, 1) := by decide +kernel
theorem dX7_does_10 : decode cX7_does 10 = .ok (.getfield 107, 3) := by decide +kernel
theorem dX7_does_13 : decode cX7_does 13 = .ok (.ifCond .eq 21, 3) := by decide +kernel
theorem dX7_does_16 : decode cX7_does 16 = .ok (.aload_n 0, 1) := by decide +kernel
theorem dX7_does_17 : decode cX7_does 17 = .ok (.getfield 107, 3) := by decide +kernel
theorem dX7_does_20 : decode cX7_does 20 = .ok (.bipush 126, 2) := by decide +kernel
theorem dX7_does_22 : decode cX7_does 22 = .ok (.if_icmp .eq 12, 3) := by decide +kernel
theorem dX7_does_25 : decode cX7_does 25 = .ok (.aload_n 0, 1) := by decide +kernel
theorem dX7_does_26 : decode cX7_does 26 = .ok (.getfield 107, 3) := by decide +kernel
theorem dX7_does_29 : decode cX7_does 29 = .ok (.bipush 37, 2) := by decide +kernel
theorem dX7_does_31 : decode cX7_does 31 = .ok (.if_icmp .ne 7, 3) := by decide +kernel
theorem dX7_does_34 : decode cX7_does 34 = .ok (.iconst 0, 1) := by decide +kernel
theorem dX7_does_35 : decode cX7_does 35 = .ok (.goto 11, 3) := by decide +kernel
theorem dX7_does_38 : decode cX7_does 38 = .ok (.aload_n 0, 1) := by decide +kernel
theorem dX7_does_39 : decode cX7_does 39 = .ok (.aload_n 0, 1) := by decide +kernel
theorem dX7_does_40 : decode cX7_does 40 = .ok (.getfield 117, 3) := by decide +kernel
theorem dX7_does_43 : decode cX7_does 43 = .ok (.invokevirtual 130, 3) := by decide +kernel
theorem dX7_does_46 : decode cX7_does 46 = .ok (.istore_n 2, 1) := by decide +kernel
theorem dX7_does_47 : decode cX7_does 47 = .ok (.aload_n 0, 1) := by decide +kernel
theorem dX7_does_48 : decode cX7_does 48 = .ok (.getfield 107, 3) := by decide +kernel
theorem dX7_does_51 : decode cX7_does 51 = .ok (.bipush 126, 2) := by decide +kernel
theorem dX7_does_53 : decode cX7_does 53 = .ok (.if_icmp .ne 7, 3) := by decide +kernel
theorem dX7_does_56 : decode cX7_does 56 = .ok (.iload_n 1, 1) := by decide +kernel
theorem dX7_does_57 : decode cX7_does 57 = .ok (.ifCond .eq 16, 3) := by decide +kernel
theorem dX7_does_60 : decode cX7_does 60 = .ok (.aload_n 0, 1) := by decide +kernel
theorem dX7_does_61 : decode cX7_does 61 = .ok (.getfield 107, 3) := by decide +kernel
theorem dX7_does_64 : decode cX7_does 64 = .ok (.bipush 47, 2) := by decide +kernel
theorem dX7_does_66 : decode cX7_does 66 = .ok (.if_icmp .ne 9, 3) := by decide +kernel
theorem dX7_does_69 : decode cX7_does 69 = .ok (.iload_n 2, 1) := by decide +kernel
theorem dX7_does_70 : decode cX7_does 70 = .ok (.ifCond .ne 5, 3) := by decide +kernel
theorem dX7_does_73 : decode cX7_does 73 = .ok (.iconst 0, 1) := by decide +kernel
theorem dX7_does_74 : decode cX7_does 74 = .ok (.ireturn, 1) := by decide +kernel
theorem dX7_does_75 : decode cX7_does 75 = .ok (.aload_n 0, 1) := by decide +kernel
theorem dX7_does_76 : decode cX7_does 76 = .ok (.getfield 107, 3) := by decide +kernel
theorem dX7_does_79 : decode cX7_does 79 = .ok (.lookupswitch 169 #[(37, 73), (42, 104), (43, 89), (47, 132), (94, 152), (126, 57)], 57) := by decide +kernel
theorem dX7_does_136 : decode cX7_does 136 = .ok (.aload_n 0, 1) := by decide +kernel
theorem dX7_does_137 : decode cX7_does 137 = .ok (.getfield 7, 3) := by decide +kernel
theorem dX7_does_140 : decode cX7_does 140 = .ok (.aload_n 0, 1) := by decide +kernel
theorem dX7_does_141 : decode cX7_does 141 = .ok (.getfield 101, 3) := by decide +kernel
theorem dX7_does_144 : decode cX7_does 144 = .ok (.iload_n 1, 1) := by decide +kernel
theorem dX7_does_145 : decode cX7_does 145 = .ok (.invokestatic 81, 3) := by decide +kernel
theorem dX7_does_148 : decode cX7_does 148 = .ok (.iastore, 1) := by decide +kernel
theorem dX7_does_149 : decode cX7_does 149 = .ok (.goto 109, 3) := by decide +kernel
theorem dX7_does_152 : decode cX7_does 152 = .ok (.aload_n 0, 1) := by decide +kernel
theorem dX7_does_153 : decode cX7_does 153 = .ok (.getfield 7, 3) := by decide +kernel
theorem dX7_does_156 : decode cX7_does 156 = .ok (.aload_n 0, 1) := by decide +kernel
theorem dX7_does_157 : decode cX7_does 157 = .ok (.getfield 101, 3) := by decide +kernel
theorem dX7_does_160 : decode cX7_does 160 = .ok (.iload_n 1, 1) := by decide +kernel
theorem dX7_does_161 : decode cX7_does 161 = .ok (.invokestatic 84, 3) := by decide +kernel
theorem dX7_does_164 : decode cX7_does 164 = .ok (.iastore, 1) := by decide +kernel
theorem dX7_does_165 : decode cX7_does 165 = .ok (.goto 93, 3) := by decide +kernel
theorem dX7_does_168 : decode cX7_does 168 = .ok (.aload_n 0, 1) := by decide +kernel
theorem dX7_does_169 : decode cX7_does 169 = .ok (.getfield 7, 3) := by decide +kernel
theorem dX7_does_172 : decode cX7_does 172 = .ok (.aload_n 0, 1) := by decide +kernel
theorem dX7_does_173 : decode cX7_does 173 = .ok (.getfield 101, 3) := by decide +kernel
theorem dX7_does_176 : decode cX7_does 176 = .ok (.iload_n 1, 1) := by decide +kernel
theorem dX7_does_177 : decode cX7_does 177 = .ok (.iload_n 2, 1) := by decide +kernel
theorem dX7_does_178 : decode cX7_does 178 = .ok (.ixor, 1) := by decide +kernel
theorem dX7_does_179 : decode cX7_does 179 = .ok (.iastore, 1) := by decide +kernel
theorem dX7_does_180 : decode cX7_does 180 = .ok (.goto 78, 3) := by decide +kernel
theorem dX7_does_183 : decode cX7_does 183 = .ok (.aload_n 0, 1) := by decide +kernel
theorem dX7_does_184 : decode cX7_does 184 = .ok (.getfield 7, 3) := by decide +kernel
theorem dX7_does_187 : decode cX7_does 187 = .ok (.aload_n 0, 1) := by decide +kernel
theorem dX7_does_188 : decode cX7_does 188 = .ok (.getfield 101, 3) := by decide +kernel
theorem dX7_does_191 : decode cX7_does 191 = .ok (.iload_n 1, 1) := by decide +kernel
theorem dX7_does_192 : decode cX7_does 192 = .ok (.iload_n 2, 1) := by decide +kernel
theorem dX7_does_193 : decode cX7_does 193 = .ok (.invokestatic 56, 3) := by decide +kernel
theorem dX7_does_196 : decode cX7_does 196 = .ok (.iastore, 1) := by decide +kernel
theorem dX7_does_197 : decode cX7_does 197 = .ok (.aload_n 0, 1) := by decide +kernel
theorem dX7_does_198 : decode cX7_does 198 = .ok (.getfield 7, 3) := by decide +kernel
theorem dX7_does_201 : decode cX7_does 201 = .ok (.bipush 8, 2) := by decide +kernel
theorem dX7_does_203 : decode cX7_does 203 = .ok (.dup2, 1) := by decide +kernel
theorem dX7_does_204 : decode cX7_does 204 = .ok (.iaload, 1) := by decide +kernel
theorem dX7_does_205 : decode cX7_does 205 = .ok (.iconst 1, 1) := by decide +kernel
theorem dX7_does_206 : decode cX7_does 206 = .ok (.iadd, 1) := by decide +kernel
theorem dX7_does_207 : decode cX7_does 207 = .ok (.iastore, 1) := by decide +kernel
theorem dX7_does_208 : decode cX7_does 208 = .ok (.goto 50, 3) := by decide +kernel
theorem dX7_does_211 : decode cX7_does 211 = .ok (.aload_n 0, 1) := by decide +kernel
theorem dX7_does_212 : decode cX7_does 212 = .ok (.getfield 7, 3) := by decide +kernel
theorem dX7_does_215 : decode cX7_does 215 = .ok (.aload_n 0, 1) := by decide +kernel
theorem dX7_does_216 : decode cX7_does 216 = .ok (.getfield 101, 3) := by decide +kernel
theorem dX7_does_219 : decode cX7_does 219 = .ok (.iload_n 1, 1) := by decide +kernel
theorem dX7_does_220 : decode cX7_does 220 = .ok (.iload_n 2, 1) := by decide +kernel
theorem dX7_does_221 : decode cX7_does 221 = .ok (.invokestatic 81, 3) := by decide +kernel
theorem dX7_does_224 : decode cX7_does 224 = .ok (.invokestatic 56, 3) := by decide +kernel
theorem dX7_does_227 : decode cX7_does 227 = .ok (.iastore, 1) := by decide +kernel
theorem dX7_does_228 : decode cX7_does 228 = .ok (.goto 30, 3) := by decide +kernel
theorem dX7_does_231 : decode cX7_does 231 = .ok (.aload_n 0, 1) := by decide +kernel
theorem dX7_does_232 : decode cX7_does 232 = .ok (.getfield 7, 3) := by decide +kernel
theorem dX7_does_235 : decode cX7_does 235 = .ok (.aload_n 0, 1) := by decide +kernel
theorem dX7_does_236 : decode cX7_does 236 = .ok (.getfield 101, 3) := by decide +kernel
theorem dX7_does_239 : decode cX7_does 239 = .ok (.iload_n 1, 1) := by decide +kernel
theorem dX7_does_240 : decode cX7_does 240 = .ok (.iload_n 2, 1) := by decide +kernel
theorem dX7_does_241 : decode cX7_does 241 = .ok (.invokestatic 60, 3) := by decide +kernel
theorem dX7_does_244 : decode cX7_does 244 = .ok (.iastore, 1) := by decide +kernel
theorem dX7_does_245 : decode cX7_does 245 = .ok (.goto 13, 3) := by decide +kernel
theorem dX7_does_248 : decode cX7_does 248 = .ok (.aload_n 0, 1) := by decide +kernel
theorem dX7_does_249 : decode cX7_does 249 = .ok (.getfield 7, 3) := by decide +kernel
theorem dX7_does_252 : decode cX7_does 252 = .ok (.aload_n 0, 1) := by decide +kernel
theorem dX7_does_253 : decode cX7_does 253 = .ok (.getfield 101, 3) := by decide +kernel
theorem dX7_does_256 : decode cX7_does 256 = .ok (.iload_n 1, 1) := by decide +kernel
theorem dX7_does_257 : decode cX7_does 257 = .ok (.iastore, 1) := by decide +kernel
theorem dX7_does_258 : decode cX7_does 258 = .ok (.iconst 1, 1) := by decide +kernel
theorem dX7_does_259 : decode cX7_does 259 = .ok (.ireturn, 1) := by decide +kernel
set_option maxRecDepth 20000 in
theorem ggX7_doesAll_X7_readsStep : GoodIn wsX7_doesAll wsX7_readsStep := goodIn_r _ [6, 7, 1, 8, 9, 10, 11, 12, 13, 14, 15, 5, 16, 17, 18, 19, 20, 21, 22, 23, 24, 25, 26, 27, 28, 29, 62, 63, 64, 65, 66, 67, 68, 69, 70, 71, 72, 73, 74, 75, 76, 77, 78] (by decide +kernel) (by decide +kernel)
set_option maxRecDepth 20000 in
theorem gX7_doesAll_X7_readsStep : GoodIn wsX7_doesAll (wsV RX7 120 RX7 yX7_readsStep wsX7_readsStep) := goodIn_app (goodIn_of _ (by decide +kernel)) ggX7_doesAll_X7_readsStep
set_option maxRecDepth 20000 in
theorem ggX7_doesAll_X7_does : GoodIn wsX7_doesAll wsX7_does := goodIn_r _ [33, 11, 9, 12, 34, 8, 35, 36, 37, 5, 38, 39, 40, 41, 42, 43, 44, 45, 46, 47, 48, 49, 50, 51, 52, 53, 54, 55, 56, 57, 58, 59, 60, 61, 62, 63, 64, 65, 66, 67, 68, 69, 70, 71, 72, 73, 74, 75, 76, 77, 78] (by decide +kernel) (by decide +kernel)
set_option maxRecDepth 20000 in
theorem gX7_doesAll_X7_does : GoodIn wsX7_doesAll (wsV RX7 133 RX7 yX7_does wsX7_does) := goodIn_app (goodIn_of _ (by decide +kernel)) ggX7_doesAll_X7_does
set_option maxRecDepth 20000 in
theorem ggX7_doesAll_X7_takesOne : GoodIn wsX7_doesAll wsX7_takesOne := goodIn_r _ [24, 1, 13, 14, 15, 5, 16, 17, 7, 18, 19, 20, 62, 63, 64, 65, 66, 67, 68, 69, 70, 71, 72, 73, 74, 75, 76, 77, 78] (by decide +kernel) (by decide +kernel)
set_option maxRecDepth 20000 in
theorem gX7_doesAll_X7_takesOne : GoodIn wsX7_doesAll (wsV RX7 104 RX7 yX7_takesOne wsX7_takesOne) := goodIn_app (goodIn_of _ (by decide +kernel)) ggX7_doesAll_X7_takesOne
theorem dX7_doesAll_0 : decode cX7_doesAll 0 = .ok (.aload_n 0, 1) := by decide +kernel
theorem dX7_doesAll_1 : decode cX7_doesAll 1 = .ok (.iconst 0, 1) := by decide +kernel
theorem dX7_doesAll_2 : decode cX7_doesAll 2 = .ok (.putfield 90, 3) := by decide +kernel
theorem dX7_doesAll_5 : decode cX7_doesAll 5 = .ok (.iconst 0, 1) := by decide +kernel
theorem dX7_doesAll_6 : decode cX7_doesAll 6 = .ok (.istore_n 1, 1) := by decide +kernel
theorem dX7_doesAll_7 : decode cX7_doesAll 7 = .ok (.iconst 1, 1) := by decide +kernel
theorem dX7_doesAll_8 : decode cX7_doesAll 8 = .ok (.istore_n 2, 1) := by decide +kernel
theorem dX7_doesAll_9 : decode cX7_doesAll 9 = .ok (.iload_n 2, 1) := by decide +kernel
theorem dX7_doesAll_10 : decode cX7_doesAll 10 = .ok (.ifCond .eq 32, 3) := by decide +kernel
theorem dX7_doesAll_13 : decode cX7_doesAll 13 = .ok (.aload_n 0, 1) := by decide +kernel
theorem dX7_doesAll_14 : decode cX7_doesAll 14 = .ok (.invokevirtual 120, 3) := by decide +kernel
theorem dX7_doesAll_17 : decode cX7_doesAll 17 = .ok (.ifCond .eq 10, 3) := by decide +kernel
theorem dX7_doesAll_20 : decode cX7_doesAll 20 = .ok (.aload_n 0, 1) := by decide +kernel
theorem dX7_doesAll_21 : decode cX7_doesAll 21 = .ok (.invokevirtual 133, 3) := by decide +kernel
theorem dX7_doesAll_24 : decode cX7_doesAll 24 = .ok (.ifCond .ne 5, 3) := by decide +kernel
theorem dX7_doesAll_27 : decode cX7_doesAll 27 = .ok (.iload_n 1, 1) := by decide +kernel
theorem dX7_doesAll_28 : decode cX7_doesAll 28 = .ok (.ireturn, 1) := by decide +kernel
theorem dX7_doesAll_29 : decode cX7_doesAll 29 = .ok (.iinc 1 1, 3) := by decide +kernel
theorem dX7_doesAll_32 : decode cX7_doesAll 32 = .ok (.aload_n 0, 1) := by decide +kernel
theorem dX7_doesAll_33 : decode cX7_doesAll 33 = .ok (.bipush 59, 2) := by decide +kernel
theorem dX7_doesAll_35 : decode cX7_doesAll 35 = .ok (.invokevirtual 104, 3) := by decide +kernel
theorem dX7_doesAll_38 : decode cX7_doesAll 38 = .ok (.istore_n 2, 1) := by decide +kernel
theorem dX7_doesAll_39 : decode cX7_doesAll 39 = .ok (.goto (-30), 3) := by decide +kernel
theorem dX7_doesAll_42 : decode cX7_doesAll 42 = .ok (.iconst (-1), 1) := by decide +kernel
theorem dX7_doesAll_43 : decode cX7_doesAll 43 = .ok (.ireturn, 1) := by decide +kernel
set_option maxRecDepth 20000 in
theorem ggX7_tries_X7_doesAll : GoodIn wsX7_tries wsX7_doesAll := goodIn_r _ [7, 8, 9, 10, 11, 6, 12, 13, 14, 15, 16, 17, 18, 19, 20, 21, 22, 23, 24, 25, 26, 27, 28, 29, 30, 31, 32, 33, 34, 35, 36, 37, 38, 39, 2, 40, 41, 42, 43, 44, 45, 46, 47, 48, 49, 50, 51, 52, 53, 54, 55, 56, 57, 58, 59, 60, 61, 62, 63, 64, 65, 66, 67, 68, 69, 70, 71, 72, 73, 74, 75, 76, 77, 78, 79, 80, 81, 82, 83] (by decide +kernel) (by decide +kernel)
set_option maxRecDepth 20000 in
theorem gX7_tries_X7_doesAll : GoodIn wsX7_tries (wsV RX7 136 RX7 yX7_doesAll wsX7_doesAll) := goodIn_app (goodIn_of _ (by decide +kernel)) ggX7_tries_X7_doesAll
theorem dX7_tries_0 : decode cX7_tries 0 = .ok (.iconst 0, 1) := by decide +kernel
theorem dX7_tries_1 : decode cX7_tries 1 = .ok (.istore_n 1, 1) := by decide +kernel
theorem dX7_tries_2 : decode cX7_tries 2 = .ok (.iload_n 1, 1) := by decide +kernel
theorem dX7_tries_3 : decode cX7_tries 3 = .ok (.bipush 9, 2) := by decide +kernel
theorem dX7_tries_5 : decode cX7_tries 5 = .ok (.if_icmp .ge 21, 3) := by decide +kernel
theorem dX7_tries_8 : decode cX7_tries 8 = .ok (.aload_n 0, 1) := by decide +kernel
theorem dX7_tries_9 : decode cX7_tries 9 = .ok (.getfield 13, 3) := by decide +kernel
theorem dX7_tries_12 : decode cX7_tries 12 = .ok (.iload_n 1, 1) := by decide +kernel
theorem dX7_tries_13 : decode cX7_tries 13 = .ok (.aload_n 0, 1) := by decide +kernel
theorem dX7_tries_14 : decode cX7_tries 14 = .ok (.getfield 7, 3) := by decide +kernel
theorem dX7_tries_17 : decode cX7_tries 17 = .ok (.iload_n 1, 1) := by decide +kernel
theorem dX7_tries_18 : decode cX7_tries 18 = .ok (.iaload, 1) := by decide +kernel
theorem dX7_tries_19 : decode cX7_tries 19 = .ok (.iastore, 1) := by decide +kernel
theorem dX7_tries_20 : decode cX7_tries 20 = .ok (.iinc 1 1, 3) := by decide +kernel
theorem dX7_tries_23 : decode cX7_tries 23 = .ok (.goto (-21), 3) := by decide +kernel
theorem dX7_tries_26 : decode cX7_tries 26 = .ok (.aload_n 0, 1) := by decide +kernel
theorem dX7_tries_27 : decode cX7_tries 27 = .ok (.invokevirtual 136, 3) := by decide +kernel
theorem dX7_tries_30 : decode cX7_tries 30 = .ok (.istore_n 1, 1) := by decide +kernel
theorem dX7_tries_31 : decode cX7_tries 31 = .ok (.iconst 0, 1) := by decide +kernel
theorem dX7_tries_32 : decode cX7_tries 32 = .ok (.istore_n 2, 1) := by decide +kernel
theorem dX7_tries_33 : decode cX7_tries 33 = .ok (.iload_n 2, 1) := by decide +kernel
theorem dX7_tries_34 : decode cX7_tries 34 = .ok (.bipush 9, 2) := by decide +kernel
theorem dX7_tries_36 : decode cX7_tries 36 = .ok (.if_icmp .ge 21, 3) := by decide +kernel
theorem dX7_tries_39 : decode cX7_tries 39 = .ok (.aload_n 0, 1) := by decide +kernel
theorem dX7_tries_40 : decode cX7_tries 40 = .ok (.getfield 7, 3) := by decide +kernel
theorem dX7_tries_43 : decode cX7_tries 43 = .ok (.iload_n 2, 1) := by decide +kernel
theorem dX7_tries_44 : decode cX7_tries 44 = .ok (.aload_n 0, 1) := by decide +kernel
theorem dX7_tries_45 : decode cX7_tries 45 = .ok (.getfield 13, 3) := by decide +kernel
theorem dX7_tries_48 : decode cX7_tries 48 = .ok (.iload_n 2, 1) := by decide +kernel
theorem dX7_tries_49 : decode cX7_tries 49 = .ok (.iaload, 1) := by decide +kernel
theorem dX7_tries_50 : decode cX7_tries 50 = .ok (.iastore, 1) := by decide +kernel
theorem dX7_tries_51 : decode cX7_tries 51 = .ok (.iinc 2 1, 3) := by decide +kernel
theorem dX7_tries_54 : decode cX7_tries 54 = .ok (.goto (-21), 3) := by decide +kernel
theorem dX7_tries_57 : decode cX7_tries 57 = .ok (.iload_n 1, 1) := by decide +kernel
theorem dX7_tries_58 : decode cX7_tries 58 = .ok (.ireturn, 1) := by decide +kernel
set_option maxRecDepth 20000 in
theorem ggX7_trappedStep_X7_errorOfProgram : GoodIn wsX7_trappedStep wsX7_errorOfProgram := goodIn_r _ [5, 6, 7, 8, 9, 10, 4, 11, 12, 13, 14, 15, 16, 17, 18, 19, 20, 21, 22, 23, 24, 25, 26, 27, 28, 29, 30, 31, 32, 33, 84, 85, 86, 87, 88, 89, 90, 91, 92, 93, 94, 95, 96, 97, 98, 99, 100] (by decide +kernel) (by decide +kernel)
set_option maxRecDepth 20000 in
theorem gX7_trappedStep_X7_errorOfProgram : GoodIn wsX7_trappedStep (wsV RX7 123 RX7 yX7_errorOfProgram wsX7_errorOfProgram) := goodIn_app (goodIn_of _ (by decide +kernel)) ggX7_trappedStep_X7_errorOfProgram
set_option maxRecDepth 20000 in
theorem ggX7_trappedStep_X7_tries : GoodIn wsX7_trappedStep wsX7_tries := goodIn_r _ [37, 38, 39, 40, 41, 42, 4, 43, 6, 8, 9, 10, 11, 12, 13, 14, 15, 16, 17, 18, 19, 20, 21, 7, 22, 23, 24, 25, 26, 27, 28, 29, 30, 31, 32, 33, 44, 45, 46, 47, 48, 49, 50, 51, 52, 53, 54, 55, 56, 57, 58, 59, 60, 61, 62, 63, 64, 65, 66, 67, 68, 69, 70, 71, 72, 73, 74, 84, 85, 86, 87, 88, 89, 90, 91, 92, 93, 94, 95, 96, 97, 98, 99, 100] (by decide +kernel) (by decide +kernel)
set_option maxRecDepth 20000 in
theorem gX7_trappedStep_X7_tries : GoodIn wsX7_trappedStep (wsV RX7 139 RX7 yX7_tries wsX7_tries) := goodIn_app (goodIn_of _ (by decide +kernel)) ggX7_trappedStep_X7_tries
set_option maxRecDepth 20000 in
theorem ggX7_trappedStep_X7_told : GoodIn wsX7_trappedStep wsX7_told := goodIn_r _ [78, 79, 84, 85, 86, 87, 88, 89, 90, 91, 92, 93, 94, 95, 96, 97, 98, 99, 100] (by decide +kernel) (by decide +kernel)
set_option maxRecDepth 20000 in
theorem gX7_trappedStep_X7_told : GoodIn wsX7_trappedStep (wsV RX7 127 RX7 yX7_told wsX7_told) := goodIn_app (goodIn_of _ (by decide +kernel)) ggX7_trappedStep_X7_told
set_option maxRecDepth 20000 in
theorem ggX7_trappedStep_X7_fails : GoodIn wsX7_trappedStep wsX7_fails := goodIn_r _ [83, 79, 84, 85, 86, 87, 88, 89, 90, 91, 92, 93, 94, 95, 96, 97, 98, 99, 100] (by decide +kernel) (by decide +kernel)
set_option maxRecDepth 20000 in
theorem gX7_trappedStep_X7_fails : GoodIn wsX7_trappedStep (wsV RX7 68 RX7 yX7_fails wsX7_fails) := goodIn_app (goodIn_of _ (by decide +kernel)) ggX7_trappedStep_X7_fails
theorem dX7_trappedStep_0 : decode cX7_trappedStep 0 = .ok (.aload_n 0, 1) := by decide +kernel
theorem dX7_trappedStep_1 : decode cX7_trappedStep 1 = .ok (.invokevirtual 123, 3) := by decide +kernel
theorem dX7_trappedStep_4 : decode cX7_trappedStep 4 = .ok (.iconst (-1), 1) := by decide +kernel
theorem dX7_trappedStep_5 : decode cX7_trappedStep 5 = .ok (.if_icmp .ne 14, 3) := by decide +kernel
theorem dX7_trappedStep_8 : decode cX7_trappedStep 8 = .ok (.aload_n 0, 1) := by decide +kernel
theorem dX7_trappedStep_9 : decode cX7_trappedStep 9 = .ok (.aload_n 0, 1) := by decide +kernel
theorem dX7_trappedStep_10 : decode cX7_trappedStep 10 = .ok (.invokevirtual 139, 3) := by decide +kernel
theorem dX7_trappedStep_13 : decode cX7_trappedStep 13 = .ok (.invokevirtual 127, 3) := by decide +kernel
theorem dX7_trappedStep_16 : decode cX7_trappedStep 16 = .ok (.goto 8, 3) := by decide +kernel
theorem dX7_trappedStep_19 : decode cX7_trappedStep 19 = .ok (.aload_n 0, 1) := by decide +kernel
theorem dX7_trappedStep_20 : decode cX7_trappedStep 20 = .ok (.iconst 1, 1) := by decide +kernel
theorem dX7_trappedStep_21 : decode cX7_trappedStep 21 = .ok (.invokevirtual 68, 3) := by decide +kernel
theorem dX7_trappedStep_24 : decode cX7_trappedStep 24 = .ok (.ireturn, 1) := by decide +kernel
set_option maxRecDepth 20000 in
theorem ggX7_carryOut_X7_errorOfProgram : GoodIn wsX7_carryOut wsX7_errorOfProgram := goodIn_r _ [7, 8, 9, 10, 11, 12, 6, 13, 14, 2, 15, 16, 17, 18, 19, 20, 21, 22, 23, 24, 25, 26, 27, 28, 29, 30, 31, 32, 33, 34, 86, 87, 88, 89, 90, 91, 92, 93, 94, 95, 96, 97, 98, 99, 100, 101, 102] (by decide +kernel) (by decide +kernel)
set_option maxRecDepth 20000 in
theorem gX7_carryOut_X7_errorOfProgram : GoodIn wsX7_carryOut (wsV RX7 123 RX7 yX7_errorOfProgram wsX7_errorOfProgram) := goodIn_app (goodIn_of _ (by decide +kernel)) ggX7_carryOut_X7_errorOfProgram
set_option maxRecDepth 20000 in
theorem ggX7_carryOut_X7_tries : GoodIn wsX7_carryOut wsX7_tries := goodIn_r _ [38, 39, 1, 40, 41, 42, 6, 43, 8, 10, 11, 12, 13, 14, 2, 15, 16, 17, 18, 19, 20, 21, 22, 9, 23, 24, 25, 26, 27, 28, 29, 30, 31, 32, 33, 34, 44, 45, 46, 47, 48, 49, 50, 51, 52, 53, 54, 55, 56, 57, 58, 59, 60, 61, 62, 63, 64, 65, 66, 67, 68, 69, 70, 71, 72, 73, 74, 86, 87, 88, 89, 90, 91, 92, 93, 94, 95, 96, 97, 98, 99, 100, 101, 102] (by decide +kernel) (by decide +kernel)
set_option maxRecDepth 20000 in
theorem gX7_carryOut_X7_tries : GoodIn wsX7_carryOut (wsV RX7 139 RX7 yX7_tries wsX7_tries) := goodIn_app (goodIn_of _ (by decide +kernel)) ggX7_carryOut_X7_tries
set_option maxRecDepth 20000 in
theorem ggX7_carryOut_X7_fails : GoodIn wsX7_carryOut wsX7_fails := goodIn_r _ [78, 79, 86, 87, 88, 89, 90, 91, 92, 93, 94, 95, 96, 97, 98, 99, 100, 101, 102] (by decide +kernel) (by decide +kernel)
set_option maxRecDepth 20000 in
theorem gX7_carryOut_X7_fails : GoodIn wsX7_carryOut (wsV RX7 68 RX7 yX7_fails wsX7_fails) := goodIn_app (goodIn_of _ (by decide +kernel)) ggX7_carryOut_X7_fails
set_option maxRecDepth 20000 in
theorem ggX7_carryOut_X7_records : GoodIn wsX7_carryOut wsX7_records := goodIn_r _ [83, 79, 84, 85, 1, 86, 87, 88, 89, 90, 91, 92, 93, 94, 95, 96, 97, 98, 99, 100, 101, 102] (by decide +kernel) (by decide +kernel)
set_option maxRecDepth 20000 in
theorem gX7_carryOut_X7_records : GoodIn wsX7_carryOut (wsV RX7 75 RX7 yX7_records wsX7_records) := goodIn_app (goodIn_of _ (by decide +kernel)) ggX7_carryOut_X7_records
set_option maxRecDepth 20000 in
theorem ggX7_carryOut_X7_doesAll : GoodIn wsX7_carryOut wsX7_doesAll := goodIn_r _ [43, 8, 10, 11, 12, 6, 13, 14, 2, 15, 16, 17, 18, 19, 20, 21, 22, 9, 23, 24, 25, 26, 27, 28, 29, 30, 31, 32, 33, 34, 44, 45, 46, 47, 1, 48, 49, 50, 51, 52, 53, 54, 55, 56, 57, 58, 59, 60, 61, 62, 63, 64, 65, 66, 67, 68, 69, 70, 71, 72, 73, 74, 86, 87, 88, 89, 90, 91, 92, 93, 94, 95, 96, 97, 98, 99, 100, 101, 102] (by decide +kernel) (by decide +kernel)
set_option maxRecDepth 20000 in
theorem gX7_carryOut_X7_doesAll : GoodIn wsX7_carryOut (wsV RX7 136 RX7 yX7_doesAll wsX7_doesAll) := goodIn_app (goodIn_of _ (by decide +kernel)) ggX7_carryOut_X7_doesAll
theorem dX7_carryOut_0 : decode cX7_carryOut 0 = .ok (.aload_n 0, 1) := by decide +kernel
theorem dX7_carryOut_1 : decode cX7_carryOut 1 = .ok (.invokevirtual 123, 3) := by decide +kernel
theorem dX7_carryOut_4 : decode cX7_carryOut 4 = .ok (.iconst (-1), 1) := by decide +kernel
theorem dX7_carryOut_5 : decode cX7_carryOut 5 = .ok (.if_icmp .ne 11, 3) := by decide +kernel
theorem dX7_carryOut_8 : decode cX7_carryOut 8 = .ok (.aload_n 0, 1) := by decide +kernel
theorem dX7_carryOut_9 : decode cX7_carryOut 9 = .ok (.invokevirtual 139, 3) := by decide +kernel
theorem dX7_carryOut_12 : decode cX7_carryOut 12 = .ok (.iconst (-1), 1) := by decide +kernel
theorem dX7_carryOut_13 : decode cX7_carryOut 13 = .ok (.if_icmp .eq 9, 3) := by decide +kernel
theorem dX7_carryOut_16 : decode cX7_carryOut 16 = .ok (.aload_n 0, 1) := by decide +kernel
theorem dX7_carryOut_17 : decode cX7_carryOut 17 = .ok (.iconst 1, 1) := by decide +kernel
theorem dX7_carryOut_18 : decode cX7_carryOut 18 = .ok (.invokevirtual 68, 3) := by decide +kernel
theorem dX7_carryOut_21 : decode cX7_carryOut 21 = .ok (.ireturn, 1) := by decide +kernel
theorem dX7_carryOut_22 : decode cX7_carryOut 22 = .ok (.aload_n 0, 1) := by decide +kernel
theorem dX7_carryOut_23 : decode cX7_carryOut 23 = .ok (.invokevirtual 75, 3) := by decide +kernel
theorem dX7_carryOut_26 : decode cX7_carryOut 26 = .ok (.aload_n 0, 1) := by decide +kernel
theorem dX7_carryOut_27 : decode cX7_carryOut 27 = .ok (.invokevirtual 136, 3) := by decide +kernel
theorem dX7_carryOut_30 : decode cX7_carryOut 30 = .ok (.istore_n 1, 1) := by decide +kernel
theorem dX7_carryOut_31 : decode cX7_carryOut 31 = .ok (.aload_n 0, 1) := by decide +kernel
theorem dX7_carryOut_32 : decode cX7_carryOut 32 = .ok (.getfield 7, 3) := by decide +kernel
theorem dX7_carryOut_35 : decode cX7_carryOut 35 = .ok (.aload_n 0, 1) := by decide +kernel
theorem dX7_carryOut_36 : decode cX7_carryOut 36 = .ok (.getfield 101, 3) := by decide +kernel
theorem dX7_carryOut_39 : decode cX7_carryOut 39 = .ok (.iaload, 1) := by decide +kernel
theorem dX7_carryOut_40 : decode cX7_carryOut 40 = .ok (.ireturn, 1) := by decide +kernel
set_option maxRecDepth 20000 in
theorem ggX7_undo_X7_fails : GoodIn wsX7_undo wsX7_fails := goodIn_r _ [9, 2, 10, 11, 12, 13, 14, 15, 16, 17, 18, 19, 20, 21, 22, 23, 24, 25, 26] (by decide +kernel) (by decide +kernel)
set_option maxRecDepth 20000 in
theorem gX7_undo_X7_fails : GoodIn wsX7_undo (wsV RX7 68 RX7 yX7_fails wsX7_fails) := goodIn_app (goodIn_of _ (by decide +kernel)) ggX7_undo_X7_fails
theorem dX7_undo_0 : decode cX7_undo 0 = .ok (.aload_n 0, 1) := by decide +kernel
theorem dX7_undo_1 : decode cX7_undo 1 = .ok (.getfield 35, 3) := by decide +kernel
theorem dX7_undo_4 : decode cX7_undo 4 = .ok (.ifCond .ne 9, 3) := by decide +kernel
theorem dX7_undo_7 : decode cX7_undo 7 = .ok (.aload_n 0, 1) := by decide +kernel
theorem dX7_undo_8 : decode cX7_undo 8 = .ok (.iconst 1, 1) := by decide +kernel
theorem dX7_undo_9 : decode cX7_undo 9 = .ok (.invokevirtual 68, 3) := by decide +kernel
theorem dX7_undo_12 : decode cX7_undo 12 = .ok (.ireturn, 1) := by decide +kernel
theorem dX7_undo_13 : decode cX7_undo 13 = .ok (.aload_n 0, 1) := by decide +kernel
theorem dX7_undo_14 : decode cX7_undo 14 = .ok (.iconst 0, 1) := by decide +kernel
theorem dX7_undo_15 : decode cX7_undo 15 = .ok (.putfield 31, 3) := by decide +kernel
theorem dX7_undo_18 : decode cX7_undo 18 = .ok (.aload_n 0, 1) := by decide +kernel
theorem dX7_undo_19 : decode cX7_undo 19 = .ok (.dup, 1) := by decide +kernel
theorem dX7_undo_20 : decode cX7_undo 20 = .ok (.getfield 35, 3) := by decide +kernel
theorem dX7_undo_23 : decode cX7_undo 23 = .ok (.iconst 1, 1) := by decide +kernel
theorem dX7_undo_24 : decode cX7_undo 24 = .ok (.isub, 1) := by decide +kernel
theorem dX7_undo_25 : decode cX7_undo 25 = .ok (.putfield 35, 3) := by decide +kernel
theorem dX7_undo_28 : decode cX7_undo 28 = .ok (.iconst 0, 1) := by decide +kernel
theorem dX7_undo_29 : decode cX7_undo 29 = .ok (.istore_n 1, 1) := by decide +kernel
theorem dX7_undo_30 : decode cX7_undo 30 = .ok (.iload_n 1, 1) := by decide +kernel
theorem dX7_undo_31 : decode cX7_undo 31 = .ok (.bipush 9, 2) := by decide +kernel
theorem dX7_undo_33 : decode cX7_undo 33 = .ok (.if_icmp .ge 29, 3) := by decide +kernel
theorem dX7_undo_36 : decode cX7_undo 36 = .ok (.aload_n 0, 1) := by decide +kernel
theorem dX7_undo_37 : decode cX7_undo 37 = .ok (.getfield 7, 3) := by decide +kernel
theorem dX7_undo_40 : decode cX7_undo 40 = .ok (.iload_n 1, 1) := by decide +kernel
theorem dX7_undo_41 : decode cX7_undo 41 = .ok (.aload_n 0, 1) := by decide +kernel
theorem dX7_undo_42 : decode cX7_undo 42 = .ok (.getfield 16, 3) := by decide +kernel
theorem dX7_undo_45 : decode cX7_undo 45 = .ok (.bipush 9, 2) := by decide +kernel
theorem dX7_undo_47 : decode cX7_undo 47 = .ok (.aload_n 0, 1) := by decide +kernel
theorem dX7_undo_48 : decode cX7_undo 48 = .ok (.getfield 35, 3) := by decide +kernel
theorem dX7_undo_51 : decode cX7_undo 51 = .ok (.imul, 1) := by decide +kernel
theorem dX7_undo_52 : decode cX7_undo 52 = .ok (.iload_n 1, 1) := by decide +kernel
theorem dX7_undo_53 : decode cX7_undo 53 = .ok (.iadd, 1) := by decide +kernel
theorem dX7_undo_54 : decode cX7_undo 54 = .ok (.iaload, 1) := by decide +kernel
theorem dX7_undo_55 : decode cX7_undo 55 = .ok (.iastore, 1) := by decide +kernel
theorem dX7_undo_56 : decode cX7_undo 56 = .ok (.iinc 1 1, 3) := by decide +kernel
theorem dX7_undo_59 : decode cX7_undo 59 = .ok (.goto (-29), 3) := by decide +kernel
theorem dX7_undo_62 : decode cX7_undo 62 = .ok (.aload_n 0, 1) := by decide +kernel
theorem dX7_undo_63 : decode cX7_undo 63 = .ok (.getfield 35, 3) := by decide +kernel
theorem dX7_undo_66 : decode cX7_undo 66 = .ok (.ireturn, 1) := by decide +kernel
theorem dX7_sum_0 : decode cX7_sum 0 = .ok (.iconst 0, 1) := by decide +kernel
theorem dX7_sum_1 : decode cX7_sum 1 = .ok (.istore_n 1, 1) := by decide +kernel
theorem dX7_sum_2 : decode cX7_sum 2 = .ok (.iconst 0, 1) := by decide +kernel
theorem dX7_sum_3 : decode cX7_sum 3 = .ok (.istore_n 2, 1) := by decide +kernel
theorem dX7_sum_4 : decode cX7_sum 4 = .ok (.iload_n 2, 1) := by decide +kernel
theorem dX7_sum_5 : decode cX7_sum 5 = .ok (.bipush 8, 2) := by decide +kernel
theorem dX7_sum_7 : decode cX7_sum 7 = .ok (.if_icmp .ge 18, 3) := by decide +kernel
theorem dX7_sum_10 : decode cX7_sum 10 = .ok (.iload_n 1, 1) := by decide +kernel
theorem dX7_sum_11 : decode cX7_sum 11 = .ok (.aload_n 0, 1) := by decide +kernel
theorem dX7_sum_12 : decode cX7_sum 12 = .ok (.getfield 7, 3) := by decide +kernel
theorem dX7_sum_15 : decode cX7_sum 15 = .ok (.iload_n 2, 1) := by decide +kernel
theorem dX7_sum_16 : decode cX7_sum 16 = .ok (.iaload, 1) := by decide +kernel
theorem dX7_sum_17 : decode cX7_sum 17 = .ok (.ixor, 1) := by decide +kernel
theorem dX7_sum_18 : decode cX7_sum 18 = .ok (.istore_n 1, 1) := by decide +kernel
theorem dX7_sum_19 : decode cX7_sum 19 = .ok (.iinc 2 1, 3) := by decide +kernel
theorem dX7_sum_22 : decode cX7_sum 22 = .ok (.goto (-18), 3) := by decide +kernel
theorem dX7_sum_25 : decode cX7_sum 25 = .ok (.iload_n 1, 1) := by decide +kernel
theorem dX7_sum_26 : decode cX7_sum 26 = .ok (.ireturn, 1) := by decide +kernel
set_option maxRecDepth 20000 in
theorem ggX7_takeSnapshot_X7_sum : GoodIn wsX7_takeSnapshot wsX7_sum := goodIn_r _ [8, 2, 14, 15, 16, 17, 18, 19, 20, 21, 22, 23, 24, 25, 26, 27, 28, 29, 30] (by decide +kernel) (by decide +kernel)
set_option maxRecDepth 20000 in
theorem gX7_takeSnapshot_X7_sum : GoodIn wsX7_takeSnapshot (wsV RX7 145 RX7 yX7_sum wsX7_sum) := goodIn_app (goodIn_of _ (by decide +kernel)) ggX7_takeSnapshot_X7_sum
set_option maxRecDepth 20000 in
theorem ggX7_takeSnapshot_X7_told : GoodIn wsX7_takeSnapshot wsX7_told := goodIn_r _ [12, 13, 14, 15, 16, 17, 18, 19, 20, 21, 22, 23, 24, 25, 26, 27, 28, 29, 30] (by decide +kernel) (by decide +kernel)
set_option maxRecDepth 20000 in
theorem gX7_takeSnapshot_X7_told : GoodIn wsX7_takeSnapshot (wsV RX7 127 RX7 yX7_told wsX7_told) := goodIn_app (goodIn_of _ (by decide +kernel)) ggX7_takeSnapshot_X7_told
theorem dX7_takeSnapshot_0 : decode cX7_takeSnapshot 0 = .ok (.iconst 0, 1) := by decide +kernel
theorem dX7_takeSnapshot_1 : decode cX7_takeSnapshot 1 = .ok (.istore_n 1, 1) := by decide +kernel
theorem dX7_takeSnapshot_2 : decode cX7_takeSnapshot 2 = .ok (.iload_n 1, 1) := by decide +kernel
theorem dX7_takeSnapshot_3 : decode cX7_takeSnapshot 3 = .ok (.bipush 9, 2) := by decide +kernel
theorem dX7_takeSnapshot_5 : decode cX7_takeSnapshot 5 = .ok (.if_icmp .ge 21, 3) := by decide +kernel
theorem dX7_takeSnapshot_8 : decode cX7_takeSnapshot 8 = .ok (.aload_n 0, 1) := by decide +kernel
theorem dX7_takeSnapshot_9 : decode cX7_takeSnapshot 9 = .ok (.getfield 19, 3) := by decide +kernel
theorem dX7_takeSnapshot_12 : decode cX7_takeSnapshot 12 = .ok (.iload_n 1, 1) := by decide +kernel
theorem dX7_takeSnapshot_13 : decode cX7_takeSnapshot 13 = .ok (.aload_n 0, 1) := by decide +kernel
theorem dX7_takeSnapshot_14 : decode cX7_takeSnapshot 14 = .ok (.getfield 7, 3) := by decide +kernel
theorem dX7_takeSnapshot_17 : decode cX7_takeSnapshot 17 = .ok (.iload_n 1, 1) := by decide +kernel
theorem dX7_takeSnapshot_18 : decode cX7_takeSnapshot 18 = .ok (.iaload, 1) := by decide +kernel
theorem dX7_takeSnapshot_19 : decode cX7_takeSnapshot 19 = .ok (.iastore, 1) := by decide +kernel
theorem dX7_takeSnapshot_20 : decode cX7_takeSnapshot 20 = .ok (.iinc 1 1, 3) := by decide +kernel
theorem dX7_takeSnapshot_23 : decode cX7_takeSnapshot 23 = .ok (.goto (-21), 3) := by decide +kernel
theorem dX7_takeSnapshot_26 : decode cX7_takeSnapshot 26 = .ok (.aload_n 0, 1) := by decide +kernel
theorem dX7_takeSnapshot_27 : decode cX7_takeSnapshot 27 = .ok (.iconst 1, 1) := by decide +kernel
theorem dX7_takeSnapshot_28 : decode cX7_takeSnapshot 28 = .ok (.putfield 142, 3) := by decide +kernel
theorem dX7_takeSnapshot_31 : decode cX7_takeSnapshot 31 = .ok (.aload_n 0, 1) := by decide +kernel
theorem dX7_takeSnapshot_32 : decode cX7_takeSnapshot 32 = .ok (.aload_n 0, 1) := by decide +kernel
theorem dX7_takeSnapshot_33 : decode cX7_takeSnapshot 33 = .ok (.invokevirtual 145, 3) := by decide +kernel
theorem dX7_takeSnapshot_36 : decode cX7_takeSnapshot 36 = .ok (.invokevirtual 127, 3) := by decide +kernel
theorem dX7_takeSnapshot_39 : decode cX7_takeSnapshot 39 = .ok (.ireturn, 1) := by decide +kernel
set_option maxRecDepth 20000 in
theorem ggX7_restoreSnapshot_X7_fails : GoodIn wsX7_restoreSnapshot wsX7_fails := goodIn_r _ [8, 9, 20, 21, 22, 23, 24, 25, 26, 27, 28, 29, 30, 31, 32, 33, 34, 35, 36] (by decide +kernel) (by decide +kernel)
set_option maxRecDepth 20000 in
theorem gX7_restoreSnapshot_X7_fails : GoodIn wsX7_restoreSnapshot (wsV RX7 68 RX7 yX7_fails wsX7_fails) := goodIn_app (goodIn_of _ (by decide +kernel)) ggX7_restoreSnapshot_X7_fails
set_option maxRecDepth 20000 in
theorem ggX7_restoreSnapshot_X7_records : GoodIn wsX7_restoreSnapshot wsX7_records := goodIn_r _ [13, 9, 14, 15, 2, 20, 21, 22, 23, 24, 25, 26, 27, 28, 29, 30, 31, 32, 33, 34, 35, 36] (by decide +kernel) (by decide +kernel)
set_option maxRecDepth 20000 in
theorem gX7_restoreSnapshot_X7_records : GoodIn wsX7_restoreSnapshot (wsV RX7 75 RX7 yX7_records wsX7_records) := goodIn_app (goodIn_of _ (by decide +kernel)) ggX7_restoreSnapshot_X7_records
set_option maxRecDepth 20000 in
theorem ggX7_restoreSnapshot_X7_sum : GoodIn wsX7_restoreSnapshot wsX7_sum := goodIn_r _ [19, 2, 20, 21, 22, 23, 24, 25, 26, 27, 28, 29, 30, 31, 32, 33, 34, 35, 36] (by decide +kernel) (by decide +kernel)
set_option maxRecDepth 20000 in
theorem gX7_restoreSnapshot_X7_sum : GoodIn wsX7_restoreSnapshot (wsV RX7 145 RX7 yX7_sum wsX7_sum) := goodIn_app (goodIn_of _ (by decide +kernel)) ggX7_restoreSnapshot_X7_sum
theorem dX7_restoreSnapshot_0 : decode cX7_restoreSnapshot 0 = .ok (.aload_n 0, 1) := by decide +kernel
theorem dX7_restoreSnapshot_1 : decode cX7_restoreSnapshot 1 = .ok (.getfield 142, 3) := by decide +kernel
theorem dX7_restoreSnapshot_4 : decode cX7_restoreSnapshot 4 = .ok (.ifCond .ne 9, 3) := by decide +kernel
theorem dX7_restoreSnapshot_7 : decode cX7_restoreSnapshot 7 = .ok (.aload_n 0, 1) := by decide +kernel
theorem dX7_restoreSnapshot_8 : decode cX7_restoreSnapshot 8 = .ok (.iconst 1, 1) := by decide +kernel
theorem dX7_restoreSnapshot_9 : decode cX7_restoreSnapshot 9 = .ok (.invokevirtual 68, 3) := by decide +kernel
theorem dX7_restoreSnapshot_12 : decode cX7_restoreSnapshot 12 = .ok (.ireturn, 1) := by decide +kernel
theorem dX7_restoreSnapshot_13 : decode cX7_restoreSnapshot 13 = .ok (.aload_n 0, 1) := by decide +kernel
theorem dX7_restoreSnapshot_14 : decode cX7_restoreSnapshot 14 = .ok (.invokevirtual 75, 3) := by decide +kernel
theorem dX7_restoreSnapshot_17 : decode cX7_restoreSnapshot 17 = .ok (.iconst 0, 1) := by decide +kernel
theorem dX7_restoreSnapshot_18 : decode cX7_restoreSnapshot 18 = .ok (.istore_n 1, 1) := by decide +kernel
theorem dX7_restoreSnapshot_19 : decode cX7_restoreSnapshot 19 = .ok (.iload_n 1, 1) := by decide +kernel
theorem dX7_restoreSnapshot_20 : decode cX7_restoreSnapshot 20 = .ok (.bipush 9, 2) := by decide +kernel
theorem dX7_restoreSnapshot_22 : decode cX7_restoreSnapshot 22 = .ok (.if_icmp .ge 21, 3) := by decide +kernel
theorem dX7_restoreSnapshot_25 : decode cX7_restoreSnapshot 25 = .ok (.aload_n 0, 1) := by decide +kernel
theorem dX7_restoreSnapshot_26 : decode cX7_restoreSnapshot 26 = .ok (.getfield 7, 3) := by decide +kernel
theorem dX7_restoreSnapshot_29 : decode cX7_restoreSnapshot 29 = .ok (.iload_n 1, 1) := by decide +kernel
theorem dX7_restoreSnapshot_30 : decode cX7_restoreSnapshot 30 = .ok (.aload_n 0, 1) := by decide +kernel
theorem dX7_restoreSnapshot_31 : decode cX7_restoreSnapshot 31 = .ok (.getfield 19, 3) := by decide +kernel
theorem dX7_restoreSnapshot_34 : decode cX7_restoreSnapshot 34 = .ok (.iload_n 1, 1) := by decide +kernel
theorem dX7_restoreSnapshot_35 : decode cX7_restoreSnapshot 35 = .ok (.iaload, 1) := by decide +kernel
theorem dX7_restoreSnapshot_36 : decode cX7_restoreSnapshot 36 = .ok (.iastore, 1) := by decide +kernel
theorem dX7_restoreSnapshot_37 : decode cX7_restoreSnapshot 37 = .ok (.iinc 1 1, 3) := by decide +kernel
theorem dX7_restoreSnapshot_40 : decode cX7_restoreSnapshot 40 = .ok (.goto (-21), 3) := by decide +kernel
theorem dX7_restoreSnapshot_43 : decode cX7_restoreSnapshot 43 = .ok (.aload_n 0, 1) := by decide +kernel
theorem dX7_restoreSnapshot_44 : decode cX7_restoreSnapshot 44 = .ok (.invokevirtual 145, 3) := by decide +kernel
theorem dX7_restoreSnapshot_47 : decode cX7_restoreSnapshot 47 = .ok (.ireturn, 1) := by decide +kernel
set_option maxRecDepth 20000 in
theorem ggX7_nimberOf_X7_isRegister : GoodIn wsX7_nimberOf wsX7_isRegister := goodIn_r _ [5, 6, 7, 8, 4, 9] (by decide +kernel) (by decide +kernel)
set_option maxRecDepth 20000 in
theorem gX7_nimberOf_X7_isRegister : GoodIn wsX7_nimberOf (va_wsS RX7 64 yX7_isRegister wsX7_isRegister) := goodIn_app (goodIn_of _ (by decide +kernel)) ggX7_nimberOf_X7_isRegister
set_option maxRecDepth 20000 in
theorem ggX7_nimberOf_X7_told : GoodIn wsX7_nimberOf wsX7_told := goodIn_r _ [13, 14, 19, 20, 21, 22, 23, 24, 25, 26, 27, 28, 29, 30, 31, 32, 33, 34, 35] (by decide +kernel) (by decide +kernel)
set_option maxRecDepth 20000 in
theorem gX7_nimberOf_X7_told : GoodIn wsX7_nimberOf (wsV RX7 127 RX7 yX7_told wsX7_told) := goodIn_app (goodIn_of _ (by decide +kernel)) ggX7_nimberOf_X7_told
set_option maxRecDepth 20000 in
theorem ggX7_nimberOf_X7_fails : GoodIn wsX7_nimberOf wsX7_fails := goodIn_r _ [18, 14, 19, 20, 21, 22, 23, 24, 25, 26, 27, 28, 29, 30, 31, 32, 33, 34, 35] (by decide +kernel) (by decide +kernel)
set_option maxRecDepth 20000 in
theorem gX7_nimberOf_X7_fails : GoodIn wsX7_nimberOf (wsV RX7 68 RX7 yX7_fails wsX7_fails) := goodIn_app (goodIn_of _ (by decide +kernel)) ggX7_nimberOf_X7_fails
theorem dX7_nimberOf_0 : decode cX7_nimberOf 0 = .ok (.iload_n 1, 1) := by decide +kernel
theorem dX7_nimberOf_1 : decode cX7_nimberOf 1 = .ok (.invokestatic 64, 3) := by decide +kernel
theorem dX7_nimberOf_4 : decode cX7_nimberOf 4 = .ok (.ifCond .eq 16, 3) := by decide +kernel
theorem dX7_nimberOf_7 : decode cX7_nimberOf 7 = .ok (.aload_n 0, 1) := by decide +kernel
theorem dX7_nimberOf_8 : decode cX7_nimberOf 8 = .ok (.aload_n 0, 1) := by decide +kernel
theorem dX7_nimberOf_9 : decode cX7_nimberOf 9 = .ok (.getfield 7, 3) := by decide +kernel
theorem dX7_nimberOf_12 : decode cX7_nimberOf 12 = .ok (.iload_n 1, 1) := by decide +kernel
theorem dX7_nimberOf_13 : decode cX7_nimberOf 13 = .ok (.iaload, 1) := by decide +kernel
theorem dX7_nimberOf_14 : decode cX7_nimberOf 14 = .ok (.invokevirtual 127, 3) := by decide +kernel
theorem dX7_nimberOf_17 : decode cX7_nimberOf 17 = .ok (.goto 8, 3) := by decide +kernel
theorem dX7_nimberOf_20 : decode cX7_nimberOf 20 = .ok (.aload_n 0, 1) := by decide +kernel
theorem dX7_nimberOf_21 : decode cX7_nimberOf 21 = .ok (.iconst 1, 1) := by decide +kernel
theorem dX7_nimberOf_22 : decode cX7_nimberOf 22 = .ok (.invokevirtual 68, 3) := by decide +kernel
theorem dX7_nimberOf_25 : decode cX7_nimberOf 25 = .ok (.ireturn, 1) := by decide +kernel
set_option maxRecDepth 20000 in
theorem ggX7_sumOfAll_X7_sum : GoodIn wsX7_sumOfAll wsX7_sum := goodIn_r _ [5, 6, 12, 13, 14, 15, 16, 17, 18, 19, 20, 21, 22, 23, 24, 25, 26, 27, 28] (by decide +kernel) (by decide +kernel)
set_option maxRecDepth 20000 in
theorem gX7_sumOfAll_X7_sum : GoodIn wsX7_sumOfAll (wsV RX7 145 RX7 yX7_sum wsX7_sum) := goodIn_app (goodIn_of _ (by decide +kernel)) ggX7_sumOfAll_X7_sum
set_option maxRecDepth 20000 in
theorem ggX7_sumOfAll_X7_told : GoodIn wsX7_sumOfAll wsX7_told := goodIn_r _ [10, 11, 12, 13, 14, 15, 16, 17, 18, 19, 20, 21, 22, 23, 24, 25, 26, 27, 28] (by decide +kernel) (by decide +kernel)
set_option maxRecDepth 20000 in
theorem gX7_sumOfAll_X7_told : GoodIn wsX7_sumOfAll (wsV RX7 127 RX7 yX7_told wsX7_told) := goodIn_app (goodIn_of _ (by decide +kernel)) ggX7_sumOfAll_X7_told
theorem dX7_sumOfAll_0 : decode cX7_sumOfAll 0 = .ok (.aload_n 0, 1) := by decide +kernel
theorem dX7_sumOfAll_1 : decode cX7_sumOfAll 1 = .ok (.aload_n 0, 1) := by decide +kernel
theorem dX7_sumOfAll_2 : decode cX7_sumOfAll 2 = .ok (.invokevirtual 145, 3) := by decide +kernel
theorem dX7_sumOfAll_5 : decode cX7_sumOfAll 5 = .ok (.invokevirtual 127, 3) := by decide +kernel
theorem dX7_sumOfAll_8 : decode cX7_sumOfAll 8 = .ok (.ireturn, 1) := by decide +kernel
set_option maxRecDepth 20000 in
theorem ggX7_registerToLessen_X7_sum : GoodIn wsX7_registerToLessen wsX7_sum := goodIn_r _ [7, 2, 8, 9, 10, 11, 12, 13, 14, 15, 16, 17, 18, 19, 20, 21, 22, 23, 24] (by decide +kernel) (by decide +kernel)
set_option maxRecDepth 20000 in
theorem gX7_registerToLessen_X7_sum : GoodIn wsX7_registerToLessen (wsV RX7 145 RX7 yX7_sum wsX7_sum) := goodIn_app (goodIn_of _ (by decide +kernel)) ggX7_registerToLessen_X7_sum
theorem dX7_registerToLessen_0 : decode cX7_registerToLessen 0 = .ok (.aload_n 0, 1) := by decide +kernel
theorem dX7_registerToLessen_1 : decode cX7_registerToLessen 1 = .ok (.iconst 0, 1) := by decide +kernel
theorem dX7_registerToLessen_2 : decode cX7_registerToLessen 2 = .ok (.putfield 31, 3) := by decide +kernel
theorem dX7_registerToLessen_5 : decode cX7_registerToLessen 5 = .ok (.aload_n 0, 1) := by decide +kernel
theorem dX7_registerToLessen_6 : decode cX7_registerToLessen 6 = .ok (.invokevirtual 145, 3) := by decide +kernel
theorem dX7_registerToLessen_9 : decode cX7_registerToLessen 9 = .ok (.istore_n 1, 1) := by decide +kernel
theorem dX7_registerToLessen_10 : decode cX7_registerToLessen 10 = .ok (.iconst 0, 1) := by decide +kernel
theorem dX7_registerToLessen_11 : decode cX7_registerToLessen 11 = .ok (.istore_n 2, 1) := by decide +kernel
theorem dX7_registerToLessen_12 : decode cX7_registerToLessen 12 = .ok (.iload_n 2, 1) := by decide +kernel
theorem dX7_registerToLessen_13 : decode cX7_registerToLessen 13 = .ok (.bipush 8, 2) := by decide +kernel
theorem dX7_registerToLessen_15 : decode cX7_registerToLessen 15 = .ok (.if_icmp .ge 28, 3) := by decide +kernel
theorem dX7_registerToLessen_18 : decode cX7_registerToLessen 18 = .ok (.aload_n 0, 1) := by decide +kernel
theorem dX7_registerToLessen_19 : decode cX7_registerToLessen 19 = .ok (.getfield 7, 3) := by decide +kernel
theorem dX7_registerToLessen_22 : decode cX7_registerToLessen 22 = .ok (.iload_n 2, 1) := by decide +kernel
theorem dX7_registerToLessen_23 : decode cX7_registerToLessen 23 = .ok (.iaload, 1) := by decide +kernel
theorem dX7_registerToLessen_24 : decode cX7_registerToLessen 24 = .ok (.iload_n 1, 1) := by decide +kernel
theorem dX7_registerToLessen_25 : decode cX7_registerToLessen 25 = .ok (.ixor, 1) := by decide +kernel
theorem dX7_registerToLessen_26 : decode cX7_registerToLessen 26 = .ok (.aload_n 0, 1) := by decide +kernel
theorem dX7_registerToLessen_27 : decode cX7_registerToLessen 27 = .ok (.getfield 7, 3) := by decide +kernel
theorem dX7_registerToLessen_30 : decode cX7_registerToLessen 30 = .ok (.iload_n 2, 1) := by decide +kernel
theorem dX7_registerToLessen_31 : decode cX7_registerToLessen 31 = .ok (.iaload, 1) := by decide +kernel
theorem dX7_registerToLessen_32 : decode cX7_registerToLessen 32 = .ok (.if_icmp .ge 5, 3) := by decide +kernel
theorem dX7_registerToLessen_35 : decode cX7_registerToLessen 35 = .ok (.iload_n 2, 1) := by decide +kernel
theorem dX7_registerToLessen_36 : decode cX7_registerToLessen 36 = .ok (.ireturn, 1) := by decide +kernel
theorem dX7_registerToLessen_37 : decode cX7_registerToLessen 37 = .ok (.iinc 2 1, 3) := by decide +kernel
theorem dX7_registerToLessen_40 : decode cX7_registerToLessen 40 = .ok (.goto (-28), 3) := by decide +kernel
theorem dX7_registerToLessen_43 : decode cX7_registerToLessen 43 = .ok (.iconst (-1), 1) := by decide +kernel
theorem dX7_registerToLessen_44 : decode cX7_registerToLessen 44 = .ok (.ireturn, 1) := by decide +kernel
set_option maxRecDepth 20000 in
theorem ggX7_product_X7_isNimber : GoodIn wsX7_product wsX7_isNimber := goodIn_r _ [4, 5, 6, 7, 3, 8] (by decide +kernel) (by decide +kernel)
set_option maxRecDepth 20000 in
theorem gX7_product_X7_isNimber : GoodIn wsX7_product (va_wsS RX7 72 yX7_isNimber wsX7_isNimber) := goodIn_app (goodIn_of _ (by decide +kernel)) ggX7_product_X7_isNimber
set_option maxRecDepth 20000 in
theorem ggX7_product_X7_times : GoodIn wsX7_product wsX7_times := goodIn_r _ [11, 12, 13, 3, 14, 15, 16, 17, 18, 19, 20] (by decide +kernel) (by decide +kernel)
set_option maxRecDepth 20000 in
theorem gX7_product_X7_times : GoodIn wsX7_product (va_wsS RX7 56 yX7_times wsX7_times) := goodIn_app (goodIn_of _ (by decide +kernel)) ggX7_product_X7_times
set_option maxRecDepth 20000 in
theorem ggX7_product_X7_told : GoodIn wsX7_product wsX7_told := goodIn_r _ [24, 25, 30, 31, 32, 33, 34, 35, 36, 37, 38, 39, 40, 41, 42, 43, 44, 45, 46] (by decide +kernel) (by decide +kernel)
set_option maxRecDepth 20000 in
theorem gX7_product_X7_told : GoodIn wsX7_product (wsV RX7 127 RX7 yX7_told wsX7_told) := goodIn_app (goodIn_of _ (by decide +kernel)) ggX7_product_X7_told
set_option maxRecDepth 20000 in
theorem ggX7_product_X7_fails : GoodIn wsX7_product wsX7_fails := goodIn_r _ [29, 25, 30, 31, 32, 33, 34, 35, 36, 37, 38, 39, 40, 41, 42, 43, 44, 45, 46] (by decide +kernel) (by decide +kernel)
set_option maxRecDepth 20000 in
theorem gX7_product_X7_fails : GoodIn wsX7_product (wsV RX7 68 RX7 yX7_fails wsX7_fails) := goodIn_app (goodIn_of _ (by decide +kernel)) ggX7_product_X7_fails
theorem dX7_product_0 : decode cX7_product 0 = .ok (.iload_n 1, 1) := by decide +kernel
theorem dX7_product_1 : decode cX7_product 1 = .ok (.invokestatic 72, 3) := by decide +kernel
theorem dX7_product_4 : decode cX7_product 4 = .ok (.ifCond .eq 22, 3) := by decide +kernel
theorem dX7_product_7 : decode cX7_product 7 = .ok (.iload_n 2, 1) := by decide +kernel
theorem dX7_product_8 : decode cX7_product 8 = .ok (.invokestatic 72, 3) := by decide +kernel
theorem dX7_product_11 : decode cX7_product 11 = .ok (.ifCond .eq 15, 3) := by decide +kernel
theorem dX7_product_14 : decode cX7_product 14 = .ok (.aload_n 0, 1) := by decide +kernel
theorem dX7_product_15 : decode cX7_product 15 = .ok (.iload_n 1, 1) := by decide +kernel
theorem dX7_product_16 : decode cX7_product 16 = .ok (.iload_n 2, 1) := by decide +kernel
theorem dX7_product_17 : decode cX7_product 17 = .ok (.invokestatic 56, 3) := by decide +kernel
theorem dX7_product_20 : decode cX7_product 20 = .ok (.invokevirtual 127, 3) := by decide +kernel
theorem dX7_product_23 : decode cX7_product 23 = .ok (.goto 8, 3) := by decide +kernel
theorem dX7_product_26 : decode cX7_product 26 = .ok (.aload_n 0, 1) := by decide +kernel
theorem dX7_product_27 : decode cX7_product 27 = .ok (.iconst 1, 1) := by decide +kernel
theorem dX7_product_28 : decode cX7_product 28 = .ok (.invokevirtual 68, 3) := by decide +kernel
theorem dX7_product_31 : decode cX7_product 31 = .ok (.ireturn, 1) := by decide +kernel
set_option maxRecDepth 20000 in
theorem ggX7_productByHalves_X7_product : GoodIn wsX7_productByHalves wsX7_product := goodIn_r _ [5, 6, 7, 4, 8, 9, 10, 11, 12, 13, 14, 15, 16, 17, 18, 19, 20, 21, 22, 23, 24, 25, 26, 27, 28, 29, 30, 31, 32, 33, 34, 35, 36, 37, 38, 39, 40, 41, 42, 43, 44, 45, 46, 47, 48, 49, 50] (by decide +kernel) (by decide +kernel)
set_option maxRecDepth 20000 in
theorem gX7_productByHalves_X7_product : GoodIn wsX7_productByHalves (wsV RX7 148 RX7 yX7_product wsX7_product) := goodIn_app (goodIn_of _ (by decide +kernel)) ggX7_productByHalves_X7_product
theorem dX7_productByHalves_0 : decode cX7_productByHalves 0 = .ok (.aload_n 0, 1) := by decide +kernel
theorem dX7_productByHalves_1 : decode cX7_productByHalves 1 = .ok (.iload_n 1, 1) := by decide +kernel
theorem dX7_productByHalves_2 : decode cX7_productByHalves 2 = .ok (.iload_n 2, 1) := by decide +kernel
theorem dX7_productByHalves_3 : decode cX7_productByHalves 3 = .ok (.invokevirtual 148, 3) := by decide +kernel
theorem dX7_productByHalves_6 : decode cX7_productByHalves 6 = .ok (.ireturn, 1) := by decide +kernel
set_option maxRecDepth 20000 in
theorem ggX7_productByBits_X7_product : GoodIn wsX7_productByBits wsX7_product := goodIn_r _ [5, 6, 7, 4, 8, 9, 10, 11, 12, 13, 14, 15, 16, 17, 18, 19, 20, 21, 22, 23, 24, 25, 26, 27, 28, 29, 30, 31, 32, 33, 34, 35, 36, 37, 38, 39, 40, 41, 42, 43, 44, 45, 46, 47, 48, 49, 50] (by decide +kernel) (by decide +kernel)
set_option maxRecDepth 20000 in
theorem gX7_productByBits_X7_product : GoodIn wsX7_productByBits (wsV RX7 148 RX7 yX7_product wsX7_product) := goodIn_app (goodIn_of _ (by decide +kernel)) ggX7_productByBits_X7_product
theorem dX7_productByBits_0 : decode cX7_productByBits 0 = .ok (.aload_n 0, 1) := by decide +kernel
theorem dX7_productByBits_1 : decode cX7_productByBits 1 = .ok (.iload_n 1, 1) := by decide +kernel
theorem dX7_productByBits_2 : decode cX7_productByBits 2 = .ok (.iload_n 2, 1) := by decide +kernel
theorem dX7_productByBits_3 : decode cX7_productByBits 3 = .ok (.invokevirtual 148, 3) := by decide +kernel
theorem dX7_productByBits_6 : decode cX7_productByBits 6 = .ok (.ireturn, 1) := by decide +kernel
set_option maxRecDepth 20000 in
theorem ggX7_productByTable_X7_in : GoodIn wsX7_productByTable wsX7_in := goodIn_r _ [5] (by decide +kernel) (by decide +kernel)
set_option maxRecDepth 20000 in
theorem gX7_productByTable_X7_in : GoodIn wsX7_productByTable (va_wsS RX7 40 yX7_in wsX7_in) := goodIn_app (goodIn_of _ (by decide +kernel)) ggX7_productByTable_X7_in
set_option maxRecDepth 20000 in
theorem ggX7_productByTable_X7_product : GoodIn wsX7_productByTable wsX7_product := goodIn_r _ [9, 10, 11, 4, 12, 13, 2, 3, 5, 14, 15, 16, 17, 18, 19, 20, 21, 22, 23, 24, 25, 26, 27, 28, 29, 30, 31, 32, 33, 34, 35, 36, 37, 38, 39, 40, 41, 42, 43, 44, 45, 46, 47, 48, 49, 50, 51] (by decide +kernel) (by decide +kernel)
set_option maxRecDepth 20000 in
theorem gX7_productByTable_X7_product : GoodIn wsX7_productByTable (wsV RX7 148 RX7 yX7_product wsX7_product) := goodIn_app (goodIn_of _ (by decide +kernel)) ggX7_productByTable_X7_product
set_option maxRecDepth 20000 in
theorem ggX7_productByTable_X7_fails : GoodIn wsX7_productByTable wsX7_fails := goodIn_r _ [34, 30, 35, 36, 37, 38, 39, 40, 41, 42, 43, 44, 45, 46, 47, 48, 49, 50, 51] (by decide +kernel) (by decide +kernel)
set_option maxRecDepth 20000 in
theorem gX7_productByTable_X7_fails : GoodIn wsX7_productByTable (wsV RX7 68 RX7 yX7_fails wsX7_fails) := goodIn_app (goodIn_of _ (by decide +kernel)) ggX7_productByTable_X7_fails
theorem dX7_productByTable_0 : decode cX7_productByTable 0 = .ok (.iload_n 1, 1) := by decide +kernel
theorem dX7_productByTable_1 : decode cX7_productByTable 1 = .ok (.i2l, 1) := by decide +kernel
theorem dX7_productByTable_2 : decode cX7_productByTable 2 = .ok (.lconst 0, 1) := by decide +kernel
theorem dX7_productByTable_3 : decode cX7_productByTable 3 = .ok (.ldc2_w 151, 3) := by decide +kernel
theorem dX7_productByTable_6 : decode cX7_productByTable 6 = .ok (.invokestatic 40, 3) := by decide +kernel
theorem dX7_productByTable_9 : decode cX7_productByTable 9 = .ok (.ifCond .eq 24, 3) := by decide +kernel
theorem dX7_productByTable_12 : decode cX7_productByTable 12 = .ok (.iload_n 2, 1) := by decide +kernel
theorem dX7_productByTable_13 : decode cX7_productByTable 13 = .ok (.i2l, 1) := by decide +kernel
theorem dX7_productByTable_14 : decode cX7_productByTable 14 = .ok (.lconst 0, 1) := by decide +kernel
theorem dX7_productByTable_15 : decode cX7_productByTable 15 = .ok (.ldc2_w 151, 3) := by decide +kernel
theorem dX7_productByTable_18 : decode cX7_productByTable 18 = .ok (.invokestatic 40, 3) := by decide +kernel
theorem dX7_productByTable_21 : decode cX7_productByTable 21 = .ok (.ifCond .eq 12, 3) := by decide +kernel
theorem dX7_productByTable_24 : decode cX7_productByTable 24 = .ok (.aload_n 0, 1) := by decide +kernel
theorem dX7_productByTable_25 : decode cX7_productByTable 25 = .ok (.iload_n 1, 1) := by decide +kernel
theorem dX7_productByTable_26 : decode cX7_productByTable 26 = .ok (.iload_n 2, 1) := by decide +kernel
theorem dX7_productByTable_27 : decode cX7_productByTable 27 = .ok (.invokevirtual 148, 3) := by decide +kernel
theorem dX7_productByTable_30 : decode cX7_productByTable 30 = .ok (.goto 8, 3) := by decide +kernel
theorem dX7_productByTable_33 : decode cX7_productByTable 33 = .ok (.aload_n 0, 1) := by decide +kernel
theorem dX7_productByTable_34 : decode cX7_productByTable 34 = .ok (.iconst 1, 1) := by decide +kernel
theorem dX7_productByTable_35 : decode cX7_productByTable 35 = .ok (.invokevirtual 68, 3) := by decide +kernel
theorem dX7_productByTable_38 : decode cX7_productByTable 38 = .ok (.ireturn, 1) := by decide +kernel
set_option maxRecDepth 20000 in
theorem ggX7_quotient_X7_isNimber : GoodIn wsX7_quotient wsX7_isNimber := goodIn_r _ [4, 5, 6, 7, 3, 8] (by decide +kernel) (by decide +kernel)
set_option maxRecDepth 20000 in
theorem gX7_quotient_X7_isNimber : GoodIn wsX7_quotient (va_wsS RX7 72 yX7_isNimber wsX7_isNimber) := goodIn_app (goodIn_of _ (by decide +kernel)) ggX7_quotient_X7_isNimber
set_option maxRecDepth 20000 in
theorem ggX7_quotient_X7_fails : GoodIn wsX7_quotient wsX7_fails := goodIn_r _ [12, 13, 37, 38, 39, 40, 41, 42, 43, 44, 45, 46, 47, 48, 49, 50, 51, 52, 53] (by decide +kernel) (by decide +kernel)
set_option maxRecDepth 20000 in
theorem gX7_quotient_X7_fails : GoodIn wsX7_quotient (wsV RX7 68 RX7 yX7_fails wsX7_fails) := goodIn_app (goodIn_of _ (by decide +kernel)) ggX7_quotient_X7_fails
set_option maxRecDepth 20000 in
theorem ggX7_quotient_X7_inverted : GoodIn wsX7_quotient wsX7_inverted := goodIn_r _ [16, 17, 18, 19, 3, 20, 21, 22, 23, 24, 25, 26, 27, 28, 29, 30, 31, 32] (by decide +kernel) (by decide +kernel)
set_option maxRecDepth 20000 in
theorem gX7_quotient_X7_inverted : GoodIn wsX7_quotient (va_wsS RX7 81 yX7_inverted wsX7_inverted) := goodIn_app (goodIn_of _ (by decide +kernel)) ggX7_quotient_X7_inverted
set_option maxRecDepth 20000 in
theorem ggX7_quotient_X7_times : GoodIn wsX7_quotient wsX7_times := goodIn_r _ [23, 24, 25, 3, 26, 27, 28, 29, 30, 31, 32] (by decide +kernel) (by decide +kernel)
set_option maxRecDepth 20000 in
theorem gX7_quotient_X7_times : GoodIn wsX7_quotient (va_wsS RX7 56 yX7_times wsX7_times) := goodIn_app (goodIn_of _ (by decide +kernel)) ggX7_quotient_X7_times
set_option maxRecDepth 20000 in
theorem ggX7_quotient_X7_told : GoodIn wsX7_quotient wsX7_told := goodIn_r _ [36, 13, 37, 38, 39, 40, 41, 42, 43, 44, 45, 46, 47, 48, 49, 50, 51, 52, 53] (by decide +kernel) (by decide +kernel)
set_option maxRecDepth 20000 in
theorem gX7_quotient_X7_told : GoodIn wsX7_quotient (wsV RX7 127 RX7 yX7_told wsX7_told) := goodIn_app (goodIn_of _ (by decide +kernel)) ggX7_quotient_X7_told
theorem dX7_quotient_0 : decode cX7_quotient 0 = .ok (.iload_n 1, 1) := by decide +kernel
theorem dX7_quotient_1 : decode cX7_quotient 1 = .ok (.invokestatic 72, 3) := by decide +kernel
theorem dX7_quotient_4 : decode cX7_quotient 4 = .ok (.ifCond .eq 10, 3) := by decide +kernel
theorem dX7_quotient_7 : decode cX7_quotient 7 = .ok (.iload_n 2, 1) := by decide +kernel
theorem dX7_quotient_8 : decode cX7_quotient 8 = .ok (.invokestatic 72, 3) := by decide +kernel
theorem dX7_quotient_11 : decode cX7_quotient 11 = .ok (.ifCond .ne 9, 3) := by decide +kernel
theorem dX7_quotient_14 : decode cX7_quotient 14 = .ok (.aload_n 0, 1) := by decide +kernel
theorem dX7_quotient_15 : decode cX7_quotient 15 = .ok (.iconst 1, 1) := by decide +kernel
theorem dX7_quotient_16 : decode cX7_quotient 16 = .ok (.invokevirtual 68, 3) := by decide +kernel
theorem dX7_quotient_19 : decode cX7_quotient 19 = .ok (.ireturn, 1) := by decide +kernel
theorem dX7_quotient_20 : decode cX7_quotient 20 = .ok (.aload_n 0, 1) := by decide +kernel
theorem dX7_quotient_21 : decode cX7_quotient 21 = .ok (.iload_n 2, 1) := by decide +kernel
theorem dX7_quotient_22 : decode cX7_quotient 22 = .ok (.ifCond .ne 7, 3) := by decide +kernel
theorem dX7_quotient_25 : decode cX7_quotient 25 = .ok (.iconst (-1), 1) := by decide +kernel
theorem dX7_quotient_26 : decode cX7_quotient 26 = .ok (.goto 11, 3) := by decide +kernel
theorem dX7_quotient_29 : decode cX7_quotient 29 = .ok (.iload_n 1, 1) := by decide +kernel
theorem dX7_quotient_30 : decode cX7_quotient 30 = .ok (.iload_n 2, 1) := by decide +kernel
theorem dX7_quotient_31 : decode cX7_quotient 31 = .ok (.invokestatic 81, 3) := by decide +kernel
theorem dX7_quotient_34 : decode cX7_quotient 34 = .ok (.invokestatic 56, 3) := by decide +kernel
theorem dX7_quotient_37 : decode cX7_quotient 37 = .ok (.invokevirtual 127, 3) := by decide +kernel
theorem dX7_quotient_40 : decode cX7_quotient 40 = .ok (.ireturn, 1) := by decide +kernel
set_option maxRecDepth 20000 in
theorem ggX7_power_X7_isNimber : GoodIn wsX7_power wsX7_isNimber := goodIn_r _ [5, 6, 7, 8, 4, 9] (by decide +kernel) (by decide +kernel)
set_option maxRecDepth 20000 in
theorem gX7_power_X7_isNimber : GoodIn wsX7_power (va_wsS RX7 72 yX7_isNimber wsX7_isNimber) := goodIn_app (goodIn_of _ (by decide +kernel)) ggX7_power_X7_isNimber
set_option maxRecDepth 20000 in
theorem ggX7_power_X7_in : GoodIn wsX7_power wsX7_in := goodIn_r _ [9] (by decide +kernel) (by decide +kernel)
set_option maxRecDepth 20000 in
theorem gX7_power_X7_in : GoodIn wsX7_power (va_wsS RX7 40 yX7_in wsX7_in) := goodIn_app (goodIn_of _ (by decide +kernel)) ggX7_power_X7_in
set_option maxRecDepth 20000 in
theorem ggX7_power_X7_powered : GoodIn wsX7_power wsX7_powered := goodIn_r _ [12, 13, 14, 4, 15, 16, 17, 18, 19, 20, 21, 22, 23, 24] (by decide +kernel) (by decide +kernel)
set_option maxRecDepth 20000 in
theorem gX7_power_X7_powered : GoodIn wsX7_power (va_wsS RX7 60 yX7_powered wsX7_powered) := goodIn_app (goodIn_of _ (by decide +kernel)) ggX7_power_X7_powered
set_option maxRecDepth 20000 in
theorem ggX7_power_X7_told : GoodIn wsX7_power wsX7_told := goodIn_r _ [28, 29, 34, 35, 36, 37, 38, 39, 40, 41, 42, 43, 44, 45, 46, 47, 48, 49, 50] (by decide +kernel) (by decide +kernel)
set_option maxRecDepth 20000 in
theorem gX7_power_X7_told : GoodIn wsX7_power (wsV RX7 127 RX7 yX7_told wsX7_told) := goodIn_app (goodIn_of _ (by decide +kernel)) ggX7_power_X7_told
set_option maxRecDepth 20000 in
theorem ggX7_power_X7_fails : GoodIn wsX7_power wsX7_fails := goodIn_r _ [33, 29, 34, 35, 36, 37, 38, 39, 40, 41, 42, 43, 44, 45, 46, 47, 48, 49, 50] (by decide +kernel) (by decide +kernel)
set_option maxRecDepth 20000 in
theorem gX7_power_X7_fails : GoodIn wsX7_power (wsV RX7 68 RX7 yX7_fails wsX7_fails) := goodIn_app (goodIn_of _ (by decide +kernel)) ggX7_power_X7_fails
theorem dX7_power_0 : decode cX7_power 0 = .ok (.iload_n 1, 1) := by decide +kernel
theorem dX7_power_1 : decode cX7_power 1 = .ok (.invokestatic 72, 3) := by decide +kernel
theorem dX7_power_4 : decode cX7_power 4 = .ok (.ifCond .eq 27, 3) := by decide +kernel
theorem dX7_power_7 : decode cX7_power 7 = .ok (.iload_n 2, 1) := by decide +kernel
theorem dX7_power_8 : decode cX7_power 8 = .ok (.i2l, 1) := by decide +kernel
theorem dX7_power_9 : decode cX7_power 9 = .ok (.lconst 0, 1) := by decide +kernel
theorem dX7_power_10 : decode cX7_power 10 = .ok (.ldc2_w 153, 3) := by decide +kernel
theorem dX7_power_13 : decode cX7_power 13 = .ok (.invokestatic 40, 3) := by decide +kernel
theorem dX7_power_16 : decode cX7_power 16 = .ok (.ifCond .eq 15, 3) := by decide +kernel
theorem dX7_power_19 : decode cX7_power 19 = .ok (.aload_n 0, 1) := by decide +kernel
theorem dX7_power_20 : decode cX7_power 20 = .ok (.iload_n 1, 1) := by decide +kernel
theorem dX7_power_21 : decode cX7_power 21 = .ok (.iload_n 2, 1) := by decide +kernel
theorem dX7_power_22 : decode cX7_power 22 = .ok (.invokestatic 60, 3) := by decide +kernel
theorem dX7_power_25 : decode cX7_power 25 = .ok (.invokevirtual 127, 3) := by decide +kernel
theorem dX7_power_28 : decode cX7_power 28 = .ok (.goto 8, 3) := by decide +kernel
theorem dX7_power_31 : decode cX7_power 31 = .ok (.aload_n 0, 1) := by decide +kernel
theorem dX7_power_32 : decode cX7_power 32 = .ok (.iconst 1, 1) := by decide +kernel
theorem dX7_power_33 : decode cX7_power 33 = .ok (.invokevirtual 68, 3) := by decide +kernel
theorem dX7_power_36 : decode cX7_power 36 = .ok (.ireturn, 1) := by decide +kernel
set_option maxRecDepth 20000 in
theorem ggX7_rootOf_X7_isNimber : GoodIn wsX7_rootOf wsX7_isNimber := goodIn_r _ [4, 5, 6, 7, 3, 8] (by decide +kernel) (by decide +kernel)
set_option maxRecDepth 20000 in
theorem gX7_rootOf_X7_isNimber : GoodIn wsX7_rootOf (va_wsS RX7 72 yX7_isNimber wsX7_isNimber) := goodIn_app (goodIn_of _ (by decide +kernel)) ggX7_rootOf_X7_isNimber
set_option maxRecDepth 20000 in
theorem ggX7_rootOf_X7_root : GoodIn wsX7_rootOf wsX7_root := goodIn_r _ [11, 12, 13, 14, 3, 15, 16, 17, 18, 19, 20, 21, 22, 23, 24, 25, 26, 27] (by decide +kernel) (by decide +kernel)
set_option maxRecDepth 20000 in
theorem gX7_rootOf_X7_root : GoodIn wsX7_rootOf (va_wsS RX7 84 yX7_root wsX7_root) := goodIn_app (goodIn_of _ (by decide +kernel)) ggX7_rootOf_X7_root
set_option maxRecDepth 20000 in
theorem ggX7_rootOf_X7_told : GoodIn wsX7_rootOf wsX7_told := goodIn_r _ [31, 32, 37, 38, 39, 40, 41, 42, 43, 44, 45, 46, 47, 48, 49, 50, 51, 52, 53] (by decide +kernel) (by decide +kernel)
set_option maxRecDepth 20000 in
theorem gX7_rootOf_X7_told : GoodIn wsX7_rootOf (wsV RX7 127 RX7 yX7_told wsX7_told) := goodIn_app (goodIn_of _ (by decide +kernel)) ggX7_rootOf_X7_told
set_option maxRecDepth 20000 in
theorem ggX7_rootOf_X7_fails : GoodIn wsX7_rootOf wsX7_fails := goodIn_r _ [36, 32, 37, 38, 39, 40, 41, 42, 43, 44, 45, 46, 47, 48, 49, 50, 51, 52, 53] (by decide +kernel) (by decide +kernel)
set_option maxRecDepth 20000 in
theorem gX7_rootOf_X7_fails : GoodIn wsX7_rootOf (wsV RX7 68 RX7 yX7_fails wsX7_fails) := goodIn_app (goodIn_of _ (by decide +kernel)) ggX7_rootOf_X7_fails
theorem dX7_rootOf_0 : decode cX7_rootOf 0 = .ok (.iload_n 1, 1) := by decide +kernel
theorem dX7_rootOf_1 : decode cX7_rootOf 1 = .ok (.invokestatic 72, 3) := by decide +kernel
theorem dX7_rootOf_4 : decode cX7_rootOf 4 = .ok (.ifCond .eq 14, 3) := by decide +kernel
theorem dX7_rootOf_7 : decode cX7_rootOf 7 = .ok (.aload_n 0, 1) := by decide +kernel
theorem dX7_rootOf_8 : decode cX7_rootOf 8 = .ok (.iload_n 1, 1) := by decide +kernel
theorem dX7_rootOf_9 : decode cX7_rootOf 9 = .ok (.invokestatic 84, 3) := by decide +kernel
theorem dX7_rootOf_12 : decode cX7_rootOf 12 = .ok (.invokevirtual 127, 3) := by decide +kernel
theorem dX7_rootOf_15 : decode cX7_rootOf 15 = .ok (.goto 8, 3) := by decide +kernel
theorem dX7_rootOf_18 : decode cX7_rootOf 18 = .ok (.aload_n 0, 1) := by decide +kernel
theorem dX7_rootOf_19 : decode cX7_rootOf 19 = .ok (.iconst 1, 1) := by decide +kernel
theorem dX7_rootOf_20 : decode cX7_rootOf 20 = .ok (.invokevirtual 68, 3) := by decide +kernel
theorem dX7_rootOf_23 : decode cX7_rootOf 23 = .ok (.ireturn, 1) := by decide +kernel
set_option maxRecDepth 20000 in
theorem ggX7_fieldOf_X7_isNimber : GoodIn wsX7_fieldOf wsX7_isNimber := goodIn_r _ [4, 5, 6, 7, 3, 8] (by decide +kernel) (by decide +kernel)
set_option maxRecDepth 20000 in
theorem gX7_fieldOf_X7_isNimber : GoodIn wsX7_fieldOf (va_wsS RX7 72 yX7_isNimber wsX7_isNimber) := goodIn_app (goodIn_of _ (by decide +kernel)) ggX7_fieldOf_X7_isNimber
set_option maxRecDepth 20000 in
theorem ggX7_fieldOf_X7_fails : GoodIn wsX7_fieldOf wsX7_fails := goodIn_r _ [12, 13, 18, 19, 20, 21, 22, 23, 24, 25, 26, 27, 28, 29, 30, 31, 32, 33, 34] (by decide +kernel) (by decide +kernel)
set_option maxRecDepth 20000 in
theorem gX7_fieldOf_X7_fails : GoodIn wsX7_fieldOf (wsV RX7 68 RX7 yX7_fails wsX7_fails) := goodIn_app (goodIn_of _ (by decide +kernel)) ggX7_fieldOf_X7_fails
set_option maxRecDepth 20000 in
theorem ggX7_fieldOf_X7_told : GoodIn wsX7_fieldOf wsX7_told := goodIn_r _ [17, 13, 18, 19, 20, 21, 22, 23, 24, 25, 26, 27, 28, 29, 30, 31, 32, 33, 34] (by decide +kernel) (by decide +kernel)
set_option maxRecDepth 20000 in
theorem gX7_fieldOf_X7_told : GoodIn wsX7_fieldOf (wsV RX7 127 RX7 yX7_told wsX7_told) := goodIn_app (goodIn_of _ (by decide +kernel)) ggX7_fieldOf_X7_told
theorem dX7_fieldOf_0 : decode cX7_fieldOf 0 = .ok (.iload_n 1, 1) := by decide +kernel
theorem dX7_fieldOf_1 : decode cX7_fieldOf 1 = .ok (.invokestatic 72, 3) := by decide +kernel
theorem dX7_fieldOf_4 : decode cX7_fieldOf 4 = .ok (.ifCond .ne 9, 3) := by decide +kernel
theorem dX7_fieldOf_7 : decode cX7_fieldOf 7 = .ok (.aload_n 0, 1) := by decide +kernel
theorem dX7_fieldOf_8 : decode cX7_fieldOf 8 = .ok (.iconst 1, 1) := by decide +kernel
theorem dX7_fieldOf_9 : decode cX7_fieldOf 9 = .ok (.invokevirtual 68, 3) := by decide +kernel
theorem dX7_fieldOf_12 : decode cX7_fieldOf 12 = .ok (.ireturn, 1) := by decide +kernel
theorem dX7_fieldOf_13 : decode cX7_fieldOf 13 = .ok (.aload_n 0, 1) := by decide +kernel
theorem dX7_fieldOf_14 : decode cX7_fieldOf 14 = .ok (.iload_n 1, 1) := by decide +kernel
theorem dX7_fieldOf_15 : decode cX7_fieldOf 15 = .ok (.iconst 2, 1) := by decide +kernel
theorem dX7_fieldOf_16 : decode cX7_fieldOf 16 = .ok (.if_icmp .ge 7, 3) := by decide +kernel
theorem dX7_fieldOf_19 : decode cX7_fieldOf 19 = .ok (.iconst 1, 1) := by decide +kernel
theorem dX7_fieldOf_20 : decode cX7_fieldOf 20 = .ok (.goto 36, 3) := by decide +kernel
theorem dX7_fieldOf_23 : decode cX7_fieldOf 23 = .ok (.iload_n 1, 1) := by decide +kernel
theorem dX7_fieldOf_24 : decode cX7_fieldOf 24 = .ok (.iconst 4, 1) := by decide +kernel
theorem dX7_fieldOf_25 : decode cX7_fieldOf 25 = .ok (.if_icmp .ge 7, 3) := by decide +kernel
theorem dX7_fieldOf_28 : decode cX7_fieldOf 28 = .ok (.iconst 2, 1) := by decide +kernel
theorem dX7_fieldOf_29 : decode cX7_fieldOf 29 = .ok (.goto 27, 3) := by decide +kernel
theorem dX7_fieldOf_32 : decode cX7_fieldOf 32 = .ok (.iload_n 1, 1) := by decide +kernel
theorem dX7_fieldOf_33 : decode cX7_fieldOf 33 = .ok (.bipush 16, 2) := by decide +kernel
theorem dX7_fieldOf_35 : decode cX7_fieldOf 35 = .ok (.if_icmp .ge 7, 3) := by decide +kernel
theorem dX7_fieldOf_38 : decode cX7_fieldOf 38 = .ok (.iconst 4, 1) := by decide +kernel
theorem dX7_fieldOf_39 : decode cX7_fieldOf 39 = .ok (.goto 17, 3) := by decide +kernel
theorem dX7_fieldOf_42 : decode cX7_fieldOf 42 = .ok (.iload_n 1, 1) := by decide +kernel
theorem dX7_fieldOf_43 : decode cX7_fieldOf 43 = .ok (.sipush 256, 3) := by decide +kernel
theorem dX7_fieldOf_46 : decode cX7_fieldOf 46 = .ok (.if_icmp .ge 8, 3) := by decide +kernel
theorem dX7_fieldOf_49 : decode cX7_fieldOf 49 = .ok (.bipush 8, 2) := by decide +kernel
theorem dX7_fieldOf_51 : decode cX7_fieldOf 51 = .ok (.goto 5, 3) := by decide +kernel
theorem dX7_fieldOf_54 : decode cX7_fieldOf 54 = .ok (.bipush 16, 2) := by decide +kernel
theorem dX7_fieldOf_56 : decode cX7_fieldOf 56 = .ok (.invokevirtual 127, 3) := by decide +kernel
theorem dX7_fieldOf_59 : decode cX7_fieldOf 59 = .ok (.ireturn, 1) := by decide +kernel
set_option maxRecDepth 20000 in
theorem ggX7_orderBy_X7_powered : GoodIn wsX7_orderBy wsX7_powered := goodIn_r _ [4, 5, 6, 3, 7, 8, 9, 10, 11, 12, 13, 14, 15, 16] (by decide +kernel) (by decide +kernel)
set_option maxRecDepth 20000 in
theorem gX7_orderBy_X7_powered : GoodIn wsX7_orderBy (va_wsS RX7 60 yX7_powered wsX7_powered) := goodIn_app (goodIn_of _ (by decide +kernel)) ggX7_orderBy_X7_powered
theorem dX7_orderBy_0 : decode cX7_orderBy 0 = .ok (.iload_n 2, 1) := by decide +kernel
theorem dX7_orderBy_1 : decode cX7_orderBy 1 = .ok (.iload_n 1, 1) := by decide +kernel
theorem dX7_orderBy_2 : decode cX7_orderBy 2 = .ok (.irem, 1) := by decide +kernel
theorem dX7_orderBy_3 : decode cX7_orderBy 3 = .ok (.ifCond .ne 20, 3) := by decide +kernel
theorem dX7_orderBy_6 : decode cX7_orderBy 6 = .ok (.iload_n 0, 1) := by decide +kernel
theorem dX7_orderBy_7 : decode cX7_orderBy 7 = .ok (.iload_n 2, 1) := by decide +kernel
theorem dX7_orderBy_8 : decode cX7_orderBy 8 = .ok (.iload_n 1, 1) := by decide +kernel
theorem dX7_orderBy_9 : decode cX7_orderBy 9 = .ok (.idiv, 1) := by decide +kernel
theorem dX7_orderBy_10 : decode cX7_orderBy 10 = .ok (.invokestatic 60, 3) := by decide +kernel
theorem dX7_orderBy_13 : decode cX7_orderBy 13 = .ok (.iconst 1, 1) := by decide +kernel
theorem dX7_orderBy_14 : decode cX7_orderBy 14 = .ok (.if_icmp .ne 9, 3) := by decide +kernel
theorem dX7_orderBy_17 : decode cX7_orderBy 17 = .ok (.iload_n 2, 1) := by decide +kernel
theorem dX7_orderBy_18 : decode cX7_orderBy 18 = .ok (.iload_n 1, 1) := by decide +kernel
theorem dX7_orderBy_19 : decode cX7_orderBy 19 = .ok (.idiv, 1) := by decide +kernel
theorem dX7_orderBy_20 : decode cX7_orderBy 20 = .ok (.goto 4, 3) := by decide +kernel
theorem dX7_orderBy_23 : decode cX7_orderBy 23 = .ok (.iload_n 2, 1) := by decide +kernel
theorem dX7_orderBy_24 : decode cX7_orderBy 24 = .ok (.ireturn, 1) := by decide +kernel
set_option maxRecDepth 20000 in
theorem ggX7_order_X7_orderBy : GoodIn wsX7_order wsX7_orderBy := goodIn_r _ [5, 6, 7, 4, 8, 9, 10, 11, 12, 13, 14, 15, 16, 17, 18, 19, 20] (by decide +kernel) (by decide +kernel)
set_option maxRecDepth 20000 in
theorem gX7_order_X7_orderBy : GoodIn wsX7_order (va_wsS RX7 155 yX7_orderBy wsX7_orderBy) := goodIn_app (goodIn_of _ (by decide +kernel)) ggX7_order_X7_orderBy
theorem dX7_order_0 : decode cX7_order 0 = .ok (.iload_n 0, 1) := by decide +kernel
theorem dX7_order_1 : decode cX7_order 1 = .ok (.ifCond .ne 5, 3) := by decide +kernel
theorem dX7_order_4 : decode cX7_order 4 = .ok (.iconst (-1), 1) := by decide +kernel
theorem dX7_order_5 : decode cX7_order 5 = .ok (.ireturn, 1) := by decide +kernel
theorem dX7_order_6 : decode cX7_order 6 = .ok (.iload_n 0, 1) := by decide +kernel
theorem dX7_order_7 : decode cX7_order 7 = .ok (.sipush 257, 3) := by decide +kernel
theorem dX7_order_10 : decode cX7_order 10 = .ok (.iload_n 0, 1) := by decide +kernel
theorem dX7_order_11 : decode cX7_order 11 = .ok (.bipush 17, 2) := by decide +kernel
theorem dX7_order_13 : decode cX7_order 13 = .ok (.iload_n 0, 1) := by decide +kernel
theorem dX7_order_14 : decode cX7_order 14 = .ok (.iconst 5, 1) := by decide +kernel
theorem dX7_order_15 : decode cX7_order 15 = .ok (.iload_n 0, 1) := by decide +kernel
theorem dX7_order_16 : decode cX7_order 16 = .ok (.iconst 3, 1) := by decide +kernel
theorem dX7_order_17 : decode cX7_order 17 = .ok (.ldc 100, 2) := by decide +kernel
theorem dX7_order_19 : decode cX7_order 19 = .ok (.invokestatic 155, 3) := by decide +kernel
theorem dX7_order_22 : decode cX7_order 22 = .ok (.invokestatic 155, 3) := by decide +kernel
theorem dX7_order_25 : decode cX7_order 25 = .ok (.invokestatic 155, 3) := by decide +kernel
theorem dX7_order_28 : decode cX7_order 28 = .ok (.invokestatic 155, 3) := by decide +kernel
theorem dX7_order_31 : decode cX7_order 31 = .ok (.ireturn, 1) := by decide +kernel
set_option maxRecDepth 20000 in
theorem ggX7_orderByPowers_X7_in : GoodIn wsX7_orderByPowers wsX7_in := goodIn_r _ [5] (by decide +kernel) (by decide +kernel)
set_option maxRecDepth 20000 in
theorem gX7_orderByPowers_X7_in : GoodIn wsX7_orderByPowers (va_wsS RX7 40 yX7_in wsX7_in) := goodIn_app (goodIn_of _ (by decide +kernel)) ggX7_orderByPowers_X7_in
set_option maxRecDepth 20000 in
theorem ggX7_orderByPowers_X7_order : GoodIn wsX7_orderByPowers wsX7_order := goodIn_r _ [8, 9, 10, 11, 4, 12, 13, 14, 15, 16, 17, 18, 19, 20, 21, 22, 23, 24, 25, 26, 27] (by decide +kernel) (by decide +kernel)
set_option maxRecDepth 20000 in
theorem gX7_orderByPowers_X7_order : GoodIn wsX7_orderByPowers (va_wsS RX7 161 yX7_order wsX7_order) := goodIn_app (goodIn_of _ (by decide +kernel)) ggX7_orderByPowers_X7_order
set_option maxRecDepth 20000 in
theorem ggX7_orderByPowers_X7_told : GoodIn wsX7_orderByPowers wsX7_told := goodIn_r _ [31, 32, 37, 38, 39, 40, 41, 42, 43, 44, 45, 46, 47, 48, 49, 50, 51, 52, 53] (by decide +kernel) (by decide +kernel)
set_option maxRecDepth 20000 in
theorem gX7_orderByPowers_X7_told : GoodIn wsX7_orderByPowers (wsV RX7 127 RX7 yX7_told wsX7_told) := goodIn_app (goodIn_of _ (by decide +kernel)) ggX7_orderByPowers_X7_told
set_option maxRecDepth 20000 in
theorem ggX7_orderByPowers_X7_fails : GoodIn wsX7_orderByPowers wsX7_fails := goodIn_r _ [36, 32, 37, 38, 39, 40, 41, 42, 43, 44, 45, 46, 47, 48, 49, 50, 51, 52, 53] (by decide +kernel) (by decide +kernel)
set_option maxRecDepth 20000 in
theorem gX7_orderByPowers_X7_fails : GoodIn wsX7_orderByPowers (wsV RX7 68 RX7 yX7_fails wsX7_fails) := goodIn_app (goodIn_of _ (by decide +kernel)) ggX7_orderByPowers_X7_fails
theorem dX7_orderByPowers_0 : decode cX7_orderByPowers 0 = .ok (.iload_n 1, 1) := by decide +kernel
theorem dX7_orderByPowers_1 : decode cX7_orderByPowers 1 = .ok (.i2l, 1) := by decide +kernel
theorem dX7_orderByPowers_2 : decode cX7_orderByPowers 2 = .ok (.lconst 0, 1) := by decide +kernel
theorem dX7_orderByPowers_3 : decode cX7_orderByPowers 3 = .ok (.ldc2_w 159, 3) := by decide +kernel
theorem dX7_orderByPowers_6 : decode cX7_orderByPowers 6 = .ok (.invokestatic 40, 3) := by decide +kernel
theorem dX7_orderByPowers_9 : decode cX7_orderByPowers 9 = .ok (.ifCond .eq 14, 3) := by decide +kernel
theorem dX7_orderByPowers_12 : decode cX7_orderByPowers 12 = .ok (.aload_n 0, 1) := by decide +kernel
theorem dX7_orderByPowers_13 : decode cX7_orderByPowers 13 = .ok (.iload_n 1, 1) := by decide +kernel
theorem dX7_orderByPowers_14 : decode cX7_orderByPowers 14 = .ok (.invokestatic 161, 3) := by decide +kernel
theorem dX7_orderByPowers_17 : decode cX7_orderByPowers 17 = .ok (.invokevirtual 127, 3) := by decide +kernel
theorem dX7_orderByPowers_20 : decode cX7_orderByPowers 20 = .ok (.goto 8, 3) := by decide +kernel
theorem dX7_orderByPowers_23 : decode cX7_orderByPowers 23 = .ok (.aload_n 0, 1) := by decide +kernel
theorem dX7_orderByPowers_24 : decode cX7_orderByPowers 24 = .ok (.iconst 1, 1) := by decide +kernel
theorem dX7_orderByPowers_25 : decode cX7_orderByPowers 25 = .ok (.invokevirtual 68, 3) := by decide +kernel
theorem dX7_orderByPowers_28 : decode cX7_orderByPowers 28 = .ok (.ireturn, 1) := by decide +kernel
set_option maxRecDepth 20000 in
theorem ggX7_orderByDivisors_X7_isNimber : GoodIn wsX7_orderByDivisors wsX7_isNimber := goodIn_r _ [4, 5, 6, 7, 3, 8] (by decide +kernel) (by decide +kernel)
set_option maxRecDepth 20000 in
theorem gX7_orderByDivisors_X7_isNimber : GoodIn wsX7_orderByDivisors (va_wsS RX7 72 yX7_isNimber wsX7_isNimber) := goodIn_app (goodIn_of _ (by decide +kernel)) ggX7_orderByDivisors_X7_isNimber
set_option maxRecDepth 20000 in
theorem ggX7_orderByDivisors_X7_order : GoodIn wsX7_orderByDivisors wsX7_order := goodIn_r _ [11, 12, 13, 14, 3, 15, 16, 17, 18, 19, 20, 21, 22, 23, 24, 25, 26, 27, 28, 29, 30] (by decide +kernel) (by decide +kernel)
set_option maxRecDepth 20000 in
theorem gX7_orderByDivisors_X7_order : GoodIn wsX7_orderByDivisors (va_wsS RX7 161 yX7_order wsX7_order) := goodIn_app (goodIn_of _ (by decide +kernel)) ggX7_orderByDivisors_X7_order
set_option maxRecDepth 20000 in
theorem ggX7_orderByDivisors_X7_told : GoodIn wsX7_orderByDivisors wsX7_told := goodIn_r _ [34, 35, 40, 41, 42, 43, 44, 45, 46, 47, 48, 49, 50, 51, 52, 53, 54, 55, 56] (by decide +kernel) (by decide +kernel)
set_option maxRecDepth 20000 in
theorem gX7_orderByDivisors_X7_told : GoodIn wsX7_orderByDivisors (wsV RX7 127 RX7 yX7_told wsX7_told) := goodIn_app (goodIn_of _ (by decide +kernel)) ggX7_orderByDivisors_X7_told
set_option maxRecDepth 20000 in
theorem ggX7_orderByDivisors_X7_fails : GoodIn wsX7_orderByDivisors wsX7_fails := goodIn_r _ [39, 35, 40, 41, 42, 43, 44, 45, 46, 47, 48, 49, 50, 51, 52, 53, 54, 55, 56] (by decide +kernel) (by decide +kernel)
set_option maxRecDepth 20000 in
theorem gX7_orderByDivisors_X7_fails : GoodIn wsX7_orderByDivisors (wsV RX7 68 RX7 yX7_fails wsX7_fails) := goodIn_app (goodIn_of _ (by decide +kernel)) ggX7_orderByDivisors_X7_fails
theorem dX7_orderByDivisors_0 : decode cX7_orderByDivisors 0 = .ok (.iload_n 1, 1) := by decide +kernel
theorem dX7_orderByDivisors_1 : decode cX7_orderByDivisors 1 = .ok (.invokestatic 72, 3) := by decide +kernel
theorem dX7_orderByDivisors_4 : decode cX7_orderByDivisors 4 = .ok (.ifCond .eq 14, 3) := by decide +kernel
theorem dX7_orderByDivisors_7 : decode cX7_orderByDivisors 7 = .ok (.aload_n 0, 1) := by decide +kernel
theorem dX7_orderByDivisors_8 : decode cX7_orderByDivisors 8 = .ok (.iload_n 1, 1) := by decide +kernel
theorem dX7_orderByDivisors_9 : decode cX7_orderByDivisors 9 = .ok (.invokestatic 161, 3) := by decide +kernel
theorem dX7_orderByDivisors_12 : decode cX7_orderByDivisors 12 = .ok (.invokevirtual 127, 3) := by decide +kernel
theorem dX7_orderByDivisors_15 : decode cX7_orderByDivisors 15 = .ok (.goto 8, 3) := by decide +kernel
theorem dX7_orderByDivisors_18 : decode cX7_orderByDivisors 18 = .ok (.aload_n 0, 1) := by decide +kernel
theorem dX7_orderByDivisors_19 : decode cX7_orderByDivisors 19 = .ok (.iconst 1, 1) := by decide +kernel
theorem dX7_orderByDivisors_20 : decode cX7_orderByDivisors 20 = .ok (.invokevirtual 68, 3) := by decide +kernel
theorem dX7_orderByDivisors_23 : decode cX7_orderByDivisors 23 = .ok (.ireturn, 1) := by decide +kernel
set_option maxRecDepth 20000 in
theorem ggX7_trace_X7_times : GoodIn wsX7_trace wsX7_times := goodIn_r _ [4, 5, 6, 3, 7, 8, 9, 10, 11, 12, 13] (by decide +kernel) (by decide +kernel)
set_option maxRecDepth 20000 in
theorem gX7_trace_X7_times : GoodIn wsX7_trace (va_wsS RX7 56 yX7_times wsX7_times) := goodIn_app (goodIn_of _ (by decide +kernel)) ggX7_trace_X7_times
theorem dX7_trace_0 : decode cX7_trace 0 = .ok (.iconst 0, 1) := by decide +kernel
theorem dX7_trace_1 : decode cX7_trace 1 = .ok (.istore_n 1, 1) := by decide +kernel
theorem dX7_trace_2 : decode cX7_trace 2 = .ok (.iload_n 0, 1) := by decide +kernel
theorem dX7_trace_3 : decode cX7_trace 3 = .ok (.istore_n 2, 1) := by decide +kernel
theorem dX7_trace_4 : decode cX7_trace 4 = .ok (.iconst 0, 1) := by decide +kernel
theorem dX7_trace_5 : decode cX7_trace 5 = .ok (.istore_n 3, 1) := by decide +kernel
theorem dX7_trace_6 : decode cX7_trace 6 = .ok (.iload_n 3, 1) := by decide +kernel
theorem dX7_trace_7 : decode cX7_trace 7 = .ok (.bipush 16, 2) := by decide +kernel
theorem dX7_trace_9 : decode cX7_trace 9 = .ok (.if_icmp .ge 19, 3) := by decide +kernel
theorem dX7_trace_12 : decode cX7_trace 12 = .ok (.iload_n 1, 1) := by decide +kernel
theorem dX7_trace_13 : decode cX7_trace 13 = .ok (.iload_n 2, 1) := by decide +kernel
theorem dX7_trace_14 : decode cX7_trace 14 = .ok (.ixor, 1) := by decide +kernel
theorem dX7_trace_15 : decode cX7_trace 15 = .ok (.istore_n 1, 1) := by decide +kernel
theorem dX7_trace_16 : decode cX7_trace 16 = .ok (.iload_n 2, 1) := by decide +kernel
theorem dX7_trace_17 : decode cX7_trace 17 = .ok (.iload_n 2, 1) := by decide +kernel
theorem dX7_trace_18 : decode cX7_trace 18 = .ok (.invokestatic 56, 3) := by decide +kernel
theorem dX7_trace_21 : decode cX7_trace 21 = .ok (.istore_n 2, 1) := by decide +kernel
theorem dX7_trace_22 : decode cX7_trace 22 = .ok (.iinc 3 1, 3) := by decide +kernel
theorem dX7_trace_25 : decode cX7_trace 25 = .ok (.goto (-19), 3) := by decide +kernel
theorem dX7_trace_28 : decode cX7_trace 28 = .ok (.iload_n 1, 1) := by decide +kernel
theorem dX7_trace_29 : decode cX7_trace 29 = .ok (.ireturn, 1) := by decide +kernel
set_option maxRecDepth 20000 in
theorem ggX7_traceOf_X7_isNimber : GoodIn wsX7_traceOf wsX7_isNimber := goodIn_r _ [4, 5, 6, 7, 3, 8] (by decide +kernel) (by decide +kernel)
set_option maxRecDepth 20000 in
theorem gX7_traceOf_X7_isNimber : GoodIn wsX7_traceOf (va_wsS RX7 72 yX7_isNimber wsX7_isNimber) := goodIn_app (goodIn_of _ (by decide +kernel)) ggX7_traceOf_X7_isNimber
set_option maxRecDepth 20000 in
theorem ggX7_traceOf_X7_trace : GoodIn wsX7_traceOf wsX7_trace := goodIn_r _ [11, 12, 13, 3, 14, 15, 16, 17, 18, 19, 20, 21, 22, 23] (by decide +kernel) (by decide +kernel)
set_option maxRecDepth 20000 in
theorem gX7_traceOf_X7_trace : GoodIn wsX7_traceOf (va_wsS RX7 164 yX7_trace wsX7_trace) := goodIn_app (goodIn_of _ (by decide +kernel)) ggX7_traceOf_X7_trace
set_option maxRecDepth 20000 in
theorem ggX7_traceOf_X7_told : GoodIn wsX7_traceOf wsX7_told := goodIn_r _ [27, 28, 33, 34, 35, 36, 37, 38, 39, 40, 41, 42, 43, 44, 45, 46, 47, 48, 49] (by decide +kernel) (by decide +kernel)
set_option maxRecDepth 20000 in
theorem gX7_traceOf_X7_told : GoodIn wsX7_traceOf (wsV RX7 127 RX7 yX7_told wsX7_told) := goodIn_app (goodIn_of _ (by decide +kernel)) ggX7_traceOf_X7_told
set_option maxRecDepth 20000 in
theorem ggX7_traceOf_X7_fails : GoodIn wsX7_traceOf wsX7_fails := goodIn_r _ [32, 28, 33, 34, 35, 36, 37, 38, 39, 40, 41, 42, 43, 44, 45, 46, 47, 48, 49] (by decide +kernel) (by decide +kernel)
set_option maxRecDepth 20000 in
theorem gX7_traceOf_X7_fails : GoodIn wsX7_traceOf (wsV RX7 68 RX7 yX7_fails wsX7_fails) := goodIn_app (goodIn_of _ (by decide +kernel)) ggX7_traceOf_X7_fails
theorem dX7_traceOf_0 : decode cX7_traceOf 0 = .ok (.iload_n 1, 1) := by decide +kernel
theorem dX7_traceOf_1 : decode cX7_traceOf 1 = .ok (.invokestatic 72, 3) := by decide +kernel
theorem dX7_traceOf_4 : decode cX7_traceOf 4 = .ok (.ifCond .eq 14, 3) := by decide +kernel
theorem dX7_traceOf_7 : decode cX7_traceOf 7 = .ok (.aload_n 0, 1) := by decide +kernel
theorem dX7_traceOf_8 : decode cX7_traceOf 8 = .ok (.iload_n 1, 1) := by decide +kernel
theorem dX7_traceOf_9 : decode cX7_traceOf 9 = .ok (.invokestatic 164, 3) := by decide +kernel
theorem dX7_traceOf_12 : decode cX7_traceOf 12 = .ok (.invokevirtual 127, 3) := by decide +kernel
theorem dX7_traceOf_15 : decode cX7_traceOf 15 = .ok (.goto 8, 3) := by decide +kernel
theorem dX7_traceOf_18 : decode cX7_traceOf 18 = .ok (.aload_n 0, 1) := by decide +kernel
theorem dX7_traceOf_19 : decode cX7_traceOf 19 = .ok (.iconst 1, 1) := by decide +kernel
theorem dX7_traceOf_20 : decode cX7_traceOf 20 = .ok (.invokevirtual 68, 3) := by decide +kernel
theorem dX7_traceOf_23 : decode cX7_traceOf 23 = .ok (.ireturn, 1) := by decide +kernel
set_option maxRecDepth 20000 in
theorem ggX7_solve_X7_isNimber : GoodIn wsX7_solve wsX7_isNimber := goodIn_r _ [7, 8, 9, 10, 6, 11] (by decide +kernel) (by decide +kernel)
set_option maxRecDepth 20000 in
theorem gX7_solve_X7_isNimber : GoodIn wsX7_solve (va_wsS RX7 72 yX7_isNimber wsX7_isNimber) := goodIn_app (goodIn_of _ (by decide +kernel)) ggX7_solve_X7_isNimber
set_option maxRecDepth 20000 in
theorem ggX7_solve_X7_fails : GoodIn wsX7_solve wsX7_fails := goodIn_r _ [15, 1, 28, 29, 30, 31, 32, 33, 34, 35, 36, 37, 38, 39, 40, 41, 42, 43, 44] (by decide +kernel) (by decide +kernel)
set_option maxRecDepth 20000 in
theorem gX7_solve_X7_fails : GoodIn wsX7_solve (wsV RX7 68 RX7 yX7_fails wsX7_fails) := goodIn_app (goodIn_of _ (by decide +kernel)) ggX7_solve_X7_fails
set_option maxRecDepth 20000 in
theorem ggX7_solve_X7_times : GoodIn wsX7_solve wsX7_times := goodIn_r _ [18, 19, 20, 6, 21, 22, 23, 24, 25, 26, 27] (by decide +kernel) (by decide +kernel)
set_option maxRecDepth 20000 in
theorem gX7_solve_X7_times : GoodIn wsX7_solve (va_wsS RX7 56 yX7_times wsX7_times) := goodIn_app (goodIn_of _ (by decide +kernel)) ggX7_solve_X7_times
theorem dX7_solve_0 : decode cX7_solve 0 = .ok (.iload_n 1, 1) := by decide +kernel
theorem dX7_solve_1 : decode cX7_solve 1 = .ok (.invokestatic 72, 3) := by decide +kernel
theorem dX7_solve_4 : decode cX7_solve 4 = .ok (.ifCond .ne 9, 3) := by decide +kernel
theorem dX7_solve_7 : decode cX7_solve 7 = .ok (.aload_n 0, 1) := by decide +kernel
theorem dX7_solve_8 : decode cX7_solve 8 = .ok (.iconst 1, 1) := by decide +kernel
theorem dX7_solve_9 : decode cX7_solve 9 = .ok (.invokevirtual 68, 3) := by decide +kernel
theorem dX7_solve_12 : decode cX7_solve 12 = .ok (.ireturn, 1) := by decide +kernel
theorem dX7_solve_13 : decode cX7_solve 13 = .ok (.aload_n 0, 1) := by decide +kernel
theorem dX7_solve_14 : decode cX7_solve 14 = .ok (.iconst 0, 1) := by decide +kernel
theorem dX7_solve_15 : decode cX7_solve 15 = .ok (.putfield 31, 3) := by decide +kernel
theorem dX7_solve_18 : decode cX7_solve 18 = .ok (.iconst 0, 1) := by decide +kernel
theorem dX7_solve_19 : decode cX7_solve 19 = .ok (.istore_n 2, 1) := by decide +kernel
theorem dX7_solve_20 : decode cX7_solve 20 = .ok (.iload_n 2, 1) := by decide +kernel
theorem dX7_solve_21 : decode cX7_solve 21 = .ok (.bipush 16, 2) := by decide +kernel
theorem dX7_solve_23 : decode cX7_solve 23 = .ok (.if_icmp .ge 23, 3) := by decide +kernel
theorem dX7_solve_26 : decode cX7_solve 26 = .ok (.aload_n 0, 1) := by decide +kernel
theorem dX7_solve_27 : decode cX7_solve 27 = .ok (.getfield 25, 3) := by decide +kernel
theorem dX7_solve_30 : decode cX7_solve 30 = .ok (.iload_n 2, 1) := by decide +kernel
theorem dX7_solve_31 : decode cX7_solve 31 = .ok (.iconst 0, 1) := by decide +kernel
theorem dX7_solve_32 : decode cX7_solve 32 = .ok (.iastore, 1) := by decide +kernel
theorem dX7_solve_33 : decode cX7_solve 33 = .ok (.aload_n 0, 1) := by decide +kernel
theorem dX7_solve_34 : decode cX7_solve 34 = .ok (.getfield 28, 3) := by decide +kernel
theorem dX7_solve_37 : decode cX7_solve 37 = .ok (.iload_n 2, 1) := by decide +kernel
theorem dX7_solve_38 : decode cX7_solve 38 = .ok (.iconst 0, 1) := by decide +kernel
theorem dX7_solve_39 : decode cX7_solve 39 = .ok (.iastore, 1) := by decide +kernel
theorem dX7_solve_40 : decode cX7_solve 40 = .ok (.iinc 2 1, 3) := by decide +kernel
theorem dX7_solve_43 : decode cX7_solve 43 = .ok (.goto (-23), 3) := by decide +kernel
theorem dX7_solve_46 : decode cX7_solve 46 = .ok (.iconst 1, 1) := by decide +kernel
theorem dX7_solve_47 : decode cX7_solve 47 = .ok (.istore_n 2, 1) := by decide +kernel
theorem dX7_solve_48 : decode cX7_solve 48 = .ok (.iload_n 2, 1) := by decide +kernel
theorem dX7_solve_49 : decode cX7_solve 49 = .ok (.bipush 16, 2) := by decide +kernel
theorem dX7_solve_51 : decode cX7_solve 51 = .ok (.if_icmp .ge 124, 3) := by decide +kernel
theorem dX7_solve_54 : decode cX7_solve 54 = .ok (.iconst 1, 1) := by decide +kernel
theorem dX7_solve_55 : decode cX7_solve 55 = .ok (.iload_n 2, 1) := by decide +kernel
theorem dX7_solve_56 : decode cX7_solve 56 = .ok (.ishl, 1) := by decide +kernel
theorem dX7_solve_57 : decode cX7_solve 57 = .ok (.iconst 1, 1) := by decide +kernel
theorem dX7_solve_58 : decode cX7_solve 58 = .ok (.iload_n 2, 1) := by decide +kernel
theorem dX7_solve_59 : decode cX7_solve 59 = .ok (.ishl, 1) := by decide +kernel
theorem dX7_solve_60 : decode cX7_solve 60 = .ok (.invokestatic 56, 3) := by decide +kernel
theorem dX7_solve_63 : decode cX7_solve 63 = .ok (.iconst 1, 1) := by decide +kernel
theorem dX7_solve_64 : decode cX7_solve 64 = .ok (.iload_n 2, 1) := by decide +kernel
theorem dX7_solve_65 : decode cX7_solve 65 = .ok (.ishl, 1) := by decide +kernel
theorem dX7_solve_66 : decode cX7_solve 66 = .ok (.ixor, 1) := by decide +kernel
theorem dX7_solve_67 : decode cX7_solve 67 = .ok (.istore_n 3, 1) := by decide +kernel
theorem dX7_solve_68 : decode cX7_solve 68 = .ok (.iconst 1, 1) := by decide +kernel
theorem dX7_solve_69 : decode cX7_solve 69 = .ok (.iload_n 2, 1) := by decide +kernel
theorem dX7_solve_70 : decode cX7_solve 70 = .ok (.ishl, 1) := by decide +kernel
theorem dX7_solve_71 : decode cX7_solve 71 = .ok (.istore 4, 2) := by decide +kernel
theorem dX7_solve_73 : decode cX7_solve 73 = .ok (.bipush 15, 2) := by decide +kernel
theorem dX7_solve_75 : decode cX7_solve 75 = .ok (.istore 5, 2) := by decide +kernel
theorem dX7_solve_77 : decode cX7_solve 77 = .ok (.iload 5, 2) := by decide +kernel
theorem dX7_solve_79 : decode cX7_solve 79 = .ok (.ifCond .lt 90, 3) := by decide +kernel
theorem dX7_solve_82 : decode cX7_solve 82 = .ok (.iload_n 3, 1) := by decide +kernel
theorem dX7_solve_83 : decode cX7_solve 83 = .ok (.iload 5, 2) := by decide +kernel
theorem dX7_solve_85 : decode cX7_solve 85 = .ok (.ishr, 1) := by decide +kernel
theorem dX7_solve_86 : decode cX7_solve 86 = .ok (.iconst 1, 1) := by decide +kernel
theorem dX7_solve_87 : decode cX7_solve 87 = .ok (.iand, 1) := by decide +kernel
theorem dX7_solve_88 : decode cX7_solve 88 = .ok (.iconst 1, 1) := by decide +kernel
theorem dX7_solve_89 : decode cX7_solve 89 = .ok (.if_icmp .ne 7, 3) := by decide +kernel
theorem dX7_solve_92 : decode cX7_solve 92 = .ok (.iconst 1, 1) := by decide +kernel
theorem dX7_solve_93 : decode cX7_solve 93 = .ok (.goto 4, 3) := by decide +kernel
theorem dX7_solve_96 : decode cX7_solve 96 = .ok (.iconst 0, 1) := by decide +kernel
theorem dX7_solve_97 : decode cX7_solve 97 = .ok (.istore 6, 2) := by decide +kernel
theorem dX7_solve_99 : decode cX7_solve 99 = .ok (.iload 6, 2) := by decide +kernel
theorem dX7_solve_101 : decode cX7_solve 101 = .ok (.ifCond .eq 35, 3) := by decide +kernel
theorem dX7_solve_104 : decode cX7_solve 104 = .ok (.aload_n 0, 1) := by decide +kernel
theorem dX7_solve_105 : decode cX7_solve 105 = .ok (.getfield 25, 3) := by decide +kernel
theorem dX7_solve_108 : decode cX7_solve 108 = .ok (.iload 5, 2) := by decide +kernel
theorem dX7_solve_110 : decode cX7_solve 110 = .ok (.iaload, 1) := by decide +kernel
theorem dX7_solve_111 : decode cX7_solve 111 = .ok (.ifCond .ne 25, 3) := by decide +kernel
theorem dX7_solve_114 : decode cX7_solve 114 = .ok (.aload_n 0, 1) := by decide +kernel
theorem dX7_solve_115 : decode cX7_solve 115 = .ok (.getfield 25, 3) := by decide +kernel
theorem dX7_solve_118 : decode cX7_solve 118 = .ok (.iload 5, 2) := by decide +kernel
theorem dX7_solve_120 : decode cX7_solve 120 = .ok (.iload_n 3, 1) := by decide +kernel
theorem dX7_solve_121 : decode cX7_solve 121 = .ok (.iastore, 1) := by decide +kernel
theorem dX7_solve_122 : decode cX7_solve 122 = .ok (.aload_n 0, 1) := by decide +kernel
theorem dX7_solve_123 : decode cX7_solve 123 = .ok (.getfield 28, 3) := by decide +kernel
theorem dX7_solve_126 : decode cX7_solve 126 = .ok (.iload 5, 2) := by decide +kernel
theorem dX7_solve_128 : decode cX7_solve 128 = .ok (.iload 4, 2) := by decide +kernel
theorem dX7_solve_130 : decode cX7_solve 130 = .ok (.iastore, 1) := by decide +kernel
theorem dX7_solve_131 : decode cX7_solve 131 = .ok (.iconst 0, 1) := by decide +kernel
theorem dX7_solve_132 : decode cX7_solve 132 = .ok (.istore_n 3, 1) := by decide +kernel
theorem dX7_solve_133 : decode cX7_solve 133 = .ok (.goto 30, 3) := by decide +kernel
theorem dX7_solve_136 : decode cX7_solve 136 = .ok (.iload 6, 2) := by decide +kernel
theorem dX7_solve_138 : decode cX7_solve 138 = .ok (.ifCond .eq 25, 3) := by decide +kernel
theorem dX7_solve_141 : decode cX7_solve 141 = .ok (.iload_n 3, 1) := by decide +kernel
theorem dX7_solve_142 : decode cX7_solve 142 = .ok (.aload_n 0, 1) := by decide +kernel
theorem dX7_solve_143 : decode cX7_solve 143 = .ok (.getfield 25, 3) := by decide +kernel
theorem dX7_solve_146 : decode cX7_solve 146 = .ok (.iload 5, 2) := by decide +kernel
theorem dX7_solve_148 : decode cX7_solve 148 = .ok (.iaload, 1) := by decide +kernel
theorem dX7_solve_149 : decode cX7_solve 149 = .ok (.ixor, 1) := by decide +kernel
theorem dX7_solve_150 : decode cX7_solve 150 = .ok (.istore_n 3, 1) := by decide +kernel
theorem dX7_solve_151 : decode cX7_solve 151 = .ok (.iload 4, 2) := by decide +kernel
theorem dX7_solve_153 : decode cX7_solve 153 = .ok (.aload_n 0, 1) := by decide +kernel
theorem dX7_solve_154 : decode cX7_solve 154 = .ok (.getfield 28, 3) := by decide +kernel
theorem dX7_solve_157 : decode cX7_solve 157 = .ok (.iload 5, 2) := by decide +kernel
theorem dX7_solve_159 : decode cX7_solve 159 = .ok (.iaload, 1) := by decide +kernel
theorem dX7_solve_160 : decode cX7_solve 160 = .ok (.ixor, 1) := by decide +kernel
theorem dX7_solve_161 : decode cX7_solve 161 = .ok (.istore 4, 2) := by decide +kernel
theorem dX7_solve_163 : decode cX7_solve 163 = .ok (.iinc 5 (-1), 3) := by decide +kernel
theorem dX7_solve_166 : decode cX7_solve 166 = .ok (.goto (-89), 3) := by decide +kernel
theorem dX7_solve_169 : decode cX7_solve 169 = .ok (.iinc 2 1, 3) := by decide +kernel
theorem dX7_solve_172 : decode cX7_solve 172 = .ok (.goto (-124), 3) := by decide +kernel
theorem dX7_solve_175 : decode cX7_solve 175 = .ok (.iload_n 1, 1) := by decide +kernel
theorem dX7_solve_176 : decode cX7_solve 176 = .ok (.istore_n 2, 1) := by decide +kernel
theorem dX7_solve_177 : decode cX7_solve 177 = .ok (.iconst 0, 1) := by decide +kernel
theorem dX7_solve_178 : decode cX7_solve 178 = .ok (.istore_n 3, 1) := by decide +kernel
theorem dX7_solve_179 : decode cX7_solve 179 = .ok (.bipush 15, 2) := by decide +kernel
theorem dX7_solve_181 : decode cX7_solve 181 = .ok (.istore 4, 2) := by decide +kernel
theorem dX7_solve_183 : decode cX7_solve 183 = .ok (.iload 4, 2) := by decide +kernel
theorem dX7_solve_185 : decode cX7_solve 185 = .ok (.ifCond .lt 74, 3) := by decide +kernel
theorem dX7_solve_188 : decode cX7_solve 188 = .ok (.iload_n 2, 1) := by decide +kernel
theorem dX7_solve_189 : decode cX7_solve 189 = .ok (.iload 4, 2) := by decide +kernel
theorem dX7_solve_191 : decode cX7_solve 191 = .ok (.ishr, 1) := by decide +kernel
theorem dX7_solve_192 : decode cX7_solve 192 = .ok (.iconst 1, 1) := by decide +kernel
theorem dX7_solve_193 : decode cX7_solve 193 = .ok (.iand, 1) := by decide +kernel
theorem dX7_solve_194 : decode cX7_solve 194 = .ok (.iconst 1, 1) := by decide +kernel
theorem dX7_solve_195 : decode cX7_solve 195 = .ok (.if_icmp .ne 17, 3) := by decide +kernel
theorem dX7_solve_198 : decode cX7_solve 198 = .ok (.aload_n 0, 1) := by decide +kernel
theorem dX7_solve_199 : decode cX7_solve 199 = .ok (.getfield 25, 3) := by decide +kernel
theorem dX7_solve_202 : decode cX7_solve 202 = .ok (.iload 4, 2) := by decide +kernel
theorem dX7_solve_204 : decode cX7_solve 204 = .ok (.iaload, 1) := by decide +kernel
theorem dX7_solve_205 : decode cX7_solve 205 = .ok (.ifCond .eq 7, 3) := by decide +kernel
theorem dX7_solve_208 : decode cX7_solve 208 = .ok (.iconst 1, 1) := by decide +kernel
theorem dX7_solve_209 : decode cX7_solve 209 = .ok (.goto 4, 3) := by decide +kernel
theorem dX7_solve_212 : decode cX7_solve 212 = .ok (.iconst 0, 1) := by decide +kernel
theorem dX7_solve_213 : decode cX7_solve 213 = .ok (.istore 5, 2) := by decide +kernel
theorem dX7_solve_215 : decode cX7_solve 215 = .ok (.iload_n 2, 1) := by decide +kernel
theorem dX7_solve_216 : decode cX7_solve 216 = .ok (.iload 5, 2) := by decide +kernel
theorem dX7_solve_218 : decode cX7_solve 218 = .ok (.ifCond .eq 13, 3) := by decide +kernel
theorem dX7_solve_221 : decode cX7_solve 221 = .ok (.aload_n 0, 1) := by decide +kernel
theorem dX7_solve_222 : decode cX7_solve 222 = .ok (.getfield 25, 3) := by decide +kernel
theorem dX7_solve_225 : decode cX7_solve 225 = .ok (.iload 4, 2) := by decide +kernel
theorem dX7_solve_227 : decode cX7_solve 227 = .ok (.iaload, 1) := by decide +kernel
theorem dX7_solve_228 : decode cX7_solve 228 = .ok (.goto 4, 3) := by decide +kernel
theorem dX7_solve_231 : decode cX7_solve 231 = .ok (.iconst 0, 1) := by decide +kernel
theorem dX7_solve_232 : decode cX7_solve 232 = .ok (.ixor, 1) := by decide +kernel
theorem dX7_solve_233 : decode cX7_solve 233 = .ok (.istore_n 2, 1) := by decide +kernel
theorem dX7_solve_234 : decode cX7_solve 234 = .ok (.iload_n 3, 1) := by decide +kernel
theorem dX7_solve_235 : decode cX7_solve 235 = .ok (.iload 5, 2) := by decide +kernel
theorem dX7_solve_237 : decode cX7_solve 237 = .ok (.ifCond .eq 13, 3) := by decide +kernel
theorem dX7_solve_240 : decode cX7_solve 240 = .ok (.aload_n 0, 1) := by decide +kernel
theorem dX7_solve_241 : decode cX7_solve 241 = .ok (.getfield 28, 3) := by decide +kernel
theorem dX7_solve_244 : decode cX7_solve 244 = .ok (.iload 4, 2) := by decide +kernel
theorem dX7_solve_246 : decode cX7_solve 246 = .ok (.iaload, 1) := by decide +kernel
theorem dX7_solve_247 : decode cX7_solve 247 = .ok (.goto 4, 3) := by decide +kernel
theorem dX7_solve_250 : decode cX7_solve 250 = .ok (.iconst 0, 1) := by decide +kernel
theorem dX7_solve_251 : decode cX7_solve 251 = .ok (.ixor, 1) := by decide +kernel
theorem dX7_solve_252 : decode cX7_solve 252 = .ok (.istore_n 3, 1) := by decide +kernel
theorem dX7_solve_253 : decode cX7_solve 253 = .ok (.iinc 4 (-1), 3) := by decide +kernel
theorem dX7_solve_256 : decode cX7_solve 256 = .ok (.goto (-73), 3) := by decide +kernel
theorem dX7_solve_259 : decode cX7_solve 259 = .ok (.iload_n 2, 1) := by decide +kernel
theorem dX7_solve_260 : decode cX7_solve 260 = .ok (.ifCond .ne 7, 3) := by decide +kernel
theorem dX7_solve_263 : decode cX7_solve 263 = .ok (.iload_n 3, 1) := by decide +kernel
theorem dX7_solve_264 : decode cX7_solve 264 = .ok (.goto 4, 3) := by decide +kernel
theorem dX7_solve_267 : decode cX7_solve 267 = .ok (.iconst (-1), 1) := by decide +kernel
theorem dX7_solve_268 : decode cX7_solve 268 = .ok (.ireturn, 1) := by decide +kernel
set_option maxRecDepth 20000 in
theorem ggX7_products_X7_told : GoodIn wsX7_products wsX7_told := goodIn_r _ [6, 7, 8, 9, 10, 11, 12, 13, 14, 15, 16, 17, 18, 19, 20, 21, 22, 23, 24] (by decide +kernel) (by decide +kernel)
set_option maxRecDepth 20000 in
theorem gX7_products_X7_told : GoodIn wsX7_products (wsV RX7 127 RX7 yX7_told wsX7_told) := goodIn_app (goodIn_of _ (by decide +kernel)) ggX7_products_X7_told
theorem dX7_products_0 : decode cX7_products 0 = .ok (.aload_n 0, 1) := by decide +kernel
theorem dX7_products_1 : decode cX7_products 1 = .ok (.aload_n 0, 1) := by decide +kernel
theorem dX7_products_2 : decode cX7_products 2 = .ok (.getfield 7, 3) := by decide +kernel
theorem dX7_products_5 : decode cX7_products 5 = .ok (.bipush 8, 2) := by decide +kernel
theorem dX7_products_7 : decode cX7_products 7 = .ok (.iaload, 1) := by decide +kernel
theorem dX7_products_8 : decode cX7_products 8 = .ok (.invokevirtual 127, 3) := by decide +kernel
theorem dX7_products_11 : decode cX7_products 11 = .ok (.ireturn, 1) := by decide +kernel
set_option maxRecDepth 20000 in
theorem ggX7_recordedStates_X7_told : GoodIn wsX7_recordedStates wsX7_told := goodIn_r _ [6, 7, 8, 9, 10, 11, 12, 13, 14, 15, 16, 17, 18, 19, 20, 21, 22, 23, 24] (by decide +kernel) (by decide +kernel)
set_option maxRecDepth 20000 in
theorem gX7_recordedStates_X7_told : GoodIn wsX7_recordedStates (wsV RX7 127 RX7 yX7_told wsX7_told) := goodIn_app (goodIn_of _ (by decide +kernel)) ggX7_recordedStates_X7_told
theorem dX7_recordedStates_0 : decode cX7_recordedStates 0 = .ok (.aload_n 0, 1) := by decide +kernel
theorem dX7_recordedStates_1 : decode cX7_recordedStates 1 = .ok (.aload_n 0, 1) := by decide +kernel
theorem dX7_recordedStates_2 : decode cX7_recordedStates 2 = .ok (.getfield 35, 3) := by decide +kernel
theorem dX7_recordedStates_5 : decode cX7_recordedStates 5 = .ok (.invokevirtual 127, 3) := by decide +kernel
theorem dX7_recordedStates_8 : decode cX7_recordedStates 8 = .ok (.ireturn, 1) := by decide +kernel
theorem dJ9_min_7cf53_0 : decode cJ9_min_7cf53 0 = .ok (.iload_n 0, 1) := by decide +kernel
theorem dJ9_min_7cf53_1 : decode cJ9_min_7cf53 1 = .ok (.iload_n 1, 1) := by decide +kernel
theorem dJ9_min_7cf53_2 : decode cJ9_min_7cf53 2 = .ok (.if_icmp .gt 7, 3) := by decide +kernel
theorem dJ9_min_7cf53_5 : decode cJ9_min_7cf53 5 = .ok (.iload_n 0, 1) := by decide +kernel
theorem dJ9_min_7cf53_6 : decode cJ9_min_7cf53 6 = .ok (.goto 4, 3) := by decide +kernel
theorem dJ9_min_7cf53_9 : decode cJ9_min_7cf53 9 = .ok (.iload_n 1, 1) := by decide +kernel
theorem dJ9_min_7cf53_10 : decode cJ9_min_7cf53 10 = .ok (.ireturn, 1) := by decide +kernel
