set_option maxRecDepth 20000 in
theorem ggX8_init_X7_init : GoodIn wsX8_init wsX7_init := goodIn_r _ [42, 43, 2, 3, 44, 45, 46, 47, 11, 12, 48, 49, 50, 51, 52, 53, 54, 112, 113, 114, 115, 116, 117] (by decide +kernel) (by decide +kernel)
set_option maxRecDepth 20000 in
theorem gX8_init_X7_init_n19 : GoodIn wsX8_init (wsX7_init) := ggX8_init_X7_init
set_option maxRecDepth 20000 in
theorem ggX8_init_X1_init : GoodIn wsX8_init wsX1_init := goodIn_r _ [50, 51, 2, 3, 52, 45, 53, 54, 115, 116, 117] (by decide +kernel) (by decide +kernel)
set_option maxRecDepth 20000 in
theorem gX8_init_X1_init_n26 : GoodIn wsX8_init (wsX1_init) := ggX8_init_X1_init
set_option maxRecDepth 20000 in
theorem ggX8_init_X2_init : GoodIn wsX8_init wsX2_init := goodIn_r _ [57, 58, 2, 3, 59, 60, 61, 20, 21, 62, 63, 64, 65, 66, 67, 68, 118, 119, 120, 121, 122, 123] (by decide +kernel) (by decide +kernel)
set_option maxRecDepth 20000 in
theorem gX8_init_X2_init : GoodIn wsX8_init (wsX2_init) := ggX8_init_X2_init
set_option maxRecDepth 20000 in
theorem ggX8_init_X0_init : GoodIn wsX8_init wsX0_init := goodIn_r _ [63, 64, 2, 3, 65, 66, 67, 68, 120, 121, 122, 123] (by decide +kernel) (by decide +kernel)
set_option maxRecDepth 20000 in
theorem gX8_init_X0_init_n43 : GoodIn wsX8_init (wsX0_init) := ggX8_init_X0_init
set_option maxRecDepth 20000 in
theorem ggX8_init_X3_init : GoodIn wsX8_init wsX3_init := goodIn_r _ [70, 71, 2, 3, 72, 73, 74, 75, 124, 125, 126] (by decide +kernel) (by decide +kernel)
set_option maxRecDepth 20000 in
theorem gX8_init_X3_init_n50 : GoodIn wsX8_init (wsX3_init) := ggX8_init_X3_init
set_option maxRecDepth 20000 in
theorem ggX8_init_X6_init : GoodIn wsX8_init wsX6_init := goodIn_r _ [78, 79, 2, 3, 45, 80, 81, 82, 83, 84, 85, 127, 128] (by decide +kernel) (by decide +kernel)
set_option maxRecDepth 20000 in
theorem gX8_init_X6_init : GoodIn wsX8_init (wsX6_init) := ggX8_init_X6_init
set_option maxRecDepth 20000 in
theorem ggX8_init_X4_init : GoodIn wsX8_init wsX4_init := goodIn_r _ [87, 88, 2, 3, 89, 45, 90, 73, 91, 129, 130, 131] (by decide +kernel) (by decide +kernel)
set_option maxRecDepth 20000 in
theorem gX8_init_X4_init_n70 : GoodIn wsX8_init (wsX4_init) := ggX8_init_X4_init
set_option maxRecDepth 20000 in
theorem ggX8_init_X5_init : GoodIn wsX8_init wsX5_init := goodIn_r _ [93, 94, 2, 3, 95, 96, 97, 45, 98, 132, 133, 134, 135] (by decide +kernel) (by decide +kernel)
set_option maxRecDepth 20000 in
theorem gX8_init_X5_init_n82 : GoodIn wsX8_init (wsX5_init) := ggX8_init_X5_init
theorem dX8_init_0 : decode cX8_init 0 = .ok (.aload_n 0, 1) := by decide +kernel
theorem dX8_init_1 : decode cX8_init 1 = .ok (.invokespecial 3, 3) := by decide +kernel
theorem dX8_init_4 : decode cX8_init 4 = .ok (.aload_n 0, 1) := by decide +kernel
theorem dX8_init_5 : decode cX8_init 5 = .ok (.iconst 4, 1) := by decide +kernel
theorem dX8_init_6 : decode cX8_init 6 = .ok (.anewarray 11, 3) := by decide +kernel
theorem dX8_init_9 : decode cX8_init 9 = .ok (.putfield 13, 3) := by decide +kernel
theorem dX8_init_12 : decode cX8_init 12 = .ok (.aload_n 0, 1) := by decide +kernel
theorem dX8_init_13 : decode cX8_init 13 = .ok (.new 17, 3) := by decide +kernel
theorem dX8_init_16 : decode cX8_init 16 = .ok (.dup, 1) := by decide +kernel
theorem dX8_init_17 : decode cX8_init 17 = .ok (.invokespecial 19, 3) := by decide +kernel
theorem dX8_init_20 : decode cX8_init 20 = .ok (.putfield 20, 3) := by decide +kernel
theorem dX8_init_23 : decode cX8_init 23 = .ok (.aload_n 0, 1) := by decide +kernel
theorem dX8_init_24 : decode cX8_init 24 = .ok (.new 24, 3) := by decide +kernel
theorem dX8_init_27 : decode cX8_init 27 = .ok (.dup, 1) := by decide +kernel
theorem dX8_init_28 : decode cX8_init 28 = .ok (.invokespecial 26, 3) := by decide +kernel
theorem dX8_init_31 : decode cX8_init 31 = .ok (.putfield 27, 3) := by decide +kernel
theorem dX8_init_34 : decode cX8_init 34 = .ok (.aload_n 0, 1) := by decide +kernel
theorem dX8_init_35 : decode cX8_init 35 = .ok (.new 24, 3) := by decide +kernel
theorem dX8_init_38 : decode cX8_init 38 = .ok (.dup, 1) := by decide +kernel
theorem dX8_init_39 : decode cX8_init 39 = .ok (.invokespecial 26, 3) := by decide +kernel
theorem dX8_init_42 : decode cX8_init 42 = .ok (.putfield 31, 3) := by decide +kernel
theorem dX8_init_45 : decode cX8_init 45 = .ok (.aload_n 0, 1) := by decide +kernel
theorem dX8_init_46 : decode cX8_init 46 = .ok (.new 34, 3) := by decide +kernel
theorem dX8_init_49 : decode cX8_init 49 = .ok (.dup, 1) := by decide +kernel
theorem dX8_init_50 : decode cX8_init 50 = .ok (.invokespecial 36, 3) := by decide +kernel
theorem dX8_init_53 : decode cX8_init 53 = .ok (.putfield 37, 3) := by decide +kernel
theorem dX8_init_56 : decode cX8_init 56 = .ok (.aload_n 0, 1) := by decide +kernel
theorem dX8_init_57 : decode cX8_init 57 = .ok (.new 41, 3) := by decide +kernel
theorem dX8_init_60 : decode cX8_init 60 = .ok (.dup, 1) := by decide +kernel
theorem dX8_init_61 : decode cX8_init 61 = .ok (.invokespecial 43, 3) := by decide +kernel
theorem dX8_init_64 : decode cX8_init 64 = .ok (.putfield 44, 3) := by decide +kernel
theorem dX8_init_67 : decode cX8_init 67 = .ok (.aload_n 0, 1) := by decide +kernel
theorem dX8_init_68 : decode cX8_init 68 = .ok (.new 48, 3) := by decide +kernel
theorem dX8_init_71 : decode cX8_init 71 = .ok (.dup, 1) := by decide +kernel
theorem dX8_init_72 : decode cX8_init 72 = .ok (.invokespecial 50, 3) := by decide +kernel
theorem dX8_init_75 : decode cX8_init 75 = .ok (.putfield 51, 3) := by decide +kernel
theorem dX8_init_78 : decode cX8_init 78 = .ok (.aload_n 0, 1) := by decide +kernel
theorem dX8_init_79 : decode cX8_init 79 = .ok (.new 48, 3) := by decide +kernel
theorem dX8_init_82 : decode cX8_init 82 = .ok (.dup, 1) := by decide +kernel
theorem dX8_init_83 : decode cX8_init 83 = .ok (.invokespecial 50, 3) := by decide +kernel
theorem dX8_init_86 : decode cX8_init 86 = .ok (.putfield 55, 3) := by decide +kernel
theorem dX8_init_89 : decode cX8_init 89 = .ok (.aload_n 0, 1) := by decide +kernel
theorem dX8_init_90 : decode cX8_init 90 = .ok (.new 48, 3) := by decide +kernel
theorem dX8_init_93 : decode cX8_init 93 = .ok (.dup, 1) := by decide +kernel
theorem dX8_init_94 : decode cX8_init 94 = .ok (.invokespecial 50, 3) := by decide +kernel
theorem dX8_init_97 : decode cX8_init 97 = .ok (.putfield 58, 3) := by decide +kernel
theorem dX8_init_100 : decode cX8_init 100 = .ok (.aload_n 0, 1) := by decide +kernel
theorem dX8_init_101 : decode cX8_init 101 = .ok (.new 61, 3) := by decide +kernel
theorem dX8_init_104 : decode cX8_init 104 = .ok (.dup, 1) := by decide +kernel
theorem dX8_init_105 : decode cX8_init 105 = .ok (.invokespecial 63, 3) := by decide +kernel
theorem dX8_init_108 : decode cX8_init 108 = .ok (.putfield 64, 3) := by decide +kernel
theorem dX8_init_111 : decode cX8_init 111 = .ok (.aload_n 0, 1) := by decide +kernel
theorem dX8_init_112 : decode cX8_init 112 = .ok (.new 68, 3) := by decide +kernel
theorem dX8_init_115 : decode cX8_init 115 = .ok (.dup, 1) := by decide +kernel
theorem dX8_init_116 : decode cX8_init 116 = .ok (.invokespecial 70, 3) := by decide +kernel
theorem dX8_init_119 : decode cX8_init 119 = .ok (.putfield 71, 3) := by decide +kernel
theorem dX8_init_122 : decode cX8_init 122 = .ok (.aload_n 0, 1) := by decide +kernel
theorem dX8_init_123 : decode cX8_init 123 = .ok (.iconst 0, 1) := by decide +kernel
theorem dX8_init_124 : decode cX8_init 124 = .ok (.putfield 75, 3) := by decide +kernel
theorem dX8_init_127 : decode cX8_init 127 = .ok (.aload_n 0, 1) := by decide +kernel
theorem dX8_init_128 : decode cX8_init 128 = .ok (.iconst 0, 1) := by decide +kernel
theorem dX8_init_129 : decode cX8_init 129 = .ok (.putfield 79, 3) := by decide +kernel
theorem dX8_init_132 : decode cX8_init 132 = .ok (.iconst 0, 1) := by decide +kernel
theorem dX8_init_133 : decode cX8_init 133 = .ok (.istore_n 1, 1) := by decide +kernel
theorem dX8_init_134 : decode cX8_init 134 = .ok (.iload_n 1, 1) := by decide +kernel
theorem dX8_init_135 : decode cX8_init 135 = .ok (.iconst 4, 1) := by decide +kernel
theorem dX8_init_136 : decode cX8_init 136 = .ok (.if_icmp .ge 22, 3) := by decide +kernel
theorem dX8_init_139 : decode cX8_init 139 = .ok (.aload_n 0, 1) := by decide +kernel
theorem dX8_init_140 : decode cX8_init 140 = .ok (.getfield 13, 3) := by decide +kernel
theorem dX8_init_143 : decode cX8_init 143 = .ok (.iload_n 1, 1) := by decide +kernel
theorem dX8_init_144 : decode cX8_init 144 = .ok (.new 11, 3) := by decide +kernel
theorem dX8_init_147 : decode cX8_init 147 = .ok (.dup, 1) := by decide +kernel
theorem dX8_init_148 : decode cX8_init 148 = .ok (.invokespecial 82, 3) := by decide +kernel
theorem dX8_init_151 : decode cX8_init 151 = .ok (.aastore, 1) := by decide +kernel
theorem dX8_init_152 : decode cX8_init 152 = .ok (.iinc 1 1, 3) := by decide +kernel
theorem dX8_init_155 : decode cX8_init 155 = .ok (.goto (-21), 3) := by decide +kernel
theorem dX8_init_158 : decode cX8_init 158 = .ok (.return_, 1) := by decide +kernel
set_option maxRecDepth 20000 in
theorem ggX8_row_X8_isSheet : GoodIn wsX8_row wsX8_isSheet := goodIn_r _ [9] (by decide +kernel) (by decide +kernel)
set_option maxRecDepth 20000 in
theorem gX8_row_X8_isSheet : GoodIn wsX8_row (va_wsS RX8 83 yX8_isSheet wsX8_isSheet) := goodIn_app (goodIn_of _ (by decide +kernel)) ggX8_row_X8_isSheet
set_option maxRecDepth 20000 in
theorem ggX8_row_X8_isLane : GoodIn wsX8_row wsX8_isLane := goodIn_r _ [12] (by decide +kernel) (by decide +kernel)
set_option maxRecDepth 20000 in
theorem gX8_row_X8_isLane : GoodIn wsX8_row (va_wsS RX8 87 yX8_isLane wsX8_isLane) := goodIn_app (goodIn_of _ (by decide +kernel)) ggX8_row_X8_isLane
set_option maxRecDepth 20000 in
theorem ggX8_row_X5_faultTakenAs : GoodIn wsX8_row wsX5_faultTakenAs := goodIn_r _ [17, 18, 19, 132, 133, 134, 135] (by decide +kernel) (by decide +kernel)
set_option maxRecDepth 20000 in
theorem gX8_row_X5_faultTakenAs : GoodIn wsX8_row (wsV RX8 90 RX5 yX5_faultTakenAs wsX5_faultTakenAs) := goodIn_app (goodIn_of _ (by decide +kernel)) ggX8_row_X5_faultTakenAs
set_option maxRecDepth 20000 in
theorem ggX8_row_X8_failed : GoodIn wsX8_row wsX8_failed := goodIn_r _ [23, 1, 116, 117, 118, 119, 120, 121, 122, 123, 124, 125, 126, 127, 128] (by decide +kernel) (by decide +kernel)
set_option maxRecDepth 20000 in
theorem gX8_row_X8_failed : GoodIn wsX8_row (wsV RX8 94 RX8 yX8_failed wsX8_failed) := goodIn_app (goodIn_of _ (by decide +kernel)) ggX8_row_X8_failed
set_option maxRecDepth 20000 in
theorem ggX8_row_X5_hasCells : GoodIn wsX8_row wsX5_hasCells := goodIn_r _ [27, 28, 132, 133, 134, 135] (by decide +kernel) (by decide +kernel)
set_option maxRecDepth 20000 in
theorem gX8_row_X5_hasCells : GoodIn wsX8_row (wsV RX8 97 RX5 yX5_hasCells wsX5_hasCells) := goodIn_app (goodIn_of _ (by decide +kernel)) ggX8_row_X5_hasCells
set_option maxRecDepth 20000 in
theorem ggX8_row_X7_firstFault : GoodIn wsX8_row wsX7_firstFault := goodIn_r _ [33, 34, 35, 36, 37, 38, 32, 39, 40, 41, 42, 16, 43, 28, 44, 45, 46, 47, 48, 49, 50, 51, 52, 53, 54, 55, 56, 57, 58, 59, 60, 61, 62, 63, 64, 65, 66, 67, 136, 137, 138, 139, 140, 141, 132, 133, 134, 135] (by decide +kernel) (by decide +kernel)
set_option maxRecDepth 20000 in
theorem gX8_row_X7_firstFault : GoodIn wsX8_row (wsV RX8 101 RX7 yX7_firstFault wsX7_firstFault) := goodIn_app (goodIn_of _ (by decide +kernel)) ggX8_row_X7_firstFault
set_option maxRecDepth 20000 in
theorem ggX8_row_X8_takeText : GoodIn wsX8_row wsX8_takeText := goodIn_r _ [71, 4, 3, 72, 5, 73, 74, 75, 76, 77, 78, 79, 80, 81, 82, 63, 83, 65, 66, 84, 85, 86, 87, 67, 88, 89, 90, 91, 92, 93, 94, 95, 96, 97, 8, 98, 99, 100, 101, 102, 103, 104, 105, 106, 107, 108, 109, 110, 111, 112, 113, 114, 115, 116, 117, 118, 119, 120, 121, 122, 123, 124, 125, 126, 127, 128, 136, 137, 138, 129, 130, 131, 142, 143, 144, 139, 140, 141, 145, 146, 147, 148] (by decide +kernel) (by decide +kernel)
set_option maxRecDepth 20000 in
theorem gX8_row_X8_takeText : GoodIn wsX8_row (wsV RX8 105 RX8 yX8_takeText wsX8_takeText) := goodIn_app (goodIn_of _ (by decide +kernel)) ggX8_row_X8_takeText
theorem dX8_row_0 : decode cX8_row 0 = .ok (.aload_n 0, 1) := by decide +kernel
theorem dX8_row_1 : decode cX8_row 1 = .ok (.iconst 0, 1) := by decide +kernel
theorem dX8_row_2 : decode cX8_row 2 = .ok (.putfield 79, 3) := by decide +kernel
theorem dX8_row_5 : decode cX8_row 5 = .ok (.iload_n 1, 1) := by decide +kernel
theorem dX8_row_6 : decode cX8_row 6 = .ok (.invokestatic 83, 3) := by decide +kernel
theorem dX8_row_9 : decode cX8_row 9 = .ok (.ifCond .ne 5, 3) := by decide +kernel
theorem dX8_row_12 : decode cX8_row 12 = .ok (.iconst (-1), 1) := by decide +kernel
theorem dX8_row_13 : decode cX8_row 13 = .ok (.ireturn, 1) := by decide +kernel
theorem dX8_row_14 : decode cX8_row 14 = .ok (.iload_n 2, 1) := by decide +kernel
theorem dX8_row_15 : decode cX8_row 15 = .ok (.invokestatic 87, 3) := by decide +kernel
theorem dX8_row_18 : decode cX8_row 18 = .ok (.ifCond .ne 6, 3) := by decide +kernel
theorem dX8_row_21 : decode cX8_row 21 = .ok (.bipush (-2), 2) := by decide +kernel
theorem dX8_row_23 : decode cX8_row 23 = .ok (.ireturn, 1) := by decide +kernel
theorem dX8_row_24 : decode cX8_row 24 = .ok (.aload_n 0, 1) := by decide +kernel
theorem dX8_row_25 : decode cX8_row 25 = .ok (.getfield 13, 3) := by decide +kernel
theorem dX8_row_28 : decode cX8_row 28 = .ok (.iload_n 1, 1) := by decide +kernel
theorem dX8_row_29 : decode cX8_row 29 = .ok (.aaload, 1) := by decide +kernel
theorem dX8_row_30 : decode cX8_row 30 = .ok (.astore 5, 2) := by decide +kernel
theorem dX8_row_32 : decode cX8_row 32 = .ok (.aload 5, 2) := by decide +kernel
theorem dX8_row_34 : decode cX8_row 34 = .ok (.iload_n 2, 1) := by decide +kernel
theorem dX8_row_35 : decode cX8_row 35 = .ok (.invokevirtual 90, 3) := by decide +kernel
theorem dX8_row_38 : decode cX8_row 38 = .ok (.istore 6, 2) := by decide +kernel
theorem dX8_row_40 : decode cX8_row 40 = .ok (.iload 6, 2) := by decide +kernel
theorem dX8_row_42 : decode cX8_row 42 = .ok (.ifCond .eq 10, 3) := by decide +kernel
theorem dX8_row_45 : decode cX8_row 45 = .ok (.aload_n 0, 1) := by decide +kernel
theorem dX8_row_46 : decode cX8_row 46 = .ok (.iload 6, 2) := by decide +kernel
theorem dX8_row_48 : decode cX8_row 48 = .ok (.invokevirtual 94, 3) := by decide +kernel
theorem dX8_row_51 : decode cX8_row 51 = .ok (.ireturn, 1) := by decide +kernel
theorem dX8_row_52 : decode cX8_row 52 = .ok (.iload 4, 2) := by decide +kernel
theorem dX8_row_54 : decode cX8_row 54 = .ok (.ifCond .ge 9, 3) := by decide +kernel
theorem dX8_row_57 : decode cX8_row 57 = .ok (.aload_n 0, 1) := by decide +kernel
theorem dX8_row_58 : decode cX8_row 58 = .ok (.iconst 4, 1) := by decide +kernel
theorem dX8_row_59 : decode cX8_row 59 = .ok (.invokevirtual 94, 3) := by decide +kernel
theorem dX8_row_62 : decode cX8_row 62 = .ok (.ireturn, 1) := by decide +kernel
theorem dX8_row_63 : decode cX8_row 63 = .ok (.aload 5, 2) := by decide +kernel
theorem dX8_row_65 : decode cX8_row 65 = .ok (.iload_n 3, 1) := by decide +kernel
theorem dX8_row_66 : decode cX8_row 66 = .ok (.iload 4, 2) := by decide +kernel
theorem dX8_row_68 : decode cX8_row 68 = .ok (.invokevirtual 97, 3) := by decide +kernel
theorem dX8_row_71 : decode cX8_row 71 = .ok (.ifCond .ne 9, 3) := by decide +kernel
theorem dX8_row_74 : decode cX8_row 74 = .ok (.aload_n 0, 1) := by decide +kernel
theorem dX8_row_75 : decode cX8_row 75 = .ok (.iconst 3, 1) := by decide +kernel
theorem dX8_row_76 : decode cX8_row 76 = .ok (.invokevirtual 94, 3) := by decide +kernel
theorem dX8_row_79 : decode cX8_row 79 = .ok (.ireturn, 1) := by decide +kernel
theorem dX8_row_80 : decode cX8_row 80 = .ok (.aload_n 0, 1) := by decide +kernel
theorem dX8_row_81 : decode cX8_row 81 = .ok (.getfield 20, 3) := by decide +kernel
theorem dX8_row_84 : decode cX8_row 84 = .ok (.aload 5, 2) := by decide +kernel
theorem dX8_row_86 : decode cX8_row 86 = .ok (.iload_n 3, 1) := by decide +kernel
theorem dX8_row_87 : decode cX8_row 87 = .ok (.iload 4, 2) := by decide +kernel
theorem dX8_row_89 : decode cX8_row 89 = .ok (.invokevirtual 101, 3) := by decide +kernel
theorem dX8_row_92 : decode cX8_row 92 = .ok (.istore 7, 2) := by decide +kernel
theorem dX8_row_94 : decode cX8_row 94 = .ok (.iload 7, 2) := by decide +kernel
theorem dX8_row_96 : decode cX8_row 96 = .ok (.bipush (-9), 2) := by decide +kernel
theorem dX8_row_98 : decode cX8_row 98 = .ok (.if_icmp .eq 9, 3) := by decide +kernel
theorem dX8_row_101 : decode cX8_row 101 = .ok (.bipush (-100), 2) := by decide +kernel
theorem dX8_row_103 : decode cX8_row 103 = .ok (.iload 7, 2) := by decide +kernel
theorem dX8_row_105 : decode cX8_row 105 = .ok (.isub, 1) := by decide +kernel
theorem dX8_row_106 : decode cX8_row 106 = .ok (.ireturn, 1) := by decide +kernel
theorem dX8_row_107 : decode cX8_row 107 = .ok (.aload_n 0, 1) := by decide +kernel
theorem dX8_row_108 : decode cX8_row 108 = .ok (.invokevirtual 105, 3) := by decide +kernel
theorem dX8_row_111 : decode cX8_row 111 = .ok (.aload_n 0, 1) := by decide +kernel
theorem dX8_row_112 : decode cX8_row 112 = .ok (.getfield 51, 3) := by decide +kernel
theorem dX8_row_115 : decode cX8_row 115 = .ok (.getfield 108, 3) := by decide +kernel
theorem dX8_row_118 : decode cX8_row 118 = .ok (.ireturn, 1) := by decide +kernel
set_option maxRecDepth 20000 in
theorem ggX8_takeText_X1_becomeLike : GoodIn wsX8_takeText wsX1_becomeLike := goodIn_r _ [16, 17, 18, 19, 20, 21, 22, 23, 75, 76, 77] (by decide +kernel) (by decide +kernel)
set_option maxRecDepth 20000 in
theorem gX8_takeText_X1_becomeLike : GoodIn wsX8_takeText (wsV RX8 123 RX1 yX1_becomeLike wsX1_becomeLike) := goodIn_app (goodIn_of _ (by decide +kernel)) ggX8_takeText_X1_becomeLike
set_option maxRecDepth 20000 in
theorem ggX8_takeText_X6_halve : GoodIn wsX8_takeText wsX6_halve := goodIn_r _ [28, 29, 30, 78, 79] (by decide +kernel) (by decide +kernel)
set_option maxRecDepth 20000 in
theorem gX8_takeText_X6_halve : GoodIn wsX8_takeText (wsV RX8 127 RX6 yX6_halve wsX6_halve) := goodIn_app (goodIn_of _ (by decide +kernel)) ggX8_takeText_X6_halve
set_option maxRecDepth 20000 in
theorem ggX8_takeText_X8_beginAgain : GoodIn wsX8_takeText wsX8_beginAgain := goodIn_r _ [35, 36, 37, 1, 38, 39, 40, 41, 42, 43, 44, 45, 46, 20, 21, 22, 47, 48, 49, 50, 51, 52, 53, 54, 55, 56, 57, 58, 59, 60, 61, 62, 63, 64, 65, 80, 81, 69, 70, 71] (by decide +kernel) (by decide +kernel)
set_option maxRecDepth 20000 in
theorem gX8_takeText_X8_beginAgain : GoodIn wsX8_takeText (wsV RX8 132 RX8 yX8_beginAgain wsX8_beginAgain) := goodIn_app (goodIn_of _ (by decide +kernel)) ggX8_takeText_X8_beginAgain
theorem dX8_takeText_0 : decode cX8_takeText 0 = .ok (.aload_n 0, 1) := by decide +kernel
theorem dX8_takeText_1 : decode cX8_takeText 1 = .ok (.getfield 51, 3) := by decide +kernel
theorem dX8_takeText_4 : decode cX8_takeText 4 = .ok (.aload_n 0, 1) := by decide +kernel
theorem dX8_takeText_5 : decode cX8_takeText 5 = .ok (.getfield 20, 3) := by decide +kernel
theorem dX8_takeText_8 : decode cX8_takeText 8 = .ok (.getfield 111, 3) := by decide +kernel
theorem dX8_takeText_11 : decode cX8_takeText 11 = .ok (.putfield 108, 3) := by decide +kernel
theorem dX8_takeText_14 : decode cX8_takeText 14 = .ok (.iconst 0, 1) := by decide +kernel
theorem dX8_takeText_15 : decode cX8_takeText 15 = .ok (.istore_n 1, 1) := by decide +kernel
theorem dX8_takeText_16 : decode cX8_takeText 16 = .ok (.iload_n 1, 1) := by decide +kernel
theorem dX8_takeText_17 : decode cX8_takeText 17 = .ok (.aload_n 0, 1) := by decide +kernel
theorem dX8_takeText_18 : decode cX8_takeText 18 = .ok (.getfield 20, 3) := by decide +kernel
theorem dX8_takeText_21 : decode cX8_takeText 21 = .ok (.getfield 111, 3) := by decide +kernel
theorem dX8_takeText_24 : decode cX8_takeText 24 = .ok (.if_icmp .ge 28, 3) := by decide +kernel
theorem dX8_takeText_27 : decode cX8_takeText 27 = .ok (.aload_n 0, 1) := by decide +kernel
theorem dX8_takeText_28 : decode cX8_takeText 28 = .ok (.getfield 51, 3) := by decide +kernel
theorem dX8_takeText_31 : decode cX8_takeText 31 = .ok (.getfield 114, 3) := by decide +kernel
theorem dX8_takeText_34 : decode cX8_takeText 34 = .ok (.iload_n 1, 1) := by decide +kernel
theorem dX8_takeText_35 : decode cX8_takeText 35 = .ok (.aload_n 0, 1) := by decide +kernel
theorem dX8_takeText_36 : decode cX8_takeText 36 = .ok (.getfield 20, 3) := by decide +kernel
theorem dX8_takeText_39 : decode cX8_takeText 39 = .ok (.getfield 118, 3) := by decide +kernel
theorem dX8_takeText_42 : decode cX8_takeText 42 = .ok (.iload_n 1, 1) := by decide +kernel
theorem dX8_takeText_43 : decode cX8_takeText 43 = .ok (.iaload, 1) := by decide +kernel
theorem dX8_takeText_44 : decode cX8_takeText 44 = .ok (.i2l, 1) := by decide +kernel
theorem dX8_takeText_45 : decode cX8_takeText 45 = .ok (.lastore, 1) := by decide +kernel
theorem dX8_takeText_46 : decode cX8_takeText 46 = .ok (.iinc 1 1, 3) := by decide +kernel
theorem dX8_takeText_49 : decode cX8_takeText 49 = .ok (.goto (-33), 3) := by decide +kernel
theorem dX8_takeText_52 : decode cX8_takeText 52 = .ok (.aload_n 0, 1) := by decide +kernel
theorem dX8_takeText_53 : decode cX8_takeText 53 = .ok (.getfield 27, 3) := by decide +kernel
theorem dX8_takeText_56 : decode cX8_takeText 56 = .ok (.aload_n 0, 1) := by decide +kernel
theorem dX8_takeText_57 : decode cX8_takeText 57 = .ok (.getfield 20, 3) := by decide +kernel
theorem dX8_takeText_60 : decode cX8_takeText 60 = .ok (.getfield 122, 3) := by decide +kernel
theorem dX8_takeText_63 : decode cX8_takeText 63 = .ok (.invokevirtual 123, 3) := by decide +kernel
theorem dX8_takeText_66 : decode cX8_takeText 66 = .ok (.aload_n 0, 1) := by decide +kernel
theorem dX8_takeText_67 : decode cX8_takeText 67 = .ok (.getfield 64, 3) := by decide +kernel
theorem dX8_takeText_70 : decode cX8_takeText 70 = .ok (.aload_n 0, 1) := by decide +kernel
theorem dX8_takeText_71 : decode cX8_takeText 71 = .ok (.getfield 51, 3) := by decide +kernel
theorem dX8_takeText_74 : decode cX8_takeText 74 = .ok (.getfield 108, 3) := by decide +kernel
theorem dX8_takeText_77 : decode cX8_takeText 77 = .ok (.invokevirtual 127, 3) := by decide +kernel
theorem dX8_takeText_80 : decode cX8_takeText 80 = .ok (.aload_n 0, 1) := by decide +kernel
theorem dX8_takeText_81 : decode cX8_takeText 81 = .ok (.getfield 71, 3) := by decide +kernel
theorem dX8_takeText_84 : decode cX8_takeText 84 = .ok (.iconst 0, 1) := by decide +kernel
theorem dX8_takeText_85 : decode cX8_takeText 85 = .ok (.putfield 131, 3) := by decide +kernel
theorem dX8_takeText_88 : decode cX8_takeText 88 = .ok (.aload_n 0, 1) := by decide +kernel
theorem dX8_takeText_89 : decode cX8_takeText 89 = .ok (.invokevirtual 132, 3) := by decide +kernel
theorem dX8_takeText_92 : decode cX8_takeText 92 = .ok (.return_, 1) := by decide +kernel
set_option maxRecDepth 20000 in
theorem ggX8_beginAgain_X3_forgetWhatWas : GoodIn wsX8_beginAgain wsX3_forgetWhatWas := goodIn_r _ [9, 10, 11, 12, 13, 14, 15, 37, 38, 39] (by decide +kernel) (by decide +kernel)
set_option maxRecDepth 20000 in
theorem gX8_beginAgain_X3_forgetWhatWas : GoodIn wsX8_beginAgain (wsV RX8 136 RX3 yX3_forgetWhatWas wsX3_forgetWhatWas) := goodIn_app (goodIn_of _ (by decide +kernel)) ggX8_beginAgain_X3_forgetWhatWas
set_option maxRecDepth 20000 in
theorem ggX8_beginAgain_X3_becomeLike : GoodIn wsX8_beginAgain wsX3_becomeLike := goodIn_r _ [19, 20, 10, 12, 13, 14, 15, 21, 6, 7, 8, 9, 11, 37, 38, 39] (by decide +kernel) (by decide +kernel)
set_option maxRecDepth 20000 in
theorem gX8_beginAgain_X3_becomeLike : GoodIn wsX8_beginAgain (wsV RX8 139 RX3 yX3_becomeLike wsX3_becomeLike) := goodIn_app (goodIn_of _ (by decide +kernel)) ggX8_beginAgain_X3_becomeLike
theorem dX8_beginAgain_0 : decode cX8_beginAgain 0 = .ok (.aload_n 0, 1) := by decide +kernel
theorem dX8_beginAgain_1 : decode cX8_beginAgain 1 = .ok (.getfield 37, 3) := by decide +kernel
theorem dX8_beginAgain_4 : decode cX8_beginAgain 4 = .ok (.iconst 0, 1) := by decide +kernel
theorem dX8_beginAgain_5 : decode cX8_beginAgain 5 = .ok (.putfield 135, 3) := by decide +kernel
theorem dX8_beginAgain_8 : decode cX8_beginAgain 8 = .ok (.aload_n 0, 1) := by decide +kernel
theorem dX8_beginAgain_9 : decode cX8_beginAgain 9 = .ok (.getfield 51, 3) := by decide +kernel
theorem dX8_beginAgain_12 : decode cX8_beginAgain 12 = .ok (.invokevirtual 136, 3) := by decide +kernel
theorem dX8_beginAgain_15 : decode cX8_beginAgain 15 = .ok (.aload_n 0, 1) := by decide +kernel
theorem dX8_beginAgain_16 : decode cX8_beginAgain 16 = .ok (.getfield 55, 3) := by decide +kernel
theorem dX8_beginAgain_19 : decode cX8_beginAgain 19 = .ok (.aload_n 0, 1) := by decide +kernel
theorem dX8_beginAgain_20 : decode cX8_beginAgain 20 = .ok (.getfield 51, 3) := by decide +kernel
theorem dX8_beginAgain_23 : decode cX8_beginAgain 23 = .ok (.invokevirtual 139, 3) := by decide +kernel
theorem dX8_beginAgain_26 : decode cX8_beginAgain 26 = .ok (.return_, 1) := by decide +kernel
set_option maxRecDepth 20000 in
theorem ggX8_ofHelper_X1_has : GoodIn wsX8_ofHelper wsX1_has := goodIn_r _ [9, 10, 45, 46, 47] (by decide +kernel) (by decide +kernel)
set_option maxRecDepth 20000 in
theorem gX8_ofHelper_X1_has : GoodIn wsX8_ofHelper (wsV RX8 142 RX1 yX1_has wsX1_has) := goodIn_app (goodIn_of _ (by decide +kernel)) ggX8_ofHelper_X1_has
set_option maxRecDepth 20000 in
theorem ggX8_ofHelper_X1_strength : GoodIn wsX8_ofHelper wsX1_strength := goodIn_r _ [14, 15, 16, 17, 6, 7, 8, 9, 10, 45, 46, 47] (by decide +kernel) (by decide +kernel)
set_option maxRecDepth 20000 in
theorem gX8_ofHelper_X1_strength : GoodIn wsX8_ofHelper (wsV RX8 152 RX1 yX1_strength wsX1_strength) := goodIn_app (goodIn_of _ (by decide +kernel)) ggX8_ofHelper_X1_strength
set_option maxRecDepth 20000 in
theorem ggX8_ofHelper_X2_actsOf : GoodIn wsX8_ofHelper wsX2_actsOf := goodIn_r _ [22, 23, 24, 25, 26, 27, 28, 29, 30, 31, 48, 49, 50, 51, 52, 53] (by decide +kernel) (by decide +kernel)
set_option maxRecDepth 20000 in
theorem gX8_ofHelper_X2_actsOf : GoodIn wsX8_ofHelper (wsV RX8 156 RX2 yX2_actsOf wsX2_actsOf) := goodIn_app (goodIn_of _ (by decide +kernel)) ggX8_ofHelper_X2_actsOf
theorem dX8_ofHelper_0 : decode cX8_ofHelper 0 = .ok (.aload_n 0, 1) := by decide +kernel
theorem dX8_ofHelper_1 : decode cX8_ofHelper 1 = .ok (.getfield 27, 3) := by decide +kernel
theorem dX8_ofHelper_4 : decode cX8_ofHelper 4 = .ok (.iload_n 1, 1) := by decide +kernel
theorem dX8_ofHelper_5 : decode cX8_ofHelper 5 = .ok (.i2l, 1) := by decide +kernel
theorem dX8_ofHelper_6 : decode cX8_ofHelper 6 = .ok (.invokevirtual 142, 3) := by decide +kernel
theorem dX8_ofHelper_9 : decode cX8_ofHelper 9 = .ok (.ifCond .ne 5, 3) := by decide +kernel
theorem dX8_ofHelper_12 : decode cX8_ofHelper 12 = .ok (.iconst (-1), 1) := by decide +kernel
theorem dX8_ofHelper_13 : decode cX8_ofHelper 13 = .ok (.ireturn, 1) := by decide +kernel
theorem dX8_ofHelper_14 : decode cX8_ofHelper 14 = .ok (.iload_n 2, 1) := by decide +kernel
theorem dX8_ofHelper_15 : decode cX8_ofHelper 15 = .ok (.tableswitch 68 0 3 #[29, 39, 49, 59], 29) := by decide +kernel
theorem dX8_ofHelper_44 : decode cX8_ofHelper 44 = .ok (.aload_n 0, 1) := by decide +kernel
theorem dX8_ofHelper_45 : decode cX8_ofHelper 45 = .ok (.getfield 27, 3) := by decide +kernel
theorem dX8_ofHelper_48 : decode cX8_ofHelper 48 = .ok (.getfield 146, 3) := by decide +kernel
theorem dX8_ofHelper_51 : decode cX8_ofHelper 51 = .ok (.iload_n 1, 1) := by decide +kernel
theorem dX8_ofHelper_52 : decode cX8_ofHelper 52 = .ok (.iaload, 1) := by decide +kernel
theorem dX8_ofHelper_53 : decode cX8_ofHelper 53 = .ok (.ireturn, 1) := by decide +kernel
theorem dX8_ofHelper_54 : decode cX8_ofHelper 54 = .ok (.aload_n 0, 1) := by decide +kernel
theorem dX8_ofHelper_55 : decode cX8_ofHelper 55 = .ok (.getfield 27, 3) := by decide +kernel
theorem dX8_ofHelper_58 : decode cX8_ofHelper 58 = .ok (.getfield 149, 3) := by decide +kernel
theorem dX8_ofHelper_61 : decode cX8_ofHelper 61 = .ok (.iload_n 1, 1) := by decide +kernel
theorem dX8_ofHelper_62 : decode cX8_ofHelper 62 = .ok (.iaload, 1) := by decide +kernel
theorem dX8_ofHelper_63 : decode cX8_ofHelper 63 = .ok (.ireturn, 1) := by decide +kernel
theorem dX8_ofHelper_64 : decode cX8_ofHelper 64 = .ok (.aload_n 0, 1) := by decide +kernel
theorem dX8_ofHelper_65 : decode cX8_ofHelper 65 = .ok (.getfield 27, 3) := by decide +kernel
theorem dX8_ofHelper_68 : decode cX8_ofHelper 68 = .ok (.iload_n 1, 1) := by decide +kernel
theorem dX8_ofHelper_69 : decode cX8_ofHelper 69 = .ok (.i2l, 1) := by decide +kernel
theorem dX8_ofHelper_70 : decode cX8_ofHelper 70 = .ok (.invokevirtual 152, 3) := by decide +kernel
theorem dX8_ofHelper_73 : decode cX8_ofHelper 73 = .ok (.ireturn, 1) := by decide +kernel
theorem dX8_ofHelper_74 : decode cX8_ofHelper 74 = .ok (.aload_n 0, 1) := by decide +kernel
theorem dX8_ofHelper_75 : decode cX8_ofHelper 75 = .ok (.getfield 37, 3) := by decide +kernel
theorem dX8_ofHelper_78 : decode cX8_ofHelper 78 = .ok (.iload_n 1, 1) := by decide +kernel
theorem dX8_ofHelper_79 : decode cX8_ofHelper 79 = .ok (.invokevirtual 156, 3) := by decide +kernel
theorem dX8_ofHelper_82 : decode cX8_ofHelper 82 = .ok (.ireturn, 1) := by decide +kernel
theorem dX8_ofHelper_83 : decode cX8_ofHelper 83 = .ok (.bipush (-2), 2) := by decide +kernel
theorem dX8_ofHelper_85 : decode cX8_ofHelper 85 = .ok (.ireturn, 1) := by decide +kernel
set_option maxRecDepth 20000 in
theorem ggX8_at_X3_has : GoodIn wsX8_at wsX3_has := goodIn_r _ [9, 10, 24, 25, 26] (by decide +kernel) (by decide +kernel)
set_option maxRecDepth 20000 in
theorem gX8_at_X3_has : GoodIn wsX8_at (wsV RX8 159 RX3 yX3_has wsX3_has) := goodIn_app (goodIn_of _ (by decide +kernel)) ggX8_at_X3_has
theorem dX8_at_0 : decode cX8_at 0 = .ok (.aload_n 0, 1) := by decide +kernel
theorem dX8_at_1 : decode cX8_at 1 = .ok (.getfield 51, 3) := by decide +kernel
theorem dX8_at_4 : decode cX8_at 4 = .ok (.iload_n 1, 1) := by decide +kernel
theorem dX8_at_5 : decode cX8_at 5 = .ok (.invokevirtual 159, 3) := by decide +kernel
theorem dX8_at_8 : decode cX8_at 8 = .ok (.ifCond .ne 7, 3) := by decide +kernel
theorem dX8_at_11 : decode cX8_at 11 = .ok (.ldc2_w 161, 3) := by decide +kernel
theorem dX8_at_14 : decode cX8_at 14 = .ok (.lreturn, 1) := by decide +kernel
theorem dX8_at_15 : decode cX8_at 15 = .ok (.iload_n 2, 1) := by decide +kernel
theorem dX8_at_16 : decode cX8_at 16 = .ok (.lookupswitch 48 #[(0, 28), (1, 38)], 28) := by decide +kernel
theorem dX8_at_44 : decode cX8_at 44 = .ok (.aload_n 0, 1) := by decide +kernel
theorem dX8_at_45 : decode cX8_at 45 = .ok (.getfield 51, 3) := by decide +kernel
theorem dX8_at_48 : decode cX8_at 48 = .ok (.getfield 114, 3) := by decide +kernel
theorem dX8_at_51 : decode cX8_at 51 = .ok (.iload_n 1, 1) := by decide +kernel
theorem dX8_at_52 : decode cX8_at 52 = .ok (.laload, 1) := by decide +kernel
theorem dX8_at_53 : decode cX8_at 53 = .ok (.lreturn, 1) := by decide +kernel
theorem dX8_at_54 : decode cX8_at 54 = .ok (.aload_n 0, 1) := by decide +kernel
theorem dX8_at_55 : decode cX8_at 55 = .ok (.getfield 51, 3) := by decide +kernel
theorem dX8_at_58 : decode cX8_at 58 = .ok (.getfield 163, 3) := by decide +kernel
theorem dX8_at_61 : decode cX8_at 61 = .ok (.iload_n 1, 1) := by decide +kernel
theorem dX8_at_62 : decode cX8_at 62 = .ok (.laload, 1) := by decide +kernel
theorem dX8_at_63 : decode cX8_at 63 = .ok (.lreturn, 1) := by decide +kernel
theorem dX8_at_64 : decode cX8_at 64 = .ok (.ldc2_w 161, 3) := by decide +kernel
theorem dX8_at_67 : decode cX8_at 67 = .ok (.lreturn, 1) := by decide +kernel
set_option maxRecDepth 20000 in
theorem ggX8_add_X8_refusedAim : GoodIn wsX8_add wsX8_refusedAim := goodIn_r _ [7, 8, 9, 10, 11, 12, 6, 13, 14, 15, 16, 17, 18, 19, 20, 78, 79, 80, 81, 82, 83, 84, 85, 86, 87, 88, 89, 90, 93, 94, 95] (by decide +kernel) (by decide +kernel)
set_option maxRecDepth 20000 in
theorem gX8_add_X8_refusedAim : GoodIn wsX8_add (wsV RX8 166 RX8 yX8_refusedAim wsX8_refusedAim) := goodIn_app (goodIn_of _ (by decide +kernel)) ggX8_add_X8_refusedAim
set_option maxRecDepth 20000 in
theorem ggX8_add_X8_act : GoodIn wsX8_add wsX8_act := goodIn_r _ [24, 1, 14, 25, 26, 27, 28, 29, 30, 31, 32, 33, 34, 35, 36, 37, 38, 39, 40, 41, 42, 43, 44, 18, 45, 46, 47, 48, 49, 50, 51, 52, 53, 54, 55, 16, 17, 19, 20, 56, 57, 58, 59, 60, 61, 62, 63, 64, 65, 66, 67, 68, 69, 70, 71, 72, 73, 74, 75, 76, 77, 78, 79, 80, 81, 82, 83, 84, 85, 86, 87, 88, 89, 90, 91, 92, 96, 97, 98, 99, 93, 94, 95, 100, 101, 102] (by decide +kernel) (by decide +kernel)
set_option maxRecDepth 20000 in
theorem gX8_add_X8_act : GoodIn wsX8_add (wsV RX8 170 RX8 yX8_act wsX8_act) := goodIn_app (goodIn_of _ (by decide +kernel)) ggX8_add_X8_act
theorem dX8_add_0 : decode cX8_add 0 = .ok (.aload_n 0, 1) := by decide +kernel
theorem dX8_add_1 : decode cX8_add 1 = .ok (.iload_n 1, 1) := by decide +kernel
theorem dX8_add_2 : decode cX8_add 2 = .ok (.iload_n 2, 1) := by decide +kernel
theorem dX8_add_3 : decode cX8_add 3 = .ok (.lload_n 3, 1) := by decide +kernel
theorem dX8_add_4 : decode cX8_add 4 = .ok (.invokevirtual 166, 3) := by decide +kernel
theorem dX8_add_7 : decode cX8_add 7 = .ok (.istore 5, 2) := by decide +kernel
theorem dX8_add_9 : decode cX8_add 9 = .ok (.iload 5, 2) := by decide +kernel
theorem dX8_add_11 : decode cX8_add 11 = .ok (.ifCond .eq 8, 3) := by decide +kernel
theorem dX8_add_14 : decode cX8_add 14 = .ok (.iload 5, 2) := by decide +kernel
theorem dX8_add_16 : decode cX8_add 16 = .ok (.goto 11, 3) := by decide +kernel
theorem dX8_add_19 : decode cX8_add 19 = .ok (.aload_n 0, 1) := by decide +kernel
theorem dX8_add_20 : decode cX8_add 20 = .ok (.iconst 0, 1) := by decide +kernel
theorem dX8_add_21 : decode cX8_add 21 = .ok (.iload_n 1, 1) := by decide +kernel
theorem dX8_add_22 : decode cX8_add 22 = .ok (.iload_n 2, 1) := by decide +kernel
theorem dX8_add_23 : decode cX8_add 23 = .ok (.lload_n 3, 1) := by decide +kernel
theorem dX8_add_24 : decode cX8_add 24 = .ok (.invokevirtual 170, 3) := by decide +kernel
theorem dX8_add_27 : decode cX8_add 27 = .ok (.istore 6, 2) := by decide +kernel
theorem dX8_add_29 : decode cX8_add 29 = .ok (.iload 6, 2) := by decide +kernel
theorem dX8_add_31 : decode cX8_add 31 = .ok (.ifCond .ge 8, 3) := by decide +kernel
theorem dX8_add_34 : decode cX8_add 34 = .ok (.iload 6, 2) := by decide +kernel
theorem dX8_add_36 : decode cX8_add 36 = .ok (.goto 10, 3) := by decide +kernel
theorem dX8_add_39 : decode cX8_add 39 = .ok (.aload_n 0, 1) := by decide +kernel
theorem dX8_add_40 : decode cX8_add 40 = .ok (.getfield 37, 3) := by decide +kernel
theorem dX8_add_43 : decode cX8_add 43 = .ok (.getfield 135, 3) := by decide +kernel
theorem dX8_add_46 : decode cX8_add 46 = .ok (.ireturn, 1) := by decide +kernel
set_option maxRecDepth 20000 in
theorem ggX8_cap_X8_refusedAim : GoodIn wsX8_cap wsX8_refusedAim := goodIn_r _ [5, 6, 7, 8, 9, 10, 4, 11, 12, 13, 14, 15, 16, 17, 18, 77, 78, 79, 80, 81, 82, 83, 84, 85, 86, 87, 88, 89, 90, 91, 92] (by decide +kernel) (by decide +kernel)
set_option maxRecDepth 20000 in
theorem gX8_cap_X8_refusedAim : GoodIn wsX8_cap (wsV RX8 166 RX8 yX8_refusedAim wsX8_refusedAim) := goodIn_app (goodIn_of _ (by decide +kernel)) ggX8_cap_X8_refusedAim
set_option maxRecDepth 20000 in
theorem ggX8_cap_X8_act : GoodIn wsX8_cap wsX8_act := goodIn_r _ [22, 23, 12, 24, 25, 26, 27, 28, 29, 30, 31, 32, 33, 34, 35, 36, 37, 38, 39, 40, 41, 42, 43, 16, 44, 45, 46, 47, 48, 49, 50, 51, 52, 53, 54, 14, 15, 17, 18, 55, 56, 57, 58, 59, 60, 61, 62, 63, 64, 65, 66, 67, 68, 69, 70, 71, 72, 73, 74, 75, 76, 77, 78, 79, 80, 81, 82, 83, 84, 85, 86, 87, 88, 89, 93, 94, 95, 96, 97, 98, 90, 91, 92, 99, 100, 101] (by decide +kernel) (by decide +kernel)
set_option maxRecDepth 20000 in
theorem gX8_cap_X8_act : GoodIn wsX8_cap (wsV RX8 170 RX8 yX8_act wsX8_act) := goodIn_app (goodIn_of _ (by decide +kernel)) ggX8_cap_X8_act
theorem dX8_cap_0 : decode cX8_cap 0 = .ok (.aload_n 0, 1) := by decide +kernel
theorem dX8_cap_1 : decode cX8_cap 1 = .ok (.iload_n 1, 1) := by decide +kernel
theorem dX8_cap_2 : decode cX8_cap 2 = .ok (.iload_n 2, 1) := by decide +kernel
theorem dX8_cap_3 : decode cX8_cap 3 = .ok (.lload_n 3, 1) := by decide +kernel
theorem dX8_cap_4 : decode cX8_cap 4 = .ok (.invokevirtual 166, 3) := by decide +kernel
theorem dX8_cap_7 : decode cX8_cap 7 = .ok (.istore 5, 2) := by decide +kernel
theorem dX8_cap_9 : decode cX8_cap 9 = .ok (.iload 5, 2) := by decide +kernel
theorem dX8_cap_11 : decode cX8_cap 11 = .ok (.ifCond .eq 8, 3) := by decide +kernel
theorem dX8_cap_14 : decode cX8_cap 14 = .ok (.iload 5, 2) := by decide +kernel
theorem dX8_cap_16 : decode cX8_cap 16 = .ok (.goto 11, 3) := by decide +kernel
theorem dX8_cap_19 : decode cX8_cap 19 = .ok (.aload_n 0, 1) := by decide +kernel
theorem dX8_cap_20 : decode cX8_cap 20 = .ok (.iconst 1, 1) := by decide +kernel
theorem dX8_cap_21 : decode cX8_cap 21 = .ok (.iload_n 1, 1) := by decide +kernel
theorem dX8_cap_22 : decode cX8_cap 22 = .ok (.iload_n 2, 1) := by decide +kernel
theorem dX8_cap_23 : decode cX8_cap 23 = .ok (.lload_n 3, 1) := by decide +kernel
theorem dX8_cap_24 : decode cX8_cap 24 = .ok (.invokevirtual 170, 3) := by decide +kernel
theorem dX8_cap_27 : decode cX8_cap 27 = .ok (.ireturn, 1) := by decide +kernel
set_option maxRecDepth 20000 in
theorem ggX8_floor_X8_refusedAim : GoodIn wsX8_floor wsX8_refusedAim := goodIn_r _ [5, 6, 7, 8, 9, 10, 4, 11, 12, 13, 14, 15, 16, 17, 18, 77, 78, 79, 80, 81, 82, 83, 84, 85, 86, 87, 88, 89, 90, 91, 92] (by decide +kernel) (by decide +kernel)
set_option maxRecDepth 20000 in
theorem gX8_floor_X8_refusedAim : GoodIn wsX8_floor (wsV RX8 166 RX8 yX8_refusedAim wsX8_refusedAim) := goodIn_app (goodIn_of _ (by decide +kernel)) ggX8_floor_X8_refusedAim
set_option maxRecDepth 20000 in
theorem ggX8_floor_X8_act : GoodIn wsX8_floor wsX8_act := goodIn_r _ [22, 23, 12, 24, 25, 26, 27, 28, 29, 30, 31, 32, 33, 34, 35, 36, 37, 38, 39, 40, 41, 42, 43, 16, 44, 45, 46, 47, 48, 49, 50, 51, 52, 53, 54, 14, 15, 17, 18, 55, 56, 57, 58, 59, 60, 61, 62, 63, 64, 65, 66, 67, 68, 69, 70, 71, 72, 73, 74, 75, 76, 77, 78, 79, 80, 81, 82, 83, 84, 85, 86, 87, 88, 89, 93, 94, 95, 96, 97, 98, 90, 91, 92, 99, 100, 101] (by decide +kernel) (by decide +kernel)
set_option maxRecDepth 20000 in
theorem gX8_floor_X8_act : GoodIn wsX8_floor (wsV RX8 170 RX8 yX8_act wsX8_act) := goodIn_app (goodIn_of _ (by decide +kernel)) ggX8_floor_X8_act
theorem dX8_floor_0 : decode cX8_floor 0 = .ok (.aload_n 0, 1) := by decide +kernel
theorem dX8_floor_1 : decode cX8_floor 1 = .ok (.iload_n 1, 1) := by decide +kernel
theorem dX8_floor_2 : decode cX8_floor 2 = .ok (.iload_n 2, 1) := by decide +kernel
theorem dX8_floor_3 : decode cX8_floor 3 = .ok (.lload_n 3, 1) := by decide +kernel
theorem dX8_floor_4 : decode cX8_floor 4 = .ok (.invokevirtual 166, 3) := by decide +kernel
theorem dX8_floor_7 : decode cX8_floor 7 = .ok (.istore 5, 2) := by decide +kernel
theorem dX8_floor_9 : decode cX8_floor 9 = .ok (.iload 5, 2) := by decide +kernel
theorem dX8_floor_11 : decode cX8_floor 11 = .ok (.ifCond .eq 8, 3) := by decide +kernel
theorem dX8_floor_14 : decode cX8_floor 14 = .ok (.iload 5, 2) := by decide +kernel
theorem dX8_floor_16 : decode cX8_floor 16 = .ok (.goto 11, 3) := by decide +kernel
theorem dX8_floor_19 : decode cX8_floor 19 = .ok (.aload_n 0, 1) := by decide +kernel
theorem dX8_floor_20 : decode cX8_floor 20 = .ok (.iconst 2, 1) := by decide +kernel
theorem dX8_floor_21 : decode cX8_floor 21 = .ok (.iload_n 1, 1) := by decide +kernel
theorem dX8_floor_22 : decode cX8_floor 22 = .ok (.iload_n 2, 1) := by decide +kernel
theorem dX8_floor_23 : decode cX8_floor 23 = .ok (.lload_n 3, 1) := by decide +kernel
theorem dX8_floor_24 : decode cX8_floor 24 = .ok (.invokevirtual 170, 3) := by decide +kernel
theorem dX8_floor_27 : decode cX8_floor 27 = .ok (.ireturn, 1) := by decide +kernel
set_option maxRecDepth 20000 in
theorem ggX8_help_X1_has : GoodIn wsX8_help wsX1_has := goodIn_r _ [6, 7, 86, 87, 88] (by decide +kernel) (by decide +kernel)
set_option maxRecDepth 20000 in
theorem gX8_help_X1_has : GoodIn wsX8_help (wsV RX8 142 RX1 yX1_has wsX1_has) := goodIn_app (goodIn_of _ (by decide +kernel)) ggX8_help_X1_has
set_option maxRecDepth 20000 in
theorem ggX8_help_X8_refusedRun : GoodIn wsX8_help wsX8_refusedRun := goodIn_r _ [12, 13, 14, 15, 16, 17, 18, 19, 73, 74, 75, 76, 77, 78, 79, 80, 81, 82, 83, 84, 85, 89, 90, 91] (by decide +kernel) (by decide +kernel)
set_option maxRecDepth 20000 in
theorem gX8_help_X8_refusedRun : GoodIn wsX8_help (wsV RX8 174 RX8 yX8_refusedRun wsX8_refusedRun) := goodIn_app (goodIn_of _ (by decide +kernel)) ggX8_help_X8_refusedRun
set_option maxRecDepth 20000 in
theorem ggX8_help_X8_act : GoodIn wsX8_help wsX8_act := goodIn_r _ [23, 24, 13, 1, 25, 26, 27, 28, 29, 30, 31, 32, 33, 34, 35, 36, 37, 38, 39, 40, 41, 42, 43, 17, 44, 45, 46, 47, 48, 49, 50, 51, 52, 53, 54, 15, 16, 18, 19, 55, 56, 57, 58, 59, 60, 61, 5, 62, 63, 64, 65, 3, 4, 6, 7, 66, 67, 68, 69, 70, 71, 73, 74, 75, 76, 77, 78, 79, 80, 81, 82, 83, 84, 85, 92, 93, 94, 95, 96, 97, 89, 90, 91, 86, 87, 88] (by decide +kernel) (by decide +kernel)
set_option maxRecDepth 20000 in
theorem gX8_help_X8_act : GoodIn wsX8_help (wsV RX8 170 RX8 yX8_act wsX8_act) := goodIn_app (goodIn_of _ (by decide +kernel)) ggX8_help_X8_act
set_option maxRecDepth 20000 in
theorem ggX8_help_X1_strength : GoodIn wsX8_help wsX1_strength := goodIn_r _ [62, 63, 64, 65, 3, 4, 5, 6, 7, 86, 87, 88] (by decide +kernel) (by decide +kernel)
set_option maxRecDepth 20000 in
theorem gX8_help_X1_strength : GoodIn wsX8_help (wsV RX8 152 RX1 yX1_strength wsX1_strength) := goodIn_app (goodIn_of _ (by decide +kernel)) ggX8_help_X1_strength
theorem dX8_help_0 : decode cX8_help 0 = .ok (.aload_n 0, 1) := by decide +kernel
theorem dX8_help_1 : decode cX8_help 1 = .ok (.getfield 27, 3) := by decide +kernel
theorem dX8_help_4 : decode cX8_help 4 = .ok (.iload_n 1, 1) := by decide +kernel
theorem dX8_help_5 : decode cX8_help 5 = .ok (.i2l, 1) := by decide +kernel
theorem dX8_help_6 : decode cX8_help 6 = .ok (.invokevirtual 142, 3) := by decide +kernel
theorem dX8_help_9 : decode cX8_help 9 = .ok (.ifCond .ne 5, 3) := by decide +kernel
theorem dX8_help_12 : decode cX8_help 12 = .ok (.iconst (-1), 1) := by decide +kernel
theorem dX8_help_13 : decode cX8_help 13 = .ok (.ireturn, 1) := by decide +kernel
theorem dX8_help_14 : decode cX8_help 14 = .ok (.aload_n 0, 1) := by decide +kernel
theorem dX8_help_15 : decode cX8_help 15 = .ok (.iload_n 2, 1) := by decide +kernel
theorem dX8_help_16 : decode cX8_help 16 = .ok (.iload_n 3, 1) := by decide +kernel
theorem dX8_help_17 : decode cX8_help 17 = .ok (.invokevirtual 174, 3) := by decide +kernel
theorem dX8_help_20 : decode cX8_help 20 = .ok (.istore 5, 2) := by decide +kernel
theorem dX8_help_22 : decode cX8_help 22 = .ok (.iload 5, 2) := by decide +kernel
theorem dX8_help_24 : decode cX8_help 24 = .ok (.ifCond .eq 6, 3) := by decide +kernel
theorem dX8_help_27 : decode cX8_help 27 = .ok (.iload 5, 2) := by decide +kernel
theorem dX8_help_29 : decode cX8_help 29 = .ok (.ireturn, 1) := by decide +kernel
theorem dX8_help_30 : decode cX8_help 30 = .ok (.iload 4, 2) := by decide +kernel
theorem dX8_help_32 : decode cX8_help 32 = .ok (.ifCond .eq 12, 3) := by decide +kernel
theorem dX8_help_35 : decode cX8_help 35 = .ok (.iload 4, 2) := by decide +kernel
theorem dX8_help_37 : decode cX8_help 37 = .ok (.iconst 1, 1) := by decide +kernel
theorem dX8_help_38 : decode cX8_help 38 = .ok (.if_icmp .eq 6, 3) := by decide +kernel
theorem dX8_help_41 : decode cX8_help 41 = .ok (.bipush (-2), 2) := by decide +kernel
theorem dX8_help_43 : decode cX8_help 43 = .ok (.ireturn, 1) := by decide +kernel
theorem dX8_help_44 : decode cX8_help 44 = .ok (.aload_n 0, 1) := by decide +kernel
theorem dX8_help_45 : decode cX8_help 45 = .ok (.iload 4, 2) := by decide +kernel
theorem dX8_help_47 : decode cX8_help 47 = .ok (.iconst 1, 1) := by decide +kernel
theorem dX8_help_48 : decode cX8_help 48 = .ok (.if_icmp .ne 7, 3) := by decide +kernel
theorem dX8_help_51 : decode cX8_help 51 = .ok (.iconst 3, 1) := by decide +kernel
theorem dX8_help_52 : decode cX8_help 52 = .ok (.goto 4, 3) := by decide +kernel
theorem dX8_help_55 : decode cX8_help 55 = .ok (.iconst 4, 1) := by decide +kernel
theorem dX8_help_56 : decode cX8_help 56 = .ok (.iload_n 2, 1) := by decide +kernel
theorem dX8_help_57 : decode cX8_help 57 = .ok (.iload_n 3, 1) := by decide +kernel
theorem dX8_help_58 : decode cX8_help 58 = .ok (.iload_n 1, 1) := by decide +kernel
theorem dX8_help_59 : decode cX8_help 59 = .ok (.i2l, 1) := by decide +kernel
theorem dX8_help_60 : decode cX8_help 60 = .ok (.invokevirtual 170, 3) := by decide +kernel
theorem dX8_help_63 : decode cX8_help 63 = .ok (.istore 6, 2) := by decide +kernel
theorem dX8_help_65 : decode cX8_help 65 = .ok (.iload 6, 2) := by decide +kernel
theorem dX8_help_67 : decode cX8_help 67 = .ok (.ifCond .ge 8, 3) := by decide +kernel
theorem dX8_help_70 : decode cX8_help 70 = .ok (.iload 6, 2) := by decide +kernel
theorem dX8_help_72 : decode cX8_help 72 = .ok (.goto 12, 3) := by decide +kernel
theorem dX8_help_75 : decode cX8_help 75 = .ok (.aload_n 0, 1) := by decide +kernel
theorem dX8_help_76 : decode cX8_help 76 = .ok (.getfield 27, 3) := by decide +kernel
theorem dX8_help_79 : decode cX8_help 79 = .ok (.iload_n 1, 1) := by decide +kernel
theorem dX8_help_80 : decode cX8_help 80 = .ok (.i2l, 1) := by decide +kernel
theorem dX8_help_81 : decode cX8_help 81 = .ok (.invokevirtual 152, 3) := by decide +kernel
theorem dX8_help_84 : decode cX8_help 84 = .ok (.ireturn, 1) := by decide +kernel
set_option maxRecDepth 20000 in
theorem ggX8_fresh_X3_areThere : GoodIn wsX8_fresh wsX3_areThere := goodIn_r _ [8, 9, 46, 47, 48] (by decide +kernel) (by decide +kernel)
set_option maxRecDepth 20000 in
theorem gX8_fresh_X3_areThere : GoodIn wsX8_fresh (wsV RX8 178 RX3 yX3_areThere wsX3_areThere) := goodIn_app (goodIn_of _ (by decide +kernel)) ggX8_fresh_X3_areThere
set_option maxRecDepth 20000 in
theorem ggX8_fresh_X8_beginAgain : GoodIn wsX8_fresh wsX8_beginAgain := goodIn_r _ [14, 2, 3, 1, 15, 16, 17, 18, 7, 19, 20, 21, 22, 23, 24, 25, 26, 27, 28, 29, 9, 30, 31, 32, 33, 34, 35, 36, 37, 38, 39, 40, 41, 42, 43, 44, 45, 46, 47, 48] (by decide +kernel) (by decide +kernel)
set_option maxRecDepth 20000 in
theorem gX8_fresh_X8_beginAgain : GoodIn wsX8_fresh (wsV RX8 132 RX8 yX8_beginAgain wsX8_beginAgain) := goodIn_app (goodIn_of _ (by decide +kernel)) ggX8_fresh_X8_beginAgain
theorem dX8_fresh_0 : decode cX8_fresh 0 = .ok (.aload_n 0, 1) := by decide +kernel
theorem dX8_fresh_1 : decode cX8_fresh 1 = .ok (.getfield 51, 3) := by decide +kernel
theorem dX8_fresh_4 : decode cX8_fresh 4 = .ok (.invokevirtual 178, 3) := by decide +kernel
theorem dX8_fresh_7 : decode cX8_fresh 7 = .ok (.ifCond .ne 6, 3) := by decide +kernel
theorem dX8_fresh_10 : decode cX8_fresh 10 = .ok (.bipush (-3), 2) := by decide +kernel
theorem dX8_fresh_12 : decode cX8_fresh 12 = .ok (.ireturn, 1) := by decide +kernel
theorem dX8_fresh_13 : decode cX8_fresh 13 = .ok (.aload_n 0, 1) := by decide +kernel
theorem dX8_fresh_14 : decode cX8_fresh 14 = .ok (.getfield 37, 3) := by decide +kernel
theorem dX8_fresh_17 : decode cX8_fresh 17 = .ok (.getfield 135, 3) := by decide +kernel
theorem dX8_fresh_20 : decode cX8_fresh 20 = .ok (.istore_n 1, 1) := by decide +kernel
theorem dX8_fresh_21 : decode cX8_fresh 21 = .ok (.aload_n 0, 1) := by decide +kernel
theorem dX8_fresh_22 : decode cX8_fresh 22 = .ok (.invokevirtual 132, 3) := by decide +kernel
theorem dX8_fresh_25 : decode cX8_fresh 25 = .ok (.iload_n 1, 1) := by decide +kernel
theorem dX8_fresh_26 : decode cX8_fresh 26 = .ok (.ireturn, 1) := by decide +kernel
set_option maxRecDepth 20000 in
theorem ggX8_day_X8_isSheet : GoodIn wsX8_day wsX8_isSheet := goodIn_r _ [8] (by decide +kernel) (by decide +kernel)
set_option maxRecDepth 20000 in
theorem gX8_day_X8_isSheet : GoodIn wsX8_day (va_wsS RX8 83 yX8_isSheet wsX8_isSheet) := goodIn_app (goodIn_of _ (by decide +kernel)) ggX8_day_X8_isSheet
set_option maxRecDepth 20000 in
theorem ggX8_day_X8_isLane : GoodIn wsX8_day wsX8_isLane := goodIn_r _ [11] (by decide +kernel) (by decide +kernel)
set_option maxRecDepth 20000 in
theorem gX8_day_X8_isLane : GoodIn wsX8_day (va_wsS RX8 87 yX8_isLane wsX8_isLane) := goodIn_app (goodIn_of _ (by decide +kernel)) ggX8_day_X8_isLane
set_option maxRecDepth 20000 in
theorem ggX8_day_X8_isOfDay : GoodIn wsX8_day wsX8_isOfDay := goodIn_r _ [14] (by decide +kernel) (by decide +kernel)
set_option maxRecDepth 20000 in
theorem gX8_day_X8_isOfDay : GoodIn wsX8_day (va_wsS RX8 182 yX8_isOfDay wsX8_isOfDay) := goodIn_app (goodIn_of _ (by decide +kernel)) ggX8_day_X8_isOfDay
set_option maxRecDepth 20000 in
theorem ggX8_day_X5_faultTakenAs : GoodIn wsX8_day wsX5_faultTakenAs := goodIn_r _ [19, 20, 21, 160, 161, 162, 163] (by decide +kernel) (by decide +kernel)
set_option maxRecDepth 20000 in
theorem gX8_day_X5_faultTakenAs : GoodIn wsX8_day (wsV RX8 90 RX5 yX5_faultTakenAs wsX5_faultTakenAs) := goodIn_app (goodIn_of _ (by decide +kernel)) ggX8_day_X5_faultTakenAs
set_option maxRecDepth 20000 in
theorem ggX8_day_X8_lost : GoodIn wsX8_day wsX8_lost := goodIn_r _ [25, 1, 2, 147, 148, 149, 150, 151, 152, 153, 154, 155, 156, 157, 158, 159] (by decide +kernel) (by decide +kernel)
set_option maxRecDepth 20000 in
theorem gX8_day_X8_lost : GoodIn wsX8_day (wsV RX8 185 RX8 yX8_lost wsX8_lost) := goodIn_app (goodIn_of _ (by decide +kernel)) ggX8_day_X8_lost
set_option maxRecDepth 20000 in
theorem ggX8_day_X5_hasCells : GoodIn wsX8_day wsX5_hasCells := goodIn_r _ [29, 30, 160, 161, 162, 163] (by decide +kernel) (by decide +kernel)
set_option maxRecDepth 20000 in
theorem gX8_day_X5_hasCells : GoodIn wsX8_day (wsV RX8 97 RX5 yX5_hasCells wsX5_hasCells) := goodIn_app (goodIn_of _ (by decide +kernel)) ggX8_day_X5_hasCells
set_option maxRecDepth 20000 in
theorem ggX8_day_X3_areThere : GoodIn wsX8_day wsX3_areThere := goodIn_r _ [35, 36, 164, 165, 166] (by decide +kernel) (by decide +kernel)
set_option maxRecDepth 20000 in
theorem gX8_day_X3_areThere : GoodIn wsX8_day (wsV RX8 178 RX3 yX3_areThere wsX3_areThere) := goodIn_app (goodIn_of _ (by decide +kernel)) ggX8_day_X3_areThere
set_option maxRecDepth 20000 in
theorem ggX8_day_X8_sortsAreKnown : GoodIn wsX8_day wsX8_sortsAreKnown := goodIn_r _ [39, 40, 41, 42, 18, 43, 30, 44, 160, 161, 162, 163] (by decide +kernel) (by decide +kernel)
set_option maxRecDepth 20000 in
theorem gX8_day_X8_sortsAreKnown : GoodIn wsX8_day (va_wsS RX8 189 yX8_sortsAreKnown wsX8_sortsAreKnown) := goodIn_app (goodIn_of _ (by decide +kernel)) ggX8_day_X8_sortsAreKnown
set_option maxRecDepth 20000 in
theorem ggX8_day_X8_playDay : GoodIn wsX8_day wsX8_playDay := goodIn_r _ [48, 49, 4, 50, 51, 52, 53, 54, 34, 55, 36, 56, 57, 58, 59, 60, 61, 62, 63, 64, 65, 40, 41, 42, 18, 43, 30, 44, 66, 67, 68, 69, 70, 71, 72, 73, 74, 75, 76, 77, 7, 78, 79, 80, 81, 82, 83, 84, 85, 86, 87, 88, 89, 90, 91, 92, 93, 94, 95, 96, 97, 98, 99, 100, 101, 102, 103, 104, 105, 106, 107, 108, 109, 110, 111, 112, 113, 114, 115, 116, 117, 118, 119, 120, 121, 122, 123, 124, 125, 126, 127, 128, 147, 148, 149, 150, 151, 152, 153, 154, 155, 156, 157, 158, 159, 164, 165, 166, 160, 161, 162, 163, 167, 168, 169, 170, 171, 172, 173] (by decide +kernel) (by decide +kernel)
set_option maxRecDepth 20000 in
theorem gX8_day_X8_playDay : GoodIn wsX8_day (wsV RX8 193 RX8 yX8_playDay wsX8_playDay) := goodIn_app (goodIn_of _ (by decide +kernel)) ggX8_day_X8_playDay
set_option maxRecDepth 20000 in
theorem ggX8_day_X8_ofTrial : GoodIn wsX8_day wsX8_ofTrial := goodIn_r _ [132, 49, 133, 134, 135, 2, 136, 137, 7, 138, 139, 140, 141, 142, 108, 109, 110, 143, 144, 145, 146, 127, 128, 86, 87, 88, 34, 89, 36, 147, 148, 149, 150, 151, 152, 153, 154, 155, 156, 157, 158, 159, 164, 165, 166] (by decide +kernel) (by decide +kernel)
set_option maxRecDepth 20000 in
theorem gX8_day_X8_ofTrial : GoodIn wsX8_day (wsV RX8 196 RX8 yX8_ofTrial wsX8_ofTrial) := goodIn_app (goodIn_of _ (by decide +kernel)) ggX8_day_X8_ofTrial
theorem dX8_day_0 : decode cX8_day 0 = .ok (.aload_n 0, 1) := by decide +kernel
theorem dX8_day_1 : decode cX8_day 1 = .ok (.iconst 0, 1) := by decide +kernel
theorem dX8_day_2 : decode cX8_day 2 = .ok (.putfield 79, 3) := by decide +kernel
theorem dX8_day_5 : decode cX8_day 5 = .ok (.iload_n 1, 1) := by decide +kernel
theorem dX8_day_6 : decode cX8_day 6 = .ok (.invokestatic 83, 3) := by decide +kernel
theorem dX8_day_9 : decode cX8_day 9 = .ok (.ifCond .eq 30, 3) := by decide +kernel
theorem dX8_day_12 : decode cX8_day 12 = .ok (.iload_n 2, 1) := by decide +kernel
theorem dX8_day_13 : decode cX8_day 13 = .ok (.invokestatic 87, 3) := by decide +kernel
theorem dX8_day_16 : decode cX8_day 16 = .ok (.ifCond .eq 23, 3) := by decide +kernel
theorem dX8_day_19 : decode cX8_day 19 = .ok (.iload 4, 2) := by decide +kernel
theorem dX8_day_21 : decode cX8_day 21 = .ok (.ifCond .lt 18, 3) := by decide +kernel
theorem dX8_day_24 : decode cX8_day 24 = .ok (.iload 4, 2) := by decide +kernel
theorem dX8_day_26 : decode cX8_day 26 = .ok (.bipush 12, 2) := by decide +kernel
theorem dX8_day_28 : decode cX8_day 28 = .ok (.if_icmp .gt 11, 3) := by decide +kernel
theorem dX8_day_31 : decode cX8_day 31 = .ok (.iload 5, 2) := by decide +kernel
theorem dX8_day_33 : decode cX8_day 33 = .ok (.invokestatic 182, 3) := by decide +kernel
theorem dX8_day_36 : decode cX8_day 36 = .ok (.ifCond .ne 7, 3) := by decide +kernel
theorem dX8_day_39 : decode cX8_day 39 = .ok (.ldc2_w 161, 3) := by decide +kernel
theorem dX8_day_42 : decode cX8_day 42 = .ok (.lreturn, 1) := by decide +kernel
theorem dX8_day_43 : decode cX8_day 43 = .ok (.aload_n 0, 1) := by decide +kernel
theorem dX8_day_44 : decode cX8_day 44 = .ok (.getfield 13, 3) := by decide +kernel
theorem dX8_day_47 : decode cX8_day 47 = .ok (.iload_n 1, 1) := by decide +kernel
theorem dX8_day_48 : decode cX8_day 48 = .ok (.aaload, 1) := by decide +kernel
theorem dX8_day_49 : decode cX8_day 49 = .ok (.astore 6, 2) := by decide +kernel
theorem dX8_day_51 : decode cX8_day 51 = .ok (.aload 6, 2) := by decide +kernel
theorem dX8_day_53 : decode cX8_day 53 = .ok (.iload_n 2, 1) := by decide +kernel
theorem dX8_day_54 : decode cX8_day 54 = .ok (.invokevirtual 90, 3) := by decide +kernel
theorem dX8_day_57 : decode cX8_day 57 = .ok (.istore 7, 2) := by decide +kernel
theorem dX8_day_59 : decode cX8_day 59 = .ok (.iload 7, 2) := by decide +kernel
theorem dX8_day_61 : decode cX8_day 61 = .ok (.ifCond .eq 10, 3) := by decide +kernel
theorem dX8_day_64 : decode cX8_day 64 = .ok (.aload_n 0, 1) := by decide +kernel
theorem dX8_day_65 : decode cX8_day 65 = .ok (.iload 7, 2) := by decide +kernel
theorem dX8_day_67 : decode cX8_day 67 = .ok (.invokevirtual 185, 3) := by decide +kernel
theorem dX8_day_70 : decode cX8_day 70 = .ok (.lreturn, 1) := by decide +kernel
theorem dX8_day_71 : decode cX8_day 71 = .ok (.aload 6, 2) := by decide +kernel
theorem dX8_day_73 : decode cX8_day 73 = .ok (.iload_n 3, 1) := by decide +kernel
theorem dX8_day_74 : decode cX8_day 74 = .ok (.iconst 4, 1) := by decide +kernel
theorem dX8_day_75 : decode cX8_day 75 = .ok (.iload 4, 2) := by decide +kernel
theorem dX8_day_77 : decode cX8_day 77 = .ok (.imul, 1) := by decide +kernel
theorem dX8_day_78 : decode cX8_day 78 = .ok (.invokevirtual 97, 3) := by decide +kernel
theorem dX8_day_81 : decode cX8_day 81 = .ok (.ifCond .ne 9, 3) := by decide +kernel
theorem dX8_day_84 : decode cX8_day 84 = .ok (.aload_n 0, 1) := by decide +kernel
theorem dX8_day_85 : decode cX8_day 85 = .ok (.iconst 3, 1) := by decide +kernel
theorem dX8_day_86 : decode cX8_day 86 = .ok (.invokevirtual 185, 3) := by decide +kernel
theorem dX8_day_89 : decode cX8_day 89 = .ok (.lreturn, 1) := by decide +kernel
theorem dX8_day_90 : decode cX8_day 90 = .ok (.aload_n 0, 1) := by decide +kernel
theorem dX8_day_91 : decode cX8_day 91 = .ok (.getfield 51, 3) := by decide +kernel
theorem dX8_day_94 : decode cX8_day 94 = .ok (.invokevirtual 178, 3) := by decide +kernel
theorem dX8_day_97 : decode cX8_day 97 = .ok (.ifCond .eq 14, 3) := by decide +kernel
theorem dX8_day_100 : decode cX8_day 100 = .ok (.aload 6, 2) := by decide +kernel
theorem dX8_day_102 : decode cX8_day 102 = .ok (.iload_n 3, 1) := by decide +kernel
theorem dX8_day_103 : decode cX8_day 103 = .ok (.iload 4, 2) := by decide +kernel
theorem dX8_day_105 : decode cX8_day 105 = .ok (.invokestatic 189, 3) := by decide +kernel
theorem dX8_day_108 : decode cX8_day 108 = .ok (.ifCond .ne 7, 3) := by decide +kernel
theorem dX8_day_111 : decode cX8_day 111 = .ok (.ldc2_w 161, 3) := by decide +kernel
theorem dX8_day_114 : decode cX8_day 114 = .ok (.lreturn, 1) := by decide +kernel
theorem dX8_day_115 : decode cX8_day 115 = .ok (.aload_n 0, 1) := by decide +kernel
theorem dX8_day_116 : decode cX8_day 116 = .ok (.aload 6, 2) := by decide +kernel
theorem dX8_day_118 : decode cX8_day 118 = .ok (.iload_n 3, 1) := by decide +kernel
theorem dX8_day_119 : decode cX8_day 119 = .ok (.iload 4, 2) := by decide +kernel
theorem dX8_day_121 : decode cX8_day 121 = .ok (.invokevirtual 193, 3) := by decide +kernel
theorem dX8_day_124 : decode cX8_day 124 = .ok (.istore 8, 2) := by decide +kernel
theorem dX8_day_126 : decode cX8_day 126 = .ok (.iload 5, 2) := by decide +kernel
theorem dX8_day_128 : decode cX8_day 128 = .ok (.iconst 1, 1) := by decide +kernel
theorem dX8_day_129 : decode cX8_day 129 = .ok (.if_icmp .ne 7, 3) := by decide +kernel
theorem dX8_day_132 : decode cX8_day 132 = .ok (.iload 8, 2) := by decide +kernel
theorem dX8_day_134 : decode cX8_day 134 = .ok (.i2l, 1) := by decide +kernel
theorem dX8_day_135 : decode cX8_day 135 = .ok (.lreturn, 1) := by decide +kernel
theorem dX8_day_136 : decode cX8_day 136 = .ok (.iload 8, 2) := by decide +kernel
theorem dX8_day_138 : decode cX8_day 138 = .ok (.bipush (-9), 2) := by decide +kernel
theorem dX8_day_140 : decode cX8_day 140 = .ok (.if_icmp .eq 12, 3) := by decide +kernel
theorem dX8_day_143 : decode cX8_day 143 = .ok (.bipush (-100), 2) := by decide +kernel
theorem dX8_day_145 : decode cX8_day 145 = .ok (.iload 8, 2) := by decide +kernel
theorem dX8_day_147 : decode cX8_day 147 = .ok (.isub, 1) := by decide +kernel
theorem dX8_day_148 : decode cX8_day 148 = .ok (.i2l, 1) := by decide +kernel
theorem dX8_day_149 : decode cX8_day 149 = .ok (.goto 9, 3) := by decide +kernel
theorem dX8_day_152 : decode cX8_day 152 = .ok (.aload_n 0, 1) := by decide +kernel
theorem dX8_day_153 : decode cX8_day 153 = .ok (.iload 5, 2) := by decide +kernel
theorem dX8_day_155 : decode cX8_day 155 = .ok (.invokevirtual 196, 3) := by decide +kernel
theorem dX8_day_158 : decode cX8_day 158 = .ok (.lreturn, 1) := by decide +kernel
set_option maxRecDepth 20000 in
theorem ggX8_act_X2_next : GoodIn wsX8_act wsX2_next := goodIn_r _ [8, 9, 10, 74, 75] (by decide +kernel) (by decide +kernel)
set_option maxRecDepth 20000 in
theorem gX8_act_X2_next : GoodIn wsX8_act (wsV RX8 199 RX2 yX2_next wsX2_next) := goodIn_app (goodIn_of _ (by decide +kernel)) ggX8_act_X2_next
set_option maxRecDepth 20000 in
theorem ggX8_act_X0_become : GoodIn wsX8_act wsX0_become := goodIn_r _ [15, 16, 17, 18, 19, 76, 77, 78, 79] (by decide +kernel) (by decide +kernel)
set_option maxRecDepth 20000 in
theorem gX8_act_X0_become : GoodIn wsX8_act (wsV RX8 203 RX0 yX0_become wsX0_become) := goodIn_app (goodIn_of _ (by decide +kernel)) ggX8_act_X0_become
set_option maxRecDepth 20000 in
theorem ggX8_act_X3_suffer : GoodIn wsX8_act wsX3_suffer := goodIn_r _ [24, 25, 26, 27, 28, 29, 30, 31, 32, 33, 34, 35, 36, 23, 37, 38, 39, 40, 41, 14, 42, 16, 19, 43, 44, 45, 46, 47, 48, 49, 50, 51, 52, 53, 54, 55, 56, 57, 58, 59, 60, 76, 77, 78, 79, 80, 81, 82, 83, 84, 85] (by decide +kernel) (by decide +kernel)
set_option maxRecDepth 20000 in
theorem gX8_act_X3_suffer : GoodIn wsX8_act (wsV RX8 207 RX3 yX3_suffer wsX3_suffer) := goodIn_app (goodIn_of _ (by decide +kernel)) ggX8_act_X3_suffer
theorem dX8_act_0 : decode cX8_act 0 = .ok (.aload_n 0, 1) := by decide +kernel
theorem dX8_act_1 : decode cX8_act 1 = .ok (.getfield 37, 3) := by decide +kernel
theorem dX8_act_4 : decode cX8_act 4 = .ok (.invokevirtual 199, 3) := by decide +kernel
theorem dX8_act_7 : decode cX8_act 7 = .ok (.astore 6, 2) := by decide +kernel
theorem dX8_act_9 : decode cX8_act 9 = .ok (.aload 6, 2) := by decide +kernel
theorem dX8_act_11 : decode cX8_act 11 = .ok (.ifnonnull 6, 3) := by decide +kernel
theorem dX8_act_14 : decode cX8_act 14 = .ok (.bipush (-4), 2) := by decide +kernel
theorem dX8_act_16 : decode cX8_act 16 = .ok (.ireturn, 1) := by decide +kernel
theorem dX8_act_17 : decode cX8_act 17 = .ok (.aload 6, 2) := by decide +kernel
theorem dX8_act_19 : decode cX8_act 19 = .ok (.iload_n 1, 1) := by decide +kernel
theorem dX8_act_20 : decode cX8_act 20 = .ok (.iload_n 2, 1) := by decide +kernel
theorem dX8_act_21 : decode cX8_act 21 = .ok (.iload_n 3, 1) := by decide +kernel
theorem dX8_act_22 : decode cX8_act 22 = .ok (.lload 4, 2) := by decide +kernel
theorem dX8_act_24 : decode cX8_act 24 = .ok (.invokevirtual 203, 3) := by decide +kernel
theorem dX8_act_27 : decode cX8_act 27 = .ok (.aload_n 0, 1) := by decide +kernel
theorem dX8_act_28 : decode cX8_act 28 = .ok (.getfield 51, 3) := by decide +kernel
theorem dX8_act_31 : decode cX8_act 31 = .ok (.aload 6, 2) := by decide +kernel
theorem dX8_act_33 : decode cX8_act 33 = .ok (.aload_n 0, 1) := by decide +kernel
theorem dX8_act_34 : decode cX8_act 34 = .ok (.getfield 27, 3) := by decide +kernel
theorem dX8_act_37 : decode cX8_act 37 = .ok (.invokevirtual 207, 3) := by decide +kernel
theorem dX8_act_40 : decode cX8_act 40 = .ok (.ireturn, 1) := by decide +kernel
theorem dX8_isOfDay_0 : decode cX8_isOfDay 0 = .ok (.iload_n 0, 1) := by decide +kernel
theorem dX8_isOfDay_1 : decode cX8_isOfDay 1 = .ok (.ifCond .lt 8, 3) := by decide +kernel
theorem dX8_isOfDay_4 : decode cX8_isOfDay 4 = .ok (.iload_n 0, 1) := by decide +kernel
theorem dX8_isOfDay_5 : decode cX8_isOfDay 5 = .ok (.iconst 4, 1) := by decide +kernel
theorem dX8_isOfDay_6 : decode cX8_isOfDay 6 = .ok (.if_icmp .le 15, 3) := by decide +kernel
theorem dX8_isOfDay_9 : decode cX8_isOfDay 9 = .ok (.iload_n 0, 1) := by decide +kernel
theorem dX8_isOfDay_10 : decode cX8_isOfDay 10 = .ok (.bipush 10, 2) := by decide +kernel
theorem dX8_isOfDay_12 : decode cX8_isOfDay 12 = .ok (.if_icmp .lt 13, 3) := by decide +kernel
theorem dX8_isOfDay_15 : decode cX8_isOfDay 15 = .ok (.iload_n 0, 1) := by decide +kernel
theorem dX8_isOfDay_16 : decode cX8_isOfDay 16 = .ok (.bipush 26, 2) := by decide +kernel
theorem dX8_isOfDay_18 : decode cX8_isOfDay 18 = .ok (.if_icmp .ge 7, 3) := by decide +kernel
theorem dX8_isOfDay_21 : decode cX8_isOfDay 21 = .ok (.iconst 1, 1) := by decide +kernel
theorem dX8_isOfDay_22 : decode cX8_isOfDay 22 = .ok (.goto 4, 3) := by decide +kernel
theorem dX8_isOfDay_25 : decode cX8_isOfDay 25 = .ok (.iconst 0, 1) := by decide +kernel
theorem dX8_isOfDay_26 : decode cX8_isOfDay 26 = .ok (.ireturn, 1) := by decide +kernel
set_option maxRecDepth 20000 in
theorem ggX8_sortsAreKnown_X5_code : GoodIn wsX8_sortsAreKnown wsX5_code := goodIn_r _ [5, 6, 7, 8, 9, 10, 11] (by decide +kernel) (by decide +kernel)
set_option maxRecDepth 20000 in
theorem gX8_sortsAreKnown_X5_code : GoodIn wsX8_sortsAreKnown (wsV RX8 211 RX5 yX5_code wsX5_code) := goodIn_app (goodIn_of _ (by decide +kernel)) ggX8_sortsAreKnown_X5_code
theorem dX8_sortsAreKnown_0 : decode cX8_sortsAreKnown 0 = .ok (.iconst 0, 1) := by decide +kernel
theorem dX8_sortsAreKnown_1 : decode cX8_sortsAreKnown 1 = .ok (.istore_n 3, 1) := by decide +kernel
theorem dX8_sortsAreKnown_2 : decode cX8_sortsAreKnown 2 = .ok (.iload_n 3, 1) := by decide +kernel
theorem dX8_sortsAreKnown_3 : decode cX8_sortsAreKnown 3 = .ok (.iload_n 2, 1) := by decide +kernel
theorem dX8_sortsAreKnown_4 : decode cX8_sortsAreKnown 4 = .ok (.if_icmp .ge 33, 3) := by decide +kernel
theorem dX8_sortsAreKnown_7 : decode cX8_sortsAreKnown 7 = .ok (.aload_n 0, 1) := by decide +kernel
theorem dX8_sortsAreKnown_8 : decode cX8_sortsAreKnown 8 = .ok (.iload_n 1, 1) := by decide +kernel
theorem dX8_sortsAreKnown_9 : decode cX8_sortsAreKnown 9 = .ok (.iconst 4, 1) := by decide +kernel
theorem dX8_sortsAreKnown_10 : decode cX8_sortsAreKnown 10 = .ok (.iload_n 3, 1) := by decide +kernel
theorem dX8_sortsAreKnown_11 : decode cX8_sortsAreKnown 11 = .ok (.imul, 1) := by decide +kernel
theorem dX8_sortsAreKnown_12 : decode cX8_sortsAreKnown 12 = .ok (.iadd, 1) := by decide +kernel
theorem dX8_sortsAreKnown_13 : decode cX8_sortsAreKnown 13 = .ok (.invokevirtual 211, 3) := by decide +kernel
theorem dX8_sortsAreKnown_16 : decode cX8_sortsAreKnown 16 = .ok (.istore 4, 2) := by decide +kernel
theorem dX8_sortsAreKnown_18 : decode cX8_sortsAreKnown 18 = .ok (.iload 4, 2) := by decide +kernel
theorem dX8_sortsAreKnown_20 : decode cX8_sortsAreKnown 20 = .ok (.ifCond .lt 9, 3) := by decide +kernel
theorem dX8_sortsAreKnown_23 : decode cX8_sortsAreKnown 23 = .ok (.iload 4, 2) := by decide +kernel
theorem dX8_sortsAreKnown_25 : decode cX8_sortsAreKnown 25 = .ok (.iconst 4, 1) := by decide +kernel
theorem dX8_sortsAreKnown_26 : decode cX8_sortsAreKnown 26 = .ok (.if_icmp .le 5, 3) := by decide +kernel
theorem dX8_sortsAreKnown_29 : decode cX8_sortsAreKnown 29 = .ok (.iconst 0, 1) := by decide +kernel
theorem dX8_sortsAreKnown_30 : decode cX8_sortsAreKnown 30 = .ok (.ireturn, 1) := by decide +kernel
theorem dX8_sortsAreKnown_31 : decode cX8_sortsAreKnown 31 = .ok (.iinc 3 1, 3) := by decide +kernel
theorem dX8_sortsAreKnown_34 : decode cX8_sortsAreKnown 34 = .ok (.goto (-32), 3) := by decide +kernel
theorem dX8_sortsAreKnown_37 : decode cX8_sortsAreKnown 37 = .ok (.iconst 1, 1) := by decide +kernel
theorem dX8_sortsAreKnown_38 : decode cX8_sortsAreKnown 38 = .ok (.ireturn, 1) := by decide +kernel
set_option maxRecDepth 20000 in
theorem ggX8_playDay_X3_becomeLike : GoodIn wsX8_playDay wsX3_becomeLike := goodIn_r _ [9, 10, 11, 12, 13, 14, 15, 16, 17, 18, 8, 19, 20, 105, 106, 107] (by decide +kernel) (by decide +kernel)
set_option maxRecDepth 20000 in
theorem gX8_playDay_X3_becomeLike : GoodIn wsX8_playDay (wsV RX8 139 RX3 yX3_becomeLike wsX3_becomeLike) := goodIn_app (goodIn_of _ (by decide +kernel)) ggX8_playDay_X3_becomeLike
set_option maxRecDepth 20000 in
theorem ggX8_playDay_X5_code : GoodIn wsX8_playDay wsX5_code := goodIn_r _ [25, 26, 27, 108, 109, 110, 111] (by decide +kernel) (by decide +kernel)
set_option maxRecDepth 20000 in
theorem gX8_playDay_X5_code : GoodIn wsX8_playDay (wsV RX8 211 RX5 yX5_code wsX5_code) := goodIn_app (goodIn_of _ (by decide +kernel)) ggX8_playDay_X5_code
set_option maxRecDepth 20000 in
theorem ggX8_playDay_X0_become : GoodIn wsX8_playDay wsX0_become := goodIn_r _ [32, 33, 34, 35, 36, 112, 113, 114, 115] (by decide +kernel) (by decide +kernel)
set_option maxRecDepth 20000 in
theorem gX8_playDay_X0_become : GoodIn wsX8_playDay (wsV RX8 203 RX0 yX0_become wsX0_become) := goodIn_app (goodIn_of _ (by decide +kernel)) ggX8_playDay_X0_become
set_option maxRecDepth 20000 in
theorem ggX8_playDay_X8_canBe : GoodIn wsX8_playDay wsX8_canBe := goodIn_r _ [41, 42, 43, 4, 44, 45, 46, 47, 40, 48, 2, 49, 50, 51, 8, 52, 10, 53, 54, 55, 31, 56, 33, 57, 58, 59, 60, 61, 62, 112, 113, 114, 115, 92, 93, 94, 95, 96, 97, 98, 99, 100, 101, 102, 103, 104, 105, 106, 107, 116, 117, 118] (by decide +kernel) (by decide +kernel)
set_option maxRecDepth 20000 in
theorem gX8_playDay_X8_canBe : GoodIn wsX8_playDay (wsV RX8 214 RX8 yX8_canBe wsX8_canBe) := goodIn_app (goodIn_of _ (by decide +kernel)) ggX8_playDay_X8_canBe
set_option maxRecDepth 20000 in
theorem ggX8_playDay_X3_suffer : GoodIn wsX8_playDay wsX3_suffer := goodIn_r _ [66, 67, 68, 11, 69, 20, 70, 71, 72, 73, 74, 50, 51, 8, 52, 10, 75, 76, 77, 31, 78, 33, 36, 79, 80, 81, 60, 82, 83, 84, 85, 58, 59, 61, 62, 86, 87, 88, 89, 90, 91, 112, 113, 114, 115, 105, 106, 107, 116, 117, 118] (by decide +kernel) (by decide +kernel)
set_option maxRecDepth 20000 in
theorem gX8_playDay_X3_suffer : GoodIn wsX8_playDay (wsV RX8 207 RX3 yX3_suffer wsX3_suffer) := goodIn_app (goodIn_of _ (by decide +kernel)) ggX8_playDay_X3_suffer
theorem dX8_playDay_0 : decode cX8_playDay 0 = .ok (.aload_n 0, 1) := by decide +kernel
theorem dX8_playDay_1 : decode cX8_playDay 1 = .ok (.getfield 58, 3) := by decide +kernel
theorem dX8_playDay_4 : decode cX8_playDay 4 = .ok (.aload_n 0, 1) := by decide +kernel
theorem dX8_playDay_5 : decode cX8_playDay 5 = .ok (.getfield 51, 3) := by decide +kernel
theorem dX8_playDay_8 : decode cX8_playDay 8 = .ok (.invokevirtual 139, 3) := by decide +kernel
theorem dX8_playDay_11 : decode cX8_playDay 11 = .ok (.iconst 0, 1) := by decide +kernel
theorem dX8_playDay_12 : decode cX8_playDay 12 = .ok (.istore 4, 2) := by decide +kernel
theorem dX8_playDay_14 : decode cX8_playDay 14 = .ok (.iload 4, 2) := by decide +kernel
theorem dX8_playDay_16 : decode cX8_playDay 16 = .ok (.iload_n 3, 1) := by decide +kernel
theorem dX8_playDay_17 : decode cX8_playDay 17 = .ok (.if_icmp .ge 85, 3) := by decide +kernel
theorem dX8_playDay_20 : decode cX8_playDay 20 = .ok (.iload_n 2, 1) := by decide +kernel
theorem dX8_playDay_21 : decode cX8_playDay 21 = .ok (.iconst 4, 1) := by decide +kernel
theorem dX8_playDay_22 : decode cX8_playDay 22 = .ok (.iload 4, 2) := by decide +kernel
theorem dX8_playDay_24 : decode cX8_playDay 24 = .ok (.imul, 1) := by decide +kernel
theorem dX8_playDay_25 : decode cX8_playDay 25 = .ok (.iadd, 1) := by decide +kernel
theorem dX8_playDay_26 : decode cX8_playDay 26 = .ok (.istore 5, 2) := by decide +kernel
theorem dX8_playDay_28 : decode cX8_playDay 28 = .ok (.aload_n 0, 1) := by decide +kernel
theorem dX8_playDay_29 : decode cX8_playDay 29 = .ok (.getfield 44, 3) := by decide +kernel
theorem dX8_playDay_32 : decode cX8_playDay 32 = .ok (.aload_n 1, 1) := by decide +kernel
theorem dX8_playDay_33 : decode cX8_playDay 33 = .ok (.iload 5, 2) := by decide +kernel
theorem dX8_playDay_35 : decode cX8_playDay 35 = .ok (.invokevirtual 211, 3) := by decide +kernel
theorem dX8_playDay_38 : decode cX8_playDay 38 = .ok (.aload_n 1, 1) := by decide +kernel
theorem dX8_playDay_39 : decode cX8_playDay 39 = .ok (.iload 5, 2) := by decide +kernel
theorem dX8_playDay_41 : decode cX8_playDay 41 = .ok (.iconst 1, 1) := by decide +kernel
theorem dX8_playDay_42 : decode cX8_playDay 42 = .ok (.iadd, 1) := by decide +kernel
theorem dX8_playDay_43 : decode cX8_playDay 43 = .ok (.invokevirtual 211, 3) := by decide +kernel
theorem dX8_playDay_46 : decode cX8_playDay 46 = .ok (.aload_n 1, 1) := by decide +kernel
theorem dX8_playDay_47 : decode cX8_playDay 47 = .ok (.iload 5, 2) := by decide +kernel
theorem dX8_playDay_49 : decode cX8_playDay 49 = .ok (.iconst 2, 1) := by decide +kernel
theorem dX8_playDay_50 : decode cX8_playDay 50 = .ok (.iadd, 1) := by decide +kernel
theorem dX8_playDay_51 : decode cX8_playDay 51 = .ok (.invokevirtual 211, 3) := by decide +kernel
theorem dX8_playDay_54 : decode cX8_playDay 54 = .ok (.aload_n 1, 1) := by decide +kernel
theorem dX8_playDay_55 : decode cX8_playDay 55 = .ok (.iload 5, 2) := by decide +kernel
theorem dX8_playDay_57 : decode cX8_playDay 57 = .ok (.iconst 3, 1) := by decide +kernel
theorem dX8_playDay_58 : decode cX8_playDay 58 = .ok (.iadd, 1) := by decide +kernel
theorem dX8_playDay_59 : decode cX8_playDay 59 = .ok (.invokevirtual 211, 3) := by decide +kernel
theorem dX8_playDay_62 : decode cX8_playDay 62 = .ok (.i2l, 1) := by decide +kernel
theorem dX8_playDay_63 : decode cX8_playDay 63 = .ok (.invokevirtual 203, 3) := by decide +kernel
theorem dX8_playDay_66 : decode cX8_playDay 66 = .ok (.aload_n 0, 1) := by decide +kernel
theorem dX8_playDay_67 : decode cX8_playDay 67 = .ok (.aload_n 0, 1) := by decide +kernel
theorem dX8_playDay_68 : decode cX8_playDay 68 = .ok (.getfield 44, 3) := by decide +kernel
theorem dX8_playDay_71 : decode cX8_playDay 71 = .ok (.invokevirtual 214, 3) := by decide +kernel
theorem dX8_playDay_74 : decode cX8_playDay 74 = .ok (.ifCond .ne 6, 3) := by decide +kernel
theorem dX8_playDay_77 : decode cX8_playDay 77 = .ok (.iload 4, 2) := by decide +kernel
theorem dX8_playDay_79 : decode cX8_playDay 79 = .ok (.ireturn, 1) := by decide +kernel
theorem dX8_playDay_80 : decode cX8_playDay 80 = .ok (.aload_n 0, 1) := by decide +kernel
theorem dX8_playDay_81 : decode cX8_playDay 81 = .ok (.getfield 58, 3) := by decide +kernel
theorem dX8_playDay_84 : decode cX8_playDay 84 = .ok (.aload_n 0, 1) := by decide +kernel
theorem dX8_playDay_85 : decode cX8_playDay 85 = .ok (.getfield 44, 3) := by decide +kernel
theorem dX8_playDay_88 : decode cX8_playDay 88 = .ok (.aload_n 0, 1) := by decide +kernel
theorem dX8_playDay_89 : decode cX8_playDay 89 = .ok (.getfield 27, 3) := by decide +kernel
theorem dX8_playDay_92 : decode cX8_playDay 92 = .ok (.invokevirtual 207, 3) := by decide +kernel
theorem dX8_playDay_95 : decode cX8_playDay 95 = .ok (.pop, 1) := by decide +kernel
theorem dX8_playDay_96 : decode cX8_playDay 96 = .ok (.iinc 4 1, 3) := by decide +kernel
theorem dX8_playDay_99 : decode cX8_playDay 99 = .ok (.goto (-85), 3) := by decide +kernel
theorem dX8_playDay_102 : decode cX8_playDay 102 = .ok (.bipush (-9), 2) := by decide +kernel
theorem dX8_playDay_104 : decode cX8_playDay 104 = .ok (.ireturn, 1) := by decide +kernel
set_option maxRecDepth 20000 in
theorem ggX8_canBe_X8_refusedRun : GoodIn wsX8_canBe wsX8_refusedRun := goodIn_r _ [9, 10, 11, 12, 13, 14, 15, 16, 33, 34, 35, 36, 37, 38, 39, 40, 41, 42, 43, 44, 45, 46, 47, 48] (by decide +kernel) (by decide +kernel)
set_option maxRecDepth 20000 in
theorem gX8_canBe_X8_refusedRun : GoodIn wsX8_canBe (wsV RX8 174 RX8 yX8_refusedRun wsX8_refusedRun) := goodIn_app (goodIn_of _ (by decide +kernel)) ggX8_canBe_X8_refusedRun
set_option maxRecDepth 20000 in
theorem ggX8_canBe_X0_isHelp : GoodIn wsX8_canBe wsX0_isHelp := goodIn_r _ [21, 22, 29, 30, 31, 32] (by decide +kernel) (by decide +kernel)
set_option maxRecDepth 20000 in
theorem gX8_canBe_X0_isHelp : GoodIn wsX8_canBe (wsV RX8 224 RX0 yX0_isHelp wsX0_isHelp) := goodIn_app (goodIn_of _ (by decide +kernel)) ggX8_canBe_X0_isHelp
set_option maxRecDepth 20000 in
theorem ggX8_canBe_X1_has : GoodIn wsX8_canBe wsX1_has := goodIn_r _ [27, 28, 49, 50, 51] (by decide +kernel) (by decide +kernel)
set_option maxRecDepth 20000 in
theorem gX8_canBe_X1_has : GoodIn wsX8_canBe (wsV RX8 142 RX1 yX1_has wsX1_has) := goodIn_app (goodIn_of _ (by decide +kernel)) ggX8_canBe_X1_has
theorem dX8_canBe_0 : decode cX8_canBe 0 = .ok (.aload_n 0, 1) := by decide +kernel
theorem dX8_canBe_1 : decode cX8_canBe 1 = .ok (.aload_n 1, 1) := by decide +kernel
theorem dX8_canBe_2 : decode cX8_canBe 2 = .ok (.getfield 218, 3) := by decide +kernel
theorem dX8_canBe_5 : decode cX8_canBe 5 = .ok (.aload_n 1, 1) := by decide +kernel
theorem dX8_canBe_6 : decode cX8_canBe 6 = .ok (.getfield 221, 3) := by decide +kernel
theorem dX8_canBe_9 : decode cX8_canBe 9 = .ok (.invokevirtual 174, 3) := by decide +kernel
theorem dX8_canBe_12 : decode cX8_canBe 12 = .ok (.ifCond .ne 28, 3) := by decide +kernel
theorem dX8_canBe_15 : decode cX8_canBe 15 = .ok (.aload_n 1, 1) := by decide +kernel
theorem dX8_canBe_16 : decode cX8_canBe 16 = .ok (.invokevirtual 224, 3) := by decide +kernel
theorem dX8_canBe_19 : decode cX8_canBe 19 = .ok (.ifCond .eq 17, 3) := by decide +kernel
theorem dX8_canBe_22 : decode cX8_canBe 22 = .ok (.aload_n 0, 1) := by decide +kernel
theorem dX8_canBe_23 : decode cX8_canBe 23 = .ok (.getfield 27, 3) := by decide +kernel
theorem dX8_canBe_26 : decode cX8_canBe 26 = .ok (.aload_n 1, 1) := by decide +kernel
theorem dX8_canBe_27 : decode cX8_canBe 27 = .ok (.getfield 227, 3) := by decide +kernel
theorem dX8_canBe_30 : decode cX8_canBe 30 = .ok (.invokevirtual 142, 3) := by decide +kernel
theorem dX8_canBe_33 : decode cX8_canBe 33 = .ok (.ifCond .eq 7, 3) := by decide +kernel
theorem dX8_canBe_36 : decode cX8_canBe 36 = .ok (.iconst 1, 1) := by decide +kernel
theorem dX8_canBe_37 : decode cX8_canBe 37 = .ok (.goto 4, 3) := by decide +kernel
theorem dX8_canBe_40 : decode cX8_canBe 40 = .ok (.iconst 0, 1) := by decide +kernel
theorem dX8_canBe_41 : decode cX8_canBe 41 = .ok (.ireturn, 1) := by decide +kernel
set_option maxRecDepth 20000 in
theorem ggX8_ofTrial_X8_sum : GoodIn wsX8_ofTrial wsX8_sum := goodIn_r _ [9] (by decide +kernel) (by decide +kernel)
set_option maxRecDepth 20000 in
theorem gX8_ofTrial_X8_sum : GoodIn wsX8_ofTrial (va_wsS RX8 231 yX8_sum wsX8_sum) := goodIn_app (goodIn_of _ (by decide +kernel)) ggX8_ofTrial_X8_sum
set_option maxRecDepth 20000 in
theorem ggX8_ofTrial_X8_greatest : GoodIn wsX8_ofTrial wsX8_greatest := goodIn_r _ [12, 13, 14, 15, 16] (by decide +kernel) (by decide +kernel)
set_option maxRecDepth 20000 in
theorem gX8_ofTrial_X8_greatest : GoodIn wsX8_ofTrial (va_wsS RX8 235 yX8_greatest wsX8_greatest) := goodIn_app (goodIn_of _ (by decide +kernel)) ggX8_ofTrial_X8_greatest
set_option maxRecDepth 20000 in
theorem ggX8_ofTrial_X8_least : GoodIn wsX8_ofTrial wsX8_least := goodIn_r _ [19, 20, 21, 15, 22] (by decide +kernel) (by decide +kernel)
set_option maxRecDepth 20000 in
theorem gX8_ofTrial_X8_least : GoodIn wsX8_ofTrial (va_wsS RX8 238 yX8_least wsX8_least) := goodIn_app (goodIn_of _ (by decide +kernel)) ggX8_ofTrial_X8_least
set_option maxRecDepth 20000 in
theorem ggX8_ofTrial_X3_has : GoodIn wsX8_ofTrial wsX3_has := goodIn_r _ [27, 28, 42, 43, 44] (by decide +kernel) (by decide +kernel)
set_option maxRecDepth 20000 in
theorem gX8_ofTrial_X3_has : GoodIn wsX8_ofTrial (wsV RX8 159 RX3 yX3_has wsX3_has) := goodIn_app (goodIn_of _ (by decide +kernel)) ggX8_ofTrial_X3_has
theorem dX8_ofTrial_0 : decode cX8_ofTrial 0 = .ok (.aload_n 0, 1) := by decide +kernel
theorem dX8_ofTrial_1 : decode cX8_ofTrial 1 = .ok (.getfield 58, 3) := by decide +kernel
theorem dX8_ofTrial_4 : decode cX8_ofTrial 4 = .ok (.getfield 108, 3) := by decide +kernel
theorem dX8_ofTrial_7 : decode cX8_ofTrial 7 = .ok (.iconst 1, 1) := by decide +kernel
theorem dX8_ofTrial_8 : decode cX8_ofTrial 8 = .ok (.isub, 1) := by decide +kernel
theorem dX8_ofTrial_9 : decode cX8_ofTrial 9 = .ok (.istore_n 2, 1) := by decide +kernel
theorem dX8_ofTrial_10 : decode cX8_ofTrial 10 = .ok (.iload_n 1, 1) := by decide +kernel
theorem dX8_ofTrial_11 : decode cX8_ofTrial 11 = .ok (.tableswitch 85 0 4 #[33, 85, 46, 59, 72], 33) := by decide +kernel
theorem dX8_ofTrial_44 : decode cX8_ofTrial 44 = .ok (.aload_n 0, 1) := by decide +kernel
theorem dX8_ofTrial_45 : decode cX8_ofTrial 45 = .ok (.getfield 58, 3) := by decide +kernel
theorem dX8_ofTrial_48 : decode cX8_ofTrial 48 = .ok (.getfield 114, 3) := by decide +kernel
theorem dX8_ofTrial_51 : decode cX8_ofTrial 51 = .ok (.iconst 0, 1) := by decide +kernel
theorem dX8_ofTrial_52 : decode cX8_ofTrial 52 = .ok (.iload_n 2, 1) := by decide +kernel
theorem dX8_ofTrial_53 : decode cX8_ofTrial 53 = .ok (.invokestatic 231, 3) := by decide +kernel
theorem dX8_ofTrial_56 : decode cX8_ofTrial 56 = .ok (.lreturn, 1) := by decide +kernel
theorem dX8_ofTrial_57 : decode cX8_ofTrial 57 = .ok (.aload_n 0, 1) := by decide +kernel
theorem dX8_ofTrial_58 : decode cX8_ofTrial 58 = .ok (.getfield 58, 3) := by decide +kernel
theorem dX8_ofTrial_61 : decode cX8_ofTrial 61 = .ok (.getfield 114, 3) := by decide +kernel
theorem dX8_ofTrial_64 : decode cX8_ofTrial 64 = .ok (.iconst 0, 1) := by decide +kernel
theorem dX8_ofTrial_65 : decode cX8_ofTrial 65 = .ok (.iload_n 2, 1) := by decide +kernel
theorem dX8_ofTrial_66 : decode cX8_ofTrial 66 = .ok (.invokestatic 235, 3) := by decide +kernel
theorem dX8_ofTrial_69 : decode cX8_ofTrial 69 = .ok (.lreturn, 1) := by decide +kernel
theorem dX8_ofTrial_70 : decode cX8_ofTrial 70 = .ok (.aload_n 0, 1) := by decide +kernel
theorem dX8_ofTrial_71 : decode cX8_ofTrial 71 = .ok (.getfield 58, 3) := by decide +kernel
theorem dX8_ofTrial_74 : decode cX8_ofTrial 74 = .ok (.getfield 114, 3) := by decide +kernel
theorem dX8_ofTrial_77 : decode cX8_ofTrial 77 = .ok (.iconst 0, 1) := by decide +kernel
theorem dX8_ofTrial_78 : decode cX8_ofTrial 78 = .ok (.iload_n 2, 1) := by decide +kernel
theorem dX8_ofTrial_79 : decode cX8_ofTrial 79 = .ok (.invokestatic 238, 3) := by decide +kernel
theorem dX8_ofTrial_82 : decode cX8_ofTrial 82 = .ok (.lreturn, 1) := by decide +kernel
theorem dX8_ofTrial_83 : decode cX8_ofTrial 83 = .ok (.aload_n 0, 1) := by decide +kernel
theorem dX8_ofTrial_84 : decode cX8_ofTrial 84 = .ok (.getfield 58, 3) := by decide +kernel
theorem dX8_ofTrial_87 : decode cX8_ofTrial 87 = .ok (.getfield 163, 3) := by decide +kernel
theorem dX8_ofTrial_90 : decode cX8_ofTrial 90 = .ok (.iconst 0, 1) := by decide +kernel
theorem dX8_ofTrial_91 : decode cX8_ofTrial 91 = .ok (.iload_n 2, 1) := by decide +kernel
theorem dX8_ofTrial_92 : decode cX8_ofTrial 92 = .ok (.invokestatic 235, 3) := by decide +kernel
theorem dX8_ofTrial_95 : decode cX8_ofTrial 95 = .ok (.lreturn, 1) := by decide +kernel
theorem dX8_ofTrial_96 : decode cX8_ofTrial 96 = .ok (.iload_n 1, 1) := by decide +kernel
theorem dX8_ofTrial_97 : decode cX8_ofTrial 97 = .ok (.bipush 10, 2) := by decide +kernel
theorem dX8_ofTrial_99 : decode cX8_ofTrial 99 = .ok (.isub, 1) := by decide +kernel
theorem dX8_ofTrial_100 : decode cX8_ofTrial 100 = .ok (.istore_n 3, 1) := by decide +kernel
theorem dX8_ofTrial_101 : decode cX8_ofTrial 101 = .ok (.aload_n 0, 1) := by decide +kernel
theorem dX8_ofTrial_102 : decode cX8_ofTrial 102 = .ok (.getfield 58, 3) := by decide +kernel
theorem dX8_ofTrial_105 : decode cX8_ofTrial 105 = .ok (.iload_n 3, 1) := by decide +kernel
theorem dX8_ofTrial_106 : decode cX8_ofTrial 106 = .ok (.invokevirtual 159, 3) := by decide +kernel
theorem dX8_ofTrial_109 : decode cX8_ofTrial 109 = .ok (.ifCond .eq 15, 3) := by decide +kernel
theorem dX8_ofTrial_112 : decode cX8_ofTrial 112 = .ok (.aload_n 0, 1) := by decide +kernel
theorem dX8_ofTrial_113 : decode cX8_ofTrial 113 = .ok (.getfield 58, 3) := by decide +kernel
theorem dX8_ofTrial_116 : decode cX8_ofTrial 116 = .ok (.getfield 114, 3) := by decide +kernel
theorem dX8_ofTrial_119 : decode cX8_ofTrial 119 = .ok (.iload_n 3, 1) := by decide +kernel
theorem dX8_ofTrial_120 : decode cX8_ofTrial 120 = .ok (.laload, 1) := by decide +kernel
theorem dX8_ofTrial_121 : decode cX8_ofTrial 121 = .ok (.goto 6, 3) := by decide +kernel
theorem dX8_ofTrial_124 : decode cX8_ofTrial 124 = .ok (.ldc2_w 161, 3) := by decide +kernel
theorem dX8_ofTrial_127 : decode cX8_ofTrial 127 = .ok (.lreturn, 1) := by decide +kernel
set_option maxRecDepth 20000 in
theorem ggX8_ask_X8_refusedRun : GoodIn wsX8_ask wsX8_refusedRun := goodIn_r _ [9, 2, 10, 11, 12, 13, 14, 15, 47, 48, 49, 50, 51, 52, 53, 54, 55, 56, 57, 58, 59, 60, 61, 62] (by decide +kernel) (by decide +kernel)
set_option maxRecDepth 20000 in
theorem gX8_ask_X8_refusedRun : GoodIn wsX8_ask (wsV RX8 174 RX8 yX8_refusedRun wsX8_refusedRun) := goodIn_app (goodIn_of _ (by decide +kernel)) ggX8_ask_X8_refusedRun
set_option maxRecDepth 20000 in
theorem ggX8_ask_X8_sum : GoodIn wsX8_ask wsX8_sum := goodIn_r _ [18] (by decide +kernel) (by decide +kernel)
set_option maxRecDepth 20000 in
theorem gX8_ask_X8_sum : GoodIn wsX8_ask (va_wsS RX8 231 yX8_sum wsX8_sum) := goodIn_app (goodIn_of _ (by decide +kernel)) ggX8_ask_X8_sum
set_option maxRecDepth 20000 in
theorem ggX8_ask_X8_greatest : GoodIn wsX8_ask wsX8_greatest := goodIn_r _ [21, 22, 23, 24, 25] (by decide +kernel) (by decide +kernel)
set_option maxRecDepth 20000 in
theorem gX8_ask_X8_greatest : GoodIn wsX8_ask (va_wsS RX8 235 yX8_greatest wsX8_greatest) := goodIn_app (goodIn_of _ (by decide +kernel)) ggX8_ask_X8_greatest
set_option maxRecDepth 20000 in
theorem ggX8_ask_X8_least : GoodIn wsX8_ask wsX8_least := goodIn_r _ [28, 29, 30, 24, 31] (by decide +kernel) (by decide +kernel)
set_option maxRecDepth 20000 in
theorem gX8_ask_X8_least : GoodIn wsX8_ask (va_wsS RX8 238 yX8_least wsX8_least) := goodIn_app (goodIn_of _ (by decide +kernel)) ggX8_ask_X8_least
set_option maxRecDepth 20000 in
theorem ggX8_ask_X8_howManyGreatest : GoodIn wsX8_ask wsX8_howManyGreatest := goodIn_r _ [34, 19, 20, 8, 21, 22, 23, 24, 25, 35, 36, 37] (by decide +kernel) (by decide +kernel)
set_option maxRecDepth 20000 in
theorem gX8_ask_X8_howManyGreatest : GoodIn wsX8_ask (va_wsS RX8 241 yX8_howManyGreatest wsX8_howManyGreatest) := goodIn_app (goodIn_of _ (by decide +kernel)) ggX8_ask_X8_howManyGreatest
set_option maxRecDepth 20000 in
theorem ggX8_ask_X8_second : GoodIn wsX8_ask wsX8_second := goodIn_r _ [40, 1, 22, 23, 24, 25, 19, 20, 8, 21] (by decide +kernel) (by decide +kernel)
set_option maxRecDepth 20000 in
theorem gX8_ask_X8_second : GoodIn wsX8_ask (va_wsS RX8 245 yX8_second wsX8_second) := goodIn_app (goodIn_of _ (by decide +kernel)) ggX8_ask_X8_second
set_option maxRecDepth 20000 in
theorem ggX8_ask_X8_howManyUnlike : GoodIn wsX8_ask wsX8_howManyUnlike := goodIn_r _ [43, 44, 45, 8, 46] (by decide +kernel) (by decide +kernel)
set_option maxRecDepth 20000 in
theorem gX8_ask_X8_howManyUnlike : GoodIn wsX8_ask (va_wsS RX8 248 yX8_howManyUnlike wsX8_howManyUnlike) := goodIn_app (goodIn_of _ (by decide +kernel)) ggX8_ask_X8_howManyUnlike
theorem dX8_ask_0 : decode cX8_ask 0 = .ok (.aload_n 0, 1) := by decide +kernel
theorem dX8_ask_1 : decode cX8_ask 1 = .ok (.iload_n 1, 1) := by decide +kernel
theorem dX8_ask_2 : decode cX8_ask 2 = .ok (.iload_n 2, 1) := by decide +kernel
theorem dX8_ask_3 : decode cX8_ask 3 = .ok (.invokevirtual 174, 3) := by decide +kernel
theorem dX8_ask_6 : decode cX8_ask 6 = .ok (.ifCond .eq 7, 3) := by decide +kernel
theorem dX8_ask_9 : decode cX8_ask 9 = .ok (.ldc2_w 161, 3) := by decide +kernel
theorem dX8_ask_12 : decode cX8_ask 12 = .ok (.lreturn, 1) := by decide +kernel
theorem dX8_ask_13 : decode cX8_ask 13 = .ok (.iload_n 3, 1) := by decide +kernel
theorem dX8_ask_14 : decode cX8_ask 14 = .ok (.tableswitch 152 0 7 #[46, 59, 72, 85, 99, 112, 126, 139], 46) := by decide +kernel
theorem dX8_ask_60 : decode cX8_ask 60 = .ok (.aload_n 0, 1) := by decide +kernel
theorem dX8_ask_61 : decode cX8_ask 61 = .ok (.getfield 51, 3) := by decide +kernel
theorem dX8_ask_64 : decode cX8_ask 64 = .ok (.getfield 114, 3) := by decide +kernel
theorem dX8_ask_67 : decode cX8_ask 67 = .ok (.iload_n 1, 1) := by decide +kernel
theorem dX8_ask_68 : decode cX8_ask 68 = .ok (.iload_n 2, 1) := by decide +kernel
theorem dX8_ask_69 : decode cX8_ask 69 = .ok (.invokestatic 231, 3) := by decide +kernel
theorem dX8_ask_72 : decode cX8_ask 72 = .ok (.lreturn, 1) := by decide +kernel
theorem dX8_ask_73 : decode cX8_ask 73 = .ok (.aload_n 0, 1) := by decide +kernel
theorem dX8_ask_74 : decode cX8_ask 74 = .ok (.getfield 51, 3) := by decide +kernel
theorem dX8_ask_77 : decode cX8_ask 77 = .ok (.getfield 114, 3) := by decide +kernel
theorem dX8_ask_80 : decode cX8_ask 80 = .ok (.iload_n 1, 1) := by decide +kernel
theorem dX8_ask_81 : decode cX8_ask 81 = .ok (.iload_n 2, 1) := by decide +kernel
theorem dX8_ask_82 : decode cX8_ask 82 = .ok (.invokestatic 235, 3) := by decide +kernel
theorem dX8_ask_85 : decode cX8_ask 85 = .ok (.lreturn, 1) := by decide +kernel
theorem dX8_ask_86 : decode cX8_ask 86 = .ok (.aload_n 0, 1) := by decide +kernel
theorem dX8_ask_87 : decode cX8_ask 87 = .ok (.getfield 51, 3) := by decide +kernel
theorem dX8_ask_90 : decode cX8_ask 90 = .ok (.getfield 114, 3) := by decide +kernel
theorem dX8_ask_93 : decode cX8_ask 93 = .ok (.iload_n 1, 1) := by decide +kernel
theorem dX8_ask_94 : decode cX8_ask 94 = .ok (.iload_n 2, 1) := by decide +kernel
theorem dX8_ask_95 : decode cX8_ask 95 = .ok (.invokestatic 238, 3) := by decide +kernel
theorem dX8_ask_98 : decode cX8_ask 98 = .ok (.lreturn, 1) := by decide +kernel
theorem dX8_ask_99 : decode cX8_ask 99 = .ok (.aload_n 0, 1) := by decide +kernel
theorem dX8_ask_100 : decode cX8_ask 100 = .ok (.getfield 51, 3) := by decide +kernel
theorem dX8_ask_103 : decode cX8_ask 103 = .ok (.getfield 114, 3) := by decide +kernel
theorem dX8_ask_106 : decode cX8_ask 106 = .ok (.iload_n 1, 1) := by decide +kernel
theorem dX8_ask_107 : decode cX8_ask 107 = .ok (.iload_n 2, 1) := by decide +kernel
theorem dX8_ask_108 : decode cX8_ask 108 = .ok (.invokestatic 241, 3) := by decide +kernel
theorem dX8_ask_111 : decode cX8_ask 111 = .ok (.i2l, 1) := by decide +kernel
theorem dX8_ask_112 : decode cX8_ask 112 = .ok (.lreturn, 1) := by decide +kernel
theorem dX8_ask_113 : decode cX8_ask 113 = .ok (.aload_n 0, 1) := by decide +kernel
theorem dX8_ask_114 : decode cX8_ask 114 = .ok (.getfield 51, 3) := by decide +kernel
theorem dX8_ask_117 : decode cX8_ask 117 = .ok (.getfield 114, 3) := by decide +kernel
theorem dX8_ask_120 : decode cX8_ask 120 = .ok (.iload_n 1, 1) := by decide +kernel
theorem dX8_ask_121 : decode cX8_ask 121 = .ok (.iload_n 2, 1) := by decide +kernel
theorem dX8_ask_122 : decode cX8_ask 122 = .ok (.invokestatic 245, 3) := by decide +kernel
theorem dX8_ask_125 : decode cX8_ask 125 = .ok (.lreturn, 1) := by decide +kernel
theorem dX8_ask_126 : decode cX8_ask 126 = .ok (.aload_n 0, 1) := by decide +kernel
theorem dX8_ask_127 : decode cX8_ask 127 = .ok (.getfield 51, 3) := by decide +kernel
theorem dX8_ask_130 : decode cX8_ask 130 = .ok (.getfield 114, 3) := by decide +kernel
theorem dX8_ask_133 : decode cX8_ask 133 = .ok (.iload_n 1, 1) := by decide +kernel
theorem dX8_ask_134 : decode cX8_ask 134 = .ok (.iload_n 2, 1) := by decide +kernel
theorem dX8_ask_135 : decode cX8_ask 135 = .ok (.invokestatic 248, 3) := by decide +kernel
theorem dX8_ask_138 : decode cX8_ask 138 = .ok (.i2l, 1) := by decide +kernel
theorem dX8_ask_139 : decode cX8_ask 139 = .ok (.lreturn, 1) := by decide +kernel
theorem dX8_ask_140 : decode cX8_ask 140 = .ok (.aload_n 0, 1) := by decide +kernel
theorem dX8_ask_141 : decode cX8_ask 141 = .ok (.getfield 51, 3) := by decide +kernel
theorem dX8_ask_144 : decode cX8_ask 144 = .ok (.getfield 163, 3) := by decide +kernel
theorem dX8_ask_147 : decode cX8_ask 147 = .ok (.iload_n 1, 1) := by decide +kernel
theorem dX8_ask_148 : decode cX8_ask 148 = .ok (.iload_n 2, 1) := by decide +kernel
theorem dX8_ask_149 : decode cX8_ask 149 = .ok (.invokestatic 235, 3) := by decide +kernel
theorem dX8_ask_152 : decode cX8_ask 152 = .ok (.lreturn, 1) := by decide +kernel
theorem dX8_ask_153 : decode cX8_ask 153 = .ok (.aload_n 0, 1) := by decide +kernel
theorem dX8_ask_154 : decode cX8_ask 154 = .ok (.getfield 51, 3) := by decide +kernel
theorem dX8_ask_157 : decode cX8_ask 157 = .ok (.getfield 163, 3) := by decide +kernel
theorem dX8_ask_160 : decode cX8_ask 160 = .ok (.iload_n 1, 1) := by decide +kernel
theorem dX8_ask_161 : decode cX8_ask 161 = .ok (.iload_n 2, 1) := by decide +kernel
theorem dX8_ask_162 : decode cX8_ask 162 = .ok (.invokestatic 231, 3) := by decide +kernel
theorem dX8_ask_165 : decode cX8_ask 165 = .ok (.lreturn, 1) := by decide +kernel
theorem dX8_ask_166 : decode cX8_ask 166 = .ok (.ldc2_w 161, 3) := by decide +kernel
theorem dX8_ask_169 : decode cX8_ask 169 = .ok (.lreturn, 1) := by decide +kernel
set_option maxRecDepth 20000 in
theorem ggX8_ofSpan_X6_has : GoodIn wsX8_ofSpan wsX6_has := goodIn_r _ [11, 12, 13, 53, 54] (by decide +kernel) (by decide +kernel)
set_option maxRecDepth 20000 in
theorem gX8_ofSpan_X6_has : GoodIn wsX8_ofSpan (wsV RX8 251 RX6 yX6_has wsX6_has) := goodIn_app (goodIn_of _ (by decide +kernel)) ggX8_ofSpan_X6_has
set_option maxRecDepth 20000 in
theorem ggX8_ofSpan_X8_greatest : GoodIn wsX8_ofSpan wsX8_greatest := goodIn_r _ [17, 18, 19, 20, 21] (by decide +kernel) (by decide +kernel)
set_option maxRecDepth 20000 in
theorem gX8_ofSpan_X8_greatest : GoodIn wsX8_ofSpan (va_wsS RX8 235 yX8_greatest wsX8_greatest) := goodIn_app (goodIn_of _ (by decide +kernel)) ggX8_ofSpan_X8_greatest
set_option maxRecDepth 20000 in
theorem ggX8_ofSpan_X8_second : GoodIn wsX8_ofSpan wsX8_second := goodIn_r _ [24, 2, 18, 19, 20, 21, 14, 15, 16, 17] (by decide +kernel) (by decide +kernel)
set_option maxRecDepth 20000 in
theorem gX8_ofSpan_X8_second : GoodIn wsX8_ofSpan (va_wsS RX8 245 yX8_second wsX8_second) := goodIn_app (goodIn_of _ (by decide +kernel)) ggX8_ofSpan_X8_second
set_option maxRecDepth 20000 in
theorem ggX8_ofSpan_X8_howManyGreatest : GoodIn wsX8_ofSpan wsX8_howManyGreatest := goodIn_r _ [27, 14, 15, 16, 17, 18, 19, 20, 21, 28, 29, 30] (by decide +kernel) (by decide +kernel)
set_option maxRecDepth 20000 in
theorem gX8_ofSpan_X8_howManyGreatest : GoodIn wsX8_ofSpan (va_wsS RX8 241 yX8_howManyGreatest wsX8_howManyGreatest) := goodIn_app (goodIn_of _ (by decide +kernel)) ggX8_ofSpan_X8_howManyGreatest
set_option maxRecDepth 20000 in
theorem ggX8_ofSpan_X8_sum : GoodIn wsX8_ofSpan wsX8_sum := goodIn_r _ [33] (by decide +kernel) (by decide +kernel)
set_option maxRecDepth 20000 in
theorem gX8_ofSpan_X8_sum : GoodIn wsX8_ofSpan (va_wsS RX8 231 yX8_sum wsX8_sum) := goodIn_app (goodIn_of _ (by decide +kernel)) ggX8_ofSpan_X8_sum
set_option maxRecDepth 20000 in
theorem ggX8_ofSpan_X8_howManyUnlike : GoodIn wsX8_ofSpan wsX8_howManyUnlike := goodIn_r _ [36, 37, 38, 16, 39] (by decide +kernel) (by decide +kernel)
set_option maxRecDepth 20000 in
theorem gX8_ofSpan_X8_howManyUnlike : GoodIn wsX8_ofSpan (va_wsS RX8 248 yX8_howManyUnlike wsX8_howManyUnlike) := goodIn_app (goodIn_of _ (by decide +kernel)) ggX8_ofSpan_X8_howManyUnlike
theorem dX8_ofSpan_0 : decode cX8_ofSpan 0 = .ok (.aload_n 0, 1) := by decide +kernel
theorem dX8_ofSpan_1 : decode cX8_ofSpan 1 = .ok (.getfield 64, 3) := by decide +kernel
theorem dX8_ofSpan_4 : decode cX8_ofSpan 4 = .ok (.iload_n 1, 1) := by decide +kernel
theorem dX8_ofSpan_5 : decode cX8_ofSpan 5 = .ok (.invokevirtual 251, 3) := by decide +kernel
theorem dX8_ofSpan_8 : decode cX8_ofSpan 8 = .ok (.ifCond .ne 7, 3) := by decide +kernel
theorem dX8_ofSpan_11 : decode cX8_ofSpan 11 = .ok (.ldc2_w 161, 3) := by decide +kernel
theorem dX8_ofSpan_14 : decode cX8_ofSpan 14 = .ok (.lreturn, 1) := by decide +kernel
theorem dX8_ofSpan_15 : decode cX8_ofSpan 15 = .ok (.aload_n 0, 1) := by decide +kernel
theorem dX8_ofSpan_16 : decode cX8_ofSpan 16 = .ok (.getfield 64, 3) := by decide +kernel
theorem dX8_ofSpan_19 : decode cX8_ofSpan 19 = .ok (.getfield 252, 3) := by decide +kernel
theorem dX8_ofSpan_22 : decode cX8_ofSpan 22 = .ok (.iload_n 1, 1) := by decide +kernel
theorem dX8_ofSpan_23 : decode cX8_ofSpan 23 = .ok (.iaload, 1) := by decide +kernel
theorem dX8_ofSpan_24 : decode cX8_ofSpan 24 = .ok (.istore_n 3, 1) := by decide +kernel
theorem dX8_ofSpan_25 : decode cX8_ofSpan 25 = .ok (.aload_n 0, 1) := by decide +kernel
theorem dX8_ofSpan_26 : decode cX8_ofSpan 26 = .ok (.getfield 64, 3) := by decide +kernel
theorem dX8_ofSpan_29 : decode cX8_ofSpan 29 = .ok (.getfield 255, 3) := by decide +kernel
theorem dX8_ofSpan_32 : decode cX8_ofSpan 32 = .ok (.iload_n 1, 1) := by decide +kernel
theorem dX8_ofSpan_33 : decode cX8_ofSpan 33 = .ok (.iaload, 1) := by decide +kernel
theorem dX8_ofSpan_34 : decode cX8_ofSpan 34 = .ok (.istore 4, 2) := by decide +kernel
theorem dX8_ofSpan_36 : decode cX8_ofSpan 36 = .ok (.iload_n 2, 1) := by decide +kernel
theorem dX8_ofSpan_37 : decode cX8_ofSpan 37 = .ok (.tableswitch 122 0 6 #[43, 46, 50, 64, 78, 93, 107], 43) := by decide +kernel
theorem dX8_ofSpan_80 : decode cX8_ofSpan 80 = .ok (.iload_n 3, 1) := by decide +kernel
theorem dX8_ofSpan_81 : decode cX8_ofSpan 81 = .ok (.i2l, 1) := by decide +kernel
theorem dX8_ofSpan_82 : decode cX8_ofSpan 82 = .ok (.lreturn, 1) := by decide +kernel
theorem dX8_ofSpan_83 : decode cX8_ofSpan 83 = .ok (.iload 4, 2) := by decide +kernel
theorem dX8_ofSpan_85 : decode cX8_ofSpan 85 = .ok (.i2l, 1) := by decide +kernel
theorem dX8_ofSpan_86 : decode cX8_ofSpan 86 = .ok (.lreturn, 1) := by decide +kernel
theorem dX8_ofSpan_87 : decode cX8_ofSpan 87 = .ok (.aload_n 0, 1) := by decide +kernel
theorem dX8_ofSpan_88 : decode cX8_ofSpan 88 = .ok (.getfield 51, 3) := by decide +kernel
theorem dX8_ofSpan_91 : decode cX8_ofSpan 91 = .ok (.getfield 114, 3) := by decide +kernel
theorem dX8_ofSpan_94 : decode cX8_ofSpan 94 = .ok (.iload_n 3, 1) := by decide +kernel
theorem dX8_ofSpan_95 : decode cX8_ofSpan 95 = .ok (.iload 4, 2) := by decide +kernel
theorem dX8_ofSpan_97 : decode cX8_ofSpan 97 = .ok (.invokestatic 235, 3) := by decide +kernel
theorem dX8_ofSpan_100 : decode cX8_ofSpan 100 = .ok (.lreturn, 1) := by decide +kernel
theorem dX8_ofSpan_101 : decode cX8_ofSpan 101 = .ok (.aload_n 0, 1) := by decide +kernel
theorem dX8_ofSpan_102 : decode cX8_ofSpan 102 = .ok (.getfield 51, 3) := by decide +kernel
theorem dX8_ofSpan_105 : decode cX8_ofSpan 105 = .ok (.getfield 114, 3) := by decide +kernel
theorem dX8_ofSpan_108 : decode cX8_ofSpan 108 = .ok (.iload_n 3, 1) := by decide +kernel
theorem dX8_ofSpan_109 : decode cX8_ofSpan 109 = .ok (.iload 4, 2) := by decide +kernel
theorem dX8_ofSpan_111 : decode cX8_ofSpan 111 = .ok (.invokestatic 245, 3) := by decide +kernel
theorem dX8_ofSpan_114 : decode cX8_ofSpan 114 = .ok (.lreturn, 1) := by decide +kernel
theorem dX8_ofSpan_115 : decode cX8_ofSpan 115 = .ok (.aload_n 0, 1) := by decide +kernel
theorem dX8_ofSpan_116 : decode cX8_ofSpan 116 = .ok (.getfield 51, 3) := by decide +kernel
theorem dX8_ofSpan_119 : decode cX8_ofSpan 119 = .ok (.getfield 114, 3) := by decide +kernel
theorem dX8_ofSpan_122 : decode cX8_ofSpan 122 = .ok (.iload_n 3, 1) := by decide +kernel
theorem dX8_ofSpan_123 : decode cX8_ofSpan 123 = .ok (.iload 4, 2) := by decide +kernel
theorem dX8_ofSpan_125 : decode cX8_ofSpan 125 = .ok (.invokestatic 241, 3) := by decide +kernel
theorem dX8_ofSpan_128 : decode cX8_ofSpan 128 = .ok (.i2l, 1) := by decide +kernel
theorem dX8_ofSpan_129 : decode cX8_ofSpan 129 = .ok (.lreturn, 1) := by decide +kernel
theorem dX8_ofSpan_130 : decode cX8_ofSpan 130 = .ok (.aload_n 0, 1) := by decide +kernel
theorem dX8_ofSpan_131 : decode cX8_ofSpan 131 = .ok (.getfield 51, 3) := by decide +kernel
theorem dX8_ofSpan_134 : decode cX8_ofSpan 134 = .ok (.getfield 114, 3) := by decide +kernel
theorem dX8_ofSpan_137 : decode cX8_ofSpan 137 = .ok (.iload_n 3, 1) := by decide +kernel
theorem dX8_ofSpan_138 : decode cX8_ofSpan 138 = .ok (.iload 4, 2) := by decide +kernel
theorem dX8_ofSpan_140 : decode cX8_ofSpan 140 = .ok (.invokestatic 231, 3) := by decide +kernel
theorem dX8_ofSpan_143 : decode cX8_ofSpan 143 = .ok (.lreturn, 1) := by decide +kernel
theorem dX8_ofSpan_144 : decode cX8_ofSpan 144 = .ok (.aload_n 0, 1) := by decide +kernel
theorem dX8_ofSpan_145 : decode cX8_ofSpan 145 = .ok (.getfield 51, 3) := by decide +kernel
theorem dX8_ofSpan_148 : decode cX8_ofSpan 148 = .ok (.getfield 114, 3) := by decide +kernel
theorem dX8_ofSpan_151 : decode cX8_ofSpan 151 = .ok (.iload_n 3, 1) := by decide +kernel
theorem dX8_ofSpan_152 : decode cX8_ofSpan 152 = .ok (.iload 4, 2) := by decide +kernel
theorem dX8_ofSpan_154 : decode cX8_ofSpan 154 = .ok (.invokestatic 248, 3) := by decide +kernel
theorem dX8_ofSpan_157 : decode cX8_ofSpan 157 = .ok (.i2l, 1) := by decide +kernel
theorem dX8_ofSpan_158 : decode cX8_ofSpan 158 = .ok (.lreturn, 1) := by decide +kernel
theorem dX8_ofSpan_159 : decode cX8_ofSpan 159 = .ok (.ldc2_w 161, 3) := by decide +kernel
theorem dX8_ofSpan_162 : decode cX8_ofSpan 162 = .ok (.lreturn, 1) := by decide +kernel
set_option maxRecDepth 20000 in
theorem ggX8_looks_X8_refusedAim : GoodIn wsX8_looks wsX8_refusedAim := goodIn_r _ [7, 8, 9, 10, 11, 12, 6, 13, 14, 15, 16, 17, 18, 19, 20, 53, 54, 55, 56, 57, 58, 59, 60, 61, 62, 63, 64, 65, 66, 67, 68] (by decide +kernel) (by decide +kernel)
set_option maxRecDepth 20000 in
theorem gX8_looks_X8_refusedAim : GoodIn wsX8_looks (wsV RX8 166 RX8 yX8_refusedAim wsX8_refusedAim) := goodIn_app (goodIn_of _ (by decide +kernel)) ggX8_looks_X8_refusedAim
set_option maxRecDepth 20000 in
theorem ggX8_looks_X6_has : GoodIn wsX8_looks wsX6_has := goodIn_r _ [25, 26, 27, 69, 70] (by decide +kernel) (by decide +kernel)
set_option maxRecDepth 20000 in
theorem gX8_looks_X6_has : GoodIn wsX8_looks (wsV RX8 251 RX6 yX6_has wsX6_has) := goodIn_app (goodIn_of _ (by decide +kernel)) ggX8_looks_X6_has
set_option maxRecDepth 20000 in
theorem ggX8_looks_X8_mustOpen : GoodIn wsX8_looks wsX8_mustOpen := goodIn_r _ [31, 2, 32, 33, 14, 34, 35, 36, 37, 6, 38, 39, 40, 41, 42, 43, 44, 45, 53, 54, 55, 56, 57, 58, 59, 60, 61, 62, 63, 64, 65, 69, 70, 66, 67, 68] (by decide +kernel) (by decide +kernel)
set_option maxRecDepth 20000 in
theorem gX8_looks_X8_mustOpen : GoodIn wsX8_looks (wsV RX8 260 RX8 yX8_mustOpen wsX8_mustOpen) := goodIn_app (goodIn_of _ (by decide +kernel)) ggX8_looks_X8_mustOpen
set_option maxRecDepth 20000 in
theorem ggX8_looks_J13_bitCount_95d88 : GoodIn wsX8_looks wsJ13_bitCount_95d88 := goodIn_r _ [49, 50, 51, 52] (by decide +kernel) (by decide +kernel)
set_option maxRecDepth 20000 in
theorem gX8_looks_J13_bitCount_95d88 : GoodIn wsX8_looks (va_wsS RX8 264 yJ13_bitCount_95d88 wsJ13_bitCount_95d88) := goodIn_app (goodIn_of _ (by decide +kernel)) ggX8_looks_J13_bitCount_95d88
theorem dX8_looks_0 : decode cX8_looks 0 = .ok (.aload_n 0, 1) := by decide +kernel
theorem dX8_looks_1 : decode cX8_looks 1 = .ok (.iload_n 1, 1) := by decide +kernel
theorem dX8_looks_2 : decode cX8_looks 2 = .ok (.iload_n 2, 1) := by decide +kernel
theorem dX8_looks_3 : decode cX8_looks 3 = .ok (.lload_n 3, 1) := by decide +kernel
theorem dX8_looks_4 : decode cX8_looks 4 = .ok (.invokevirtual 166, 3) := by decide +kernel
theorem dX8_looks_7 : decode cX8_looks 7 = .ok (.istore 5, 2) := by decide +kernel
theorem dX8_looks_9 : decode cX8_looks 9 = .ok (.iload 5, 2) := by decide +kernel
theorem dX8_looks_11 : decode cX8_looks 11 = .ok (.ifCond .eq 6, 3) := by decide +kernel
theorem dX8_looks_14 : decode cX8_looks 14 = .ok (.iload 5, 2) := by decide +kernel
theorem dX8_looks_16 : decode cX8_looks 16 = .ok (.ireturn, 1) := by decide +kernel
theorem dX8_looks_17 : decode cX8_looks 17 = .ok (.ldc2_w 258, 3) := by decide +kernel
theorem dX8_looks_20 : decode cX8_looks 20 = .ok (.lstore 6, 2) := by decide +kernel
theorem dX8_looks_22 : decode cX8_looks 22 = .ok (.iconst 2, 1) := by decide +kernel
theorem dX8_looks_23 : decode cX8_looks 23 = .ok (.istore 8, 2) := by decide +kernel
theorem dX8_looks_25 : decode cX8_looks 25 = .ok (.iload 8, 2) := by decide +kernel
theorem dX8_looks_27 : decode cX8_looks 27 = .ok (.bipush 32, 2) := by decide +kernel
theorem dX8_looks_29 : decode cX8_looks 29 = .ok (.if_icmp .ge 60, 3) := by decide +kernel
theorem dX8_looks_32 : decode cX8_looks 32 = .ok (.iload 8, 2) := by decide +kernel
theorem dX8_looks_34 : decode cX8_looks 34 = .ok (.iconst 2, 1) := by decide +kernel
theorem dX8_looks_35 : decode cX8_looks 35 = .ok (.idiv, 1) := by decide +kernel
theorem dX8_looks_36 : decode cX8_looks 36 = .ok (.istore 9, 2) := by decide +kernel
theorem dX8_looks_38 : decode cX8_looks 38 = .ok (.aload_n 0, 1) := by decide +kernel
theorem dX8_looks_39 : decode cX8_looks 39 = .ok (.getfield 64, 3) := by decide +kernel
theorem dX8_looks_42 : decode cX8_looks 42 = .ok (.iload 8, 2) := by decide +kernel
theorem dX8_looks_44 : decode cX8_looks 44 = .ok (.invokevirtual 251, 3) := by decide +kernel
theorem dX8_looks_47 : decode cX8_looks 47 = .ok (.ifCond .eq 36, 3) := by decide +kernel
theorem dX8_looks_50 : decode cX8_looks 50 = .ok (.lload 6, 2) := by decide +kernel
theorem dX8_looks_52 : decode cX8_looks 52 = .ok (.iload 9, 2) := by decide +kernel
theorem dX8_looks_54 : decode cX8_looks 54 = .ok (.lshr, 1) := by decide +kernel
theorem dX8_looks_55 : decode cX8_looks 55 = .ok (.lconst 1, 1) := by decide +kernel
theorem dX8_looks_56 : decode cX8_looks 56 = .ok (.land, 1) := by decide +kernel
theorem dX8_looks_57 : decode cX8_looks 57 = .ok (.lconst 0, 1) := by decide +kernel
theorem dX8_looks_58 : decode cX8_looks 58 = .ok (.lcmp, 1) := by decide +kernel
theorem dX8_looks_59 : decode cX8_looks 59 = .ok (.ifCond .eq 24, 3) := by decide +kernel
theorem dX8_looks_62 : decode cX8_looks 62 = .ok (.aload_n 0, 1) := by decide +kernel
theorem dX8_looks_63 : decode cX8_looks 63 = .ok (.iload 9, 2) := by decide +kernel
theorem dX8_looks_65 : decode cX8_looks 65 = .ok (.iload_n 1, 1) := by decide +kernel
theorem dX8_looks_66 : decode cX8_looks 66 = .ok (.iload_n 2, 1) := by decide +kernel
theorem dX8_looks_67 : decode cX8_looks 67 = .ok (.lload_n 3, 1) := by decide +kernel
theorem dX8_looks_68 : decode cX8_looks 68 = .ok (.invokevirtual 260, 3) := by decide +kernel
theorem dX8_looks_71 : decode cX8_looks 71 = .ok (.ifCond .eq 12, 3) := by decide +kernel
theorem dX8_looks_74 : decode cX8_looks 74 = .ok (.lload 6, 2) := by decide +kernel
theorem dX8_looks_76 : decode cX8_looks 76 = .ok (.lconst 1, 1) := by decide +kernel
theorem dX8_looks_77 : decode cX8_looks 77 = .ok (.iload 8, 2) := by decide +kernel
theorem dX8_looks_79 : decode cX8_looks 79 = .ok (.lshl, 1) := by decide +kernel
theorem dX8_looks_80 : decode cX8_looks 80 = .ok (.lor, 1) := by decide +kernel
theorem dX8_looks_81 : decode cX8_looks 81 = .ok (.lstore 6, 2) := by decide +kernel
theorem dX8_looks_83 : decode cX8_looks 83 = .ok (.iinc 8 1, 3) := by decide +kernel
theorem dX8_looks_86 : decode cX8_looks 86 = .ok (.goto (-61), 3) := by decide +kernel
theorem dX8_looks_89 : decode cX8_looks 89 = .ok (.lload 6, 2) := by decide +kernel
theorem dX8_looks_91 : decode cX8_looks 91 = .ok (.invokestatic 264, 3) := by decide +kernel
theorem dX8_looks_94 : decode cX8_looks 94 = .ok (.ireturn, 1) := by decide +kernel
set_option maxRecDepth 20000 in
theorem ggX8_unlike_X3_areThere : GoodIn wsX8_unlike wsX3_areThere := goodIn_r _ [10, 11, 39, 40, 41] (by decide +kernel) (by decide +kernel)
set_option maxRecDepth 20000 in
theorem gX8_unlike_X3_areThere : GoodIn wsX8_unlike (wsV RX8 178 RX3 yX3_areThere wsX3_areThere) := goodIn_app (goodIn_of _ (by decide +kernel)) ggX8_unlike_X3_areThere
set_option maxRecDepth 20000 in
theorem ggX8_unlike_X6_has : GoodIn wsX8_unlike wsX6_has := goodIn_r _ [16, 17, 18, 42, 43] (by decide +kernel) (by decide +kernel)
set_option maxRecDepth 20000 in
theorem gX8_unlike_X6_has : GoodIn wsX8_unlike (wsV RX8 251 RX6 yX6_has wsX6_has) := goodIn_app (goodIn_of _ (by decide +kernel)) ggX8_unlike_X6_has
set_option maxRecDepth 20000 in
theorem ggX8_unlike_X8_howManyUnlike : GoodIn wsX8_unlike wsX8_howManyUnlike := goodIn_r _ [22, 23, 24, 21, 25] (by decide +kernel) (by decide +kernel)
set_option maxRecDepth 20000 in
theorem gX8_unlike_X8_howManyUnlike : GoodIn wsX8_unlike (va_wsS RX8 248 yX8_howManyUnlike wsX8_howManyUnlike) := goodIn_app (goodIn_of _ (by decide +kernel)) ggX8_unlike_X8_howManyUnlike
theorem dX8_unlike_0 : decode cX8_unlike 0 = .ok (.aload_n 0, 1) := by decide +kernel
theorem dX8_unlike_1 : decode cX8_unlike 1 = .ok (.getfield 51, 3) := by decide +kernel
theorem dX8_unlike_4 : decode cX8_unlike 4 = .ok (.invokevirtual 178, 3) := by decide +kernel
theorem dX8_unlike_7 : decode cX8_unlike 7 = .ok (.ifCond .ne 6, 3) := by decide +kernel
theorem dX8_unlike_10 : decode cX8_unlike 10 = .ok (.bipush (-3), 2) := by decide +kernel
theorem dX8_unlike_12 : decode cX8_unlike 12 = .ok (.ireturn, 1) := by decide +kernel
theorem dX8_unlike_13 : decode cX8_unlike 13 = .ok (.iconst 0, 1) := by decide +kernel
theorem dX8_unlike_14 : decode cX8_unlike 14 = .ok (.istore_n 1, 1) := by decide +kernel
theorem dX8_unlike_15 : decode cX8_unlike 15 = .ok (.iconst 1, 1) := by decide +kernel
theorem dX8_unlike_16 : decode cX8_unlike 16 = .ok (.istore_n 2, 1) := by decide +kernel
theorem dX8_unlike_17 : decode cX8_unlike 17 = .ok (.iload_n 2, 1) := by decide +kernel
theorem dX8_unlike_18 : decode cX8_unlike 18 = .ok (.bipush 32, 2) := by decide +kernel
theorem dX8_unlike_20 : decode cX8_unlike 20 = .ok (.if_icmp .ge 51, 3) := by decide +kernel
theorem dX8_unlike_23 : decode cX8_unlike 23 = .ok (.aload_n 0, 1) := by decide +kernel
theorem dX8_unlike_24 : decode cX8_unlike 24 = .ok (.getfield 64, 3) := by decide +kernel
theorem dX8_unlike_27 : decode cX8_unlike 27 = .ok (.iload_n 2, 1) := by decide +kernel
theorem dX8_unlike_28 : decode cX8_unlike 28 = .ok (.invokevirtual 251, 3) := by decide +kernel
theorem dX8_unlike_31 : decode cX8_unlike 31 = .ok (.ifCond .eq 34, 3) := by decide +kernel
theorem dX8_unlike_34 : decode cX8_unlike 34 = .ok (.iload_n 1, 1) := by decide +kernel
theorem dX8_unlike_35 : decode cX8_unlike 35 = .ok (.aload_n 0, 1) := by decide +kernel
theorem dX8_unlike_36 : decode cX8_unlike 36 = .ok (.getfield 51, 3) := by decide +kernel
theorem dX8_unlike_39 : decode cX8_unlike 39 = .ok (.getfield 114, 3) := by decide +kernel
theorem dX8_unlike_42 : decode cX8_unlike 42 = .ok (.aload_n 0, 1) := by decide +kernel
theorem dX8_unlike_43 : decode cX8_unlike 43 = .ok (.getfield 64, 3) := by decide +kernel
theorem dX8_unlike_46 : decode cX8_unlike 46 = .ok (.getfield 252, 3) := by decide +kernel
theorem dX8_unlike_49 : decode cX8_unlike 49 = .ok (.iload_n 2, 1) := by decide +kernel
theorem dX8_unlike_50 : decode cX8_unlike 50 = .ok (.iaload, 1) := by decide +kernel
theorem dX8_unlike_51 : decode cX8_unlike 51 = .ok (.aload_n 0, 1) := by decide +kernel
theorem dX8_unlike_52 : decode cX8_unlike 52 = .ok (.getfield 64, 3) := by decide +kernel
theorem dX8_unlike_55 : decode cX8_unlike 55 = .ok (.getfield 255, 3) := by decide +kernel
theorem dX8_unlike_58 : decode cX8_unlike 58 = .ok (.iload_n 2, 1) := by decide +kernel
theorem dX8_unlike_59 : decode cX8_unlike 59 = .ok (.iaload, 1) := by decide +kernel
theorem dX8_unlike_60 : decode cX8_unlike 60 = .ok (.invokestatic 248, 3) := by decide +kernel
theorem dX8_unlike_63 : decode cX8_unlike 63 = .ok (.iadd, 1) := by decide +kernel
theorem dX8_unlike_64 : decode cX8_unlike 64 = .ok (.istore_n 1, 1) := by decide +kernel
theorem dX8_unlike_65 : decode cX8_unlike 65 = .ok (.iinc 2 1, 3) := by decide +kernel
theorem dX8_unlike_68 : decode cX8_unlike 68 = .ok (.goto (-51), 3) := by decide +kernel
theorem dX8_unlike_71 : decode cX8_unlike 71 = .ok (.iload_n 1, 1) := by decide +kernel
theorem dX8_unlike_72 : decode cX8_unlike 72 = .ok (.ireturn, 1) := by decide +kernel
set_option maxRecDepth 20000 in
theorem ggX8_mustOpen_X8_greatest : GoodIn wsX8_mustOpen wsX8_greatest := goodIn_r _ [10, 11, 12, 13, 14] (by decide +kernel) (by decide +kernel)
set_option maxRecDepth 20000 in
theorem gX8_mustOpen_X8_greatest : GoodIn wsX8_mustOpen (va_wsS RX8 235 yX8_greatest wsX8_greatest) := goodIn_app (goodIn_of _ (by decide +kernel)) ggX8_mustOpen_X8_greatest
set_option maxRecDepth 20000 in
theorem ggX8_mustOpen_X8_second : GoodIn wsX8_mustOpen wsX8_second := goodIn_r _ [17, 6, 11, 12, 13, 14, 7, 8, 9, 10] (by decide +kernel) (by decide +kernel)
set_option maxRecDepth 20000 in
theorem gX8_mustOpen_X8_second : GoodIn wsX8_mustOpen (va_wsS RX8 245 yX8_second wsX8_second) := goodIn_app (goodIn_of _ (by decide +kernel)) ggX8_mustOpen_X8_second
theorem dX8_mustOpen_0 : decode cX8_mustOpen 0 = .ok (.aload_n 0, 1) := by decide +kernel
theorem dX8_mustOpen_1 : decode cX8_mustOpen 1 = .ok (.getfield 64, 3) := by decide +kernel
theorem dX8_mustOpen_4 : decode cX8_mustOpen 4 = .ok (.getfield 252, 3) := by decide +kernel
theorem dX8_mustOpen_7 : decode cX8_mustOpen 7 = .ok (.iload_n 1, 1) := by decide +kernel
theorem dX8_mustOpen_8 : decode cX8_mustOpen 8 = .ok (.iaload, 1) := by decide +kernel
theorem dX8_mustOpen_9 : decode cX8_mustOpen 9 = .ok (.istore 6, 2) := by decide +kernel
theorem dX8_mustOpen_11 : decode cX8_mustOpen 11 = .ok (.aload_n 0, 1) := by decide +kernel
theorem dX8_mustOpen_12 : decode cX8_mustOpen 12 = .ok (.getfield 64, 3) := by decide +kernel
theorem dX8_mustOpen_15 : decode cX8_mustOpen 15 = .ok (.getfield 255, 3) := by decide +kernel
theorem dX8_mustOpen_18 : decode cX8_mustOpen 18 = .ok (.iload_n 1, 1) := by decide +kernel
theorem dX8_mustOpen_19 : decode cX8_mustOpen 19 = .ok (.iaload, 1) := by decide +kernel
theorem dX8_mustOpen_20 : decode cX8_mustOpen 20 = .ok (.istore 7, 2) := by decide +kernel
theorem dX8_mustOpen_22 : decode cX8_mustOpen 22 = .ok (.iload 7, 2) := by decide +kernel
theorem dX8_mustOpen_24 : decode cX8_mustOpen 24 = .ok (.iload_n 2, 1) := by decide +kernel
theorem dX8_mustOpen_25 : decode cX8_mustOpen 25 = .ok (.if_icmp .lt 29, 3) := by decide +kernel
theorem dX8_mustOpen_28 : decode cX8_mustOpen 28 = .ok (.iload 6, 2) := by decide +kernel
theorem dX8_mustOpen_30 : decode cX8_mustOpen 30 = .ok (.iload_n 3, 1) := by decide +kernel
theorem dX8_mustOpen_31 : decode cX8_mustOpen 31 = .ok (.if_icmp .gt 23, 3) := by decide +kernel
theorem dX8_mustOpen_34 : decode cX8_mustOpen 34 = .ok (.aload_n 0, 1) := by decide +kernel
theorem dX8_mustOpen_35 : decode cX8_mustOpen 35 = .ok (.getfield 51, 3) := by decide +kernel
theorem dX8_mustOpen_38 : decode cX8_mustOpen 38 = .ok (.getfield 114, 3) := by decide +kernel
theorem dX8_mustOpen_41 : decode cX8_mustOpen 41 = .ok (.iload 6, 2) := by decide +kernel
theorem dX8_mustOpen_43 : decode cX8_mustOpen 43 = .ok (.iload 7, 2) := by decide +kernel
theorem dX8_mustOpen_45 : decode cX8_mustOpen 45 = .ok (.invokestatic 235, 3) := by decide +kernel
theorem dX8_mustOpen_48 : decode cX8_mustOpen 48 = .ok (.lload 4, 2) := by decide +kernel
theorem dX8_mustOpen_50 : decode cX8_mustOpen 50 = .ok (.lcmp, 1) := by decide +kernel
theorem dX8_mustOpen_51 : decode cX8_mustOpen 51 = .ok (.ifCond .gt 5, 3) := by decide +kernel
theorem dX8_mustOpen_54 : decode cX8_mustOpen 54 = .ok (.iconst 0, 1) := by decide +kernel
theorem dX8_mustOpen_55 : decode cX8_mustOpen 55 = .ok (.ireturn, 1) := by decide +kernel
theorem dX8_mustOpen_56 : decode cX8_mustOpen 56 = .ok (.iload 6, 2) := by decide +kernel
theorem dX8_mustOpen_58 : decode cX8_mustOpen 58 = .ok (.iload_n 2, 1) := by decide +kernel
theorem dX8_mustOpen_59 : decode cX8_mustOpen 59 = .ok (.if_icmp .lt 9, 3) := by decide +kernel
theorem dX8_mustOpen_62 : decode cX8_mustOpen 62 = .ok (.iload 7, 2) := by decide +kernel
theorem dX8_mustOpen_64 : decode cX8_mustOpen 64 = .ok (.iload_n 3, 1) := by decide +kernel
theorem dX8_mustOpen_65 : decode cX8_mustOpen 65 = .ok (.if_icmp .le 5, 3) := by decide +kernel
theorem dX8_mustOpen_68 : decode cX8_mustOpen 68 = .ok (.iconst 1, 1) := by decide +kernel
theorem dX8_mustOpen_69 : decode cX8_mustOpen 69 = .ok (.ireturn, 1) := by decide +kernel
theorem dX8_mustOpen_70 : decode cX8_mustOpen 70 = .ok (.aload_n 0, 1) := by decide +kernel
theorem dX8_mustOpen_71 : decode cX8_mustOpen 71 = .ok (.getfield 51, 3) := by decide +kernel
theorem dX8_mustOpen_74 : decode cX8_mustOpen 74 = .ok (.getfield 114, 3) := by decide +kernel
theorem dX8_mustOpen_77 : decode cX8_mustOpen 77 = .ok (.iload 6, 2) := by decide +kernel
theorem dX8_mustOpen_79 : decode cX8_mustOpen 79 = .ok (.iload 7, 2) := by decide +kernel
theorem dX8_mustOpen_81 : decode cX8_mustOpen 81 = .ok (.invokestatic 245, 3) := by decide +kernel
theorem dX8_mustOpen_84 : decode cX8_mustOpen 84 = .ok (.lstore 8, 2) := by decide +kernel
theorem dX8_mustOpen_86 : decode cX8_mustOpen 86 = .ok (.lload 8, 2) := by decide +kernel
theorem dX8_mustOpen_88 : decode cX8_mustOpen 88 = .ok (.ldc2_w 161, 3) := by decide +kernel
theorem dX8_mustOpen_91 : decode cX8_mustOpen 91 = .ok (.lcmp, 1) := by decide +kernel
theorem dX8_mustOpen_92 : decode cX8_mustOpen 92 = .ok (.ifCond .eq 15, 3) := by decide +kernel
theorem dX8_mustOpen_95 : decode cX8_mustOpen 95 = .ok (.lload 8, 2) := by decide +kernel
theorem dX8_mustOpen_97 : decode cX8_mustOpen 97 = .ok (.lload 4, 2) := by decide +kernel
theorem dX8_mustOpen_99 : decode cX8_mustOpen 99 = .ok (.lcmp, 1) := by decide +kernel
theorem dX8_mustOpen_100 : decode cX8_mustOpen 100 = .ok (.ifCond .lt 7, 3) := by decide +kernel
theorem dX8_mustOpen_103 : decode cX8_mustOpen 103 = .ok (.iconst 1, 1) := by decide +kernel
theorem dX8_mustOpen_104 : decode cX8_mustOpen 104 = .ok (.goto 4, 3) := by decide +kernel
theorem dX8_mustOpen_107 : decode cX8_mustOpen 107 = .ok (.iconst 0, 1) := by decide +kernel
theorem dX8_mustOpen_108 : decode cX8_mustOpen 108 = .ok (.ireturn, 1) := by decide +kernel
set_option maxRecDepth 20000 in
theorem ggX8_reading_X3_has : GoodIn wsX8_reading wsX3_has := goodIn_r _ [9, 10, 32, 33, 34] (by decide +kernel) (by decide +kernel)
set_option maxRecDepth 20000 in
theorem gX8_reading_X3_has : GoodIn wsX8_reading (wsV RX8 159 RX3 yX3_has wsX3_has) := goodIn_app (goodIn_of _ (by decide +kernel)) ggX8_reading_X3_has
set_option maxRecDepth 20000 in
theorem ggX8_reading_X4_keep : GoodIn wsX8_reading wsX4_keep := goodIn_r _ [15, 16, 17, 18, 35, 36, 37] (by decide +kernel) (by decide +kernel)
set_option maxRecDepth 20000 in
theorem gX8_reading_X4_keep : GoodIn wsX8_reading (wsV RX8 271 RX4 yX4_keep wsX4_keep) := goodIn_app (goodIn_of _ (by decide +kernel)) ggX8_reading_X4_keep
theorem dX8_reading_0 : decode cX8_reading 0 = .ok (.aload_n 0, 1) := by decide +kernel
theorem dX8_reading_1 : decode cX8_reading 1 = .ok (.getfield 51, 3) := by decide +kernel
theorem dX8_reading_4 : decode cX8_reading 4 = .ok (.iload_n 1, 1) := by decide +kernel
theorem dX8_reading_5 : decode cX8_reading 5 = .ok (.invokevirtual 159, 3) := by decide +kernel
theorem dX8_reading_8 : decode cX8_reading 8 = .ok (.ifCond .ne 5, 3) := by decide +kernel
theorem dX8_reading_11 : decode cX8_reading 11 = .ok (.iconst (-1), 1) := by decide +kernel
theorem dX8_reading_12 : decode cX8_reading 12 = .ok (.ireturn, 1) := by decide +kernel
theorem dX8_reading_13 : decode cX8_reading 13 = .ok (.lload_n 2, 1) := by decide +kernel
theorem dX8_reading_14 : decode cX8_reading 14 = .ok (.ldc2_w 267, 3) := by decide +kernel
theorem dX8_reading_17 : decode cX8_reading 17 = .ok (.lcmp, 1) := by decide +kernel
theorem dX8_reading_18 : decode cX8_reading 18 = .ok (.ifCond .lt 11, 3) := by decide +kernel
theorem dX8_reading_21 : decode cX8_reading 21 = .ok (.lload_n 2, 1) := by decide +kernel
theorem dX8_reading_22 : decode cX8_reading 22 = .ok (.ldc2_w 269, 3) := by decide +kernel
theorem dX8_reading_25 : decode cX8_reading 25 = .ok (.lcmp, 1) := by decide +kernel
theorem dX8_reading_26 : decode cX8_reading 26 = .ok (.ifCond .le 6, 3) := by decide +kernel
theorem dX8_reading_29 : decode cX8_reading 29 = .ok (.bipush (-2), 2) := by decide +kernel
theorem dX8_reading_31 : decode cX8_reading 31 = .ok (.ireturn, 1) := by decide +kernel
theorem dX8_reading_32 : decode cX8_reading 32 = .ok (.aload_n 0, 1) := by decide +kernel
theorem dX8_reading_33 : decode cX8_reading 33 = .ok (.getfield 71, 3) := by decide +kernel
theorem dX8_reading_36 : decode cX8_reading 36 = .ok (.iload_n 1, 1) := by decide +kernel
theorem dX8_reading_37 : decode cX8_reading 37 = .ok (.lload_n 2, 1) := by decide +kernel
theorem dX8_reading_38 : decode cX8_reading 38 = .ok (.invokevirtual 271, 3) := by decide +kernel
theorem dX8_reading_41 : decode cX8_reading 41 = .ok (.ireturn, 1) := by decide +kernel
theorem dX8_back_0 : decode cX8_back 0 = .ok (.iload_n 1, 1) := by decide +kernel
theorem dX8_back_1 : decode cX8_back 1 = .ok (.ifCond .lt 14, 3) := by decide +kernel
theorem dX8_back_4 : decode cX8_back 4 = .ok (.iload_n 1, 1) := by decide +kernel
theorem dX8_back_5 : decode cX8_back 5 = .ok (.aload_n 0, 1) := by decide +kernel
theorem dX8_back_6 : decode cX8_back 6 = .ok (.getfield 71, 3) := by decide +kernel
theorem dX8_back_9 : decode cX8_back 9 = .ok (.getfield 131, 3) := by decide +kernel
theorem dX8_back_12 : decode cX8_back 12 = .ok (.if_icmp .le 6, 3) := by decide +kernel
theorem dX8_back_15 : decode cX8_back 15 = .ok (.bipush (-2), 2) := by decide +kernel
theorem dX8_back_17 : decode cX8_back 17 = .ok (.ireturn, 1) := by decide +kernel
theorem dX8_back_18 : decode cX8_back 18 = .ok (.aload_n 0, 1) := by decide +kernel
theorem dX8_back_19 : decode cX8_back 19 = .ok (.getfield 71, 3) := by decide +kernel
theorem dX8_back_22 : decode cX8_back 22 = .ok (.dup, 1) := by decide +kernel
theorem dX8_back_23 : decode cX8_back 23 = .ok (.getfield 131, 3) := by decide +kernel
theorem dX8_back_26 : decode cX8_back 26 = .ok (.iload_n 1, 1) := by decide +kernel
theorem dX8_back_27 : decode cX8_back 27 = .ok (.isub, 1) := by decide +kernel
theorem dX8_back_28 : decode cX8_back 28 = .ok (.putfield 131, 3) := by decide +kernel
theorem dX8_back_31 : decode cX8_back 31 = .ok (.aload_n 0, 1) := by decide +kernel
theorem dX8_back_32 : decode cX8_back 32 = .ok (.getfield 71, 3) := by decide +kernel
theorem dX8_back_35 : decode cX8_back 35 = .ok (.getfield 131, 3) := by decide +kernel
theorem dX8_back_38 : decode cX8_back 38 = .ok (.ireturn, 1) := by decide +kernel
set_option maxRecDepth 20000 in
theorem ggX8_kinds_X1_has : GoodIn wsX8_kinds wsX1_has := goodIn_r _ [7, 8, 101, 102, 103] (by decide +kernel) (by decide +kernel)
set_option maxRecDepth 20000 in
theorem gX8_kinds_X1_has : GoodIn wsX8_kinds (wsV RX8 142 RX1 yX1_has wsX1_has) := goodIn_app (goodIn_of _ (by decide +kernel)) ggX8_kinds_X1_has
set_option maxRecDepth 20000 in
theorem ggX8_kinds_X8_fits : GoodIn wsX8_kinds wsX8_fits := goodIn_r _ [13, 14, 1, 15, 2, 16, 17, 18, 19, 20, 21, 22, 23, 24, 6, 25, 8, 26, 27, 28, 29, 30, 31, 32, 33, 34, 35, 36, 37, 38, 39, 40, 41, 42, 43, 44, 45, 46, 47, 48, 49, 50, 51, 52, 53, 54, 55, 56, 57, 58, 59, 60, 61, 62, 63, 64, 65, 66, 67, 68, 69, 70, 71, 4, 5, 7, 72, 73, 74, 75, 76, 77, 78, 79, 80, 81, 82, 83, 84, 85, 86, 87, 88, 89, 90, 91, 92, 93, 94, 95, 96, 97, 98, 99, 100, 101, 102, 103, 104, 105, 106, 107, 108, 109, 110, 111, 112, 113, 114, 115] (by decide +kernel) (by decide +kernel)
set_option maxRecDepth 20000 in
theorem gX8_kinds_X8_fits : GoodIn wsX8_kinds (wsV RX8 275 RX8 yX8_fits wsX8_fits) := goodIn_app (goodIn_of _ (by decide +kernel)) ggX8_kinds_X8_fits
theorem dX8_kinds_0 : decode cX8_kinds 0 = .ok (.aload_n 0, 1) := by decide +kernel
theorem dX8_kinds_1 : decode cX8_kinds 1 = .ok (.getfield 27, 3) := by decide +kernel
theorem dX8_kinds_4 : decode cX8_kinds 4 = .ok (.iload_n 1, 1) := by decide +kernel
theorem dX8_kinds_5 : decode cX8_kinds 5 = .ok (.i2l, 1) := by decide +kernel
theorem dX8_kinds_6 : decode cX8_kinds 6 = .ok (.invokevirtual 142, 3) := by decide +kernel
theorem dX8_kinds_9 : decode cX8_kinds 9 = .ok (.ifCond .ne 5, 3) := by decide +kernel
theorem dX8_kinds_12 : decode cX8_kinds 12 = .ok (.iconst (-1), 1) := by decide +kernel
theorem dX8_kinds_13 : decode cX8_kinds 13 = .ok (.ireturn, 1) := by decide +kernel
theorem dX8_kinds_14 : decode cX8_kinds 14 = .ok (.iconst 0, 1) := by decide +kernel
theorem dX8_kinds_15 : decode cX8_kinds 15 = .ok (.istore_n 2, 1) := by decide +kernel
theorem dX8_kinds_16 : decode cX8_kinds 16 = .ok (.iconst 0, 1) := by decide +kernel
theorem dX8_kinds_17 : decode cX8_kinds 17 = .ok (.istore_n 3, 1) := by decide +kernel
theorem dX8_kinds_18 : decode cX8_kinds 18 = .ok (.iload_n 3, 1) := by decide +kernel
theorem dX8_kinds_19 : decode cX8_kinds 19 = .ok (.iconst 2, 1) := by decide +kernel
theorem dX8_kinds_20 : decode cX8_kinds 20 = .ok (.if_icmp .gt 33, 3) := by decide +kernel
theorem dX8_kinds_23 : decode cX8_kinds 23 = .ok (.aload_n 0, 1) := by decide +kernel
theorem dX8_kinds_24 : decode cX8_kinds 24 = .ok (.iload_n 1, 1) := by decide +kernel
theorem dX8_kinds_25 : decode cX8_kinds 25 = .ok (.iload_n 3, 1) := by decide +kernel
theorem dX8_kinds_26 : decode cX8_kinds 26 = .ok (.aload_n 0, 1) := by decide +kernel
theorem dX8_kinds_27 : decode cX8_kinds 27 = .ok (.getfield 27, 3) := by decide +kernel
theorem dX8_kinds_30 : decode cX8_kinds 30 = .ok (.getfield 149, 3) := by decide +kernel
theorem dX8_kinds_33 : decode cX8_kinds 33 = .ok (.iload_n 1, 1) := by decide +kernel
theorem dX8_kinds_34 : decode cX8_kinds 34 = .ok (.iaload, 1) := by decide +kernel
theorem dX8_kinds_35 : decode cX8_kinds 35 = .ok (.invokevirtual 275, 3) := by decide +kernel
theorem dX8_kinds_38 : decode cX8_kinds 38 = .ok (.ifCond .eq 9, 3) := by decide +kernel
theorem dX8_kinds_41 : decode cX8_kinds 41 = .ok (.iload_n 2, 1) := by decide +kernel
theorem dX8_kinds_42 : decode cX8_kinds 42 = .ok (.iconst 1, 1) := by decide +kernel
theorem dX8_kinds_43 : decode cX8_kinds 43 = .ok (.iload_n 3, 1) := by decide +kernel
theorem dX8_kinds_44 : decode cX8_kinds 44 = .ok (.ishl, 1) := by decide +kernel
theorem dX8_kinds_45 : decode cX8_kinds 45 = .ok (.ior, 1) := by decide +kernel
theorem dX8_kinds_46 : decode cX8_kinds 46 = .ok (.istore_n 2, 1) := by decide +kernel
theorem dX8_kinds_47 : decode cX8_kinds 47 = .ok (.iinc 3 1, 3) := by decide +kernel
theorem dX8_kinds_50 : decode cX8_kinds 50 = .ok (.goto (-32), 3) := by decide +kernel
theorem dX8_kinds_53 : decode cX8_kinds 53 = .ok (.iload_n 2, 1) := by decide +kernel
theorem dX8_kinds_54 : decode cX8_kinds 54 = .ok (.ireturn, 1) := by decide +kernel
set_option maxRecDepth 20000 in
theorem ggX8_paces_X1_has : GoodIn wsX8_paces wsX1_has := goodIn_r _ [7, 8, 101, 102, 103] (by decide +kernel) (by decide +kernel)
set_option maxRecDepth 20000 in
theorem gX8_paces_X1_has : GoodIn wsX8_paces (wsV RX8 142 RX1 yX1_has wsX1_has) := goodIn_app (goodIn_of _ (by decide +kernel)) ggX8_paces_X1_has
set_option maxRecDepth 20000 in
theorem ggX8_paces_X8_fits : GoodIn wsX8_paces wsX8_fits := goodIn_r _ [13, 14, 1, 2, 15, 16, 17, 18, 19, 20, 21, 22, 23, 24, 6, 25, 8, 26, 27, 28, 29, 30, 31, 32, 33, 34, 35, 36, 37, 38, 39, 40, 41, 42, 43, 44, 45, 46, 47, 48, 49, 50, 51, 52, 53, 54, 55, 56, 57, 58, 59, 60, 61, 62, 63, 64, 65, 66, 67, 68, 69, 70, 71, 4, 5, 7, 72, 73, 74, 75, 76, 77, 78, 79, 80, 81, 82, 83, 84, 85, 86, 87, 88, 89, 90, 91, 92, 93, 94, 95, 96, 97, 98, 99, 100, 101, 102, 103, 104, 105, 106, 107, 108, 109, 110, 111, 112, 113, 114, 115] (by decide +kernel) (by decide +kernel)
set_option maxRecDepth 20000 in
theorem gX8_paces_X8_fits : GoodIn wsX8_paces (wsV RX8 275 RX8 yX8_fits wsX8_fits) := goodIn_app (goodIn_of _ (by decide +kernel)) ggX8_paces_X8_fits
theorem dX8_paces_0 : decode cX8_paces 0 = .ok (.aload_n 0, 1) := by decide +kernel
theorem dX8_paces_1 : decode cX8_paces 1 = .ok (.getfield 27, 3) := by decide +kernel
theorem dX8_paces_4 : decode cX8_paces 4 = .ok (.iload_n 1, 1) := by decide +kernel
theorem dX8_paces_5 : decode cX8_paces 5 = .ok (.i2l, 1) := by decide +kernel
theorem dX8_paces_6 : decode cX8_paces 6 = .ok (.invokevirtual 142, 3) := by decide +kernel
theorem dX8_paces_9 : decode cX8_paces 9 = .ok (.ifCond .ne 5, 3) := by decide +kernel
theorem dX8_paces_12 : decode cX8_paces 12 = .ok (.iconst (-1), 1) := by decide +kernel
theorem dX8_paces_13 : decode cX8_paces 13 = .ok (.ireturn, 1) := by decide +kernel
theorem dX8_paces_14 : decode cX8_paces 14 = .ok (.iconst 0, 1) := by decide +kernel
theorem dX8_paces_15 : decode cX8_paces 15 = .ok (.istore_n 2, 1) := by decide +kernel
theorem dX8_paces_16 : decode cX8_paces 16 = .ok (.iconst 0, 1) := by decide +kernel
theorem dX8_paces_17 : decode cX8_paces 17 = .ok (.istore_n 3, 1) := by decide +kernel
theorem dX8_paces_18 : decode cX8_paces 18 = .ok (.iload_n 3, 1) := by decide +kernel
theorem dX8_paces_19 : decode cX8_paces 19 = .ok (.bipush 9, 2) := by decide +kernel
theorem dX8_paces_21 : decode cX8_paces 21 = .ok (.if_icmp .gt 33, 3) := by decide +kernel
theorem dX8_paces_24 : decode cX8_paces 24 = .ok (.aload_n 0, 1) := by decide +kernel
theorem dX8_paces_25 : decode cX8_paces 25 = .ok (.iload_n 1, 1) := by decide +kernel
theorem dX8_paces_26 : decode cX8_paces 26 = .ok (.aload_n 0, 1) := by decide +kernel
theorem dX8_paces_27 : decode cX8_paces 27 = .ok (.getfield 27, 3) := by decide +kernel
theorem dX8_paces_30 : decode cX8_paces 30 = .ok (.getfield 146, 3) := by decide +kernel
theorem dX8_paces_33 : decode cX8_paces 33 = .ok (.iload_n 1, 1) := by decide +kernel
theorem dX8_paces_34 : decode cX8_paces 34 = .ok (.iaload, 1) := by decide +kernel
theorem dX8_paces_35 : decode cX8_paces 35 = .ok (.iload_n 3, 1) := by decide +kernel
theorem dX8_paces_36 : decode cX8_paces 36 = .ok (.invokevirtual 275, 3) := by decide +kernel
theorem dX8_paces_39 : decode cX8_paces 39 = .ok (.ifCond .eq 9, 3) := by decide +kernel
theorem dX8_paces_42 : decode cX8_paces 42 = .ok (.iload_n 2, 1) := by decide +kernel
theorem dX8_paces_43 : decode cX8_paces 43 = .ok (.iconst 1, 1) := by decide +kernel
theorem dX8_paces_44 : decode cX8_paces 44 = .ok (.iload_n 3, 1) := by decide +kernel
theorem dX8_paces_45 : decode cX8_paces 45 = .ok (.ishl, 1) := by decide +kernel
theorem dX8_paces_46 : decode cX8_paces 46 = .ok (.ior, 1) := by decide +kernel
theorem dX8_paces_47 : decode cX8_paces 47 = .ok (.istore_n 2, 1) := by decide +kernel
theorem dX8_paces_48 : decode cX8_paces 48 = .ok (.iinc 3 1, 3) := by decide +kernel
theorem dX8_paces_51 : decode cX8_paces 51 = .ok (.goto (-33), 3) := by decide +kernel
theorem dX8_paces_54 : decode cX8_paces 54 = .ok (.iload_n 2, 1) := by decide +kernel
theorem dX8_paces_55 : decode cX8_paces 55 = .ok (.ireturn, 1) := by decide +kernel
set_option maxRecDepth 20000 in
theorem ggX8_odds_X8_refusedRun : GoodIn wsX8_odds wsX8_refusedRun := goodIn_r _ [8, 2, 9, 10, 11, 12, 13, 14, 21, 22, 23, 24, 25, 26, 27, 28, 29, 30, 31, 32, 33, 34, 35, 36] (by decide +kernel) (by decide +kernel)
set_option maxRecDepth 20000 in
theorem gX8_odds_X8_refusedRun : GoodIn wsX8_odds (wsV RX8 174 RX8 yX8_refusedRun wsX8_refusedRun) := goodIn_app (goodIn_of _ (by decide +kernel)) ggX8_odds_X8_refusedRun
set_option maxRecDepth 20000 in
theorem ggX8_odds_X8_howManyFrom : GoodIn wsX8_odds wsX8_howManyFrom := goodIn_r _ [17] (by decide +kernel) (by decide +kernel)
set_option maxRecDepth 20000 in
theorem gX8_odds_X8_howManyFrom : GoodIn wsX8_odds (va_wsS RX8 279 yX8_howManyFrom wsX8_howManyFrom) := goodIn_app (goodIn_of _ (by decide +kernel)) ggX8_odds_X8_howManyFrom
set_option maxRecDepth 20000 in
theorem ggX8_odds_X8_commonDivisor : GoodIn wsX8_odds wsX8_commonDivisor := goodIn_r _ [20] (by decide +kernel) (by decide +kernel)
set_option maxRecDepth 20000 in
theorem gX8_odds_X8_commonDivisor : GoodIn wsX8_odds (va_wsS RX8 283 yX8_commonDivisor wsX8_commonDivisor) := goodIn_app (goodIn_of _ (by decide +kernel)) ggX8_odds_X8_commonDivisor
theorem dX8_odds_0 : decode cX8_odds 0 = .ok (.aload_n 0, 1) := by decide +kernel
theorem dX8_odds_1 : decode cX8_odds 1 = .ok (.iload_n 1, 1) := by decide +kernel
theorem dX8_odds_2 : decode cX8_odds 2 = .ok (.iload_n 2, 1) := by decide +kernel
theorem dX8_odds_3 : decode cX8_odds 3 = .ok (.invokevirtual 174, 3) := by decide +kernel
theorem dX8_odds_6 : decode cX8_odds 6 = .ok (.ifCond .ne 14, 3) := by decide +kernel
theorem dX8_odds_9 : decode cX8_odds 9 = .ok (.iload 5, 2) := by decide +kernel
theorem dX8_odds_11 : decode cX8_odds 11 = .ok (.ifCond .eq 13, 3) := by decide +kernel
theorem dX8_odds_14 : decode cX8_odds 14 = .ok (.iload 5, 2) := by decide +kernel
theorem dX8_odds_16 : decode cX8_odds 16 = .ok (.iconst 1, 1) := by decide +kernel
theorem dX8_odds_17 : decode cX8_odds 17 = .ok (.if_icmp .eq 7, 3) := by decide +kernel
theorem dX8_odds_20 : decode cX8_odds 20 = .ok (.ldc2_w 161, 3) := by decide +kernel
theorem dX8_odds_23 : decode cX8_odds 23 = .ok (.lreturn, 1) := by decide +kernel
theorem dX8_odds_24 : decode cX8_odds 24 = .ok (.iload_n 2, 1) := by decide +kernel
theorem dX8_odds_25 : decode cX8_odds 25 = .ok (.iload_n 1, 1) := by decide +kernel
theorem dX8_odds_26 : decode cX8_odds 26 = .ok (.isub, 1) := by decide +kernel
theorem dX8_odds_27 : decode cX8_odds 27 = .ok (.iconst 1, 1) := by decide +kernel
theorem dX8_odds_28 : decode cX8_odds 28 = .ok (.iadd, 1) := by decide +kernel
theorem dX8_odds_29 : decode cX8_odds 29 = .ok (.istore 6, 2) := by decide +kernel
theorem dX8_odds_31 : decode cX8_odds 31 = .ok (.aload_n 0, 1) := by decide +kernel
theorem dX8_odds_32 : decode cX8_odds 32 = .ok (.getfield 51, 3) := by decide +kernel
theorem dX8_odds_35 : decode cX8_odds 35 = .ok (.getfield 114, 3) := by decide +kernel
theorem dX8_odds_38 : decode cX8_odds 38 = .ok (.iload_n 1, 1) := by decide +kernel
theorem dX8_odds_39 : decode cX8_odds 39 = .ok (.iload_n 2, 1) := by decide +kernel
theorem dX8_odds_40 : decode cX8_odds 40 = .ok (.lload_n 3, 1) := by decide +kernel
theorem dX8_odds_41 : decode cX8_odds 41 = .ok (.invokestatic 279, 3) := by decide +kernel
theorem dX8_odds_44 : decode cX8_odds 44 = .ok (.istore 7, 2) := by decide +kernel
theorem dX8_odds_46 : decode cX8_odds 46 = .ok (.iload 7, 2) := by decide +kernel
theorem dX8_odds_48 : decode cX8_odds 48 = .ok (.iload 6, 2) := by decide +kernel
theorem dX8_odds_50 : decode cX8_odds 50 = .ok (.invokestatic 283, 3) := by decide +kernel
theorem dX8_odds_53 : decode cX8_odds 53 = .ok (.istore 8, 2) := by decide +kernel
theorem dX8_odds_55 : decode cX8_odds 55 = .ok (.iload 5, 2) := by decide +kernel
theorem dX8_odds_57 : decode cX8_odds 57 = .ok (.ifCond .ne 12, 3) := by decide +kernel
theorem dX8_odds_60 : decode cX8_odds 60 = .ok (.iload 7, 2) := by decide +kernel
theorem dX8_odds_62 : decode cX8_odds 62 = .ok (.iload 8, 2) := by decide +kernel
theorem dX8_odds_64 : decode cX8_odds 64 = .ok (.idiv, 1) := by decide +kernel
theorem dX8_odds_65 : decode cX8_odds 65 = .ok (.i2l, 1) := by decide +kernel
theorem dX8_odds_66 : decode cX8_odds 66 = .ok (.goto 9, 3) := by decide +kernel
theorem dX8_odds_69 : decode cX8_odds 69 = .ok (.iload 6, 2) := by decide +kernel
theorem dX8_odds_71 : decode cX8_odds 71 = .ok (.iload 8, 2) := by decide +kernel
theorem dX8_odds_73 : decode cX8_odds 73 = .ok (.idiv, 1) := by decide +kernel
theorem dX8_odds_74 : decode cX8_odds 74 = .ok (.i2l, 1) := by decide +kernel
theorem dX8_odds_75 : decode cX8_odds 75 = .ok (.lreturn, 1) := by decide +kernel
set_option maxRecDepth 20000 in
theorem ggX8_fits_X1_becomeLike : GoodIn wsX8_fits wsX1_becomeLike := goodIn_r _ [15, 16, 17, 18, 19, 20, 21, 22, 95, 96, 97] (by decide +kernel) (by decide +kernel)
set_option maxRecDepth 20000 in
theorem gX8_fits_X1_becomeLike : GoodIn wsX8_fits (wsV RX8 123 RX1 yX1_becomeLike wsX1_becomeLike) := goodIn_app (goodIn_of _ (by decide +kernel)) ggX8_fits_X1_becomeLike
set_option maxRecDepth 20000 in
theorem ggX8_fits_X3_becomeLike : GoodIn wsX8_fits wsX3_becomeLike := goodIn_r _ [27, 28, 29, 30, 19, 20, 21, 31, 32, 33, 26, 34, 35, 100, 101, 102] (by decide +kernel) (by decide +kernel)
set_option maxRecDepth 20000 in
theorem gX8_fits_X3_becomeLike : GoodIn wsX8_fits (wsV RX8 139 RX3 yX3_becomeLike wsX3_becomeLike) := goodIn_app (goodIn_of _ (by decide +kernel)) ggX8_fits_X3_becomeLike
set_option maxRecDepth 20000 in
theorem ggX8_fits_X3_suffer : GoodIn wsX8_fits wsX3_suffer := goodIn_r _ [39, 40, 41, 29, 42, 35, 43, 44, 45, 46, 47, 48, 49, 26, 50, 28, 51, 52, 53, 54, 55, 56, 57, 58, 59, 60, 14, 61, 22, 17, 62, 63, 64, 65, 16, 66, 67, 68, 69, 70, 71, 103, 104, 105, 106, 100, 101, 102, 95, 96, 97] (by decide +kernel) (by decide +kernel)
set_option maxRecDepth 20000 in
theorem gX8_fits_X3_suffer : GoodIn wsX8_fits (wsV RX8 207 RX3 yX3_suffer wsX3_suffer) := goodIn_app (goodIn_of _ (by decide +kernel)) ggX8_fits_X3_suffer
set_option maxRecDepth 20000 in
theorem ggX8_fits_X4_areSoBy : GoodIn wsX8_fits wsX4_areSoBy := goodIn_r _ [76, 77, 78, 79, 80, 81, 48, 49, 26, 50, 28, 107, 108, 109, 100, 101, 102] (by decide +kernel) (by decide +kernel)
set_option maxRecDepth 20000 in
theorem gX8_fits_X4_areSoBy : GoodIn wsX8_fits (wsV RX8 290 RX4 yX4_areSoBy wsX4_areSoBy) := goodIn_app (goodIn_of _ (by decide +kernel)) ggX8_fits_X4_areSoBy
theorem dX8_fits_0 : decode cX8_fits 0 = .ok (.aload_n 0, 1) := by decide +kernel
theorem dX8_fits_1 : decode cX8_fits 1 = .ok (.getfield 31, 3) := by decide +kernel
theorem dX8_fits_4 : decode cX8_fits 4 = .ok (.aload_n 0, 1) := by decide +kernel
theorem dX8_fits_5 : decode cX8_fits 5 = .ok (.getfield 27, 3) := by decide +kernel
theorem dX8_fits_8 : decode cX8_fits 8 = .ok (.invokevirtual 123, 3) := by decide +kernel
theorem dX8_fits_11 : decode cX8_fits 11 = .ok (.aload_n 0, 1) := by decide +kernel
theorem dX8_fits_12 : decode cX8_fits 12 = .ok (.getfield 31, 3) := by decide +kernel
theorem dX8_fits_15 : decode cX8_fits 15 = .ok (.getfield 146, 3) := by decide +kernel
theorem dX8_fits_18 : decode cX8_fits 18 = .ok (.iload_n 1, 1) := by decide +kernel
theorem dX8_fits_19 : decode cX8_fits 19 = .ok (.iload_n 2, 1) := by decide +kernel
theorem dX8_fits_20 : decode cX8_fits 20 = .ok (.iastore, 1) := by decide +kernel
theorem dX8_fits_21 : decode cX8_fits 21 = .ok (.aload_n 0, 1) := by decide +kernel
theorem dX8_fits_22 : decode cX8_fits 22 = .ok (.getfield 31, 3) := by decide +kernel
theorem dX8_fits_25 : decode cX8_fits 25 = .ok (.getfield 149, 3) := by decide +kernel
theorem dX8_fits_28 : decode cX8_fits 28 = .ok (.iload_n 1, 1) := by decide +kernel
theorem dX8_fits_29 : decode cX8_fits 29 = .ok (.iload_n 3, 1) := by decide +kernel
theorem dX8_fits_30 : decode cX8_fits 30 = .ok (.iastore, 1) := by decide +kernel
theorem dX8_fits_31 : decode cX8_fits 31 = .ok (.aload_n 0, 1) := by decide +kernel
theorem dX8_fits_32 : decode cX8_fits 32 = .ok (.getfield 58, 3) := by decide +kernel
theorem dX8_fits_35 : decode cX8_fits 35 = .ok (.aload_n 0, 1) := by decide +kernel
theorem dX8_fits_36 : decode cX8_fits 36 = .ok (.getfield 55, 3) := by decide +kernel
theorem dX8_fits_39 : decode cX8_fits 39 = .ok (.invokevirtual 139, 3) := by decide +kernel
theorem dX8_fits_42 : decode cX8_fits 42 = .ok (.iconst 0, 1) := by decide +kernel
theorem dX8_fits_43 : decode cX8_fits 43 = .ok (.istore 4, 2) := by decide +kernel
theorem dX8_fits_45 : decode cX8_fits 45 = .ok (.iload 4, 2) := by decide +kernel
theorem dX8_fits_47 : decode cX8_fits 47 = .ok (.aload_n 0, 1) := by decide +kernel
theorem dX8_fits_48 : decode cX8_fits 48 = .ok (.getfield 37, 3) := by decide +kernel
theorem dX8_fits_51 : decode cX8_fits 51 = .ok (.getfield 135, 3) := by decide +kernel
theorem dX8_fits_54 : decode cX8_fits 54 = .ok (.if_icmp .ge 31, 3) := by decide +kernel
theorem dX8_fits_57 : decode cX8_fits 57 = .ok (.aload_n 0, 1) := by decide +kernel
theorem dX8_fits_58 : decode cX8_fits 58 = .ok (.getfield 58, 3) := by decide +kernel
theorem dX8_fits_61 : decode cX8_fits 61 = .ok (.aload_n 0, 1) := by decide +kernel
theorem dX8_fits_62 : decode cX8_fits 62 = .ok (.getfield 37, 3) := by decide +kernel
theorem dX8_fits_65 : decode cX8_fits 65 = .ok (.getfield 286, 3) := by decide +kernel
theorem dX8_fits_68 : decode cX8_fits 68 = .ok (.iload 4, 2) := by decide +kernel
theorem dX8_fits_70 : decode cX8_fits 70 = .ok (.aaload, 1) := by decide +kernel
theorem dX8_fits_71 : decode cX8_fits 71 = .ok (.aload_n 0, 1) := by decide +kernel
theorem dX8_fits_72 : decode cX8_fits 72 = .ok (.getfield 31, 3) := by decide +kernel
theorem dX8_fits_75 : decode cX8_fits 75 = .ok (.invokevirtual 207, 3) := by decide +kernel
theorem dX8_fits_78 : decode cX8_fits 78 = .ok (.pop, 1) := by decide +kernel
theorem dX8_fits_79 : decode cX8_fits 79 = .ok (.iinc 4 1, 3) := by decide +kernel
theorem dX8_fits_82 : decode cX8_fits 82 = .ok (.goto (-37), 3) := by decide +kernel
theorem dX8_fits_85 : decode cX8_fits 85 = .ok (.aload_n 0, 1) := by decide +kernel
theorem dX8_fits_86 : decode cX8_fits 86 = .ok (.getfield 71, 3) := by decide +kernel
theorem dX8_fits_89 : decode cX8_fits 89 = .ok (.aload_n 0, 1) := by decide +kernel
theorem dX8_fits_90 : decode cX8_fits 90 = .ok (.getfield 58, 3) := by decide +kernel
theorem dX8_fits_93 : decode cX8_fits 93 = .ok (.invokevirtual 290, 3) := by decide +kernel
theorem dX8_fits_96 : decode cX8_fits 96 = .ok (.ireturn, 1) := by decide +kernel
theorem dX8_commonDivisor_0 : decode cX8_commonDivisor 0 = .ok (.iload_n 1, 1) := by decide +kernel
theorem dX8_commonDivisor_1 : decode cX8_commonDivisor 1 = .ok (.istore_n 2, 1) := by decide +kernel
theorem dX8_commonDivisor_2 : decode cX8_commonDivisor 2 = .ok (.iload_n 2, 1) := by decide +kernel
theorem dX8_commonDivisor_3 : decode cX8_commonDivisor 3 = .ok (.iconst 1, 1) := by decide +kernel
theorem dX8_commonDivisor_4 : decode cX8_commonDivisor 4 = .ok (.if_icmp .le 23, 3) := by decide +kernel
theorem dX8_commonDivisor_7 : decode cX8_commonDivisor 7 = .ok (.iload_n 0, 1) := by decide +kernel
theorem dX8_commonDivisor_8 : decode cX8_commonDivisor 8 = .ok (.iload_n 2, 1) := by decide +kernel
theorem dX8_commonDivisor_9 : decode cX8_commonDivisor 9 = .ok (.irem, 1) := by decide +kernel
theorem dX8_commonDivisor_10 : decode cX8_commonDivisor 10 = .ok (.ifCond .ne 11, 3) := by decide +kernel
theorem dX8_commonDivisor_13 : decode cX8_commonDivisor 13 = .ok (.iload_n 1, 1) := by decide +kernel
theorem dX8_commonDivisor_14 : decode cX8_commonDivisor 14 = .ok (.iload_n 2, 1) := by decide +kernel
theorem dX8_commonDivisor_15 : decode cX8_commonDivisor 15 = .ok (.irem, 1) := by decide +kernel
theorem dX8_commonDivisor_16 : decode cX8_commonDivisor 16 = .ok (.ifCond .ne 5, 3) := by decide +kernel
theorem dX8_commonDivisor_19 : decode cX8_commonDivisor 19 = .ok (.iload_n 2, 1) := by decide +kernel
theorem dX8_commonDivisor_20 : decode cX8_commonDivisor 20 = .ok (.ireturn, 1) := by decide +kernel
theorem dX8_commonDivisor_21 : decode cX8_commonDivisor 21 = .ok (.iinc 2 (-1), 3) := by decide +kernel
theorem dX8_commonDivisor_24 : decode cX8_commonDivisor 24 = .ok (.goto (-22), 3) := by decide +kernel
theorem dX8_commonDivisor_27 : decode cX8_commonDivisor 27 = .ok (.iconst 1, 1) := by decide +kernel
theorem dX8_commonDivisor_28 : decode cX8_commonDivisor 28 = .ok (.ireturn, 1) := by decide +kernel
set_option maxRecDepth 20000 in
theorem ggX8_sheet_X8_isSheet : GoodIn wsX8_sheet wsX8_isSheet := goodIn_r _ [6] (by decide +kernel) (by decide +kernel)
set_option maxRecDepth 20000 in
theorem gX8_sheet_X8_isSheet : GoodIn wsX8_sheet (va_wsS RX8 83 yX8_isSheet wsX8_isSheet) := goodIn_app (goodIn_of _ (by decide +kernel)) ggX8_sheet_X8_isSheet
set_option maxRecDepth 20000 in
theorem ggX8_sheet_X8_isLane : GoodIn wsX8_sheet wsX8_isLane := goodIn_r _ [9] (by decide +kernel) (by decide +kernel)
set_option maxRecDepth 20000 in
theorem gX8_sheet_X8_isLane : GoodIn wsX8_sheet (va_wsS RX8 87 yX8_isLane wsX8_isLane) := goodIn_app (goodIn_of _ (by decide +kernel)) ggX8_sheet_X8_isLane
set_option maxRecDepth 20000 in
theorem ggX8_sheet_X8_failed : GoodIn wsX8_sheet wsX8_failed := goodIn_r _ [13, 1, 27, 28, 29, 30, 31, 32, 33, 34, 35, 36, 37, 38, 39] (by decide +kernel) (by decide +kernel)
set_option maxRecDepth 20000 in
theorem gX8_sheet_X8_failed : GoodIn wsX8_sheet (wsV RX8 94 RX8 yX8_failed wsX8_failed) := goodIn_app (goodIn_of _ (by decide +kernel)) ggX8_sheet_X8_failed
set_option maxRecDepth 20000 in
theorem ggX8_sheet_X5_getRow : GoodIn wsX8_sheet wsX5_getRow := goodIn_r _ [18, 19, 20, 21, 22, 23, 24, 25, 26, 40, 41, 42, 43] (by decide +kernel) (by decide +kernel)
set_option maxRecDepth 20000 in
theorem gX8_sheet_X5_getRow : GoodIn wsX8_sheet (wsV RX8 294 RX5 yX5_getRow wsX5_getRow) := goodIn_app (goodIn_of _ (by decide +kernel)) ggX8_sheet_X5_getRow
theorem dX8_sheet_0 : decode cX8_sheet 0 = .ok (.aload_n 0, 1) := by decide +kernel
theorem dX8_sheet_1 : decode cX8_sheet 1 = .ok (.iconst 0, 1) := by decide +kernel
theorem dX8_sheet_2 : decode cX8_sheet 2 = .ok (.putfield 79, 3) := by decide +kernel
theorem dX8_sheet_5 : decode cX8_sheet 5 = .ok (.iload_n 1, 1) := by decide +kernel
theorem dX8_sheet_6 : decode cX8_sheet 6 = .ok (.invokestatic 83, 3) := by decide +kernel
theorem dX8_sheet_9 : decode cX8_sheet 9 = .ok (.ifCond .ne 5, 3) := by decide +kernel
theorem dX8_sheet_12 : decode cX8_sheet 12 = .ok (.iconst (-1), 1) := by decide +kernel
theorem dX8_sheet_13 : decode cX8_sheet 13 = .ok (.ireturn, 1) := by decide +kernel
theorem dX8_sheet_14 : decode cX8_sheet 14 = .ok (.iload_n 2, 1) := by decide +kernel
theorem dX8_sheet_15 : decode cX8_sheet 15 = .ok (.invokestatic 87, 3) := by decide +kernel
theorem dX8_sheet_18 : decode cX8_sheet 18 = .ok (.ifCond .eq 9, 3) := by decide +kernel
theorem dX8_sheet_21 : decode cX8_sheet 21 = .ok (.iload_n 3, 1) := by decide +kernel
theorem dX8_sheet_22 : decode cX8_sheet 22 = .ok (.bipush 60, 2) := by decide +kernel
theorem dX8_sheet_24 : decode cX8_sheet 24 = .ok (.if_icmp .le 6, 3) := by decide +kernel
theorem dX8_sheet_27 : decode cX8_sheet 27 = .ok (.bipush (-2), 2) := by decide +kernel
theorem dX8_sheet_29 : decode cX8_sheet 29 = .ok (.ireturn, 1) := by decide +kernel
theorem dX8_sheet_30 : decode cX8_sheet 30 = .ok (.iload_n 3, 1) := by decide +kernel
theorem dX8_sheet_31 : decode cX8_sheet 31 = .ok (.ifCond .ge 9, 3) := by decide +kernel
theorem dX8_sheet_34 : decode cX8_sheet 34 = .ok (.aload_n 0, 1) := by decide +kernel
theorem dX8_sheet_35 : decode cX8_sheet 35 = .ok (.iconst 4, 1) := by decide +kernel
theorem dX8_sheet_36 : decode cX8_sheet 36 = .ok (.invokevirtual 94, 3) := by decide +kernel
theorem dX8_sheet_39 : decode cX8_sheet 39 = .ok (.ireturn, 1) := by decide +kernel
theorem dX8_sheet_40 : decode cX8_sheet 40 = .ok (.aload_n 0, 1) := by decide +kernel
theorem dX8_sheet_41 : decode cX8_sheet 41 = .ok (.getfield 13, 3) := by decide +kernel
theorem dX8_sheet_44 : decode cX8_sheet 44 = .ok (.iload_n 1, 1) := by decide +kernel
theorem dX8_sheet_45 : decode cX8_sheet 45 = .ok (.aaload, 1) := by decide +kernel
theorem dX8_sheet_46 : decode cX8_sheet 46 = .ok (.iload_n 2, 1) := by decide +kernel
theorem dX8_sheet_47 : decode cX8_sheet 47 = .ok (.iload_n 3, 1) := by decide +kernel
theorem dX8_sheet_48 : decode cX8_sheet 48 = .ok (.invokevirtual 294, 3) := by decide +kernel
theorem dX8_sheet_51 : decode cX8_sheet 51 = .ok (.iconst 1, 1) := by decide +kernel
theorem dX8_sheet_52 : decode cX8_sheet 52 = .ok (.ireturn, 1) := by decide +kernel
set_option maxRecDepth 20000 in
theorem ggX8_lose_X8_isSheet : GoodIn wsX8_lose wsX8_isSheet := goodIn_r _ [5] (by decide +kernel) (by decide +kernel)
set_option maxRecDepth 20000 in
theorem gX8_lose_X8_isSheet : GoodIn wsX8_lose (va_wsS RX8 83 yX8_isSheet wsX8_isSheet) := goodIn_app (goodIn_of _ (by decide +kernel)) ggX8_lose_X8_isSheet
set_option maxRecDepth 20000 in
theorem ggX8_lose_X5_loseRow : GoodIn wsX8_lose wsX5_loseRow := goodIn_r _ [10, 11, 12, 26, 27, 28, 29] (by decide +kernel) (by decide +kernel)
set_option maxRecDepth 20000 in
theorem gX8_lose_X5_loseRow : GoodIn wsX8_lose (wsV RX8 298 RX5 yX5_loseRow wsX5_loseRow) := goodIn_app (goodIn_of _ (by decide +kernel)) ggX8_lose_X5_loseRow
theorem dX8_lose_0 : decode cX8_lose 0 = .ok (.iload_n 1, 1) := by decide +kernel
theorem dX8_lose_1 : decode cX8_lose 1 = .ok (.invokestatic 83, 3) := by decide +kernel
theorem dX8_lose_4 : decode cX8_lose 4 = .ok (.ifCond .ne 5, 3) := by decide +kernel
theorem dX8_lose_7 : decode cX8_lose 7 = .ok (.iconst (-1), 1) := by decide +kernel
theorem dX8_lose_8 : decode cX8_lose 8 = .ok (.ireturn, 1) := by decide +kernel
theorem dX8_lose_9 : decode cX8_lose 9 = .ok (.aload_n 0, 1) := by decide +kernel
theorem dX8_lose_10 : decode cX8_lose 10 = .ok (.getfield 13, 3) := by decide +kernel
theorem dX8_lose_13 : decode cX8_lose 13 = .ok (.iload_n 1, 1) := by decide +kernel
theorem dX8_lose_14 : decode cX8_lose 14 = .ok (.aaload, 1) := by decide +kernel
theorem dX8_lose_15 : decode cX8_lose 15 = .ok (.invokevirtual 298, 3) := by decide +kernel
theorem dX8_lose_18 : decode cX8_lose 18 = .ok (.ifCond .eq 7, 3) := by decide +kernel
theorem dX8_lose_21 : decode cX8_lose 21 = .ok (.iconst 1, 1) := by decide +kernel
theorem dX8_lose_22 : decode cX8_lose 22 = .ok (.goto 4, 3) := by decide +kernel
theorem dX8_lose_25 : decode cX8_lose 25 = .ok (.iconst 0, 1) := by decide +kernel
theorem dX8_lose_26 : decode cX8_lose 26 = .ok (.ireturn, 1) := by decide +kernel
set_option maxRecDepth 20000 in
theorem ggX8_put_X8_isSheet : GoodIn wsX8_put wsX8_isSheet := goodIn_r _ [8] (by decide +kernel) (by decide +kernel)
set_option maxRecDepth 20000 in
theorem gX8_put_X8_isSheet : GoodIn wsX8_put (va_wsS RX8 83 yX8_isSheet wsX8_isSheet) := goodIn_app (goodIn_of _ (by decide +kernel)) ggX8_put_X8_isSheet
set_option maxRecDepth 20000 in
theorem ggX8_put_X8_failed : GoodIn wsX8_put wsX8_failed := goodIn_r _ [12, 1, 24, 25, 26, 27, 28, 29, 30, 31, 32, 33, 34, 35, 36] (by decide +kernel) (by decide +kernel)
set_option maxRecDepth 20000 in
theorem gX8_put_X8_failed : GoodIn wsX8_put (wsV RX8 94 RX8 yX8_failed wsX8_failed) := goodIn_app (goodIn_of _ (by decide +kernel)) ggX8_put_X8_failed
set_option maxRecDepth 20000 in
theorem ggX8_put_X5_hasCells : GoodIn wsX8_put wsX5_hasCells := goodIn_r _ [17, 18, 37, 38, 39, 40] (by decide +kernel) (by decide +kernel)
set_option maxRecDepth 20000 in
theorem gX8_put_X5_hasCells : GoodIn wsX8_put (wsV RX8 97 RX5 yX5_hasCells wsX5_hasCells) := goodIn_app (goodIn_of _ (by decide +kernel)) ggX8_put_X5_hasCells
set_option maxRecDepth 20000 in
theorem ggX8_put_X5_cut : GoodIn wsX8_put wsX5_cut := goodIn_r _ [22, 23, 37, 38, 39, 40] (by decide +kernel) (by decide +kernel)
set_option maxRecDepth 20000 in
theorem gX8_put_X5_cut : GoodIn wsX8_put (wsV RX8 307 RX5 yX5_cut wsX5_cut) := goodIn_app (goodIn_of _ (by decide +kernel)) ggX8_put_X5_cut
theorem dX8_put_0 : decode cX8_put 0 = .ok (.aload_n 0, 1) := by decide +kernel
theorem dX8_put_1 : decode cX8_put 1 = .ok (.iconst 0, 1) := by decide +kernel
theorem dX8_put_2 : decode cX8_put 2 = .ok (.putfield 79, 3) := by decide +kernel
theorem dX8_put_5 : decode cX8_put 5 = .ok (.iload_n 1, 1) := by decide +kernel
theorem dX8_put_6 : decode cX8_put 6 = .ok (.invokestatic 83, 3) := by decide +kernel
theorem dX8_put_9 : decode cX8_put 9 = .ok (.ifCond .ne 5, 3) := by decide +kernel
theorem dX8_put_12 : decode cX8_put 12 = .ok (.iconst (-1), 1) := by decide +kernel
theorem dX8_put_13 : decode cX8_put 13 = .ok (.ireturn, 1) := by decide +kernel
theorem dX8_put_14 : decode cX8_put 14 = .ok (.aload_n 0, 1) := by decide +kernel
theorem dX8_put_15 : decode cX8_put 15 = .ok (.getfield 13, 3) := by decide +kernel
theorem dX8_put_18 : decode cX8_put 18 = .ok (.iload_n 1, 1) := by decide +kernel
theorem dX8_put_19 : decode cX8_put 19 = .ok (.aaload, 1) := by decide +kernel
theorem dX8_put_20 : decode cX8_put 20 = .ok (.astore 4, 2) := by decide +kernel
theorem dX8_put_22 : decode cX8_put 22 = .ok (.aload 4, 2) := by decide +kernel
theorem dX8_put_24 : decode cX8_put 24 = .ok (.getfield 301, 3) := by decide +kernel
theorem dX8_put_27 : decode cX8_put 27 = .ok (.ifCond .ne 9, 3) := by decide +kernel
theorem dX8_put_30 : decode cX8_put 30 = .ok (.aload_n 0, 1) := by decide +kernel
theorem dX8_put_31 : decode cX8_put 31 = .ok (.iconst 1, 1) := by decide +kernel
theorem dX8_put_32 : decode cX8_put 32 = .ok (.invokevirtual 94, 3) := by decide +kernel
theorem dX8_put_35 : decode cX8_put 35 = .ok (.ireturn, 1) := by decide +kernel
theorem dX8_put_36 : decode cX8_put 36 = .ok (.aload 4, 2) := by decide +kernel
theorem dX8_put_38 : decode cX8_put 38 = .ok (.iload_n 2, 1) := by decide +kernel
theorem dX8_put_39 : decode cX8_put 39 = .ok (.iconst 1, 1) := by decide +kernel
theorem dX8_put_40 : decode cX8_put 40 = .ok (.invokevirtual 97, 3) := by decide +kernel
theorem dX8_put_43 : decode cX8_put 43 = .ok (.ifCond .ne 9, 3) := by decide +kernel
theorem dX8_put_46 : decode cX8_put 46 = .ok (.aload_n 0, 1) := by decide +kernel
theorem dX8_put_47 : decode cX8_put 47 = .ok (.iconst 3, 1) := by decide +kernel
theorem dX8_put_48 : decode cX8_put 48 = .ok (.invokevirtual 94, 3) := by decide +kernel
theorem dX8_put_51 : decode cX8_put 51 = .ok (.ireturn, 1) := by decide +kernel
theorem dX8_put_52 : decode cX8_put 52 = .ok (.aload 4, 2) := by decide +kernel
theorem dX8_put_54 : decode cX8_put 54 = .ok (.getfield 305, 3) := by decide +kernel
theorem dX8_put_57 : decode cX8_put 57 = .ok (.iload_n 2, 1) := by decide +kernel
theorem dX8_put_58 : decode cX8_put 58 = .ok (.aload 4, 2) := by decide +kernel
theorem dX8_put_60 : decode cX8_put 60 = .ok (.iload_n 3, 1) := by decide +kernel
theorem dX8_put_61 : decode cX8_put 61 = .ok (.invokevirtual 307, 3) := by decide +kernel
theorem dX8_put_64 : decode cX8_put 64 = .ok (.iastore, 1) := by decide +kernel
theorem dX8_put_65 : decode cX8_put 65 = .ok (.iconst 1, 1) := by decide +kernel
theorem dX8_put_66 : decode cX8_put 66 = .ok (.ireturn, 1) := by decide +kernel
set_option maxRecDepth 20000 in
theorem ggX8_cell_X8_isSheet : GoodIn wsX8_cell wsX8_isSheet := goodIn_r _ [8] (by decide +kernel) (by decide +kernel)
set_option maxRecDepth 20000 in
theorem gX8_cell_X8_isSheet : GoodIn wsX8_cell (va_wsS RX8 83 yX8_isSheet wsX8_isSheet) := goodIn_app (goodIn_of _ (by decide +kernel)) ggX8_cell_X8_isSheet
set_option maxRecDepth 20000 in
theorem ggX8_cell_X8_isLane : GoodIn wsX8_cell wsX8_isLane := goodIn_r _ [11] (by decide +kernel) (by decide +kernel)
set_option maxRecDepth 20000 in
theorem gX8_cell_X8_isLane : GoodIn wsX8_cell (va_wsS RX8 87 yX8_isLane wsX8_isLane) := goodIn_app (goodIn_of _ (by decide +kernel)) ggX8_cell_X8_isLane
set_option maxRecDepth 20000 in
theorem ggX8_cell_X5_faultTakenAs : GoodIn wsX8_cell wsX5_faultTakenAs := goodIn_r _ [16, 17, 18, 41, 42, 43, 44] (by decide +kernel) (by decide +kernel)
set_option maxRecDepth 20000 in
theorem gX8_cell_X5_faultTakenAs : GoodIn wsX8_cell (wsV RX8 90 RX5 yX5_faultTakenAs wsX5_faultTakenAs) := goodIn_app (goodIn_of _ (by decide +kernel)) ggX8_cell_X5_faultTakenAs
set_option maxRecDepth 20000 in
theorem ggX8_cell_X8_lost : GoodIn wsX8_cell wsX8_lost := goodIn_r _ [22, 1, 2, 28, 29, 30, 31, 32, 33, 34, 35, 36, 37, 38, 39, 40] (by decide +kernel) (by decide +kernel)
set_option maxRecDepth 20000 in
theorem gX8_cell_X8_lost : GoodIn wsX8_cell (wsV RX8 185 RX8 yX8_lost wsX8_lost) := goodIn_app (goodIn_of _ (by decide +kernel)) ggX8_cell_X8_lost
set_option maxRecDepth 20000 in
theorem ggX8_cell_X5_hasCells : GoodIn wsX8_cell wsX5_hasCells := goodIn_r _ [26, 27, 41, 42, 43, 44] (by decide +kernel) (by decide +kernel)
set_option maxRecDepth 20000 in
theorem gX8_cell_X5_hasCells : GoodIn wsX8_cell (wsV RX8 97 RX5 yX5_hasCells wsX5_hasCells) := goodIn_app (goodIn_of _ (by decide +kernel)) ggX8_cell_X5_hasCells
theorem dX8_cell_0 : decode cX8_cell 0 = .ok (.aload_n 0, 1) := by decide +kernel
theorem dX8_cell_1 : decode cX8_cell 1 = .ok (.iconst 0, 1) := by decide +kernel
theorem dX8_cell_2 : decode cX8_cell 2 = .ok (.putfield 79, 3) := by decide +kernel
theorem dX8_cell_5 : decode cX8_cell 5 = .ok (.iload_n 1, 1) := by decide +kernel
theorem dX8_cell_6 : decode cX8_cell 6 = .ok (.invokestatic 83, 3) := by decide +kernel
theorem dX8_cell_9 : decode cX8_cell 9 = .ok (.ifCond .eq 10, 3) := by decide +kernel
theorem dX8_cell_12 : decode cX8_cell 12 = .ok (.iload_n 3, 1) := by decide +kernel
theorem dX8_cell_13 : decode cX8_cell 13 = .ok (.invokestatic 87, 3) := by decide +kernel
theorem dX8_cell_16 : decode cX8_cell 16 = .ok (.ifCond .ne 7, 3) := by decide +kernel
theorem dX8_cell_19 : decode cX8_cell 19 = .ok (.ldc2_w 161, 3) := by decide +kernel
theorem dX8_cell_22 : decode cX8_cell 22 = .ok (.lreturn, 1) := by decide +kernel
theorem dX8_cell_23 : decode cX8_cell 23 = .ok (.aload_n 0, 1) := by decide +kernel
theorem dX8_cell_24 : decode cX8_cell 24 = .ok (.getfield 13, 3) := by decide +kernel
theorem dX8_cell_27 : decode cX8_cell 27 = .ok (.iload_n 1, 1) := by decide +kernel
theorem dX8_cell_28 : decode cX8_cell 28 = .ok (.aaload, 1) := by decide +kernel
theorem dX8_cell_29 : decode cX8_cell 29 = .ok (.astore 4, 2) := by decide +kernel
theorem dX8_cell_31 : decode cX8_cell 31 = .ok (.aload 4, 2) := by decide +kernel
theorem dX8_cell_33 : decode cX8_cell 33 = .ok (.iload_n 3, 1) := by decide +kernel
theorem dX8_cell_34 : decode cX8_cell 34 = .ok (.invokevirtual 90, 3) := by decide +kernel
theorem dX8_cell_37 : decode cX8_cell 37 = .ok (.istore 5, 2) := by decide +kernel
theorem dX8_cell_39 : decode cX8_cell 39 = .ok (.iload 5, 2) := by decide +kernel
theorem dX8_cell_41 : decode cX8_cell 41 = .ok (.ifCond .eq 10, 3) := by decide +kernel
theorem dX8_cell_44 : decode cX8_cell 44 = .ok (.aload_n 0, 1) := by decide +kernel
theorem dX8_cell_45 : decode cX8_cell 45 = .ok (.iload 5, 2) := by decide +kernel
theorem dX8_cell_47 : decode cX8_cell 47 = .ok (.invokevirtual 185, 3) := by decide +kernel
theorem dX8_cell_50 : decode cX8_cell 50 = .ok (.lreturn, 1) := by decide +kernel
theorem dX8_cell_51 : decode cX8_cell 51 = .ok (.aload 4, 2) := by decide +kernel
theorem dX8_cell_53 : decode cX8_cell 53 = .ok (.iload_n 2, 1) := by decide +kernel
theorem dX8_cell_54 : decode cX8_cell 54 = .ok (.iconst 1, 1) := by decide +kernel
theorem dX8_cell_55 : decode cX8_cell 55 = .ok (.invokevirtual 97, 3) := by decide +kernel
theorem dX8_cell_58 : decode cX8_cell 58 = .ok (.ifCond .eq 14, 3) := by decide +kernel
theorem dX8_cell_61 : decode cX8_cell 61 = .ok (.aload 4, 2) := by decide +kernel
theorem dX8_cell_63 : decode cX8_cell 63 = .ok (.getfield 305, 3) := by decide +kernel
theorem dX8_cell_66 : decode cX8_cell 66 = .ok (.iload_n 2, 1) := by decide +kernel
theorem dX8_cell_67 : decode cX8_cell 67 = .ok (.iaload, 1) := by decide +kernel
theorem dX8_cell_68 : decode cX8_cell 68 = .ok (.i2l, 1) := by decide +kernel
theorem dX8_cell_69 : decode cX8_cell 69 = .ok (.goto 8, 3) := by decide +kernel
theorem dX8_cell_72 : decode cX8_cell 72 = .ok (.aload_n 0, 1) := by decide +kernel
theorem dX8_cell_73 : decode cX8_cell 73 = .ok (.iconst 3, 1) := by decide +kernel
theorem dX8_cell_74 : decode cX8_cell 74 = .ok (.invokevirtual 185, 3) := by decide +kernel
theorem dX8_cell_77 : decode cX8_cell 77 = .ok (.lreturn, 1) := by decide +kernel
set_option maxRecDepth 20000 in
theorem ggX8_copy_X8_isSheet : GoodIn wsX8_copy wsX8_isSheet := goodIn_r _ [13] (by decide +kernel) (by decide +kernel)
set_option maxRecDepth 20000 in
theorem gX8_copy_X8_isSheet : GoodIn wsX8_copy (va_wsS RX8 83 yX8_isSheet wsX8_isSheet) := goodIn_app (goodIn_of _ (by decide +kernel)) ggX8_copy_X8_isSheet
set_option maxRecDepth 20000 in
theorem ggX8_copy_X8_failed : GoodIn wsX8_copy wsX8_failed := goodIn_r _ [17, 1, 24, 25, 26, 27, 28, 29, 30, 31, 32, 33, 34, 35, 36] (by decide +kernel) (by decide +kernel)
set_option maxRecDepth 20000 in
theorem gX8_copy_X8_failed : GoodIn wsX8_copy (wsV RX8 94 RX8 yX8_failed wsX8_failed) := goodIn_app (goodIn_of _ (by decide +kernel)) ggX8_copy_X8_failed
set_option maxRecDepth 20000 in
theorem ggX8_copy_X5_hasCells : GoodIn wsX8_copy wsX5_hasCells := goodIn_r _ [22, 23, 37, 38, 39, 40] (by decide +kernel) (by decide +kernel)
set_option maxRecDepth 20000 in
theorem gX8_copy_X5_hasCells : GoodIn wsX8_copy (wsV RX8 97 RX5 yX5_hasCells wsX5_hasCells) := goodIn_app (goodIn_of _ (by decide +kernel)) ggX8_copy_X5_hasCells
theorem dX8_copy_0 : decode cX8_copy 0 = .ok (.aload_n 0, 1) := by decide +kernel
theorem dX8_copy_1 : decode cX8_copy 1 = .ok (.iconst 0, 1) := by decide +kernel
theorem dX8_copy_2 : decode cX8_copy 2 = .ok (.putfield 79, 3) := by decide +kernel
theorem dX8_copy_5 : decode cX8_copy 5 = .ok (.iload_n 1, 1) := by decide +kernel
theorem dX8_copy_6 : decode cX8_copy 6 = .ok (.invokestatic 83, 3) := by decide +kernel
theorem dX8_copy_9 : decode cX8_copy 9 = .ok (.ifCond .eq 10, 3) := by decide +kernel
theorem dX8_copy_12 : decode cX8_copy 12 = .ok (.iload_n 3, 1) := by decide +kernel
theorem dX8_copy_13 : decode cX8_copy 13 = .ok (.invokestatic 83, 3) := by decide +kernel
theorem dX8_copy_16 : decode cX8_copy 16 = .ok (.ifCond .ne 5, 3) := by decide +kernel
theorem dX8_copy_19 : decode cX8_copy 19 = .ok (.iconst (-1), 1) := by decide +kernel
theorem dX8_copy_20 : decode cX8_copy 20 = .ok (.ireturn, 1) := by decide +kernel
theorem dX8_copy_21 : decode cX8_copy 21 = .ok (.aload_n 0, 1) := by decide +kernel
theorem dX8_copy_22 : decode cX8_copy 22 = .ok (.getfield 13, 3) := by decide +kernel
theorem dX8_copy_25 : decode cX8_copy 25 = .ok (.iload_n 1, 1) := by decide +kernel
theorem dX8_copy_26 : decode cX8_copy 26 = .ok (.aaload, 1) := by decide +kernel
theorem dX8_copy_27 : decode cX8_copy 27 = .ok (.astore 6, 2) := by decide +kernel
theorem dX8_copy_29 : decode cX8_copy 29 = .ok (.aload_n 0, 1) := by decide +kernel
theorem dX8_copy_30 : decode cX8_copy 30 = .ok (.getfield 13, 3) := by decide +kernel
theorem dX8_copy_33 : decode cX8_copy 33 = .ok (.iload_n 3, 1) := by decide +kernel
theorem dX8_copy_34 : decode cX8_copy 34 = .ok (.aaload, 1) := by decide +kernel
theorem dX8_copy_35 : decode cX8_copy 35 = .ok (.astore 7, 2) := by decide +kernel
theorem dX8_copy_37 : decode cX8_copy 37 = .ok (.aload 6, 2) := by decide +kernel
theorem dX8_copy_39 : decode cX8_copy 39 = .ok (.getfield 301, 3) := by decide +kernel
theorem dX8_copy_42 : decode cX8_copy 42 = .ok (.ifCond .eq 11, 3) := by decide +kernel
theorem dX8_copy_45 : decode cX8_copy 45 = .ok (.aload 7, 2) := by decide +kernel
theorem dX8_copy_47 : decode cX8_copy 47 = .ok (.getfield 301, 3) := by decide +kernel
theorem dX8_copy_50 : decode cX8_copy 50 = .ok (.ifCond .ne 9, 3) := by decide +kernel
theorem dX8_copy_53 : decode cX8_copy 53 = .ok (.aload_n 0, 1) := by decide +kernel
theorem dX8_copy_54 : decode cX8_copy 54 = .ok (.iconst 1, 1) := by decide +kernel
theorem dX8_copy_55 : decode cX8_copy 55 = .ok (.invokevirtual 94, 3) := by decide +kernel
theorem dX8_copy_58 : decode cX8_copy 58 = .ok (.ireturn, 1) := by decide +kernel
theorem dX8_copy_59 : decode cX8_copy 59 = .ok (.aload 6, 2) := by decide +kernel
theorem dX8_copy_61 : decode cX8_copy 61 = .ok (.getfield 310, 3) := by decide +kernel
theorem dX8_copy_64 : decode cX8_copy 64 = .ok (.aload 7, 2) := by decide +kernel
theorem dX8_copy_66 : decode cX8_copy 66 = .ok (.getfield 310, 3) := by decide +kernel
theorem dX8_copy_69 : decode cX8_copy 69 = .ok (.if_icmp .eq 9, 3) := by decide +kernel
theorem dX8_copy_72 : decode cX8_copy 72 = .ok (.aload_n 0, 1) := by decide +kernel
theorem dX8_copy_73 : decode cX8_copy 73 = .ok (.iconst 2, 1) := by decide +kernel
theorem dX8_copy_74 : decode cX8_copy 74 = .ok (.invokevirtual 94, 3) := by decide +kernel
theorem dX8_copy_77 : decode cX8_copy 77 = .ok (.ireturn, 1) := by decide +kernel
theorem dX8_copy_78 : decode cX8_copy 78 = .ok (.aload 6, 2) := by decide +kernel
theorem dX8_copy_80 : decode cX8_copy 80 = .ok (.iload_n 2, 1) := by decide +kernel
theorem dX8_copy_81 : decode cX8_copy 81 = .ok (.iload 5, 2) := by decide +kernel
theorem dX8_copy_83 : decode cX8_copy 83 = .ok (.invokevirtual 97, 3) := by decide +kernel
theorem dX8_copy_86 : decode cX8_copy 86 = .ok (.ifCond .eq 15, 3) := by decide +kernel
theorem dX8_copy_89 : decode cX8_copy 89 = .ok (.aload 7, 2) := by decide +kernel
theorem dX8_copy_91 : decode cX8_copy 91 = .ok (.iload 4, 2) := by decide +kernel
theorem dX8_copy_93 : decode cX8_copy 93 = .ok (.iload 5, 2) := by decide +kernel
theorem dX8_copy_95 : decode cX8_copy 95 = .ok (.invokevirtual 97, 3) := by decide +kernel
theorem dX8_copy_98 : decode cX8_copy 98 = .ok (.ifCond .ne 9, 3) := by decide +kernel
theorem dX8_copy_101 : decode cX8_copy 101 = .ok (.aload_n 0, 1) := by decide +kernel
theorem dX8_copy_102 : decode cX8_copy 102 = .ok (.iconst 3, 1) := by decide +kernel
theorem dX8_copy_103 : decode cX8_copy 103 = .ok (.invokevirtual 94, 3) := by decide +kernel
theorem dX8_copy_106 : decode cX8_copy 106 = .ok (.ireturn, 1) := by decide +kernel
theorem dX8_copy_107 : decode cX8_copy 107 = .ok (.aload 6, 2) := by decide +kernel
theorem dX8_copy_109 : decode cX8_copy 109 = .ok (.getfield 305, 3) := by decide +kernel
theorem dX8_copy_112 : decode cX8_copy 112 = .ok (.iload_n 2, 1) := by decide +kernel
theorem dX8_copy_113 : decode cX8_copy 113 = .ok (.aload 7, 2) := by decide +kernel
theorem dX8_copy_115 : decode cX8_copy 115 = .ok (.getfield 305, 3) := by decide +kernel
theorem dX8_copy_118 : decode cX8_copy 118 = .ok (.iload 4, 2) := by decide +kernel
theorem dX8_copy_120 : decode cX8_copy 120 = .ok (.iload 5, 2) := by decide +kernel
theorem dX8_copy_122 : decode cX8_copy 122 = .ok (.invokestatic 313, 3) := by decide +kernel
theorem dX8_copy_125 : decode cX8_copy 125 = .ok (.iload 5, 2) := by decide +kernel
theorem dX8_copy_127 : decode cX8_copy 127 = .ok (.ireturn, 1) := by decide +kernel
set_option maxRecDepth 20000 in
theorem ggX8_tell_X1_has : GoodIn wsX8_tell wsX1_has := goodIn_r _ [8, 9, 41, 42, 43] (by decide +kernel) (by decide +kernel)
set_option maxRecDepth 20000 in
theorem gX8_tell_X1_has : GoodIn wsX8_tell (wsV RX8 142 RX1 yX1_has wsX1_has) := goodIn_app (goodIn_of _ (by decide +kernel)) ggX8_tell_X1_has
set_option maxRecDepth 20000 in
theorem ggX8_tell_X8_doubleBody : GoodIn wsX8_tell wsX8_doubleBody := goodIn_r _ [14, 15, 16, 17, 13, 18, 19, 20, 21, 22, 23, 24, 25, 26, 27, 28, 29, 30, 31, 32, 33, 34, 35, 36, 37, 38, 39, 40] (by decide +kernel) (by decide +kernel)
set_option maxRecDepth 20000 in
theorem gX8_tell_X8_doubleBody : GoodIn wsX8_tell (wsV RX8 319 RX8 yX8_doubleBody wsX8_doubleBody) := goodIn_app (goodIn_of _ (by decide +kernel)) ggX8_tell_X8_doubleBody
set_option maxRecDepth 20000 in
theorem ggX8_tell_X8_broadBody : GoodIn wsX8_tell wsX8_broadBody := goodIn_r _ [23, 15, 16, 17, 13, 18, 19, 24, 25, 26, 27, 28, 29, 30, 31, 32, 33, 34, 35, 36, 37, 38, 39, 40] (by decide +kernel) (by decide +kernel)
set_option maxRecDepth 20000 in
theorem gX8_tell_X8_broadBody : GoodIn wsX8_tell (wsV RX8 322 RX8 yX8_broadBody wsX8_broadBody) := goodIn_app (goodIn_of _ (by decide +kernel)) ggX8_tell_X8_broadBody
set_option maxRecDepth 20000 in
theorem ggX8_tell_X8_plainBody : GoodIn wsX8_tell wsX8_plainBody := goodIn_r _ [27, 15, 16, 17, 13, 18, 19, 28, 29, 30, 31, 32, 33, 34, 35, 36, 37, 38, 39, 40] (by decide +kernel) (by decide +kernel)
set_option maxRecDepth 20000 in
theorem gX8_tell_X8_plainBody : GoodIn wsX8_tell (wsV RX8 325 RX8 yX8_plainBody wsX8_plainBody) := goodIn_app (goodIn_of _ (by decide +kernel)) ggX8_tell_X8_plainBody
theorem dX8_tell_0 : decode cX8_tell 0 = .ok (.aload_n 0, 1) := by decide +kernel
theorem dX8_tell_1 : decode cX8_tell 1 = .ok (.getfield 27, 3) := by decide +kernel
theorem dX8_tell_4 : decode cX8_tell 4 = .ok (.iload_n 1, 1) := by decide +kernel
theorem dX8_tell_5 : decode cX8_tell 5 = .ok (.i2l, 1) := by decide +kernel
theorem dX8_tell_6 : decode cX8_tell 6 = .ok (.invokevirtual 142, 3) := by decide +kernel
theorem dX8_tell_9 : decode cX8_tell 9 = .ok (.ifCond .ne 5, 3) := by decide +kernel
theorem dX8_tell_12 : decode cX8_tell 12 = .ok (.iconst (-1), 1) := by decide +kernel
theorem dX8_tell_13 : decode cX8_tell 13 = .ok (.ireturn, 1) := by decide +kernel
theorem dX8_tell_14 : decode cX8_tell 14 = .ok (.aload_n 0, 1) := by decide +kernel
theorem dX8_tell_15 : decode cX8_tell 15 = .ok (.getfield 27, 3) := by decide +kernel
theorem dX8_tell_18 : decode cX8_tell 18 = .ok (.getfield 149, 3) := by decide +kernel
theorem dX8_tell_21 : decode cX8_tell 21 = .ok (.iload_n 1, 1) := by decide +kernel
theorem dX8_tell_22 : decode cX8_tell 22 = .ok (.iaload, 1) := by decide +kernel
theorem dX8_tell_23 : decode cX8_tell 23 = .ok (.istore_n 2, 1) := by decide +kernel
theorem dX8_tell_24 : decode cX8_tell 24 = .ok (.aload_n 0, 1) := by decide +kernel
theorem dX8_tell_25 : decode cX8_tell 25 = .ok (.getfield 27, 3) := by decide +kernel
theorem dX8_tell_28 : decode cX8_tell 28 = .ok (.getfield 146, 3) := by decide +kernel
theorem dX8_tell_31 : decode cX8_tell 31 = .ok (.iload_n 1, 1) := by decide +kernel
theorem dX8_tell_32 : decode cX8_tell 32 = .ok (.iaload, 1) := by decide +kernel
theorem dX8_tell_33 : decode cX8_tell 33 = .ok (.lookupswitch 39 #[(1, 33), (2, 27)], 27) := by decide +kernel
theorem dX8_tell_60 : decode cX8_tell 60 = .ok (.aload_n 0, 1) := by decide +kernel
theorem dX8_tell_61 : decode cX8_tell 61 = .ok (.iload_n 2, 1) := by decide +kernel
theorem dX8_tell_62 : decode cX8_tell 62 = .ok (.invokevirtual 319, 3) := by decide +kernel
theorem dX8_tell_65 : decode cX8_tell 65 = .ok (.ireturn, 1) := by decide +kernel
theorem dX8_tell_66 : decode cX8_tell 66 = .ok (.aload_n 0, 1) := by decide +kernel
theorem dX8_tell_67 : decode cX8_tell 67 = .ok (.iload_n 2, 1) := by decide +kernel
theorem dX8_tell_68 : decode cX8_tell 68 = .ok (.invokevirtual 322, 3) := by decide +kernel
theorem dX8_tell_71 : decode cX8_tell 71 = .ok (.ireturn, 1) := by decide +kernel
theorem dX8_tell_72 : decode cX8_tell 72 = .ok (.aload_n 0, 1) := by decide +kernel
theorem dX8_tell_73 : decode cX8_tell 73 = .ok (.iload_n 2, 1) := by decide +kernel
theorem dX8_tell_74 : decode cX8_tell 74 = .ok (.invokevirtual 325, 3) := by decide +kernel
theorem dX8_tell_77 : decode cX8_tell 77 = .ok (.ireturn, 1) := by decide +kernel
set_option maxRecDepth 20000 in
theorem ggX8_cheer_X1_has : GoodIn wsX8_cheer wsX1_has := goodIn_r _ [7, 8, 28, 29, 30] (by decide +kernel) (by decide +kernel)
set_option maxRecDepth 20000 in
theorem gX8_cheer_X1_has : GoodIn wsX8_cheer (wsV RX8 142 RX1 yX1_has wsX1_has) := goodIn_app (goodIn_of _ (by decide +kernel)) ggX8_cheer_X1_has
set_option maxRecDepth 20000 in
theorem ggX8_cheer_X8_leave : GoodIn wsX8_cheer wsX8_leave := goodIn_r _ [13, 14, 15, 16, 17, 18, 19, 20, 21, 22, 23, 24, 25, 26, 27] (by decide +kernel) (by decide +kernel)
set_option maxRecDepth 20000 in
theorem gX8_cheer_X8_leave : GoodIn wsX8_cheer (wsV RX8 328 RX8 yX8_leave wsX8_leave) := goodIn_app (goodIn_of _ (by decide +kernel)) ggX8_cheer_X8_leave
theorem dX8_cheer_0 : decode cX8_cheer 0 = .ok (.aload_n 0, 1) := by decide +kernel
theorem dX8_cheer_1 : decode cX8_cheer 1 = .ok (.getfield 27, 3) := by decide +kernel
theorem dX8_cheer_4 : decode cX8_cheer 4 = .ok (.iload_n 1, 1) := by decide +kernel
theorem dX8_cheer_5 : decode cX8_cheer 5 = .ok (.i2l, 1) := by decide +kernel
theorem dX8_cheer_6 : decode cX8_cheer 6 = .ok (.invokevirtual 142, 3) := by decide +kernel
theorem dX8_cheer_9 : decode cX8_cheer 9 = .ok (.ifCond .ne 5, 3) := by decide +kernel
theorem dX8_cheer_12 : decode cX8_cheer 12 = .ok (.iconst (-1), 1) := by decide +kernel
theorem dX8_cheer_13 : decode cX8_cheer 13 = .ok (.ireturn, 1) := by decide +kernel
theorem dX8_cheer_14 : decode cX8_cheer 14 = .ok (.aload_n 0, 1) := by decide +kernel
theorem dX8_cheer_15 : decode cX8_cheer 15 = .ok (.getfield 27, 3) := by decide +kernel
theorem dX8_cheer_18 : decode cX8_cheer 18 = .ok (.getfield 146, 3) := by decide +kernel
theorem dX8_cheer_21 : decode cX8_cheer 21 = .ok (.iload_n 1, 1) := by decide +kernel
theorem dX8_cheer_22 : decode cX8_cheer 22 = .ok (.iaload, 1) := by decide +kernel
theorem dX8_cheer_23 : decode cX8_cheer 23 = .ok (.iconst 2, 1) := by decide +kernel
theorem dX8_cheer_24 : decode cX8_cheer 24 = .ok (.if_icmp .ne 7, 3) := by decide +kernel
theorem dX8_cheer_27 : decode cX8_cheer 27 = .ok (.iconst 1, 1) := by decide +kernel
theorem dX8_cheer_28 : decode cX8_cheer 28 = .ok (.goto 4, 3) := by decide +kernel
theorem dX8_cheer_31 : decode cX8_cheer 31 = .ok (.iconst 0, 1) := by decide +kernel
theorem dX8_cheer_32 : decode cX8_cheer 32 = .ok (.istore_n 2, 1) := by decide +kernel
theorem dX8_cheer_33 : decode cX8_cheer 33 = .ok (.aload_n 0, 1) := by decide +kernel
theorem dX8_cheer_34 : decode cX8_cheer 34 = .ok (.iload_n 2, 1) := by decide +kernel
theorem dX8_cheer_35 : decode cX8_cheer 35 = .ok (.ifCond .eq 7, 3) := by decide +kernel
theorem dX8_cheer_38 : decode cX8_cheer 38 = .ok (.iconst 5, 1) := by decide +kernel
theorem dX8_cheer_39 : decode cX8_cheer 39 = .ok (.goto 4, 3) := by decide +kernel
theorem dX8_cheer_42 : decode cX8_cheer 42 = .ok (.iconst 4, 1) := by decide +kernel
theorem dX8_cheer_43 : decode cX8_cheer 43 = .ok (.invokevirtual 328, 3) := by decide +kernel
theorem dX8_cheer_46 : decode cX8_cheer 46 = .ok (.iload_n 2, 1) := by decide +kernel
theorem dX8_cheer_47 : decode cX8_cheer 47 = .ok (.ifCond .eq 8, 3) := by decide +kernel
theorem dX8_cheer_50 : decode cX8_cheer 50 = .ok (.bipush 60, 2) := by decide +kernel
theorem dX8_cheer_52 : decode cX8_cheer 52 = .ok (.goto 4, 3) := by decide +kernel
theorem dX8_cheer_55 : decode cX8_cheer 55 = .ok (.iload_n 1, 1) := by decide +kernel
theorem dX8_cheer_56 : decode cX8_cheer 56 = .ok (.ireturn, 1) := by decide +kernel
set_option maxRecDepth 20000 in
theorem ggX8_as_X1_has : GoodIn wsX8_as wsX1_has := goodIn_r _ [8, 9, 28, 29, 30] (by decide +kernel) (by decide +kernel)
set_option maxRecDepth 20000 in
theorem gX8_as_X1_has : GoodIn wsX8_as (wsV RX8 142 RX1 yX1_has wsX1_has) := goodIn_app (goodIn_of _ (by decide +kernel)) ggX8_as_X1_has
set_option maxRecDepth 20000 in
theorem ggX8_as_X8_failed : GoodIn wsX8_as wsX8_failed := goodIn_r _ [14, 1, 15, 16, 17, 18, 19, 20, 21, 22, 23, 24, 25, 26, 27] (by decide +kernel) (by decide +kernel)
set_option maxRecDepth 20000 in
theorem gX8_as_X8_failed : GoodIn wsX8_as (wsV RX8 94 RX8 yX8_failed wsX8_failed) := goodIn_app (goodIn_of _ (by decide +kernel)) ggX8_as_X8_failed
theorem dX8_as_0 : decode cX8_as 0 = .ok (.aload_n 0, 1) := by decide +kernel
theorem dX8_as_1 : decode cX8_as 1 = .ok (.iconst 0, 1) := by decide +kernel
theorem dX8_as_2 : decode cX8_as 2 = .ok (.putfield 79, 3) := by decide +kernel
theorem dX8_as_5 : decode cX8_as 5 = .ok (.aload_n 0, 1) := by decide +kernel
theorem dX8_as_6 : decode cX8_as 6 = .ok (.getfield 27, 3) := by decide +kernel
theorem dX8_as_9 : decode cX8_as 9 = .ok (.iload_n 1, 1) := by decide +kernel
theorem dX8_as_10 : decode cX8_as 10 = .ok (.i2l, 1) := by decide +kernel
theorem dX8_as_11 : decode cX8_as 11 = .ok (.invokevirtual 142, 3) := by decide +kernel
theorem dX8_as_14 : decode cX8_as 14 = .ok (.ifCond .ne 5, 3) := by decide +kernel
theorem dX8_as_17 : decode cX8_as 17 = .ok (.iconst (-1), 1) := by decide +kernel
theorem dX8_as_18 : decode cX8_as 18 = .ok (.ireturn, 1) := by decide +kernel
theorem dX8_as_19 : decode cX8_as 19 = .ok (.iload_n 2, 1) := by decide +kernel
theorem dX8_as_20 : decode cX8_as 20 = .ok (.ifCond .lt 8, 3) := by decide +kernel
theorem dX8_as_23 : decode cX8_as 23 = .ok (.iload_n 2, 1) := by decide +kernel
theorem dX8_as_24 : decode cX8_as 24 = .ok (.iconst 2, 1) := by decide +kernel
theorem dX8_as_25 : decode cX8_as 25 = .ok (.if_icmp .le 6, 3) := by decide +kernel
theorem dX8_as_28 : decode cX8_as 28 = .ok (.bipush (-2), 2) := by decide +kernel
theorem dX8_as_30 : decode cX8_as 30 = .ok (.ireturn, 1) := by decide +kernel
theorem dX8_as_31 : decode cX8_as 31 = .ok (.aload_n 0, 1) := by decide +kernel
theorem dX8_as_32 : decode cX8_as 32 = .ok (.getfield 27, 3) := by decide +kernel
theorem dX8_as_35 : decode cX8_as 35 = .ok (.getfield 146, 3) := by decide +kernel
theorem dX8_as_38 : decode cX8_as 38 = .ok (.iload_n 1, 1) := by decide +kernel
theorem dX8_as_39 : decode cX8_as 39 = .ok (.iaload, 1) := by decide +kernel
theorem dX8_as_40 : decode cX8_as 40 = .ok (.iload_n 2, 1) := by decide +kernel
theorem dX8_as_41 : decode cX8_as 41 = .ok (.if_icmp .ge 11, 3) := by decide +kernel
theorem dX8_as_44 : decode cX8_as 44 = .ok (.aload_n 0, 1) := by decide +kernel
theorem dX8_as_45 : decode cX8_as 45 = .ok (.iconst 2, 1) := by decide +kernel
theorem dX8_as_46 : decode cX8_as 46 = .ok (.invokevirtual 94, 3) := by decide +kernel
theorem dX8_as_49 : decode cX8_as 49 = .ok (.goto 4, 3) := by decide +kernel
theorem dX8_as_52 : decode cX8_as 52 = .ok (.iconst 1, 1) := by decide +kernel
theorem dX8_as_53 : decode cX8_as 53 = .ok (.ireturn, 1) := by decide +kernel
theorem dX8_trace_0 : decode cX8_trace 0 = .ok (.aload_n 0, 1) := by decide +kernel
theorem dX8_trace_1 : decode cX8_trace 1 = .ok (.getfield 75, 3) := by decide +kernel
theorem dX8_trace_4 : decode cX8_trace 4 = .ok (.ireturn, 1) := by decide +kernel
theorem dX8_fault_0 : decode cX8_fault 0 = .ok (.aload_n 0, 1) := by decide +kernel
theorem dX8_fault_1 : decode cX8_fault 1 = .ok (.getfield 79, 3) := by decide +kernel
theorem dX8_fault_4 : decode cX8_fault 4 = .ok (.ireturn, 1) := by decide +kernel
set_option maxRecDepth 20000 in
theorem ggX8_many_X6_count : GoodIn wsX8_many wsX6_count := goodIn_r _ [14, 15, 16, 17, 13, 18, 19, 20, 45, 46] (by decide +kernel) (by decide +kernel)
set_option maxRecDepth 20000 in
theorem gX8_many_X6_count : GoodIn wsX8_many (wsV RX8 332 RX6 yX6_count wsX6_count) := goodIn_app (goodIn_of _ (by decide +kernel)) ggX8_many_X6_count
theorem dX8_many_0 : decode cX8_many 0 = .ok (.iload_n 1, 1) := by decide +kernel
theorem dX8_many_1 : decode cX8_many 1 = .ok (.tableswitch 75 0 4 #[35, 43, 51, 59, 67], 35) := by decide +kernel
theorem dX8_many_36 : decode cX8_many 36 = .ok (.aload_n 0, 1) := by decide +kernel
theorem dX8_many_37 : decode cX8_many 37 = .ok (.getfield 51, 3) := by decide +kernel
theorem dX8_many_40 : decode cX8_many 40 = .ok (.getfield 108, 3) := by decide +kernel
theorem dX8_many_43 : decode cX8_many 43 = .ok (.ireturn, 1) := by decide +kernel
theorem dX8_many_44 : decode cX8_many 44 = .ok (.aload_n 0, 1) := by decide +kernel
theorem dX8_many_45 : decode cX8_many 45 = .ok (.getfield 27, 3) := by decide +kernel
theorem dX8_many_48 : decode cX8_many 48 = .ok (.getfield 331, 3) := by decide +kernel
theorem dX8_many_51 : decode cX8_many 51 = .ok (.ireturn, 1) := by decide +kernel
theorem dX8_many_52 : decode cX8_many 52 = .ok (.aload_n 0, 1) := by decide +kernel
theorem dX8_many_53 : decode cX8_many 53 = .ok (.getfield 37, 3) := by decide +kernel
theorem dX8_many_56 : decode cX8_many 56 = .ok (.getfield 135, 3) := by decide +kernel
theorem dX8_many_59 : decode cX8_many 59 = .ok (.ireturn, 1) := by decide +kernel
theorem dX8_many_60 : decode cX8_many 60 = .ok (.aload_n 0, 1) := by decide +kernel
theorem dX8_many_61 : decode cX8_many 61 = .ok (.getfield 64, 3) := by decide +kernel
theorem dX8_many_64 : decode cX8_many 64 = .ok (.invokevirtual 332, 3) := by decide +kernel
theorem dX8_many_67 : decode cX8_many 67 = .ok (.ireturn, 1) := by decide +kernel
theorem dX8_many_68 : decode cX8_many 68 = .ok (.aload_n 0, 1) := by decide +kernel
theorem dX8_many_69 : decode cX8_many 69 = .ok (.getfield 71, 3) := by decide +kernel
theorem dX8_many_72 : decode cX8_many 72 = .ok (.getfield 131, 3) := by decide +kernel
theorem dX8_many_75 : decode cX8_many 75 = .ok (.ireturn, 1) := by decide +kernel
theorem dX8_many_76 : decode cX8_many 76 = .ok (.bipush (-2), 2) := by decide +kernel
theorem dX8_many_78 : decode cX8_many 78 = .ok (.ireturn, 1) := by decide +kernel
set_option maxRecDepth 20000 in
theorem ggX8_plainBody_X8_leave : GoodIn wsX8_plainBody wsX8_leave := goodIn_r _ [5, 6, 7, 8, 9, 10, 11, 12, 13, 14, 15, 16, 17, 18, 19] (by decide +kernel) (by decide +kernel)
set_option maxRecDepth 20000 in
theorem gX8_plainBody_X8_leave : GoodIn wsX8_plainBody (wsV RX8 328 RX8 yX8_leave wsX8_leave) := goodIn_app (goodIn_of _ (by decide +kernel)) ggX8_plainBody_X8_leave
theorem dX8_plainBody_0 : decode cX8_plainBody 0 = .ok (.aload_n 0, 1) := by decide +kernel
theorem dX8_plainBody_1 : decode cX8_plainBody 1 = .ok (.iconst 1, 1) := by decide +kernel
theorem dX8_plainBody_2 : decode cX8_plainBody 2 = .ok (.invokevirtual 328, 3) := by decide +kernel
theorem dX8_plainBody_5 : decode cX8_plainBody 5 = .ok (.iload_n 1, 1) := by decide +kernel
theorem dX8_plainBody_6 : decode cX8_plainBody 6 = .ok (.ireturn, 1) := by decide +kernel
set_option maxRecDepth 20000 in
theorem ggX8_broadBody_X8_leave : GoodIn wsX8_broadBody wsX8_leave := goodIn_r _ [5, 6, 11, 12, 13, 14, 15, 16, 17, 18, 19, 20, 21, 22, 23] (by decide +kernel) (by decide +kernel)
set_option maxRecDepth 20000 in
theorem gX8_broadBody_X8_leave : GoodIn wsX8_broadBody (wsV RX8 328 RX8 yX8_leave wsX8_leave) := goodIn_app (goodIn_of _ (by decide +kernel)) ggX8_broadBody_X8_leave
set_option maxRecDepth 20000 in
theorem ggX8_broadBody_X8_plainBody : GoodIn wsX8_broadBody wsX8_plainBody := goodIn_r _ [10, 1, 2, 3, 4, 5, 6, 11, 12, 13, 14, 15, 16, 17, 18, 19, 20, 21, 22, 23] (by decide +kernel) (by decide +kernel)
set_option maxRecDepth 20000 in
theorem gX8_broadBody_X8_plainBody : GoodIn wsX8_broadBody (wsV RX8 325 RX8 yX8_plainBody wsX8_plainBody) := goodIn_app (goodIn_of _ (by decide +kernel)) ggX8_broadBody_X8_plainBody
theorem dX8_broadBody_0 : decode cX8_broadBody 0 = .ok (.aload_n 0, 1) := by decide +kernel
theorem dX8_broadBody_1 : decode cX8_broadBody 1 = .ok (.iconst 2, 1) := by decide +kernel
theorem dX8_broadBody_2 : decode cX8_broadBody 2 = .ok (.invokevirtual 328, 3) := by decide +kernel
theorem dX8_broadBody_5 : decode cX8_broadBody 5 = .ok (.aload_n 0, 1) := by decide +kernel
theorem dX8_broadBody_6 : decode cX8_broadBody 6 = .ok (.iload_n 1, 1) := by decide +kernel
theorem dX8_broadBody_7 : decode cX8_broadBody 7 = .ok (.invokevirtual 325, 3) := by decide +kernel
theorem dX8_broadBody_10 : decode cX8_broadBody 10 = .ok (.bipush 100, 2) := by decide +kernel
theorem dX8_broadBody_12 : decode cX8_broadBody 12 = .ok (.iadd, 1) := by decide +kernel
theorem dX8_broadBody_13 : decode cX8_broadBody 13 = .ok (.ireturn, 1) := by decide +kernel
set_option maxRecDepth 20000 in
theorem ggX8_doubleBody_X8_leave : GoodIn wsX8_doubleBody wsX8_leave := goodIn_r _ [5, 6, 15, 16, 17, 18, 19, 20, 21, 22, 23, 24, 25, 26, 27] (by decide +kernel) (by decide +kernel)
set_option maxRecDepth 20000 in
theorem gX8_doubleBody_X8_leave : GoodIn wsX8_doubleBody (wsV RX8 328 RX8 yX8_leave wsX8_leave) := goodIn_app (goodIn_of _ (by decide +kernel)) ggX8_doubleBody_X8_leave
set_option maxRecDepth 20000 in
theorem ggX8_doubleBody_X8_broadBody : GoodIn wsX8_doubleBody wsX8_broadBody := goodIn_r _ [10, 1, 2, 3, 4, 5, 6, 11, 12, 13, 14, 15, 16, 17, 18, 19, 20, 21, 22, 23, 24, 25, 26, 27] (by decide +kernel) (by decide +kernel)
set_option maxRecDepth 20000 in
theorem gX8_doubleBody_X8_broadBody : GoodIn wsX8_doubleBody (wsV RX8 322 RX8 yX8_broadBody wsX8_broadBody) := goodIn_app (goodIn_of _ (by decide +kernel)) ggX8_doubleBody_X8_broadBody
set_option maxRecDepth 20000 in
theorem ggX8_doubleBody_X8_plainBody : GoodIn wsX8_doubleBody wsX8_plainBody := goodIn_r _ [14, 1, 2, 3, 4, 5, 6, 15, 16, 17, 18, 19, 20, 21, 22, 23, 24, 25, 26, 27] (by decide +kernel) (by decide +kernel)
set_option maxRecDepth 20000 in
theorem gX8_doubleBody_X8_plainBody : GoodIn wsX8_doubleBody (wsV RX8 325 RX8 yX8_plainBody wsX8_plainBody) := goodIn_app (goodIn_of _ (by decide +kernel)) ggX8_doubleBody_X8_plainBody
theorem dX8_doubleBody_0 : decode cX8_doubleBody 0 = .ok (.aload_n 0, 1) := by decide +kernel
theorem dX8_doubleBody_1 : decode cX8_doubleBody 1 = .ok (.iconst 3, 1) := by decide +kernel
theorem dX8_doubleBody_2 : decode cX8_doubleBody 2 = .ok (.invokevirtual 328, 3) := by decide +kernel
theorem dX8_doubleBody_5 : decode cX8_doubleBody 5 = .ok (.aload_n 0, 1) := by decide +kernel
theorem dX8_doubleBody_6 : decode cX8_doubleBody 6 = .ok (.iload_n 1, 1) := by decide +kernel
theorem dX8_doubleBody_7 : decode cX8_doubleBody 7 = .ok (.invokevirtual 322, 3) := by decide +kernel
theorem dX8_doubleBody_10 : decode cX8_doubleBody 10 = .ok (.istore_n 2, 1) := by decide +kernel
theorem dX8_doubleBody_11 : decode cX8_doubleBody 11 = .ok (.iload_n 2, 1) := by decide +kernel
theorem dX8_doubleBody_12 : decode cX8_doubleBody 12 = .ok (.aload_n 0, 1) := by decide +kernel
theorem dX8_doubleBody_13 : decode cX8_doubleBody 13 = .ok (.iload_n 1, 1) := by decide +kernel
theorem dX8_doubleBody_14 : decode cX8_doubleBody 14 = .ok (.invokevirtual 325, 3) := by decide +kernel
theorem dX8_doubleBody_17 : decode cX8_doubleBody 17 = .ok (.iadd, 1) := by decide +kernel
theorem dX8_doubleBody_18 : decode cX8_doubleBody 18 = .ok (.ireturn, 1) := by decide +kernel
theorem dX8_leave_0 : decode cX8_leave 0 = .ok (.aload_n 0, 1) := by decide +kernel
theorem dX8_leave_1 : decode cX8_leave 1 = .ok (.bipush 31, 2) := by decide +kernel
theorem dX8_leave_3 : decode cX8_leave 3 = .ok (.aload_n 0, 1) := by decide +kernel
theorem dX8_leave_4 : decode cX8_leave 4 = .ok (.getfield 75, 3) := by decide +kernel
theorem dX8_leave_7 : decode cX8_leave 7 = .ok (.imul, 1) := by decide +kernel
theorem dX8_leave_8 : decode cX8_leave 8 = .ok (.iload_n 1, 1) := by decide +kernel
theorem dX8_leave_9 : decode cX8_leave 9 = .ok (.iadd, 1) := by decide +kernel
theorem dX8_leave_10 : decode cX8_leave 10 = .ok (.putfield 75, 3) := by decide +kernel
theorem dX8_leave_13 : decode cX8_leave 13 = .ok (.return_, 1) := by decide +kernel
theorem dX8_isSheet_0 : decode cX8_isSheet 0 = .ok (.iload_n 0, 1) := by decide +kernel
theorem dX8_isSheet_1 : decode cX8_isSheet 1 = .ok (.ifCond .lt 12, 3) := by decide +kernel
theorem dX8_isSheet_4 : decode cX8_isSheet 4 = .ok (.iload_n 0, 1) := by decide +kernel
theorem dX8_isSheet_5 : decode cX8_isSheet 5 = .ok (.iconst 4, 1) := by decide +kernel
theorem dX8_isSheet_6 : decode cX8_isSheet 6 = .ok (.if_icmp .ge 7, 3) := by decide +kernel
theorem dX8_isSheet_9 : decode cX8_isSheet 9 = .ok (.iconst 1, 1) := by decide +kernel
theorem dX8_isSheet_10 : decode cX8_isSheet 10 = .ok (.goto 4, 3) := by decide +kernel
theorem dX8_isSheet_13 : decode cX8_isSheet 13 = .ok (.iconst 0, 1) := by decide +kernel
theorem dX8_isSheet_14 : decode cX8_isSheet 14 = .ok (.ireturn, 1) := by decide +kernel
theorem dX8_isLane_0 : decode cX8_isLane 0 = .ok (.iload_n 0, 1) := by decide +kernel
theorem dX8_isLane_1 : decode cX8_isLane 1 = .ok (.ifCond .lt 12, 3) := by decide +kernel
theorem dX8_isLane_4 : decode cX8_isLane 4 = .ok (.iload_n 0, 1) := by decide +kernel
theorem dX8_isLane_5 : decode cX8_isLane 5 = .ok (.iconst 2, 1) := by decide +kernel
theorem dX8_isLane_6 : decode cX8_isLane 6 = .ok (.if_icmp .gt 7, 3) := by decide +kernel
theorem dX8_isLane_9 : decode cX8_isLane 9 = .ok (.iconst 1, 1) := by decide +kernel
theorem dX8_isLane_10 : decode cX8_isLane 10 = .ok (.goto 4, 3) := by decide +kernel
theorem dX8_isLane_13 : decode cX8_isLane 13 = .ok (.iconst 0, 1) := by decide +kernel
theorem dX8_isLane_14 : decode cX8_isLane 14 = .ok (.ireturn, 1) := by decide +kernel
set_option maxRecDepth 20000 in
theorem ggX8_refusedRun_X3_has : GoodIn wsX8_refusedRun wsX3_has := goodIn_r _ [6, 7, 21, 22, 23] (by decide +kernel) (by decide +kernel)
set_option maxRecDepth 20000 in
theorem gX8_refusedRun_X3_has : GoodIn wsX8_refusedRun (wsV RX8 159 RX3 yX3_has wsX3_has) := goodIn_app (goodIn_of _ (by decide +kernel)) ggX8_refusedRun_X3_has
theorem dX8_refusedRun_0 : decode cX8_refusedRun 0 = .ok (.aload_n 0, 1) := by decide +kernel
theorem dX8_refusedRun_1 : decode cX8_refusedRun 1 = .ok (.getfield 51, 3) := by decide +kernel
theorem dX8_refusedRun_4 : decode cX8_refusedRun 4 = .ok (.iload_n 1, 1) := by decide +kernel
theorem dX8_refusedRun_5 : decode cX8_refusedRun 5 = .ok (.invokevirtual 159, 3) := by decide +kernel
theorem dX8_refusedRun_8 : decode cX8_refusedRun 8 = .ok (.ifCond .eq 14, 3) := by decide +kernel
theorem dX8_refusedRun_11 : decode cX8_refusedRun 11 = .ok (.aload_n 0, 1) := by decide +kernel
theorem dX8_refusedRun_12 : decode cX8_refusedRun 12 = .ok (.getfield 51, 3) := by decide +kernel
theorem dX8_refusedRun_15 : decode cX8_refusedRun 15 = .ok (.iload_n 2, 1) := by decide +kernel
theorem dX8_refusedRun_16 : decode cX8_refusedRun 16 = .ok (.invokevirtual 159, 3) := by decide +kernel
theorem dX8_refusedRun_19 : decode cX8_refusedRun 19 = .ok (.ifCond .ne 5, 3) := by decide +kernel
theorem dX8_refusedRun_22 : decode cX8_refusedRun 22 = .ok (.iconst (-1), 1) := by decide +kernel
theorem dX8_refusedRun_23 : decode cX8_refusedRun 23 = .ok (.ireturn, 1) := by decide +kernel
theorem dX8_refusedRun_24 : decode cX8_refusedRun 24 = .ok (.iload_n 2, 1) := by decide +kernel
theorem dX8_refusedRun_25 : decode cX8_refusedRun 25 = .ok (.iload_n 1, 1) := by decide +kernel
theorem dX8_refusedRun_26 : decode cX8_refusedRun 26 = .ok (.if_icmp .ge 8, 3) := by decide +kernel
theorem dX8_refusedRun_29 : decode cX8_refusedRun 29 = .ok (.bipush (-2), 2) := by decide +kernel
theorem dX8_refusedRun_31 : decode cX8_refusedRun 31 = .ok (.goto 4, 3) := by decide +kernel
theorem dX8_refusedRun_34 : decode cX8_refusedRun 34 = .ok (.iconst 0, 1) := by decide +kernel
theorem dX8_refusedRun_35 : decode cX8_refusedRun 35 = .ok (.ireturn, 1) := by decide +kernel
set_option maxRecDepth 20000 in
theorem ggX8_refusedAim_X8_refusedRun : GoodIn wsX8_refusedAim wsX8_refusedRun := goodIn_r _ [7, 8, 9, 10, 11, 12, 13, 14, 15, 16, 17, 18, 19, 20, 21, 22, 23, 24, 25, 26, 27, 28, 29, 30] (by decide +kernel) (by decide +kernel)
set_option maxRecDepth 20000 in
theorem gX8_refusedAim_X8_refusedRun : GoodIn wsX8_refusedAim (wsV RX8 174 RX8 yX8_refusedRun wsX8_refusedRun) := goodIn_app (goodIn_of _ (by decide +kernel)) ggX8_refusedAim_X8_refusedRun
theorem dX8_refusedAim_0 : decode cX8_refusedAim 0 = .ok (.aload_n 0, 1) := by decide +kernel
theorem dX8_refusedAim_1 : decode cX8_refusedAim 1 = .ok (.iload_n 1, 1) := by decide +kernel
theorem dX8_refusedAim_2 : decode cX8_refusedAim 2 = .ok (.iload_n 2, 1) := by decide +kernel
theorem dX8_refusedAim_3 : decode cX8_refusedAim 3 = .ok (.invokevirtual 174, 3) := by decide +kernel
theorem dX8_refusedAim_6 : decode cX8_refusedAim 6 = .ok (.istore 5, 2) := by decide +kernel
theorem dX8_refusedAim_8 : decode cX8_refusedAim 8 = .ok (.iload 5, 2) := by decide +kernel
theorem dX8_refusedAim_10 : decode cX8_refusedAim 10 = .ok (.ifCond .eq 6, 3) := by decide +kernel
theorem dX8_refusedAim_13 : decode cX8_refusedAim 13 = .ok (.iload 5, 2) := by decide +kernel
theorem dX8_refusedAim_15 : decode cX8_refusedAim 15 = .ok (.ireturn, 1) := by decide +kernel
theorem dX8_refusedAim_16 : decode cX8_refusedAim 16 = .ok (.lload_n 3, 1) := by decide +kernel
theorem dX8_refusedAim_17 : decode cX8_refusedAim 17 = .ok (.ldc2_w 335, 3) := by decide +kernel
theorem dX8_refusedAim_20 : decode cX8_refusedAim 20 = .ok (.lcmp, 1) := by decide +kernel
theorem dX8_refusedAim_21 : decode cX8_refusedAim 21 = .ok (.ifCond .lt 11, 3) := by decide +kernel
theorem dX8_refusedAim_24 : decode cX8_refusedAim 24 = .ok (.lload_n 3, 1) := by decide +kernel
theorem dX8_refusedAim_25 : decode cX8_refusedAim 25 = .ok (.ldc2_w 337, 3) := by decide +kernel
theorem dX8_refusedAim_28 : decode cX8_refusedAim 28 = .ok (.lcmp, 1) := by decide +kernel
theorem dX8_refusedAim_29 : decode cX8_refusedAim 29 = .ok (.ifCond .le 8, 3) := by decide +kernel
theorem dX8_refusedAim_32 : decode cX8_refusedAim 32 = .ok (.bipush (-2), 2) := by decide +kernel
theorem dX8_refusedAim_34 : decode cX8_refusedAim 34 = .ok (.goto 4, 3) := by decide +kernel
theorem dX8_refusedAim_37 : decode cX8_refusedAim 37 = .ok (.iconst 0, 1) := by decide +kernel
theorem dX8_refusedAim_38 : decode cX8_refusedAim 38 = .ok (.ireturn, 1) := by decide +kernel
theorem dX8_failed_0 : decode cX8_failed 0 = .ok (.aload_n 0, 1) := by decide +kernel
theorem dX8_failed_1 : decode cX8_failed 1 = .ok (.iload_n 1, 1) := by decide +kernel
theorem dX8_failed_2 : decode cX8_failed 2 = .ok (.putfield 79, 3) := by decide +kernel
theorem dX8_failed_5 : decode cX8_failed 5 = .ok (.bipush (-10), 2) := by decide +kernel
theorem dX8_failed_7 : decode cX8_failed 7 = .ok (.iload_n 1, 1) := by decide +kernel
theorem dX8_failed_8 : decode cX8_failed 8 = .ok (.isub, 1) := by decide +kernel
theorem dX8_failed_9 : decode cX8_failed 9 = .ok (.ireturn, 1) := by decide +kernel
theorem dX8_lost_0 : decode cX8_lost 0 = .ok (.aload_n 0, 1) := by decide +kernel
theorem dX8_lost_1 : decode cX8_lost 1 = .ok (.iload_n 1, 1) := by decide +kernel
theorem dX8_lost_2 : decode cX8_lost 2 = .ok (.putfield 79, 3) := by decide +kernel
theorem dX8_lost_5 : decode cX8_lost 5 = .ok (.ldc2_w 161, 3) := by decide +kernel
theorem dX8_lost_8 : decode cX8_lost 8 = .ok (.lreturn, 1) := by decide +kernel
theorem dX8_sum_0 : decode cX8_sum 0 = .ok (.lconst 0, 1) := by decide +kernel
theorem dX8_sum_1 : decode cX8_sum 1 = .ok (.lstore_n 3, 1) := by decide +kernel
theorem dX8_sum_2 : decode cX8_sum 2 = .ok (.iload_n 1, 1) := by decide +kernel
theorem dX8_sum_3 : decode cX8_sum 3 = .ok (.istore 5, 2) := by decide +kernel
theorem dX8_sum_5 : decode cX8_sum 5 = .ok (.iload 5, 2) := by decide +kernel
theorem dX8_sum_7 : decode cX8_sum 7 = .ok (.iload_n 2, 1) := by decide +kernel
theorem dX8_sum_8 : decode cX8_sum 8 = .ok (.if_icmp .gt 16, 3) := by decide +kernel
theorem dX8_sum_11 : decode cX8_sum 11 = .ok (.lload_n 3, 1) := by decide +kernel
theorem dX8_sum_12 : decode cX8_sum 12 = .ok (.aload_n 0, 1) := by decide +kernel
theorem dX8_sum_13 : decode cX8_sum 13 = .ok (.iload 5, 2) := by decide +kernel
theorem dX8_sum_15 : decode cX8_sum 15 = .ok (.laload, 1) := by decide +kernel
theorem dX8_sum_16 : decode cX8_sum 16 = .ok (.ladd, 1) := by decide +kernel
theorem dX8_sum_17 : decode cX8_sum 17 = .ok (.lstore_n 3, 1) := by decide +kernel
theorem dX8_sum_18 : decode cX8_sum 18 = .ok (.iinc 5 1, 3) := by decide +kernel
theorem dX8_sum_21 : decode cX8_sum 21 = .ok (.goto (-16), 3) := by decide +kernel
theorem dX8_sum_24 : decode cX8_sum 24 = .ok (.lload_n 3, 1) := by decide +kernel
theorem dX8_sum_25 : decode cX8_sum 25 = .ok (.lreturn, 1) := by decide +kernel
theorem dX8_greatest_0 : decode cX8_greatest 0 = .ok (.aload_n 0, 1) := by decide +kernel
theorem dX8_greatest_1 : decode cX8_greatest 1 = .ok (.iload_n 1, 1) := by decide +kernel
theorem dX8_greatest_2 : decode cX8_greatest 2 = .ok (.laload, 1) := by decide +kernel
theorem dX8_greatest_3 : decode cX8_greatest 3 = .ok (.lstore_n 3, 1) := by decide +kernel
theorem dX8_greatest_4 : decode cX8_greatest 4 = .ok (.iload_n 1, 1) := by decide +kernel
theorem dX8_greatest_5 : decode cX8_greatest 5 = .ok (.iconst 1, 1) := by decide +kernel
theorem dX8_greatest_6 : decode cX8_greatest 6 = .ok (.iadd, 1) := by decide +kernel
theorem dX8_greatest_7 : decode cX8_greatest 7 = .ok (.istore 5, 2) := by decide +kernel
theorem dX8_greatest_9 : decode cX8_greatest 9 = .ok (.iload 5, 2) := by decide +kernel
theorem dX8_greatest_11 : decode cX8_greatest 11 = .ok (.iload_n 2, 1) := by decide +kernel
theorem dX8_greatest_12 : decode cX8_greatest 12 = .ok (.if_icmp .gt 18, 3) := by decide +kernel
theorem dX8_greatest_15 : decode cX8_greatest 15 = .ok (.lload_n 3, 1) := by decide +kernel
theorem dX8_greatest_16 : decode cX8_greatest 16 = .ok (.aload_n 0, 1) := by decide +kernel
theorem dX8_greatest_17 : decode cX8_greatest 17 = .ok (.iload 5, 2) := by decide +kernel
theorem dX8_greatest_19 : decode cX8_greatest 19 = .ok (.laload, 1) := by decide +kernel
theorem dX8_greatest_20 : decode cX8_greatest 20 = .ok (.invokestatic 339, 3) := by decide +kernel
theorem dX8_greatest_23 : decode cX8_greatest 23 = .ok (.lstore_n 3, 1) := by decide +kernel
theorem dX8_greatest_24 : decode cX8_greatest 24 = .ok (.iinc 5 1, 3) := by decide +kernel
theorem dX8_greatest_27 : decode cX8_greatest 27 = .ok (.goto (-18), 3) := by decide +kernel
theorem dX8_greatest_30 : decode cX8_greatest 30 = .ok (.lload_n 3, 1) := by decide +kernel
theorem dX8_greatest_31 : decode cX8_greatest 31 = .ok (.lreturn, 1) := by decide +kernel
theorem dX8_least_0 : decode cX8_least 0 = .ok (.aload_n 0, 1) := by decide +kernel
theorem dX8_least_1 : decode cX8_least 1 = .ok (.iload_n 1, 1) := by decide +kernel
theorem dX8_least_2 : decode cX8_least 2 = .ok (.laload, 1) := by decide +kernel
theorem dX8_least_3 : decode cX8_least 3 = .ok (.lstore_n 3, 1) := by decide +kernel
theorem dX8_least_4 : decode cX8_least 4 = .ok (.iload_n 1, 1) := by decide +kernel
theorem dX8_least_5 : decode cX8_least 5 = .ok (.iconst 1, 1) := by decide +kernel
theorem dX8_least_6 : decode cX8_least 6 = .ok (.iadd, 1) := by decide +kernel
theorem dX8_least_7 : decode cX8_least 7 = .ok (.istore 5, 2) := by decide +kernel
theorem dX8_least_9 : decode cX8_least 9 = .ok (.iload 5, 2) := by decide +kernel
theorem dX8_least_11 : decode cX8_least 11 = .ok (.iload_n 2, 1) := by decide +kernel
theorem dX8_least_12 : decode cX8_least 12 = .ok (.if_icmp .gt 18, 3) := by decide +kernel
theorem dX8_least_15 : decode cX8_least 15 = .ok (.lload_n 3, 1) := by decide +kernel
theorem dX8_least_16 : decode cX8_least 16 = .ok (.aload_n 0, 1) := by decide +kernel
theorem dX8_least_17 : decode cX8_least 17 = .ok (.iload 5, 2) := by decide +kernel
theorem dX8_least_19 : decode cX8_least 19 = .ok (.laload, 1) := by decide +kernel
theorem dX8_least_20 : decode cX8_least 20 = .ok (.invokestatic 345, 3) := by decide +kernel
theorem dX8_least_23 : decode cX8_least 23 = .ok (.lstore_n 3, 1) := by decide +kernel
theorem dX8_least_24 : decode cX8_least 24 = .ok (.iinc 5 1, 3) := by decide +kernel
theorem dX8_least_27 : decode cX8_least 27 = .ok (.goto (-18), 3) := by decide +kernel
theorem dX8_least_30 : decode cX8_least 30 = .ok (.lload_n 3, 1) := by decide +kernel
theorem dX8_least_31 : decode cX8_least 31 = .ok (.lreturn, 1) := by decide +kernel
set_option maxRecDepth 20000 in
theorem ggX8_second_X8_greatest : GoodIn wsX8_second wsX8_greatest := goodIn_r _ [9, 2, 3, 4, 5] (by decide +kernel) (by decide +kernel)
set_option maxRecDepth 20000 in
theorem gX8_second_X8_greatest : GoodIn wsX8_second (va_wsS RX8 235 yX8_greatest wsX8_greatest) := goodIn_app (goodIn_of _ (by decide +kernel)) ggX8_second_X8_greatest
theorem dX8_second_0 : decode cX8_second 0 = .ok (.aload_n 0, 1) := by decide +kernel
theorem dX8_second_1 : decode cX8_second 1 = .ok (.iload_n 1, 1) := by decide +kernel
theorem dX8_second_2 : decode cX8_second 2 = .ok (.iload_n 2, 1) := by decide +kernel
theorem dX8_second_3 : decode cX8_second 3 = .ok (.invokestatic 235, 3) := by decide +kernel
theorem dX8_second_6 : decode cX8_second 6 = .ok (.lstore_n 3, 1) := by decide +kernel
theorem dX8_second_7 : decode cX8_second 7 = .ok (.ldc2_w 161, 3) := by decide +kernel
theorem dX8_second_10 : decode cX8_second 10 = .ok (.lstore 5, 2) := by decide +kernel
theorem dX8_second_12 : decode cX8_second 12 = .ok (.iload_n 1, 1) := by decide +kernel
theorem dX8_second_13 : decode cX8_second 13 = .ok (.istore 7, 2) := by decide +kernel
theorem dX8_second_15 : decode cX8_second 15 = .ok (.iload 7, 2) := by decide +kernel
theorem dX8_second_17 : decode cX8_second 17 = .ok (.iload_n 2, 1) := by decide +kernel
theorem dX8_second_18 : decode cX8_second 18 = .ok (.if_icmp .gt 29, 3) := by decide +kernel
theorem dX8_second_21 : decode cX8_second 21 = .ok (.aload_n 0, 1) := by decide +kernel
theorem dX8_second_22 : decode cX8_second 22 = .ok (.iload 7, 2) := by decide +kernel
theorem dX8_second_24 : decode cX8_second 24 = .ok (.laload, 1) := by decide +kernel
theorem dX8_second_25 : decode cX8_second 25 = .ok (.lload_n 3, 1) := by decide +kernel
theorem dX8_second_26 : decode cX8_second 26 = .ok (.lcmp, 1) := by decide +kernel
theorem dX8_second_27 : decode cX8_second 27 = .ok (.ifCond .ge 14, 3) := by decide +kernel
theorem dX8_second_30 : decode cX8_second 30 = .ok (.lload 5, 2) := by decide +kernel
theorem dX8_second_32 : decode cX8_second 32 = .ok (.aload_n 0, 1) := by decide +kernel
theorem dX8_second_33 : decode cX8_second 33 = .ok (.iload 7, 2) := by decide +kernel
theorem dX8_second_35 : decode cX8_second 35 = .ok (.laload, 1) := by decide +kernel
theorem dX8_second_36 : decode cX8_second 36 = .ok (.invokestatic 339, 3) := by decide +kernel
theorem dX8_second_39 : decode cX8_second 39 = .ok (.lstore 5, 2) := by decide +kernel
theorem dX8_second_41 : decode cX8_second 41 = .ok (.iinc 7 1, 3) := by decide +kernel
theorem dX8_second_44 : decode cX8_second 44 = .ok (.goto (-29), 3) := by decide +kernel
theorem dX8_second_47 : decode cX8_second 47 = .ok (.lload 5, 2) := by decide +kernel
theorem dX8_second_49 : decode cX8_second 49 = .ok (.lreturn, 1) := by decide +kernel
theorem dX8_howManyFrom_0 : decode cX8_howManyFrom 0 = .ok (.iconst 0, 1) := by decide +kernel
theorem dX8_howManyFrom_1 : decode cX8_howManyFrom 1 = .ok (.istore 5, 2) := by decide +kernel
theorem dX8_howManyFrom_3 : decode cX8_howManyFrom 3 = .ok (.iload_n 1, 1) := by decide +kernel
theorem dX8_howManyFrom_4 : decode cX8_howManyFrom 4 = .ok (.istore 6, 2) := by decide +kernel
theorem dX8_howManyFrom_6 : decode cX8_howManyFrom 6 = .ok (.iload 6, 2) := by decide +kernel
theorem dX8_howManyFrom_8 : decode cX8_howManyFrom 8 = .ok (.iload_n 2, 1) := by decide +kernel
theorem dX8_howManyFrom_9 : decode cX8_howManyFrom 9 = .ok (.if_icmp .gt 21, 3) := by decide +kernel
theorem dX8_howManyFrom_12 : decode cX8_howManyFrom 12 = .ok (.aload_n 0, 1) := by decide +kernel
theorem dX8_howManyFrom_13 : decode cX8_howManyFrom 13 = .ok (.iload 6, 2) := by decide +kernel
theorem dX8_howManyFrom_15 : decode cX8_howManyFrom 15 = .ok (.laload, 1) := by decide +kernel
theorem dX8_howManyFrom_16 : decode cX8_howManyFrom 16 = .ok (.lload_n 3, 1) := by decide +kernel
theorem dX8_howManyFrom_17 : decode cX8_howManyFrom 17 = .ok (.lcmp, 1) := by decide +kernel
theorem dX8_howManyFrom_18 : decode cX8_howManyFrom 18 = .ok (.ifCond .lt 6, 3) := by decide +kernel
theorem dX8_howManyFrom_21 : decode cX8_howManyFrom 21 = .ok (.iinc 5 1, 3) := by decide +kernel
theorem dX8_howManyFrom_24 : decode cX8_howManyFrom 24 = .ok (.iinc 6 1, 3) := by decide +kernel
theorem dX8_howManyFrom_27 : decode cX8_howManyFrom 27 = .ok (.goto (-21), 3) := by decide +kernel
theorem dX8_howManyFrom_30 : decode cX8_howManyFrom 30 = .ok (.iload 5, 2) := by decide +kernel
theorem dX8_howManyFrom_32 : decode cX8_howManyFrom 32 = .ok (.ireturn, 1) := by decide +kernel
set_option maxRecDepth 20000 in
theorem ggX8_howManyGreatest_X8_greatest : GoodIn wsX8_howManyGreatest wsX8_greatest := goodIn_r _ [4, 5, 6, 7, 8] (by decide +kernel) (by decide +kernel)
set_option maxRecDepth 20000 in
theorem gX8_howManyGreatest_X8_greatest : GoodIn wsX8_howManyGreatest (va_wsS RX8 235 yX8_greatest wsX8_greatest) := goodIn_app (goodIn_of _ (by decide +kernel)) ggX8_howManyGreatest_X8_greatest
set_option maxRecDepth 20000 in
theorem ggX8_howManyGreatest_X8_howManyFrom : GoodIn wsX8_howManyGreatest wsX8_howManyFrom := goodIn_r _ [11] (by decide +kernel) (by decide +kernel)
set_option maxRecDepth 20000 in
theorem gX8_howManyGreatest_X8_howManyFrom : GoodIn wsX8_howManyGreatest (va_wsS RX8 279 yX8_howManyFrom wsX8_howManyFrom) := goodIn_app (goodIn_of _ (by decide +kernel)) ggX8_howManyGreatest_X8_howManyFrom
theorem dX8_howManyGreatest_0 : decode cX8_howManyGreatest 0 = .ok (.aload_n 0, 1) := by decide +kernel
theorem dX8_howManyGreatest_1 : decode cX8_howManyGreatest 1 = .ok (.iload_n 1, 1) := by decide +kernel
theorem dX8_howManyGreatest_2 : decode cX8_howManyGreatest 2 = .ok (.iload_n 2, 1) := by decide +kernel
theorem dX8_howManyGreatest_3 : decode cX8_howManyGreatest 3 = .ok (.aload_n 0, 1) := by decide +kernel
theorem dX8_howManyGreatest_4 : decode cX8_howManyGreatest 4 = .ok (.iload_n 1, 1) := by decide +kernel
theorem dX8_howManyGreatest_5 : decode cX8_howManyGreatest 5 = .ok (.iload_n 2, 1) := by decide +kernel
theorem dX8_howManyGreatest_6 : decode cX8_howManyGreatest 6 = .ok (.invokestatic 235, 3) := by decide +kernel
theorem dX8_howManyGreatest_9 : decode cX8_howManyGreatest 9 = .ok (.invokestatic 279, 3) := by decide +kernel
theorem dX8_howManyGreatest_12 : decode cX8_howManyGreatest 12 = .ok (.ireturn, 1) := by decide +kernel
set_option maxRecDepth 20000 in
theorem ggX8_howManyUnlike_X8_standsAhead : GoodIn wsX8_howManyUnlike wsX8_standsAhead := goodIn_r _ [4] (by decide +kernel) (by decide +kernel)
set_option maxRecDepth 20000 in
theorem gX8_howManyUnlike_X8_standsAhead : GoodIn wsX8_howManyUnlike (va_wsS RX8 348 yX8_standsAhead wsX8_standsAhead) := goodIn_app (goodIn_of _ (by decide +kernel)) ggX8_howManyUnlike_X8_standsAhead
theorem dX8_howManyUnlike_0 : decode cX8_howManyUnlike 0 = .ok (.iconst 0, 1) := by decide +kernel
theorem dX8_howManyUnlike_1 : decode cX8_howManyUnlike 1 = .ok (.istore_n 3, 1) := by decide +kernel
theorem dX8_howManyUnlike_2 : decode cX8_howManyUnlike 2 = .ok (.iload_n 1, 1) := by decide +kernel
theorem dX8_howManyUnlike_3 : decode cX8_howManyUnlike 3 = .ok (.istore 4, 2) := by decide +kernel
theorem dX8_howManyUnlike_5 : decode cX8_howManyUnlike 5 = .ok (.iload 4, 2) := by decide +kernel
theorem dX8_howManyUnlike_7 : decode cX8_howManyUnlike 7 = .ok (.iload_n 2, 1) := by decide +kernel
theorem dX8_howManyUnlike_8 : decode cX8_howManyUnlike 8 = .ok (.if_icmp .gt 22, 3) := by decide +kernel
theorem dX8_howManyUnlike_11 : decode cX8_howManyUnlike 11 = .ok (.aload_n 0, 1) := by decide +kernel
theorem dX8_howManyUnlike_12 : decode cX8_howManyUnlike 12 = .ok (.iload_n 1, 1) := by decide +kernel
theorem dX8_howManyUnlike_13 : decode cX8_howManyUnlike 13 = .ok (.iload 4, 2) := by decide +kernel
theorem dX8_howManyUnlike_15 : decode cX8_howManyUnlike 15 = .ok (.invokestatic 348, 3) := by decide +kernel
theorem dX8_howManyUnlike_18 : decode cX8_howManyUnlike 18 = .ok (.ifCond .ne 6, 3) := by decide +kernel
theorem dX8_howManyUnlike_21 : decode cX8_howManyUnlike 21 = .ok (.iinc 3 1, 3) := by decide +kernel
theorem dX8_howManyUnlike_24 : decode cX8_howManyUnlike 24 = .ok (.iinc 4 1, 3) := by decide +kernel
theorem dX8_howManyUnlike_27 : decode cX8_howManyUnlike 27 = .ok (.goto (-22), 3) := by decide +kernel
theorem dX8_howManyUnlike_30 : decode cX8_howManyUnlike 30 = .ok (.iload_n 3, 1) := by decide +kernel
theorem dX8_howManyUnlike_31 : decode cX8_howManyUnlike 31 = .ok (.ireturn, 1) := by decide +kernel
theorem dX8_standsAhead_0 : decode cX8_standsAhead 0 = .ok (.iload_n 1, 1) := by decide +kernel
theorem dX8_standsAhead_1 : decode cX8_standsAhead 1 = .ok (.istore_n 3, 1) := by decide +kernel
theorem dX8_standsAhead_2 : decode cX8_standsAhead 2 = .ok (.iload_n 3, 1) := by decide +kernel
theorem dX8_standsAhead_3 : decode cX8_standsAhead 3 = .ok (.iload_n 2, 1) := by decide +kernel
theorem dX8_standsAhead_4 : decode cX8_standsAhead 4 = .ok (.if_icmp .ge 21, 3) := by decide +kernel
theorem dX8_standsAhead_7 : decode cX8_standsAhead 7 = .ok (.aload_n 0, 1) := by decide +kernel
theorem dX8_standsAhead_8 : decode cX8_standsAhead 8 = .ok (.iload_n 3, 1) := by decide +kernel
theorem dX8_standsAhead_9 : decode cX8_standsAhead 9 = .ok (.laload, 1) := by decide +kernel
theorem dX8_standsAhead_10 : decode cX8_standsAhead 10 = .ok (.aload_n 0, 1) := by decide +kernel
theorem dX8_standsAhead_11 : decode cX8_standsAhead 11 = .ok (.iload_n 2, 1) := by decide +kernel
theorem dX8_standsAhead_12 : decode cX8_standsAhead 12 = .ok (.laload, 1) := by decide +kernel
theorem dX8_standsAhead_13 : decode cX8_standsAhead 13 = .ok (.lcmp, 1) := by decide +kernel
theorem dX8_standsAhead_14 : decode cX8_standsAhead 14 = .ok (.ifCond .ne 5, 3) := by decide +kernel
theorem dX8_standsAhead_17 : decode cX8_standsAhead 17 = .ok (.iconst 1, 1) := by decide +kernel
theorem dX8_standsAhead_18 : decode cX8_standsAhead 18 = .ok (.ireturn, 1) := by decide +kernel
theorem dX8_standsAhead_19 : decode cX8_standsAhead 19 = .ok (.iinc 3 1, 3) := by decide +kernel
theorem dX8_standsAhead_22 : decode cX8_standsAhead 22 = .ok (.goto (-20), 3) := by decide +kernel
theorem dX8_standsAhead_25 : decode cX8_standsAhead 25 = .ok (.iconst 0, 1) := by decide +kernel
theorem dX8_standsAhead_26 : decode cX8_standsAhead 26 = .ok (.ireturn, 1) := by decide +kernel
