theorem dX9_init_0 : decode cX9_init 0 = .ok (.aload_n 0, 1) := by decide +kernel
theorem dX9_init_1 : decode cX9_init 1 = .ok (.invokespecial 1, 3) := by decide +kernel
theorem dX9_init_4 : decode cX9_init 4 = .ok (.aload_n 0, 1) := by decide +kernel
theorem dX9_init_5 : decode cX9_init 5 = .ok (.iconst 4, 1) := by decide +kernel
theorem dX9_init_6 : decode cX9_init 6 = .ok (.newarray .int, 2) := by decide +kernel
theorem dX9_init_8 : decode cX9_init 8 = .ok (.dup, 1) := by decide +kernel
theorem dX9_init_9 : decode cX9_init 9 = .ok (.iconst 0, 1) := by decide +kernel
theorem dX9_init_10 : decode cX9_init 10 = .ok (.bipush (-9), 2) := by decide +kernel
theorem dX9_init_12 : decode cX9_init 12 = .ok (.iastore, 1) := by decide +kernel
theorem dX9_init_13 : decode cX9_init 13 = .ok (.dup, 1) := by decide +kernel
theorem dX9_init_14 : decode cX9_init 14 = .ok (.iconst 1, 1) := by decide +kernel
theorem dX9_init_15 : decode cX9_init 15 = .ok (.bipush (-9), 2) := by decide +kernel
theorem dX9_init_17 : decode cX9_init 17 = .ok (.iastore, 1) := by decide +kernel
theorem dX9_init_18 : decode cX9_init 18 = .ok (.dup, 1) := by decide +kernel
theorem dX9_init_19 : decode cX9_init 19 = .ok (.iconst 2, 1) := by decide +kernel
theorem dX9_init_20 : decode cX9_init 20 = .ok (.bipush (-9), 2) := by decide +kernel
theorem dX9_init_22 : decode cX9_init 22 = .ok (.iastore, 1) := by decide +kernel
theorem dX9_init_23 : decode cX9_init 23 = .ok (.dup, 1) := by decide +kernel
theorem dX9_init_24 : decode cX9_init 24 = .ok (.iconst 3, 1) := by decide +kernel
theorem dX9_init_25 : decode cX9_init 25 = .ok (.bipush (-9), 2) := by decide +kernel
theorem dX9_init_27 : decode cX9_init 27 = .ok (.iastore, 1) := by decide +kernel
theorem dX9_init_28 : decode cX9_init 28 = .ok (.putfield 9, 3) := by decide +kernel
theorem dX9_init_31 : decode cX9_init 31 = .ok (.aload_n 0, 1) := by decide +kernel
theorem dX9_init_32 : decode cX9_init 32 = .ok (.iconst 4, 1) := by decide +kernel
theorem dX9_init_33 : decode cX9_init 33 = .ok (.newarray .int, 2) := by decide +kernel
theorem dX9_init_35 : decode cX9_init 35 = .ok (.putfield 13, 3) := by decide +kernel
theorem dX9_init_38 : decode cX9_init 38 = .ok (.aload_n 0, 1) := by decide +kernel
theorem dX9_init_39 : decode cX9_init 39 = .ok (.sipush 240, 3) := by decide +kernel
theorem dX9_init_42 : decode cX9_init 42 = .ok (.newarray .int, 2) := by decide +kernel
theorem dX9_init_44 : decode cX9_init 44 = .ok (.putfield 16, 3) := by decide +kernel
theorem dX9_init_47 : decode cX9_init 47 = .ok (.aload_n 0, 1) := by decide +kernel
theorem dX9_init_48 : decode cX9_init 48 = .ok (.bipush 16, 2) := by decide +kernel
theorem dX9_init_50 : decode cX9_init 50 = .ok (.newarray .long, 2) := by decide +kernel
theorem dX9_init_52 : decode cX9_init 52 = .ok (.putfield 19, 3) := by decide +kernel
theorem dX9_init_55 : decode cX9_init 55 = .ok (.aload_n 0, 1) := by decide +kernel
theorem dX9_init_56 : decode cX9_init 56 = .ok (.bipush 16, 2) := by decide +kernel
theorem dX9_init_58 : decode cX9_init 58 = .ok (.newarray .long, 2) := by decide +kernel
theorem dX9_init_60 : decode cX9_init 60 = .ok (.putfield 23, 3) := by decide +kernel
theorem dX9_init_63 : decode cX9_init 63 = .ok (.aload_n 0, 1) := by decide +kernel
theorem dX9_init_64 : decode cX9_init 64 = .ok (.bipush 16, 2) := by decide +kernel
theorem dX9_init_66 : decode cX9_init 66 = .ok (.newarray .long, 2) := by decide +kernel
theorem dX9_init_68 : decode cX9_init 68 = .ok (.putfield 26, 3) := by decide +kernel
theorem dX9_init_71 : decode cX9_init 71 = .ok (.aload_n 0, 1) := by decide +kernel
theorem dX9_init_72 : decode cX9_init 72 = .ok (.iconst 3, 1) := by decide +kernel
theorem dX9_init_73 : decode cX9_init 73 = .ok (.newarray .int, 2) := by decide +kernel
theorem dX9_init_75 : decode cX9_init 75 = .ok (.putfield 29, 3) := by decide +kernel
theorem dX9_init_78 : decode cX9_init 78 = .ok (.aload_n 0, 1) := by decide +kernel
theorem dX9_init_79 : decode cX9_init 79 = .ok (.iconst 3, 1) := by decide +kernel
theorem dX9_init_80 : decode cX9_init 80 = .ok (.newarray .int, 2) := by decide +kernel
theorem dX9_init_82 : decode cX9_init 82 = .ok (.putfield 32, 3) := by decide +kernel
theorem dX9_init_85 : decode cX9_init 85 = .ok (.aload_n 0, 1) := by decide +kernel
theorem dX9_init_86 : decode cX9_init 86 = .ok (.bipush 24, 2) := by decide +kernel
theorem dX9_init_88 : decode cX9_init 88 = .ok (.newarray .int, 2) := by decide +kernel
theorem dX9_init_90 : decode cX9_init 90 = .ok (.putfield 35, 3) := by decide +kernel
theorem dX9_init_93 : decode cX9_init 93 = .ok (.aload_n 0, 1) := by decide +kernel
theorem dX9_init_94 : decode cX9_init 94 = .ok (.bipush 24, 2) := by decide +kernel
theorem dX9_init_96 : decode cX9_init 96 = .ok (.newarray .int, 2) := by decide +kernel
theorem dX9_init_98 : decode cX9_init 98 = .ok (.putfield 38, 3) := by decide +kernel
theorem dX9_init_101 : decode cX9_init 101 = .ok (.aload_n 0, 1) := by decide +kernel
theorem dX9_init_102 : decode cX9_init 102 = .ok (.bipush 24, 2) := by decide +kernel
theorem dX9_init_104 : decode cX9_init 104 = .ok (.newarray .int, 2) := by decide +kernel
theorem dX9_init_106 : decode cX9_init 106 = .ok (.putfield 41, 3) := by decide +kernel
theorem dX9_init_109 : decode cX9_init 109 = .ok (.aload_n 0, 1) := by decide +kernel
theorem dX9_init_110 : decode cX9_init 110 = .ok (.bipush 24, 2) := by decide +kernel
theorem dX9_init_112 : decode cX9_init 112 = .ok (.newarray .long, 2) := by decide +kernel
theorem dX9_init_114 : decode cX9_init 114 = .ok (.putfield 44, 3) := by decide +kernel
theorem dX9_init_117 : decode cX9_init 117 = .ok (.aload_n 0, 1) := by decide +kernel
theorem dX9_init_118 : decode cX9_init 118 = .ok (.bipush 16, 2) := by decide +kernel
theorem dX9_init_120 : decode cX9_init 120 = .ok (.newarray .int, 2) := by decide +kernel
theorem dX9_init_122 : decode cX9_init 122 = .ok (.putfield 47, 3) := by decide +kernel
theorem dX9_init_125 : decode cX9_init 125 = .ok (.aload_n 0, 1) := by decide +kernel
theorem dX9_init_126 : decode cX9_init 126 = .ok (.iconst 3, 1) := by decide +kernel
theorem dX9_init_127 : decode cX9_init 127 = .ok (.newarray .int, 2) := by decide +kernel
theorem dX9_init_129 : decode cX9_init 129 = .ok (.putfield 50, 3) := by decide +kernel
theorem dX9_init_132 : decode cX9_init 132 = .ok (.aload_n 0, 1) := by decide +kernel
theorem dX9_init_133 : decode cX9_init 133 = .ok (.iconst 3, 1) := by decide +kernel
theorem dX9_init_134 : decode cX9_init 134 = .ok (.newarray .int, 2) := by decide +kernel
theorem dX9_init_136 : decode cX9_init 136 = .ok (.putfield 53, 3) := by decide +kernel
theorem dX9_init_139 : decode cX9_init 139 = .ok (.aload_n 0, 1) := by decide +kernel
theorem dX9_init_140 : decode cX9_init 140 = .ok (.bipush 16, 2) := by decide +kernel
theorem dX9_init_142 : decode cX9_init 142 = .ok (.newarray .long, 2) := by decide +kernel
theorem dX9_init_144 : decode cX9_init 144 = .ok (.putfield 56, 3) := by decide +kernel
theorem dX9_init_147 : decode cX9_init 147 = .ok (.aload_n 0, 1) := by decide +kernel
theorem dX9_init_148 : decode cX9_init 148 = .ok (.bipush 16, 2) := by decide +kernel
theorem dX9_init_150 : decode cX9_init 150 = .ok (.newarray .long, 2) := by decide +kernel
theorem dX9_init_152 : decode cX9_init 152 = .ok (.putfield 59, 3) := by decide +kernel
theorem dX9_init_155 : decode cX9_init 155 = .ok (.aload_n 0, 1) := by decide +kernel
theorem dX9_init_156 : decode cX9_init 156 = .ok (.bipush 64, 2) := by decide +kernel
theorem dX9_init_158 : decode cX9_init 158 = .ok (.newarray .int, 2) := by decide +kernel
theorem dX9_init_160 : decode cX9_init 160 = .ok (.putfield 62, 3) := by decide +kernel
theorem dX9_init_163 : decode cX9_init 163 = .ok (.aload_n 0, 1) := by decide +kernel
theorem dX9_init_164 : decode cX9_init 164 = .ok (.bipush 8, 2) := by decide +kernel
theorem dX9_init_166 : decode cX9_init 166 = .ok (.newarray .int, 2) := by decide +kernel
theorem dX9_init_168 : decode cX9_init 168 = .ok (.putfield 65, 3) := by decide +kernel
theorem dX9_init_171 : decode cX9_init 171 = .ok (.aload_n 0, 1) := by decide +kernel
theorem dX9_init_172 : decode cX9_init 172 = .ok (.bipush 8, 2) := by decide +kernel
theorem dX9_init_174 : decode cX9_init 174 = .ok (.newarray .long, 2) := by decide +kernel
theorem dX9_init_176 : decode cX9_init 176 = .ok (.putfield 68, 3) := by decide +kernel
theorem dX9_init_179 : decode cX9_init 179 = .ok (.return_, 1) := by decide +kernel
theorem dX9_fails_0 : decode cX9_fails 0 = .ok (.aload_n 0, 1) := by decide +kernel
theorem dX9_fails_1 : decode cX9_fails 1 = .ok (.iload_n 1, 1) := by decide +kernel
theorem dX9_fails_2 : decode cX9_fails 2 = .ok (.putfield 71, 3) := by decide +kernel
theorem dX9_fails_5 : decode cX9_fails 5 = .ok (.bipush (-10), 2) := by decide +kernel
theorem dX9_fails_7 : decode cX9_fails 7 = .ok (.iload_n 1, 1) := by decide +kernel
theorem dX9_fails_8 : decode cX9_fails 8 = .ok (.isub, 1) := by decide +kernel
theorem dX9_fails_9 : decode cX9_fails 9 = .ok (.ireturn, 1) := by decide +kernel
theorem dX9_lost_0 : decode cX9_lost 0 = .ok (.aload_n 0, 1) := by decide +kernel
theorem dX9_lost_1 : decode cX9_lost 1 = .ok (.iload_n 1, 1) := by decide +kernel
theorem dX9_lost_2 : decode cX9_lost 2 = .ok (.putfield 71, 3) := by decide +kernel
theorem dX9_lost_5 : decode cX9_lost 5 = .ok (.ldc2_w 75, 3) := by decide +kernel
theorem dX9_lost_8 : decode cX9_lost 8 = .ok (.lreturn, 1) := by decide +kernel
theorem dX9_within_0 : decode cX9_within 0 = .ok (.iload_n 0, 1) := by decide +kernel
theorem dX9_within_1 : decode cX9_within 1 = .ok (.iload_n 1, 1) := by decide +kernel
theorem dX9_within_2 : decode cX9_within 2 = .ok (.if_icmp .lt 12, 3) := by decide +kernel
theorem dX9_within_5 : decode cX9_within 5 = .ok (.iload_n 0, 1) := by decide +kernel
theorem dX9_within_6 : decode cX9_within 6 = .ok (.iload_n 2, 1) := by decide +kernel
theorem dX9_within_7 : decode cX9_within 7 = .ok (.if_icmp .gt 7, 3) := by decide +kernel
theorem dX9_within_10 : decode cX9_within 10 = .ok (.iconst 1, 1) := by decide +kernel
theorem dX9_within_11 : decode cX9_within 11 = .ok (.goto 4, 3) := by decide +kernel
theorem dX9_within_14 : decode cX9_within 14 = .ok (.iconst 0, 1) := by decide +kernel
theorem dX9_within_15 : decode cX9_within 15 = .ok (.ireturn, 1) := by decide +kernel
theorem dX9_isBetween_0 : decode cX9_isBetween 0 = .ok (.lload_n 0, 1) := by decide +kernel
theorem dX9_isBetween_1 : decode cX9_isBetween 1 = .ok (.lload_n 2, 1) := by decide +kernel
theorem dX9_isBetween_2 : decode cX9_isBetween 2 = .ok (.lcmp, 1) := by decide +kernel
theorem dX9_isBetween_3 : decode cX9_isBetween 3 = .ok (.ifCond .lt 14, 3) := by decide +kernel
theorem dX9_isBetween_6 : decode cX9_isBetween 6 = .ok (.lload_n 0, 1) := by decide +kernel
theorem dX9_isBetween_7 : decode cX9_isBetween 7 = .ok (.lload 4, 2) := by decide +kernel
theorem dX9_isBetween_9 : decode cX9_isBetween 9 = .ok (.lcmp, 1) := by decide +kernel
theorem dX9_isBetween_10 : decode cX9_isBetween 10 = .ok (.ifCond .gt 7, 3) := by decide +kernel
theorem dX9_isBetween_13 : decode cX9_isBetween 13 = .ok (.iconst 1, 1) := by decide +kernel
theorem dX9_isBetween_14 : decode cX9_isBetween 14 = .ok (.goto 4, 3) := by decide +kernel
theorem dX9_isBetween_17 : decode cX9_isBetween 17 = .ok (.iconst 0, 1) := by decide +kernel
theorem dX9_isBetween_18 : decode cX9_isBetween 18 = .ok (.ireturn, 1) := by decide +kernel
set_option maxRecDepth 20000 in
theorem ggX9_isSheet_X9_within : GoodIn wsX9_isSheet wsX9_within := goodIn_r _ [4] (by decide +kernel) (by decide +kernel)
set_option maxRecDepth 20000 in
theorem gX9_isSheet_X9_within : GoodIn wsX9_isSheet (va_wsS RX9 77 yX9_within wsX9_within) := goodIn_app (goodIn_of _ (by decide +kernel)) ggX9_isSheet_X9_within
theorem dX9_isSheet_0 : decode cX9_isSheet 0 = .ok (.iload_n 0, 1) := by decide +kernel
theorem dX9_isSheet_1 : decode cX9_isSheet 1 = .ok (.iconst 0, 1) := by decide +kernel
theorem dX9_isSheet_2 : decode cX9_isSheet 2 = .ok (.iconst 3, 1) := by decide +kernel
theorem dX9_isSheet_3 : decode cX9_isSheet 3 = .ok (.invokestatic 77, 3) := by decide +kernel
theorem dX9_isSheet_6 : decode cX9_isSheet 6 = .ok (.ireturn, 1) := by decide +kernel
set_option maxRecDepth 20000 in
theorem ggX9_isSort_X9_within : GoodIn wsX9_isSort wsX9_within := goodIn_r _ [4] (by decide +kernel) (by decide +kernel)
set_option maxRecDepth 20000 in
theorem gX9_isSort_X9_within : GoodIn wsX9_isSort (va_wsS RX9 77 yX9_within wsX9_within) := goodIn_app (goodIn_of _ (by decide +kernel)) ggX9_isSort_X9_within
theorem dX9_isSort_0 : decode cX9_isSort 0 = .ok (.iload_n 0, 1) := by decide +kernel
theorem dX9_isSort_1 : decode cX9_isSort 1 = .ok (.iconst 0, 1) := by decide +kernel
theorem dX9_isSort_2 : decode cX9_isSort 2 = .ok (.iconst 2, 1) := by decide +kernel
theorem dX9_isSort_3 : decode cX9_isSort 3 = .ok (.invokestatic 77, 3) := by decide +kernel
theorem dX9_isSort_6 : decode cX9_isSort 6 = .ok (.ireturn, 1) := by decide +kernel
theorem dX9_against_0 : decode cX9_against 0 = .ok (.aload_n 0, 1) := by decide +kernel
theorem dX9_against_1 : decode cX9_against 1 = .ok (.getfield 9, 3) := by decide +kernel
theorem dX9_against_4 : decode cX9_against 4 = .ok (.iload_n 1, 1) := by decide +kernel
theorem dX9_against_5 : decode cX9_against 5 = .ok (.iaload, 1) := by decide +kernel
theorem dX9_against_6 : decode cX9_against 6 = .ok (.bipush (-9), 2) := by decide +kernel
theorem dX9_against_8 : decode cX9_against 8 = .ok (.if_icmp .eq 15, 3) := by decide +kernel
theorem dX9_against_11 : decode cX9_against 11 = .ok (.aload_n 0, 1) := by decide +kernel
theorem dX9_against_12 : decode cX9_against 12 = .ok (.getfield 9, 3) := by decide +kernel
theorem dX9_against_15 : decode cX9_against 15 = .ok (.iload_n 1, 1) := by decide +kernel
theorem dX9_against_16 : decode cX9_against 16 = .ok (.iaload, 1) := by decide +kernel
theorem dX9_against_17 : decode cX9_against 17 = .ok (.iload_n 2, 1) := by decide +kernel
theorem dX9_against_18 : decode cX9_against 18 = .ok (.if_icmp .eq 5, 3) := by decide +kernel
theorem dX9_against_21 : decode cX9_against 21 = .ok (.iconst 2, 1) := by decide +kernel
theorem dX9_against_22 : decode cX9_against 22 = .ok (.ireturn, 1) := by decide +kernel
theorem dX9_against_23 : decode cX9_against 23 = .ok (.aload_n 0, 1) := by decide +kernel
theorem dX9_against_24 : decode cX9_against 24 = .ok (.getfield 9, 3) := by decide +kernel
theorem dX9_against_27 : decode cX9_against 27 = .ok (.iload_n 1, 1) := by decide +kernel
theorem dX9_against_28 : decode cX9_against 28 = .ok (.iaload, 1) := by decide +kernel
theorem dX9_against_29 : decode cX9_against 29 = .ok (.bipush (-9), 2) := by decide +kernel
theorem dX9_against_31 : decode cX9_against 31 = .ok (.if_icmp .ne 5, 3) := by decide +kernel
theorem dX9_against_34 : decode cX9_against 34 = .ok (.iconst 1, 1) := by decide +kernel
theorem dX9_against_35 : decode cX9_against 35 = .ok (.ireturn, 1) := by decide +kernel
theorem dX9_against_36 : decode cX9_against 36 = .ok (.iload 4, 2) := by decide +kernel
theorem dX9_against_38 : decode cX9_against 38 = .ok (.ifCond .ge 5, 3) := by decide +kernel
theorem dX9_against_41 : decode cX9_against 41 = .ok (.iconst 4, 1) := by decide +kernel
theorem dX9_against_42 : decode cX9_against 42 = .ok (.ireturn, 1) := by decide +kernel
theorem dX9_against_43 : decode cX9_against 43 = .ok (.iload_n 3, 1) := by decide +kernel
theorem dX9_against_44 : decode cX9_against 44 = .ok (.ifCond .lt 26, 3) := by decide +kernel
theorem dX9_against_47 : decode cX9_against 47 = .ok (.iload_n 3, 1) := by decide +kernel
theorem dX9_against_48 : decode cX9_against 48 = .ok (.aload_n 0, 1) := by decide +kernel
theorem dX9_against_49 : decode cX9_against 49 = .ok (.getfield 13, 3) := by decide +kernel
theorem dX9_against_52 : decode cX9_against 52 = .ok (.iload_n 1, 1) := by decide +kernel
theorem dX9_against_53 : decode cX9_against 53 = .ok (.iaload, 1) := by decide +kernel
theorem dX9_against_54 : decode cX9_against 54 = .ok (.if_icmp .gt 16, 3) := by decide +kernel
theorem dX9_against_57 : decode cX9_against 57 = .ok (.iload 4, 2) := by decide +kernel
theorem dX9_against_59 : decode cX9_against 59 = .ok (.aload_n 0, 1) := by decide +kernel
theorem dX9_against_60 : decode cX9_against 60 = .ok (.getfield 13, 3) := by decide +kernel
theorem dX9_against_63 : decode cX9_against 63 = .ok (.iload_n 1, 1) := by decide +kernel
theorem dX9_against_64 : decode cX9_against 64 = .ok (.iaload, 1) := by decide +kernel
theorem dX9_against_65 : decode cX9_against 65 = .ok (.iload_n 3, 1) := by decide +kernel
theorem dX9_against_66 : decode cX9_against 66 = .ok (.isub, 1) := by decide +kernel
theorem dX9_against_67 : decode cX9_against 67 = .ok (.if_icmp .le 7, 3) := by decide +kernel
theorem dX9_against_70 : decode cX9_against 70 = .ok (.iconst 3, 1) := by decide +kernel
theorem dX9_against_71 : decode cX9_against 71 = .ok (.goto 4, 3) := by decide +kernel
theorem dX9_against_74 : decode cX9_against 74 = .ok (.iconst 0, 1) := by decide +kernel
theorem dX9_against_75 : decode cX9_against 75 = .ok (.ireturn, 1) := by decide +kernel
theorem dX9_isCell_0 : decode cX9_isCell 0 = .ok (.iload_n 1, 1) := by decide +kernel
theorem dX9_isCell_1 : decode cX9_isCell 1 = .ok (.ifCond .lt 15, 3) := by decide +kernel
theorem dX9_isCell_4 : decode cX9_isCell 4 = .ok (.iload_n 1, 1) := by decide +kernel
theorem dX9_isCell_5 : decode cX9_isCell 5 = .ok (.aload_n 0, 1) := by decide +kernel
theorem dX9_isCell_6 : decode cX9_isCell 6 = .ok (.getfield 81, 3) := by decide +kernel
theorem dX9_isCell_9 : decode cX9_isCell 9 = .ok (.if_icmp .ge 7, 3) := by decide +kernel
theorem dX9_isCell_12 : decode cX9_isCell 12 = .ok (.iconst 1, 1) := by decide +kernel
theorem dX9_isCell_13 : decode cX9_isCell 13 = .ok (.goto 4, 3) := by decide +kernel
theorem dX9_isCell_16 : decode cX9_isCell 16 = .ok (.iconst 0, 1) := by decide +kernel
theorem dX9_isCell_17 : decode cX9_isCell 17 = .ok (.ireturn, 1) := by decide +kernel
theorem dX9_isHelper_0 : decode cX9_isHelper 0 = .ok (.iload_n 1, 1) := by decide +kernel
theorem dX9_isHelper_1 : decode cX9_isHelper 1 = .ok (.ifCond .lt 15, 3) := by decide +kernel
theorem dX9_isHelper_4 : decode cX9_isHelper 4 = .ok (.iload_n 1, 1) := by decide +kernel
theorem dX9_isHelper_5 : decode cX9_isHelper 5 = .ok (.aload_n 0, 1) := by decide +kernel
theorem dX9_isHelper_6 : decode cX9_isHelper 6 = .ok (.getfield 84, 3) := by decide +kernel
theorem dX9_isHelper_9 : decode cX9_isHelper 9 = .ok (.if_icmp .ge 7, 3) := by decide +kernel
theorem dX9_isHelper_12 : decode cX9_isHelper 12 = .ok (.iconst 1, 1) := by decide +kernel
theorem dX9_isHelper_13 : decode cX9_isHelper 13 = .ok (.goto 4, 3) := by decide +kernel
theorem dX9_isHelper_16 : decode cX9_isHelper 16 = .ok (.iconst 0, 1) := by decide +kernel
theorem dX9_isHelper_17 : decode cX9_isHelper 17 = .ok (.ireturn, 1) := by decide +kernel
set_option maxRecDepth 20000 in
theorem ggX9_digit_X9_within : GoodIn wsX9_digit wsX9_within := goodIn_r _ [6] (by decide +kernel) (by decide +kernel)
set_option maxRecDepth 20000 in
theorem gX9_digit_X9_within : GoodIn wsX9_digit (va_wsS RX9 77 yX9_within wsX9_within) := goodIn_app (goodIn_of _ (by decide +kernel)) ggX9_digit_X9_within
theorem dX9_digit_0 : decode cX9_digit 0 = .ok (.aload_n 0, 1) := by decide +kernel
theorem dX9_digit_1 : decode cX9_digit 1 = .ok (.getfield 87, 3) := by decide +kernel
theorem dX9_digit_4 : decode cX9_digit 4 = .ok (.iload_n 1, 1) := by decide +kernel
theorem dX9_digit_5 : decode cX9_digit 5 = .ok (.if_icmp .ge 22, 3) := by decide +kernel
theorem dX9_digit_8 : decode cX9_digit 8 = .ok (.aload_n 0, 1) := by decide +kernel
theorem dX9_digit_9 : decode cX9_digit 9 = .ok (.getfield 16, 3) := by decide +kernel
theorem dX9_digit_12 : decode cX9_digit 12 = .ok (.aload_n 0, 1) := by decide +kernel
theorem dX9_digit_13 : decode cX9_digit 13 = .ok (.getfield 87, 3) := by decide +kernel
theorem dX9_digit_16 : decode cX9_digit 16 = .ok (.iaload, 1) := by decide +kernel
theorem dX9_digit_17 : decode cX9_digit 17 = .ok (.bipush 48, 2) := by decide +kernel
theorem dX9_digit_19 : decode cX9_digit 19 = .ok (.bipush 57, 2) := by decide +kernel
theorem dX9_digit_21 : decode cX9_digit 21 = .ok (.invokestatic 77, 3) := by decide +kernel
theorem dX9_digit_24 : decode cX9_digit 24 = .ok (.ifCond .ne 6, 3) := by decide +kernel
theorem dX9_digit_27 : decode cX9_digit 27 = .ok (.bipush (-9), 2) := by decide +kernel
theorem dX9_digit_29 : decode cX9_digit 29 = .ok (.ireturn, 1) := by decide +kernel
theorem dX9_digit_30 : decode cX9_digit 30 = .ok (.aload_n 0, 1) := by decide +kernel
theorem dX9_digit_31 : decode cX9_digit 31 = .ok (.dup, 1) := by decide +kernel
theorem dX9_digit_32 : decode cX9_digit 32 = .ok (.getfield 87, 3) := by decide +kernel
theorem dX9_digit_35 : decode cX9_digit 35 = .ok (.iconst 1, 1) := by decide +kernel
theorem dX9_digit_36 : decode cX9_digit 36 = .ok (.iadd, 1) := by decide +kernel
theorem dX9_digit_37 : decode cX9_digit 37 = .ok (.putfield 87, 3) := by decide +kernel
theorem dX9_digit_40 : decode cX9_digit 40 = .ok (.aload_n 0, 1) := by decide +kernel
theorem dX9_digit_41 : decode cX9_digit 41 = .ok (.getfield 16, 3) := by decide +kernel
theorem dX9_digit_44 : decode cX9_digit 44 = .ok (.aload_n 0, 1) := by decide +kernel
theorem dX9_digit_45 : decode cX9_digit 45 = .ok (.getfield 87, 3) := by decide +kernel
theorem dX9_digit_48 : decode cX9_digit 48 = .ok (.iconst 1, 1) := by decide +kernel
theorem dX9_digit_49 : decode cX9_digit 49 = .ok (.isub, 1) := by decide +kernel
theorem dX9_digit_50 : decode cX9_digit 50 = .ok (.iaload, 1) := by decide +kernel
theorem dX9_digit_51 : decode cX9_digit 51 = .ok (.bipush 48, 2) := by decide +kernel
theorem dX9_digit_53 : decode cX9_digit 53 = .ok (.isub, 1) := by decide +kernel
theorem dX9_digit_54 : decode cX9_digit 54 = .ok (.ireturn, 1) := by decide +kernel
theorem dX9_isSign_0 : decode cX9_isSign 0 = .ok (.aload_n 0, 1) := by decide +kernel
theorem dX9_isSign_1 : decode cX9_isSign 1 = .ok (.getfield 87, 3) := by decide +kernel
theorem dX9_isSign_4 : decode cX9_isSign 4 = .ok (.iload_n 1, 1) := by decide +kernel
theorem dX9_isSign_5 : decode cX9_isSign 5 = .ok (.if_icmp .ge 16, 3) := by decide +kernel
theorem dX9_isSign_8 : decode cX9_isSign 8 = .ok (.aload_n 0, 1) := by decide +kernel
theorem dX9_isSign_9 : decode cX9_isSign 9 = .ok (.getfield 16, 3) := by decide +kernel
theorem dX9_isSign_12 : decode cX9_isSign 12 = .ok (.aload_n 0, 1) := by decide +kernel
theorem dX9_isSign_13 : decode cX9_isSign 13 = .ok (.getfield 87, 3) := by decide +kernel
theorem dX9_isSign_16 : decode cX9_isSign 16 = .ok (.iaload, 1) := by decide +kernel
theorem dX9_isSign_17 : decode cX9_isSign 17 = .ok (.iload_n 2, 1) := by decide +kernel
theorem dX9_isSign_18 : decode cX9_isSign 18 = .ok (.if_icmp .eq 5, 3) := by decide +kernel
theorem dX9_isSign_21 : decode cX9_isSign 21 = .ok (.iconst 0, 1) := by decide +kernel
theorem dX9_isSign_22 : decode cX9_isSign 22 = .ok (.ireturn, 1) := by decide +kernel
theorem dX9_isSign_23 : decode cX9_isSign 23 = .ok (.aload_n 0, 1) := by decide +kernel
theorem dX9_isSign_24 : decode cX9_isSign 24 = .ok (.dup, 1) := by decide +kernel
theorem dX9_isSign_25 : decode cX9_isSign 25 = .ok (.getfield 87, 3) := by decide +kernel
theorem dX9_isSign_28 : decode cX9_isSign 28 = .ok (.iconst 1, 1) := by decide +kernel
theorem dX9_isSign_29 : decode cX9_isSign 29 = .ok (.iadd, 1) := by decide +kernel
theorem dX9_isSign_30 : decode cX9_isSign 30 = .ok (.putfield 87, 3) := by decide +kernel
theorem dX9_isSign_33 : decode cX9_isSign 33 = .ok (.iconst 1, 1) := by decide +kernel
theorem dX9_isSign_34 : decode cX9_isSign 34 = .ok (.ireturn, 1) := by decide +kernel
set_option maxRecDepth 20000 in
theorem ggX9_row_X9_isSheet : GoodIn wsX9_row wsX9_isSheet := goodIn_r _ [17, 18, 19, 16, 20] (by decide +kernel) (by decide +kernel)
set_option maxRecDepth 20000 in
theorem gX9_row_X9_isSheet : GoodIn wsX9_row (va_wsS RX9 90 yX9_isSheet wsX9_isSheet) := goodIn_app (goodIn_of _ (by decide +kernel)) ggX9_row_X9_isSheet
set_option maxRecDepth 20000 in
theorem ggX9_row_X9_isSort : GoodIn wsX9_row wsX9_isSort := goodIn_r _ [23, 18, 19, 16, 20] (by decide +kernel) (by decide +kernel)
set_option maxRecDepth 20000 in
theorem gX9_row_X9_isSort : GoodIn wsX9_row (va_wsS RX9 94 yX9_isSort wsX9_isSort) := goodIn_app (goodIn_of _ (by decide +kernel)) ggX9_row_X9_isSort
set_option maxRecDepth 20000 in
theorem ggX9_row_X9_against : GoodIn wsX9_row wsX9_against := goodIn_r _ [27, 28, 29, 58, 59, 60, 61, 62, 63, 64, 65, 66, 67, 68, 69, 70, 71, 72, 73, 74, 75, 76, 77, 78, 79, 80, 81, 82, 83, 84, 85, 86, 87, 88] (by decide +kernel) (by decide +kernel)
set_option maxRecDepth 20000 in
theorem gX9_row_X9_against : GoodIn wsX9_row (wsV RX9 97 RX9 yX9_against wsX9_against) := goodIn_app (goodIn_of _ (by decide +kernel)) ggX9_row_X9_against
set_option maxRecDepth 20000 in
theorem ggX9_row_X9_fails : GoodIn wsX9_row wsX9_fails := goodIn_r _ [33, 1, 58, 59, 60, 61, 62, 63, 64, 65, 66, 67, 68, 69, 70, 71, 72, 73, 74, 75, 76, 77, 78, 79, 80, 81, 82, 83, 84, 85, 86, 87, 88] (by decide +kernel) (by decide +kernel)
set_option maxRecDepth 20000 in
theorem gX9_row_X9_fails : GoodIn wsX9_row (wsV RX9 101 RX9 yX9_fails wsX9_fails) := goodIn_app (goodIn_of _ (by decide +kernel)) ggX9_row_X9_fails
set_option maxRecDepth 20000 in
theorem ggX9_row_X9_readRow : GoodIn wsX9_row wsX9_readRow := goodIn_r _ [37, 3, 5, 8, 2, 38, 39, 40, 16, 41, 42, 43, 44, 45, 46, 18, 19, 20, 47, 48, 49, 50, 10, 12, 58, 59, 60, 61, 62, 63, 64, 65, 66, 67, 68, 69, 70, 71, 72, 73, 74, 75, 76, 77, 78, 79, 80, 81, 82, 83, 84, 85, 86, 87, 88] (by decide +kernel) (by decide +kernel)
set_option maxRecDepth 20000 in
theorem gX9_row_X9_readRow : GoodIn wsX9_row (wsV RX9 105 RX9 yX9_readRow wsX9_readRow) := goodIn_app (goodIn_of _ (by decide +kernel)) ggX9_row_X9_readRow
set_option maxRecDepth 20000 in
theorem ggX9_row_X9_begins : GoodIn wsX9_row wsX9_begins := goodIn_r _ [54, 55, 4, 56, 7, 57, 58, 59, 60, 61, 62, 63, 64, 65, 66, 67, 68, 69, 70, 71, 72, 73, 74, 75, 76, 77, 78, 79, 80, 81, 82, 83, 84, 85, 86, 87, 88] (by decide +kernel) (by decide +kernel)
set_option maxRecDepth 20000 in
theorem gX9_row_X9_begins : GoodIn wsX9_row (wsV RX9 114 RX9 yX9_begins wsX9_begins) := goodIn_app (goodIn_of _ (by decide +kernel)) ggX9_row_X9_begins
theorem dX9_row_0 : decode cX9_row 0 = .ok (.aload_n 0, 1) := by decide +kernel
theorem dX9_row_1 : decode cX9_row 1 = .ok (.iconst 0, 1) := by decide +kernel
theorem dX9_row_2 : decode cX9_row 2 = .ok (.putfield 71, 3) := by decide +kernel
theorem dX9_row_5 : decode cX9_row 5 = .ok (.iload_n 1, 1) := by decide +kernel
theorem dX9_row_6 : decode cX9_row 6 = .ok (.invokestatic 90, 3) := by decide +kernel
theorem dX9_row_9 : decode cX9_row 9 = .ok (.ifCond .ne 5, 3) := by decide +kernel
theorem dX9_row_12 : decode cX9_row 12 = .ok (.iconst (-1), 1) := by decide +kernel
theorem dX9_row_13 : decode cX9_row 13 = .ok (.ireturn, 1) := by decide +kernel
theorem dX9_row_14 : decode cX9_row 14 = .ok (.iload_n 2, 1) := by decide +kernel
theorem dX9_row_15 : decode cX9_row 15 = .ok (.invokestatic 94, 3) := by decide +kernel
theorem dX9_row_18 : decode cX9_row 18 = .ok (.ifCond .ne 6, 3) := by decide +kernel
theorem dX9_row_21 : decode cX9_row 21 = .ok (.bipush (-2), 2) := by decide +kernel
theorem dX9_row_23 : decode cX9_row 23 = .ok (.ireturn, 1) := by decide +kernel
theorem dX9_row_24 : decode cX9_row 24 = .ok (.aload_n 0, 1) := by decide +kernel
theorem dX9_row_25 : decode cX9_row 25 = .ok (.iload_n 1, 1) := by decide +kernel
theorem dX9_row_26 : decode cX9_row 26 = .ok (.iload_n 2, 1) := by decide +kernel
theorem dX9_row_27 : decode cX9_row 27 = .ok (.iload_n 3, 1) := by decide +kernel
theorem dX9_row_28 : decode cX9_row 28 = .ok (.iload 4, 2) := by decide +kernel
theorem dX9_row_30 : decode cX9_row 30 = .ok (.invokevirtual 97, 3) := by decide +kernel
theorem dX9_row_33 : decode cX9_row 33 = .ok (.istore 5, 2) := by decide +kernel
theorem dX9_row_35 : decode cX9_row 35 = .ok (.iload 5, 2) := by decide +kernel
theorem dX9_row_37 : decode cX9_row 37 = .ok (.ifCond .eq 10, 3) := by decide +kernel
theorem dX9_row_40 : decode cX9_row 40 = .ok (.aload_n 0, 1) := by decide +kernel
theorem dX9_row_41 : decode cX9_row 41 = .ok (.iload 5, 2) := by decide +kernel
theorem dX9_row_43 : decode cX9_row 43 = .ok (.invokevirtual 101, 3) := by decide +kernel
theorem dX9_row_46 : decode cX9_row 46 = .ok (.ireturn, 1) := by decide +kernel
theorem dX9_row_47 : decode cX9_row 47 = .ok (.bipush 60, 2) := by decide +kernel
theorem dX9_row_49 : decode cX9_row 49 = .ok (.iload_n 1, 1) := by decide +kernel
theorem dX9_row_50 : decode cX9_row 50 = .ok (.imul, 1) := by decide +kernel
theorem dX9_row_51 : decode cX9_row 51 = .ok (.iload_n 3, 1) := by decide +kernel
theorem dX9_row_52 : decode cX9_row 52 = .ok (.iadd, 1) := by decide +kernel
theorem dX9_row_53 : decode cX9_row 53 = .ok (.istore 6, 2) := by decide +kernel
theorem dX9_row_55 : decode cX9_row 55 = .ok (.aload_n 0, 1) := by decide +kernel
theorem dX9_row_56 : decode cX9_row 56 = .ok (.iload 6, 2) := by decide +kernel
theorem dX9_row_58 : decode cX9_row 58 = .ok (.putfield 87, 3) := by decide +kernel
theorem dX9_row_61 : decode cX9_row 61 = .ok (.aload_n 0, 1) := by decide +kernel
theorem dX9_row_62 : decode cX9_row 62 = .ok (.iload 6, 2) := by decide +kernel
theorem dX9_row_64 : decode cX9_row 64 = .ok (.iload 4, 2) := by decide +kernel
theorem dX9_row_66 : decode cX9_row 66 = .ok (.iadd, 1) := by decide +kernel
theorem dX9_row_67 : decode cX9_row 67 = .ok (.invokevirtual 105, 3) := by decide +kernel
theorem dX9_row_70 : decode cX9_row 70 = .ok (.ifCond .ne 14, 3) := by decide +kernel
theorem dX9_row_73 : decode cX9_row 73 = .ok (.bipush (-100), 2) := by decide +kernel
theorem dX9_row_75 : decode cX9_row 75 = .ok (.aload_n 0, 1) := by decide +kernel
theorem dX9_row_76 : decode cX9_row 76 = .ok (.getfield 87, 3) := by decide +kernel
theorem dX9_row_79 : decode cX9_row 79 = .ok (.iload 6, 2) := by decide +kernel
theorem dX9_row_81 : decode cX9_row 81 = .ok (.isub, 1) := by decide +kernel
theorem dX9_row_82 : decode cX9_row 82 = .ok (.isub, 1) := by decide +kernel
theorem dX9_row_83 : decode cX9_row 83 = .ok (.ireturn, 1) := by decide +kernel
theorem dX9_row_84 : decode cX9_row 84 = .ok (.aload_n 0, 1) := by decide +kernel
theorem dX9_row_85 : decode cX9_row 85 = .ok (.aload_n 0, 1) := by decide +kernel
theorem dX9_row_86 : decode cX9_row 86 = .ok (.getfield 108, 3) := by decide +kernel
theorem dX9_row_89 : decode cX9_row 89 = .ok (.putfield 81, 3) := by decide +kernel
theorem dX9_row_92 : decode cX9_row 92 = .ok (.aload_n 0, 1) := by decide +kernel
theorem dX9_row_93 : decode cX9_row 93 = .ok (.aload_n 0, 1) := by decide +kernel
theorem dX9_row_94 : decode cX9_row 94 = .ok (.getfield 111, 3) := by decide +kernel
theorem dX9_row_97 : decode cX9_row 97 = .ok (.putfield 84, 3) := by decide +kernel
theorem dX9_row_100 : decode cX9_row 100 = .ok (.iconst 0, 1) := by decide +kernel
theorem dX9_row_101 : decode cX9_row 101 = .ok (.istore 7, 2) := by decide +kernel
theorem dX9_row_103 : decode cX9_row 103 = .ok (.iload 7, 2) := by decide +kernel
theorem dX9_row_105 : decode cX9_row 105 = .ok (.aload_n 0, 1) := by decide +kernel
theorem dX9_row_106 : decode cX9_row 106 = .ok (.getfield 81, 3) := by decide +kernel
theorem dX9_row_109 : decode cX9_row 109 = .ok (.if_icmp .ge 24, 3) := by decide +kernel
theorem dX9_row_112 : decode cX9_row 112 = .ok (.aload_n 0, 1) := by decide +kernel
theorem dX9_row_113 : decode cX9_row 113 = .ok (.getfield 19, 3) := by decide +kernel
theorem dX9_row_116 : decode cX9_row 116 = .ok (.iload 7, 2) := by decide +kernel
theorem dX9_row_118 : decode cX9_row 118 = .ok (.aload_n 0, 1) := by decide +kernel
theorem dX9_row_119 : decode cX9_row 119 = .ok (.getfield 47, 3) := by decide +kernel
theorem dX9_row_122 : decode cX9_row 122 = .ok (.iload 7, 2) := by decide +kernel
theorem dX9_row_124 : decode cX9_row 124 = .ok (.iaload, 1) := by decide +kernel
theorem dX9_row_125 : decode cX9_row 125 = .ok (.i2l, 1) := by decide +kernel
theorem dX9_row_126 : decode cX9_row 126 = .ok (.lastore, 1) := by decide +kernel
theorem dX9_row_127 : decode cX9_row 127 = .ok (.iinc 7 1, 3) := by decide +kernel
theorem dX9_row_130 : decode cX9_row 130 = .ok (.goto (-27), 3) := by decide +kernel
theorem dX9_row_133 : decode cX9_row 133 = .ok (.iconst 0, 1) := by decide +kernel
theorem dX9_row_134 : decode cX9_row 134 = .ok (.istore 7, 2) := by decide +kernel
theorem dX9_row_136 : decode cX9_row 136 = .ok (.iload 7, 2) := by decide +kernel
theorem dX9_row_138 : decode cX9_row 138 = .ok (.aload_n 0, 1) := by decide +kernel
theorem dX9_row_139 : decode cX9_row 139 = .ok (.getfield 84, 3) := by decide +kernel
theorem dX9_row_142 : decode cX9_row 142 = .ok (.if_icmp .ge 37, 3) := by decide +kernel
theorem dX9_row_145 : decode cX9_row 145 = .ok (.aload_n 0, 1) := by decide +kernel
theorem dX9_row_146 : decode cX9_row 146 = .ok (.getfield 29, 3) := by decide +kernel
theorem dX9_row_149 : decode cX9_row 149 = .ok (.iload 7, 2) := by decide +kernel
theorem dX9_row_151 : decode cX9_row 151 = .ok (.aload_n 0, 1) := by decide +kernel
theorem dX9_row_152 : decode cX9_row 152 = .ok (.getfield 50, 3) := by decide +kernel
theorem dX9_row_155 : decode cX9_row 155 = .ok (.iload 7, 2) := by decide +kernel
theorem dX9_row_157 : decode cX9_row 157 = .ok (.iaload, 1) := by decide +kernel
theorem dX9_row_158 : decode cX9_row 158 = .ok (.iastore, 1) := by decide +kernel
theorem dX9_row_159 : decode cX9_row 159 = .ok (.aload_n 0, 1) := by decide +kernel
theorem dX9_row_160 : decode cX9_row 160 = .ok (.getfield 32, 3) := by decide +kernel
theorem dX9_row_163 : decode cX9_row 163 = .ok (.iload 7, 2) := by decide +kernel
theorem dX9_row_165 : decode cX9_row 165 = .ok (.aload_n 0, 1) := by decide +kernel
theorem dX9_row_166 : decode cX9_row 166 = .ok (.getfield 53, 3) := by decide +kernel
theorem dX9_row_169 : decode cX9_row 169 = .ok (.iload 7, 2) := by decide +kernel
theorem dX9_row_171 : decode cX9_row 171 = .ok (.iaload, 1) := by decide +kernel
theorem dX9_row_172 : decode cX9_row 172 = .ok (.iastore, 1) := by decide +kernel
theorem dX9_row_173 : decode cX9_row 173 = .ok (.iinc 7 1, 3) := by decide +kernel
theorem dX9_row_176 : decode cX9_row 176 = .ok (.goto (-40), 3) := by decide +kernel
theorem dX9_row_179 : decode cX9_row 179 = .ok (.aload_n 0, 1) := by decide +kernel
theorem dX9_row_180 : decode cX9_row 180 = .ok (.invokevirtual 114, 3) := by decide +kernel
theorem dX9_row_183 : decode cX9_row 183 = .ok (.aload_n 0, 1) := by decide +kernel
theorem dX9_row_184 : decode cX9_row 184 = .ok (.iconst 0, 1) := by decide +kernel
theorem dX9_row_185 : decode cX9_row 185 = .ok (.putfield 117, 3) := by decide +kernel
theorem dX9_row_188 : decode cX9_row 188 = .ok (.aload_n 0, 1) := by decide +kernel
theorem dX9_row_189 : decode cX9_row 189 = .ok (.getfield 81, 3) := by decide +kernel
theorem dX9_row_192 : decode cX9_row 192 = .ok (.ireturn, 1) := by decide +kernel
theorem dX9_begins_0 : decode cX9_begins 0 = .ok (.aload_n 0, 1) := by decide +kernel
theorem dX9_begins_1 : decode cX9_begins 1 = .ok (.iconst 0, 1) := by decide +kernel
theorem dX9_begins_2 : decode cX9_begins 2 = .ok (.putfield 120, 3) := by decide +kernel
theorem dX9_begins_5 : decode cX9_begins 5 = .ok (.iconst 0, 1) := by decide +kernel
theorem dX9_begins_6 : decode cX9_begins 6 = .ok (.istore_n 1, 1) := by decide +kernel
theorem dX9_begins_7 : decode cX9_begins 7 = .ok (.iload_n 1, 1) := by decide +kernel
theorem dX9_begins_8 : decode cX9_begins 8 = .ok (.aload_n 0, 1) := by decide +kernel
theorem dX9_begins_9 : decode cX9_begins 9 = .ok (.getfield 81, 3) := by decide +kernel
theorem dX9_begins_12 : decode cX9_begins 12 = .ok (.if_icmp .ge 33, 3) := by decide +kernel
theorem dX9_begins_15 : decode cX9_begins 15 = .ok (.aload_n 0, 1) := by decide +kernel
theorem dX9_begins_16 : decode cX9_begins 16 = .ok (.getfield 23, 3) := by decide +kernel
theorem dX9_begins_19 : decode cX9_begins 19 = .ok (.iload_n 1, 1) := by decide +kernel
theorem dX9_begins_20 : decode cX9_begins 20 = .ok (.aload_n 0, 1) := by decide +kernel
theorem dX9_begins_21 : decode cX9_begins 21 = .ok (.getfield 19, 3) := by decide +kernel
theorem dX9_begins_24 : decode cX9_begins 24 = .ok (.iload_n 1, 1) := by decide +kernel
theorem dX9_begins_25 : decode cX9_begins 25 = .ok (.laload, 1) := by decide +kernel
theorem dX9_begins_26 : decode cX9_begins 26 = .ok (.lastore, 1) := by decide +kernel
theorem dX9_begins_27 : decode cX9_begins 27 = .ok (.aload_n 0, 1) := by decide +kernel
theorem dX9_begins_28 : decode cX9_begins 28 = .ok (.getfield 26, 3) := by decide +kernel
theorem dX9_begins_31 : decode cX9_begins 31 = .ok (.iload_n 1, 1) := by decide +kernel
theorem dX9_begins_32 : decode cX9_begins 32 = .ok (.aload_n 0, 1) := by decide +kernel
theorem dX9_begins_33 : decode cX9_begins 33 = .ok (.getfield 19, 3) := by decide +kernel
theorem dX9_begins_36 : decode cX9_begins 36 = .ok (.iload_n 1, 1) := by decide +kernel
theorem dX9_begins_37 : decode cX9_begins 37 = .ok (.laload, 1) := by decide +kernel
theorem dX9_begins_38 : decode cX9_begins 38 = .ok (.lastore, 1) := by decide +kernel
theorem dX9_begins_39 : decode cX9_begins 39 = .ok (.iinc 1 1, 3) := by decide +kernel
theorem dX9_begins_42 : decode cX9_begins 42 = .ok (.goto (-35), 3) := by decide +kernel
theorem dX9_begins_45 : decode cX9_begins 45 = .ok (.return_, 1) := by decide +kernel
set_option maxRecDepth 20000 in
theorem ggX9_readRow_X9_isSign : GoodIn wsX9_readRow wsX9_isSign := goodIn_r _ [9, 4, 10, 24, 25, 26, 27, 28, 29, 30, 31, 32, 33, 34, 35, 36, 37, 38, 39, 40, 41, 42, 43, 44, 45, 46, 47, 48, 49, 50, 51, 52, 53, 54] (by decide +kernel) (by decide +kernel)
set_option maxRecDepth 20000 in
theorem gX9_readRow_X9_isSign : GoodIn wsX9_readRow (wsV RX9 123 RX9 yX9_isSign wsX9_isSign) := goodIn_app (goodIn_of _ (by decide +kernel)) ggX9_readRow_X9_isSign
set_option maxRecDepth 20000 in
theorem ggX9_readRow_X9_digit : GoodIn wsX9_readRow wsX9_digit := goodIn_r _ [14, 4, 10, 15, 16, 8, 17, 24, 25, 26, 27, 28, 29, 30, 31, 32, 33, 34, 35, 36, 37, 38, 39, 40, 41, 42, 43, 44, 45, 46, 47, 48, 49, 50, 51, 52, 53, 54] (by decide +kernel) (by decide +kernel)
set_option maxRecDepth 20000 in
theorem gX9_readRow_X9_digit : GoodIn wsX9_readRow (wsV RX9 127 RX9 yX9_digit wsX9_digit) := goodIn_app (goodIn_of _ (by decide +kernel)) ggX9_readRow_X9_digit
set_option maxRecDepth 20000 in
theorem ggX9_readRow_X9_readHelper : GoodIn wsX9_readRow wsX9_readHelper := goodIn_r _ [21, 4, 10, 22, 2, 23, 11, 12, 13, 8, 14, 15, 16, 17, 24, 25, 26, 27, 28, 29, 30, 31, 32, 33, 34, 35, 36, 37, 38, 39, 40, 41, 42, 43, 44, 45, 46, 47, 48, 49, 50, 51, 52, 53, 54] (by decide +kernel) (by decide +kernel)
set_option maxRecDepth 20000 in
theorem gX9_readRow_X9_readHelper : GoodIn wsX9_readRow (wsV RX9 130 RX9 yX9_readHelper wsX9_readHelper) := goodIn_app (goodIn_of _ (by decide +kernel)) ggX9_readRow_X9_readHelper
theorem dX9_readRow_0 : decode cX9_readRow 0 = .ok (.aload_n 0, 1) := by decide +kernel
theorem dX9_readRow_1 : decode cX9_readRow 1 = .ok (.iconst 0, 1) := by decide +kernel
theorem dX9_readRow_2 : decode cX9_readRow 2 = .ok (.putfield 108, 3) := by decide +kernel
theorem dX9_readRow_5 : decode cX9_readRow 5 = .ok (.aload_n 0, 1) := by decide +kernel
theorem dX9_readRow_6 : decode cX9_readRow 6 = .ok (.iconst 0, 1) := by decide +kernel
theorem dX9_readRow_7 : decode cX9_readRow 7 = .ok (.putfield 111, 3) := by decide +kernel
theorem dX9_readRow_10 : decode cX9_readRow 10 = .ok (.aload_n 0, 1) := by decide +kernel
theorem dX9_readRow_11 : decode cX9_readRow 11 = .ok (.iload_n 1, 1) := by decide +kernel
theorem dX9_readRow_12 : decode cX9_readRow 12 = .ok (.bipush 114, 2) := by decide +kernel
theorem dX9_readRow_14 : decode cX9_readRow 14 = .ok (.invokevirtual 123, 3) := by decide +kernel
theorem dX9_readRow_17 : decode cX9_readRow 17 = .ok (.ifCond .ne 5, 3) := by decide +kernel
theorem dX9_readRow_20 : decode cX9_readRow 20 = .ok (.iconst 0, 1) := by decide +kernel
theorem dX9_readRow_21 : decode cX9_readRow 21 = .ok (.ireturn, 1) := by decide +kernel
theorem dX9_readRow_22 : decode cX9_readRow 22 = .ok (.aload_n 0, 1) := by decide +kernel
theorem dX9_readRow_23 : decode cX9_readRow 23 = .ok (.iload_n 1, 1) := by decide +kernel
theorem dX9_readRow_24 : decode cX9_readRow 24 = .ok (.invokevirtual 127, 3) := by decide +kernel
theorem dX9_readRow_27 : decode cX9_readRow 27 = .ok (.istore_n 2, 1) := by decide +kernel
theorem dX9_readRow_28 : decode cX9_readRow 28 = .ok (.iload_n 2, 1) := by decide +kernel
theorem dX9_readRow_29 : decode cX9_readRow 29 = .ok (.bipush (-9), 2) := by decide +kernel
theorem dX9_readRow_31 : decode cX9_readRow 31 = .ok (.if_icmp .eq 46, 3) := by decide +kernel
theorem dX9_readRow_34 : decode cX9_readRow 34 = .ok (.aload_n 0, 1) := by decide +kernel
theorem dX9_readRow_35 : decode cX9_readRow 35 = .ok (.getfield 47, 3) := by decide +kernel
theorem dX9_readRow_38 : decode cX9_readRow 38 = .ok (.aload_n 0, 1) := by decide +kernel
theorem dX9_readRow_39 : decode cX9_readRow 39 = .ok (.getfield 108, 3) := by decide +kernel
theorem dX9_readRow_42 : decode cX9_readRow 42 = .ok (.iload_n 2, 1) := by decide +kernel
theorem dX9_readRow_43 : decode cX9_readRow 43 = .ok (.iastore, 1) := by decide +kernel
theorem dX9_readRow_44 : decode cX9_readRow 44 = .ok (.aload_n 0, 1) := by decide +kernel
theorem dX9_readRow_45 : decode cX9_readRow 45 = .ok (.dup, 1) := by decide +kernel
theorem dX9_readRow_46 : decode cX9_readRow 46 = .ok (.getfield 108, 3) := by decide +kernel
theorem dX9_readRow_49 : decode cX9_readRow 49 = .ok (.iconst 1, 1) := by decide +kernel
theorem dX9_readRow_50 : decode cX9_readRow 50 = .ok (.iadd, 1) := by decide +kernel
theorem dX9_readRow_51 : decode cX9_readRow 51 = .ok (.putfield 108, 3) := by decide +kernel
theorem dX9_readRow_54 : decode cX9_readRow 54 = .ok (.aload_n 0, 1) := by decide +kernel
theorem dX9_readRow_55 : decode cX9_readRow 55 = .ok (.getfield 108, 3) := by decide +kernel
theorem dX9_readRow_58 : decode cX9_readRow 58 = .ok (.bipush 16, 2) := by decide +kernel
theorem dX9_readRow_60 : decode cX9_readRow 60 = .ok (.if_icmp .ge 11, 3) := by decide +kernel
theorem dX9_readRow_63 : decode cX9_readRow 63 = .ok (.aload_n 0, 1) := by decide +kernel
theorem dX9_readRow_64 : decode cX9_readRow 64 = .ok (.iload_n 1, 1) := by decide +kernel
theorem dX9_readRow_65 : decode cX9_readRow 65 = .ok (.invokevirtual 127, 3) := by decide +kernel
theorem dX9_readRow_68 : decode cX9_readRow 68 = .ok (.goto 5, 3) := by decide +kernel
theorem dX9_readRow_71 : decode cX9_readRow 71 = .ok (.bipush (-9), 2) := by decide +kernel
theorem dX9_readRow_73 : decode cX9_readRow 73 = .ok (.istore_n 2, 1) := by decide +kernel
theorem dX9_readRow_74 : decode cX9_readRow 74 = .ok (.goto (-46), 3) := by decide +kernel
theorem dX9_readRow_77 : decode cX9_readRow 77 = .ok (.aload_n 0, 1) := by decide +kernel
theorem dX9_readRow_78 : decode cX9_readRow 78 = .ok (.getfield 108, 3) := by decide +kernel
theorem dX9_readRow_81 : decode cX9_readRow 81 = .ok (.ifCond .ne 5, 3) := by decide +kernel
theorem dX9_readRow_84 : decode cX9_readRow 84 = .ok (.iconst 0, 1) := by decide +kernel
theorem dX9_readRow_85 : decode cX9_readRow 85 = .ok (.ireturn, 1) := by decide +kernel
theorem dX9_readRow_86 : decode cX9_readRow 86 = .ok (.aload_n 0, 1) := by decide +kernel
theorem dX9_readRow_87 : decode cX9_readRow 87 = .ok (.getfield 111, 3) := by decide +kernel
theorem dX9_readRow_90 : decode cX9_readRow 90 = .ok (.iconst 3, 1) := by decide +kernel
theorem dX9_readRow_91 : decode cX9_readRow 91 = .ok (.if_icmp .ge 31, 3) := by decide +kernel
theorem dX9_readRow_94 : decode cX9_readRow 94 = .ok (.aload_n 0, 1) := by decide +kernel
theorem dX9_readRow_95 : decode cX9_readRow 95 = .ok (.getfield 87, 3) := by decide +kernel
theorem dX9_readRow_98 : decode cX9_readRow 98 = .ok (.iload_n 1, 1) := by decide +kernel
theorem dX9_readRow_99 : decode cX9_readRow 99 = .ok (.if_icmp .ge 23, 3) := by decide +kernel
theorem dX9_readRow_102 : decode cX9_readRow 102 = .ok (.aload_n 0, 1) := by decide +kernel
theorem dX9_readRow_103 : decode cX9_readRow 103 = .ok (.iload_n 1, 1) := by decide +kernel
theorem dX9_readRow_104 : decode cX9_readRow 104 = .ok (.bipush 59, 2) := by decide +kernel
theorem dX9_readRow_106 : decode cX9_readRow 106 = .ok (.invokevirtual 123, 3) := by decide +kernel
theorem dX9_readRow_109 : decode cX9_readRow 109 = .ok (.ifCond .eq 11, 3) := by decide +kernel
theorem dX9_readRow_112 : decode cX9_readRow 112 = .ok (.aload_n 0, 1) := by decide +kernel
theorem dX9_readRow_113 : decode cX9_readRow 113 = .ok (.iload_n 1, 1) := by decide +kernel
theorem dX9_readRow_114 : decode cX9_readRow 114 = .ok (.invokevirtual 130, 3) := by decide +kernel
theorem dX9_readRow_117 : decode cX9_readRow 117 = .ok (.ifCond .ne (-31), 3) := by decide +kernel
theorem dX9_readRow_120 : decode cX9_readRow 120 = .ok (.iconst 0, 1) := by decide +kernel
theorem dX9_readRow_121 : decode cX9_readRow 121 = .ok (.ireturn, 1) := by decide +kernel
theorem dX9_readRow_122 : decode cX9_readRow 122 = .ok (.aload_n 0, 1) := by decide +kernel
theorem dX9_readRow_123 : decode cX9_readRow 123 = .ok (.getfield 87, 3) := by decide +kernel
theorem dX9_readRow_126 : decode cX9_readRow 126 = .ok (.iload_n 1, 1) := by decide +kernel
theorem dX9_readRow_127 : decode cX9_readRow 127 = .ok (.if_icmp .ne 7, 3) := by decide +kernel
theorem dX9_readRow_130 : decode cX9_readRow 130 = .ok (.iconst 1, 1) := by decide +kernel
theorem dX9_readRow_131 : decode cX9_readRow 131 = .ok (.goto 4, 3) := by decide +kernel
theorem dX9_readRow_134 : decode cX9_readRow 134 = .ok (.iconst 0, 1) := by decide +kernel
theorem dX9_readRow_135 : decode cX9_readRow 135 = .ok (.ireturn, 1) := by decide +kernel
set_option maxRecDepth 20000 in
theorem ggX9_readHelper_X9_digit : GoodIn wsX9_readHelper wsX9_digit := goodIn_r _ [10, 1, 2, 11, 12, 9, 13, 14, 15, 16, 17, 18, 19, 20, 21, 22, 23, 24, 25, 26, 27, 28, 29, 30, 31, 32, 33, 34, 35, 36, 37, 38, 39, 40, 41, 42, 43, 44] (by decide +kernel) (by decide +kernel)
set_option maxRecDepth 20000 in
theorem gX9_readHelper_X9_digit : GoodIn wsX9_readHelper (wsV RX9 127 RX9 yX9_digit wsX9_digit) := goodIn_app (goodIn_of _ (by decide +kernel)) ggX9_readHelper_X9_digit
theorem dX9_readHelper_0 : decode cX9_readHelper 0 = .ok (.aload_n 0, 1) := by decide +kernel
theorem dX9_readHelper_1 : decode cX9_readHelper 1 = .ok (.getfield 87, 3) := by decide +kernel
theorem dX9_readHelper_4 : decode cX9_readHelper 4 = .ok (.iload_n 1, 1) := by decide +kernel
theorem dX9_readHelper_5 : decode cX9_readHelper 5 = .ok (.if_icmp .ge 15, 3) := by decide +kernel
theorem dX9_readHelper_8 : decode cX9_readHelper 8 = .ok (.aload_n 0, 1) := by decide +kernel
theorem dX9_readHelper_9 : decode cX9_readHelper 9 = .ok (.getfield 16, 3) := by decide +kernel
theorem dX9_readHelper_12 : decode cX9_readHelper 12 = .ok (.aload_n 0, 1) := by decide +kernel
theorem dX9_readHelper_13 : decode cX9_readHelper 13 = .ok (.getfield 87, 3) := by decide +kernel
theorem dX9_readHelper_16 : decode cX9_readHelper 16 = .ok (.iaload, 1) := by decide +kernel
theorem dX9_readHelper_17 : decode cX9_readHelper 17 = .ok (.goto 4, 3) := by decide +kernel
theorem dX9_readHelper_20 : decode cX9_readHelper 20 = .ok (.iconst 0, 1) := by decide +kernel
theorem dX9_readHelper_21 : decode cX9_readHelper 21 = .ok (.istore_n 2, 1) := by decide +kernel
theorem dX9_readHelper_22 : decode cX9_readHelper 22 = .ok (.aload_n 0, 1) := by decide +kernel
theorem dX9_readHelper_23 : decode cX9_readHelper 23 = .ok (.getfield 50, 3) := by decide +kernel
theorem dX9_readHelper_26 : decode cX9_readHelper 26 = .ok (.aload_n 0, 1) := by decide +kernel
theorem dX9_readHelper_27 : decode cX9_readHelper 27 = .ok (.getfield 111, 3) := by decide +kernel
theorem dX9_readHelper_30 : decode cX9_readHelper 30 = .ok (.iload_n 2, 1) := by decide +kernel
theorem dX9_readHelper_31 : decode cX9_readHelper 31 = .ok (.bipush 112, 2) := by decide +kernel
theorem dX9_readHelper_33 : decode cX9_readHelper 33 = .ok (.if_icmp .ne 7, 3) := by decide +kernel
theorem dX9_readHelper_36 : decode cX9_readHelper 36 = .ok (.iconst 0, 1) := by decide +kernel
theorem dX9_readHelper_37 : decode cX9_readHelper 37 = .ok (.goto 25, 3) := by decide +kernel
theorem dX9_readHelper_40 : decode cX9_readHelper 40 = .ok (.iload_n 2, 1) := by decide +kernel
theorem dX9_readHelper_41 : decode cX9_readHelper 41 = .ok (.bipush 98, 2) := by decide +kernel
theorem dX9_readHelper_43 : decode cX9_readHelper 43 = .ok (.if_icmp .ne 7, 3) := by decide +kernel
theorem dX9_readHelper_46 : decode cX9_readHelper 46 = .ok (.iconst 1, 1) := by decide +kernel
theorem dX9_readHelper_47 : decode cX9_readHelper 47 = .ok (.goto 15, 3) := by decide +kernel
theorem dX9_readHelper_50 : decode cX9_readHelper 50 = .ok (.iload_n 2, 1) := by decide +kernel
theorem dX9_readHelper_51 : decode cX9_readHelper 51 = .ok (.bipush 100, 2) := by decide +kernel
theorem dX9_readHelper_53 : decode cX9_readHelper 53 = .ok (.if_icmp .ne 7, 3) := by decide +kernel
theorem dX9_readHelper_56 : decode cX9_readHelper 56 = .ok (.iconst 2, 1) := by decide +kernel
theorem dX9_readHelper_57 : decode cX9_readHelper 57 = .ok (.goto 5, 3) := by decide +kernel
theorem dX9_readHelper_60 : decode cX9_readHelper 60 = .ok (.bipush (-9), 2) := by decide +kernel
theorem dX9_readHelper_62 : decode cX9_readHelper 62 = .ok (.iastore, 1) := by decide +kernel
theorem dX9_readHelper_63 : decode cX9_readHelper 63 = .ok (.aload_n 0, 1) := by decide +kernel
theorem dX9_readHelper_64 : decode cX9_readHelper 64 = .ok (.getfield 50, 3) := by decide +kernel
theorem dX9_readHelper_67 : decode cX9_readHelper 67 = .ok (.aload_n 0, 1) := by decide +kernel
theorem dX9_readHelper_68 : decode cX9_readHelper 68 = .ok (.getfield 111, 3) := by decide +kernel
theorem dX9_readHelper_71 : decode cX9_readHelper 71 = .ok (.iaload, 1) := by decide +kernel
theorem dX9_readHelper_72 : decode cX9_readHelper 72 = .ok (.bipush (-9), 2) := by decide +kernel
theorem dX9_readHelper_74 : decode cX9_readHelper 74 = .ok (.if_icmp .ne 5, 3) := by decide +kernel
theorem dX9_readHelper_77 : decode cX9_readHelper 77 = .ok (.iconst 0, 1) := by decide +kernel
theorem dX9_readHelper_78 : decode cX9_readHelper 78 = .ok (.ireturn, 1) := by decide +kernel
theorem dX9_readHelper_79 : decode cX9_readHelper 79 = .ok (.aload_n 0, 1) := by decide +kernel
theorem dX9_readHelper_80 : decode cX9_readHelper 80 = .ok (.dup, 1) := by decide +kernel
theorem dX9_readHelper_81 : decode cX9_readHelper 81 = .ok (.getfield 87, 3) := by decide +kernel
theorem dX9_readHelper_84 : decode cX9_readHelper 84 = .ok (.iconst 1, 1) := by decide +kernel
theorem dX9_readHelper_85 : decode cX9_readHelper 85 = .ok (.iadd, 1) := by decide +kernel
theorem dX9_readHelper_86 : decode cX9_readHelper 86 = .ok (.putfield 87, 3) := by decide +kernel
theorem dX9_readHelper_89 : decode cX9_readHelper 89 = .ok (.aload_n 0, 1) := by decide +kernel
theorem dX9_readHelper_90 : decode cX9_readHelper 90 = .ok (.getfield 53, 3) := by decide +kernel
theorem dX9_readHelper_93 : decode cX9_readHelper 93 = .ok (.aload_n 0, 1) := by decide +kernel
theorem dX9_readHelper_94 : decode cX9_readHelper 94 = .ok (.getfield 111, 3) := by decide +kernel
theorem dX9_readHelper_97 : decode cX9_readHelper 97 = .ok (.aload_n 0, 1) := by decide +kernel
theorem dX9_readHelper_98 : decode cX9_readHelper 98 = .ok (.iload_n 1, 1) := by decide +kernel
theorem dX9_readHelper_99 : decode cX9_readHelper 99 = .ok (.invokevirtual 127, 3) := by decide +kernel
theorem dX9_readHelper_102 : decode cX9_readHelper 102 = .ok (.iastore, 1) := by decide +kernel
theorem dX9_readHelper_103 : decode cX9_readHelper 103 = .ok (.aload_n 0, 1) := by decide +kernel
theorem dX9_readHelper_104 : decode cX9_readHelper 104 = .ok (.dup, 1) := by decide +kernel
theorem dX9_readHelper_105 : decode cX9_readHelper 105 = .ok (.getfield 111, 3) := by decide +kernel
theorem dX9_readHelper_108 : decode cX9_readHelper 108 = .ok (.iconst 1, 1) := by decide +kernel
theorem dX9_readHelper_109 : decode cX9_readHelper 109 = .ok (.iadd, 1) := by decide +kernel
theorem dX9_readHelper_110 : decode cX9_readHelper 110 = .ok (.putfield 111, 3) := by decide +kernel
theorem dX9_readHelper_113 : decode cX9_readHelper 113 = .ok (.aload_n 0, 1) := by decide +kernel
theorem dX9_readHelper_114 : decode cX9_readHelper 114 = .ok (.getfield 53, 3) := by decide +kernel
theorem dX9_readHelper_117 : decode cX9_readHelper 117 = .ok (.aload_n 0, 1) := by decide +kernel
theorem dX9_readHelper_118 : decode cX9_readHelper 118 = .ok (.getfield 111, 3) := by decide +kernel
theorem dX9_readHelper_121 : decode cX9_readHelper 121 = .ok (.iconst 1, 1) := by decide +kernel
theorem dX9_readHelper_122 : decode cX9_readHelper 122 = .ok (.isub, 1) := by decide +kernel
theorem dX9_readHelper_123 : decode cX9_readHelper 123 = .ok (.iaload, 1) := by decide +kernel
theorem dX9_readHelper_124 : decode cX9_readHelper 124 = .ok (.bipush (-9), 2) := by decide +kernel
theorem dX9_readHelper_126 : decode cX9_readHelper 126 = .ok (.if_icmp .eq 7, 3) := by decide +kernel
theorem dX9_readHelper_129 : decode cX9_readHelper 129 = .ok (.iconst 1, 1) := by decide +kernel
theorem dX9_readHelper_130 : decode cX9_readHelper 130 = .ok (.goto 4, 3) := by decide +kernel
theorem dX9_readHelper_133 : decode cX9_readHelper 133 = .ok (.iconst 0, 1) := by decide +kernel
theorem dX9_readHelper_134 : decode cX9_readHelper 134 = .ok (.ireturn, 1) := by decide +kernel
theorem dX9_strengthOf_0 : decode cX9_strengthOf 0 = .ok (.aload_n 0, 1) := by decide +kernel
theorem dX9_strengthOf_1 : decode cX9_strengthOf 1 = .ok (.getfield 29, 3) := by decide +kernel
theorem dX9_strengthOf_4 : decode cX9_strengthOf 4 = .ok (.iload_n 1, 1) := by decide +kernel
theorem dX9_strengthOf_5 : decode cX9_strengthOf 5 = .ok (.iaload, 1) := by decide +kernel
theorem dX9_strengthOf_6 : decode cX9_strengthOf 6 = .ok (.ifCond .ne 12, 3) := by decide +kernel
theorem dX9_strengthOf_9 : decode cX9_strengthOf 9 = .ok (.aload_n 0, 1) := by decide +kernel
theorem dX9_strengthOf_10 : decode cX9_strengthOf 10 = .ok (.getfield 32, 3) := by decide +kernel
theorem dX9_strengthOf_13 : decode cX9_strengthOf 13 = .ok (.iload_n 1, 1) := by decide +kernel
theorem dX9_strengthOf_14 : decode cX9_strengthOf 14 = .ok (.iaload, 1) := by decide +kernel
theorem dX9_strengthOf_15 : decode cX9_strengthOf 15 = .ok (.goto 32, 3) := by decide +kernel
theorem dX9_strengthOf_18 : decode cX9_strengthOf 18 = .ok (.aload_n 0, 1) := by decide +kernel
theorem dX9_strengthOf_19 : decode cX9_strengthOf 19 = .ok (.getfield 29, 3) := by decide +kernel
theorem dX9_strengthOf_22 : decode cX9_strengthOf 22 = .ok (.iload_n 1, 1) := by decide +kernel
theorem dX9_strengthOf_23 : decode cX9_strengthOf 23 = .ok (.iaload, 1) := by decide +kernel
theorem dX9_strengthOf_24 : decode cX9_strengthOf 24 = .ok (.iconst 1, 1) := by decide +kernel
theorem dX9_strengthOf_25 : decode cX9_strengthOf 25 = .ok (.if_icmp .ne 14, 3) := by decide +kernel
theorem dX9_strengthOf_28 : decode cX9_strengthOf 28 = .ok (.aload_n 0, 1) := by decide +kernel
theorem dX9_strengthOf_29 : decode cX9_strengthOf 29 = .ok (.getfield 32, 3) := by decide +kernel
theorem dX9_strengthOf_32 : decode cX9_strengthOf 32 = .ok (.iload_n 1, 1) := by decide +kernel
theorem dX9_strengthOf_33 : decode cX9_strengthOf 33 = .ok (.iaload, 1) := by decide +kernel
theorem dX9_strengthOf_34 : decode cX9_strengthOf 34 = .ok (.iconst 1, 1) := by decide +kernel
theorem dX9_strengthOf_35 : decode cX9_strengthOf 35 = .ok (.iadd, 1) := by decide +kernel
theorem dX9_strengthOf_36 : decode cX9_strengthOf 36 = .ok (.goto 11, 3) := by decide +kernel
theorem dX9_strengthOf_39 : decode cX9_strengthOf 39 = .ok (.iconst 2, 1) := by decide +kernel
theorem dX9_strengthOf_40 : decode cX9_strengthOf 40 = .ok (.aload_n 0, 1) := by decide +kernel
theorem dX9_strengthOf_41 : decode cX9_strengthOf 41 = .ok (.getfield 32, 3) := by decide +kernel
theorem dX9_strengthOf_44 : decode cX9_strengthOf 44 = .ok (.iload_n 1, 1) := by decide +kernel
theorem dX9_strengthOf_45 : decode cX9_strengthOf 45 = .ok (.iaload, 1) := by decide +kernel
theorem dX9_strengthOf_46 : decode cX9_strengthOf 46 = .ok (.imul, 1) := by decide +kernel
theorem dX9_strengthOf_47 : decode cX9_strengthOf 47 = .ok (.ireturn, 1) := by decide +kernel
set_option maxRecDepth 20000 in
theorem ggX9_ofHelper_X9_isHelper : GoodIn wsX9_ofHelper wsX9_isHelper := goodIn_r _ [7, 8, 20, 21, 22, 23, 24, 25, 26, 27, 28, 29, 30, 31, 32, 33, 34, 35, 36, 37, 38, 39, 40, 41, 42, 43, 44, 45, 46, 47, 48, 49, 50] (by decide +kernel) (by decide +kernel)
set_option maxRecDepth 20000 in
theorem gX9_ofHelper_X9_isHelper : GoodIn wsX9_ofHelper (wsV RX9 133 RX9 yX9_isHelper wsX9_isHelper) := goodIn_app (goodIn_of _ (by decide +kernel)) ggX9_ofHelper_X9_isHelper
set_option maxRecDepth 20000 in
theorem ggX9_ofHelper_X9_strengthOf : GoodIn wsX9_ofHelper wsX9_strengthOf := goodIn_r _ [12, 1, 2, 20, 21, 22, 23, 24, 25, 26, 27, 28, 29, 30, 31, 32, 33, 34, 35, 36, 37, 38, 39, 40, 41, 42, 43, 44, 45, 46, 47, 48, 49, 50] (by decide +kernel) (by decide +kernel)
set_option maxRecDepth 20000 in
theorem gX9_ofHelper_X9_strengthOf : GoodIn wsX9_ofHelper (wsV RX9 136 RX9 yX9_strengthOf wsX9_strengthOf) := goodIn_app (goodIn_of _ (by decide +kernel)) ggX9_ofHelper_X9_strengthOf
set_option maxRecDepth 20000 in
theorem ggX9_ofHelper_X9_actsOf : GoodIn wsX9_ofHelper wsX9_actsOf := goodIn_r _ [16, 17, 18, 19, 20, 21, 22, 23, 24, 25, 26, 27, 28, 29, 30, 31, 32, 33, 34, 35, 36, 37, 38, 39, 40, 41, 42, 43, 44, 45, 46, 47, 48, 49, 50] (by decide +kernel) (by decide +kernel)
set_option maxRecDepth 20000 in
theorem gX9_ofHelper_X9_actsOf : GoodIn wsX9_ofHelper (wsV RX9 139 RX9 yX9_actsOf wsX9_actsOf) := goodIn_app (goodIn_of _ (by decide +kernel)) ggX9_ofHelper_X9_actsOf
theorem dX9_ofHelper_0 : decode cX9_ofHelper 0 = .ok (.aload_n 0, 1) := by decide +kernel
theorem dX9_ofHelper_1 : decode cX9_ofHelper 1 = .ok (.iload_n 1, 1) := by decide +kernel
theorem dX9_ofHelper_2 : decode cX9_ofHelper 2 = .ok (.invokevirtual 133, 3) := by decide +kernel
theorem dX9_ofHelper_5 : decode cX9_ofHelper 5 = .ok (.ifCond .ne 5, 3) := by decide +kernel
theorem dX9_ofHelper_8 : decode cX9_ofHelper 8 = .ok (.iconst (-1), 1) := by decide +kernel
theorem dX9_ofHelper_9 : decode cX9_ofHelper 9 = .ok (.ireturn, 1) := by decide +kernel
theorem dX9_ofHelper_10 : decode cX9_ofHelper 10 = .ok (.iload_n 2, 1) := by decide +kernel
theorem dX9_ofHelper_11 : decode cX9_ofHelper 11 = .ok (.tableswitch 55 0 3 #[29, 36, 43, 49], 29) := by decide +kernel
theorem dX9_ofHelper_40 : decode cX9_ofHelper 40 = .ok (.aload_n 0, 1) := by decide +kernel
theorem dX9_ofHelper_41 : decode cX9_ofHelper 41 = .ok (.getfield 29, 3) := by decide +kernel
theorem dX9_ofHelper_44 : decode cX9_ofHelper 44 = .ok (.iload_n 1, 1) := by decide +kernel
theorem dX9_ofHelper_45 : decode cX9_ofHelper 45 = .ok (.iaload, 1) := by decide +kernel
theorem dX9_ofHelper_46 : decode cX9_ofHelper 46 = .ok (.ireturn, 1) := by decide +kernel
theorem dX9_ofHelper_47 : decode cX9_ofHelper 47 = .ok (.aload_n 0, 1) := by decide +kernel
theorem dX9_ofHelper_48 : decode cX9_ofHelper 48 = .ok (.getfield 32, 3) := by decide +kernel
theorem dX9_ofHelper_51 : decode cX9_ofHelper 51 = .ok (.iload_n 1, 1) := by decide +kernel
theorem dX9_ofHelper_52 : decode cX9_ofHelper 52 = .ok (.iaload, 1) := by decide +kernel
theorem dX9_ofHelper_53 : decode cX9_ofHelper 53 = .ok (.ireturn, 1) := by decide +kernel
theorem dX9_ofHelper_54 : decode cX9_ofHelper 54 = .ok (.aload_n 0, 1) := by decide +kernel
theorem dX9_ofHelper_55 : decode cX9_ofHelper 55 = .ok (.iload_n 1, 1) := by decide +kernel
theorem dX9_ofHelper_56 : decode cX9_ofHelper 56 = .ok (.invokevirtual 136, 3) := by decide +kernel
theorem dX9_ofHelper_59 : decode cX9_ofHelper 59 = .ok (.ireturn, 1) := by decide +kernel
theorem dX9_ofHelper_60 : decode cX9_ofHelper 60 = .ok (.aload_n 0, 1) := by decide +kernel
theorem dX9_ofHelper_61 : decode cX9_ofHelper 61 = .ok (.iload_n 1, 1) := by decide +kernel
theorem dX9_ofHelper_62 : decode cX9_ofHelper 62 = .ok (.invokevirtual 139, 3) := by decide +kernel
theorem dX9_ofHelper_65 : decode cX9_ofHelper 65 = .ok (.ireturn, 1) := by decide +kernel
theorem dX9_ofHelper_66 : decode cX9_ofHelper 66 = .ok (.bipush (-2), 2) := by decide +kernel
theorem dX9_ofHelper_68 : decode cX9_ofHelper 68 = .ok (.ireturn, 1) := by decide +kernel
theorem dX9_actsOf_0 : decode cX9_actsOf 0 = .ok (.iconst 0, 1) := by decide +kernel
theorem dX9_actsOf_1 : decode cX9_actsOf 1 = .ok (.istore_n 2, 1) := by decide +kernel
theorem dX9_actsOf_2 : decode cX9_actsOf 2 = .ok (.iconst 0, 1) := by decide +kernel
theorem dX9_actsOf_3 : decode cX9_actsOf 3 = .ok (.istore_n 3, 1) := by decide +kernel
theorem dX9_actsOf_4 : decode cX9_actsOf 4 = .ok (.iload_n 3, 1) := by decide +kernel
theorem dX9_actsOf_5 : decode cX9_actsOf 5 = .ok (.aload_n 0, 1) := by decide +kernel
theorem dX9_actsOf_6 : decode cX9_actsOf 6 = .ok (.getfield 120, 3) := by decide +kernel
theorem dX9_actsOf_9 : decode cX9_actsOf 9 = .ok (.if_icmp .ge 39, 3) := by decide +kernel
theorem dX9_actsOf_12 : decode cX9_actsOf 12 = .ok (.iload_n 2, 1) := by decide +kernel
theorem dX9_actsOf_13 : decode cX9_actsOf 13 = .ok (.aload_n 0, 1) := by decide +kernel
theorem dX9_actsOf_14 : decode cX9_actsOf 14 = .ok (.getfield 35, 3) := by decide +kernel
theorem dX9_actsOf_17 : decode cX9_actsOf 17 = .ok (.iload_n 3, 1) := by decide +kernel
theorem dX9_actsOf_18 : decode cX9_actsOf 18 = .ok (.iaload, 1) := by decide +kernel
theorem dX9_actsOf_19 : decode cX9_actsOf 19 = .ok (.iconst 3, 1) := by decide +kernel
theorem dX9_actsOf_20 : decode cX9_actsOf 20 = .ok (.if_icmp .lt 19, 3) := by decide +kernel
theorem dX9_actsOf_23 : decode cX9_actsOf 23 = .ok (.aload_n 0, 1) := by decide +kernel
theorem dX9_actsOf_24 : decode cX9_actsOf 24 = .ok (.getfield 44, 3) := by decide +kernel
theorem dX9_actsOf_27 : decode cX9_actsOf 27 = .ok (.iload_n 3, 1) := by decide +kernel
theorem dX9_actsOf_28 : decode cX9_actsOf 28 = .ok (.laload, 1) := by decide +kernel
theorem dX9_actsOf_29 : decode cX9_actsOf 29 = .ok (.iload_n 1, 1) := by decide +kernel
theorem dX9_actsOf_30 : decode cX9_actsOf 30 = .ok (.i2l, 1) := by decide +kernel
theorem dX9_actsOf_31 : decode cX9_actsOf 31 = .ok (.lcmp, 1) := by decide +kernel
theorem dX9_actsOf_32 : decode cX9_actsOf 32 = .ok (.ifCond .ne 7, 3) := by decide +kernel
theorem dX9_actsOf_35 : decode cX9_actsOf 35 = .ok (.iconst 1, 1) := by decide +kernel
theorem dX9_actsOf_36 : decode cX9_actsOf 36 = .ok (.goto 4, 3) := by decide +kernel
theorem dX9_actsOf_39 : decode cX9_actsOf 39 = .ok (.iconst 0, 1) := by decide +kernel
theorem dX9_actsOf_40 : decode cX9_actsOf 40 = .ok (.iadd, 1) := by decide +kernel
theorem dX9_actsOf_41 : decode cX9_actsOf 41 = .ok (.istore_n 2, 1) := by decide +kernel
theorem dX9_actsOf_42 : decode cX9_actsOf 42 = .ok (.iinc 3 1, 3) := by decide +kernel
theorem dX9_actsOf_45 : decode cX9_actsOf 45 = .ok (.goto (-41), 3) := by decide +kernel
theorem dX9_actsOf_48 : decode cX9_actsOf 48 = .ok (.iload_n 2, 1) := by decide +kernel
theorem dX9_actsOf_49 : decode cX9_actsOf 49 = .ok (.ireturn, 1) := by decide +kernel
set_option maxRecDepth 20000 in
theorem ggX9_at_X9_isCell : GoodIn wsX9_at wsX9_isCell := goodIn_r _ [8, 9, 13, 14, 15, 16, 17, 18, 19, 20, 21, 22, 23, 24, 25, 26, 27, 28, 29, 30, 31, 32, 33, 34, 35, 36, 37, 38, 39, 40, 41, 42, 43] (by decide +kernel) (by decide +kernel)
set_option maxRecDepth 20000 in
theorem gX9_at_X9_isCell : GoodIn wsX9_at (wsV RX9 142 RX9 yX9_isCell wsX9_isCell) := goodIn_app (goodIn_of _ (by decide +kernel)) ggX9_at_X9_isCell
set_option maxRecDepth 20000 in
theorem ggX9_at_X9_within : GoodIn wsX9_at wsX9_within := goodIn_r _ [12] (by decide +kernel) (by decide +kernel)
set_option maxRecDepth 20000 in
theorem gX9_at_X9_within : GoodIn wsX9_at (va_wsS RX9 77 yX9_within wsX9_within) := goodIn_app (goodIn_of _ (by decide +kernel)) ggX9_at_X9_within
theorem dX9_at_0 : decode cX9_at 0 = .ok (.aload_n 0, 1) := by decide +kernel
theorem dX9_at_1 : decode cX9_at 1 = .ok (.iload_n 1, 1) := by decide +kernel
theorem dX9_at_2 : decode cX9_at 2 = .ok (.invokevirtual 142, 3) := by decide +kernel
theorem dX9_at_5 : decode cX9_at 5 = .ok (.ifCond .eq 12, 3) := by decide +kernel
theorem dX9_at_8 : decode cX9_at 8 = .ok (.iload_n 2, 1) := by decide +kernel
theorem dX9_at_9 : decode cX9_at 9 = .ok (.iconst 0, 1) := by decide +kernel
theorem dX9_at_10 : decode cX9_at 10 = .ok (.iconst 1, 1) := by decide +kernel
theorem dX9_at_11 : decode cX9_at 11 = .ok (.invokestatic 77, 3) := by decide +kernel
theorem dX9_at_14 : decode cX9_at 14 = .ok (.ifCond .ne 7, 3) := by decide +kernel
theorem dX9_at_17 : decode cX9_at 17 = .ok (.ldc2_w 75, 3) := by decide +kernel
theorem dX9_at_20 : decode cX9_at 20 = .ok (.lreturn, 1) := by decide +kernel
theorem dX9_at_21 : decode cX9_at 21 = .ok (.iload_n 2, 1) := by decide +kernel
theorem dX9_at_22 : decode cX9_at 22 = .ok (.ifCond .ne 12, 3) := by decide +kernel
theorem dX9_at_25 : decode cX9_at 25 = .ok (.aload_n 0, 1) := by decide +kernel
theorem dX9_at_26 : decode cX9_at 26 = .ok (.getfield 19, 3) := by decide +kernel
theorem dX9_at_29 : decode cX9_at 29 = .ok (.iload_n 1, 1) := by decide +kernel
theorem dX9_at_30 : decode cX9_at 30 = .ok (.laload, 1) := by decide +kernel
theorem dX9_at_31 : decode cX9_at 31 = .ok (.goto 9, 3) := by decide +kernel
theorem dX9_at_34 : decode cX9_at 34 = .ok (.aload_n 0, 1) := by decide +kernel
theorem dX9_at_35 : decode cX9_at 35 = .ok (.getfield 23, 3) := by decide +kernel
theorem dX9_at_38 : decode cX9_at 38 = .ok (.iload_n 1, 1) := by decide +kernel
theorem dX9_at_39 : decode cX9_at 39 = .ok (.laload, 1) := by decide +kernel
theorem dX9_at_40 : decode cX9_at 40 = .ok (.lreturn, 1) := by decide +kernel
theorem dX9_changed_0 : decode cX9_changed 0 = .ok (.iload_n 3, 1) := by decide +kernel
theorem dX9_changed_1 : decode cX9_changed 1 = .ok (.ifCond .ne 8, 3) := by decide +kernel
theorem dX9_changed_4 : decode cX9_changed 4 = .ok (.lload_n 1, 1) := by decide +kernel
theorem dX9_changed_5 : decode cX9_changed 5 = .ok (.lload 4, 2) := by decide +kernel
theorem dX9_changed_7 : decode cX9_changed 7 = .ok (.ladd, 1) := by decide +kernel
theorem dX9_changed_8 : decode cX9_changed 8 = .ok (.lreturn, 1) := by decide +kernel
theorem dX9_changed_9 : decode cX9_changed 9 = .ok (.iload_n 3, 1) := by decide +kernel
theorem dX9_changed_10 : decode cX9_changed 10 = .ok (.iconst 1, 1) := by decide +kernel
theorem dX9_changed_11 : decode cX9_changed 11 = .ok (.if_icmp .ne 17, 3) := by decide +kernel
theorem dX9_changed_14 : decode cX9_changed 14 = .ok (.lload_n 1, 1) := by decide +kernel
theorem dX9_changed_15 : decode cX9_changed 15 = .ok (.lload 4, 2) := by decide +kernel
theorem dX9_changed_17 : decode cX9_changed 17 = .ok (.lcmp, 1) := by decide +kernel
theorem dX9_changed_18 : decode cX9_changed 18 = .ok (.ifCond .le 8, 3) := by decide +kernel
theorem dX9_changed_21 : decode cX9_changed 21 = .ok (.lload 4, 2) := by decide +kernel
theorem dX9_changed_23 : decode cX9_changed 23 = .ok (.goto 4, 3) := by decide +kernel
theorem dX9_changed_26 : decode cX9_changed 26 = .ok (.lload_n 1, 1) := by decide +kernel
theorem dX9_changed_27 : decode cX9_changed 27 = .ok (.lreturn, 1) := by decide +kernel
theorem dX9_changed_28 : decode cX9_changed 28 = .ok (.lload_n 1, 1) := by decide +kernel
theorem dX9_changed_29 : decode cX9_changed 29 = .ok (.lload 4, 2) := by decide +kernel
theorem dX9_changed_31 : decode cX9_changed 31 = .ok (.lcmp, 1) := by decide +kernel
theorem dX9_changed_32 : decode cX9_changed 32 = .ok (.ifCond .ge 8, 3) := by decide +kernel
theorem dX9_changed_35 : decode cX9_changed 35 = .ok (.lload 4, 2) := by decide +kernel
theorem dX9_changed_37 : decode cX9_changed 37 = .ok (.goto 4, 3) := by decide +kernel
theorem dX9_changed_40 : decode cX9_changed 40 = .ok (.lload_n 1, 1) := by decide +kernel
theorem dX9_changed_41 : decode cX9_changed 41 = .ok (.lreturn, 1) := by decide +kernel
set_option maxRecDepth 20000 in
theorem ggX9_does_X9_strengthOf : GoodIn wsX9_does wsX9_strengthOf := goodIn_r _ [7, 8, 9, 14, 15, 16, 17, 18, 19, 20, 21, 22, 23, 24, 25, 26, 27, 28, 29, 30, 31, 32, 33, 34, 35, 36, 37, 38, 39, 40, 41, 42, 43, 44] (by decide +kernel) (by decide +kernel)
set_option maxRecDepth 20000 in
theorem gX9_does_X9_strengthOf : GoodIn wsX9_does (wsV RX9 136 RX9 yX9_strengthOf wsX9_strengthOf) := goodIn_app (goodIn_of _ (by decide +kernel)) ggX9_does_X9_strengthOf
set_option maxRecDepth 20000 in
theorem ggX9_does_X9_changed : GoodIn wsX9_does wsX9_changed := goodIn_r _ [13] (by decide +kernel) (by decide +kernel)
set_option maxRecDepth 20000 in
theorem gX9_does_X9_changed : GoodIn wsX9_does (wsV RX9 145 RX9 yX9_changed wsX9_changed) := goodIn_app (goodIn_of _ (by decide +kernel)) ggX9_does_X9_changed
theorem dX9_does_0 : decode cX9_does 0 = .ok (.iload_n 1, 1) := by decide +kernel
theorem dX9_does_1 : decode cX9_does 1 = .ok (.iconst 3, 1) := by decide +kernel
theorem dX9_does_2 : decode cX9_does 2 = .ok (.if_icmp .lt 7, 3) := by decide +kernel
theorem dX9_does_5 : decode cX9_does 5 = .ok (.iconst 0, 1) := by decide +kernel
theorem dX9_does_6 : decode cX9_does 6 = .ok (.goto 4, 3) := by decide +kernel
theorem dX9_does_9 : decode cX9_does 9 = .ok (.iload_n 1, 1) := by decide +kernel
theorem dX9_does_10 : decode cX9_does 10 = .ok (.istore 6, 2) := by decide +kernel
theorem dX9_does_12 : decode cX9_does 12 = .ok (.iload_n 1, 1) := by decide +kernel
theorem dX9_does_13 : decode cX9_does 13 = .ok (.iconst 3, 1) := by decide +kernel
theorem dX9_does_14 : decode cX9_does 14 = .ok (.if_icmp .ne 14, 3) := by decide +kernel
theorem dX9_does_17 : decode cX9_does 17 = .ok (.aload_n 0, 1) := by decide +kernel
theorem dX9_does_18 : decode cX9_does 18 = .ok (.lload 4, 2) := by decide +kernel
theorem dX9_does_20 : decode cX9_does 20 = .ok (.l2i, 1) := by decide +kernel
theorem dX9_does_21 : decode cX9_does 21 = .ok (.invokevirtual 136, 3) := by decide +kernel
theorem dX9_does_24 : decode cX9_does 24 = .ok (.i2l, 1) := by decide +kernel
theorem dX9_does_25 : decode cX9_does 25 = .ok (.goto 22, 3) := by decide +kernel
theorem dX9_does_28 : decode cX9_does 28 = .ok (.iload_n 1, 1) := by decide +kernel
theorem dX9_does_29 : decode cX9_does 29 = .ok (.iconst 4, 1) := by decide +kernel
theorem dX9_does_30 : decode cX9_does 30 = .ok (.if_icmp .ne 15, 3) := by decide +kernel
theorem dX9_does_33 : decode cX9_does 33 = .ok (.aload_n 0, 1) := by decide +kernel
theorem dX9_does_34 : decode cX9_does 34 = .ok (.lload 4, 2) := by decide +kernel
theorem dX9_does_36 : decode cX9_does 36 = .ok (.l2i, 1) := by decide +kernel
theorem dX9_does_37 : decode cX9_does 37 = .ok (.invokevirtual 136, 3) := by decide +kernel
theorem dX9_does_40 : decode cX9_does 40 = .ok (.ineg, 1) := by decide +kernel
theorem dX9_does_41 : decode cX9_does 41 = .ok (.i2l, 1) := by decide +kernel
theorem dX9_does_42 : decode cX9_does 42 = .ok (.goto 5, 3) := by decide +kernel
theorem dX9_does_45 : decode cX9_does 45 = .ok (.lload 4, 2) := by decide +kernel
theorem dX9_does_47 : decode cX9_does 47 = .ok (.lstore 7, 2) := by decide +kernel
theorem dX9_does_49 : decode cX9_does 49 = .ok (.iconst 0, 1) := by decide +kernel
theorem dX9_does_50 : decode cX9_does 50 = .ok (.istore 9, 2) := by decide +kernel
theorem dX9_does_52 : decode cX9_does 52 = .ok (.iload_n 2, 1) := by decide +kernel
theorem dX9_does_53 : decode cX9_does 53 = .ok (.istore 10, 2) := by decide +kernel
theorem dX9_does_55 : decode cX9_does 55 = .ok (.iload 10, 2) := by decide +kernel
theorem dX9_does_57 : decode cX9_does 57 = .ok (.iload_n 3, 1) := by decide +kernel
theorem dX9_does_58 : decode cX9_does 58 = .ok (.if_icmp .gt 90, 3) := by decide +kernel
theorem dX9_does_61 : decode cX9_does 61 = .ok (.aload_n 0, 1) := by decide +kernel
theorem dX9_does_62 : decode cX9_does 62 = .ok (.aload_n 0, 1) := by decide +kernel
theorem dX9_does_63 : decode cX9_does 63 = .ok (.getfield 19, 3) := by decide +kernel
theorem dX9_does_66 : decode cX9_does 66 = .ok (.iload 10, 2) := by decide +kernel
theorem dX9_does_68 : decode cX9_does 68 = .ok (.laload, 1) := by decide +kernel
theorem dX9_does_69 : decode cX9_does 69 = .ok (.iload 6, 2) := by decide +kernel
theorem dX9_does_71 : decode cX9_does 71 = .ok (.lload 7, 2) := by decide +kernel
theorem dX9_does_73 : decode cX9_does 73 = .ok (.invokevirtual 145, 3) := by decide +kernel
theorem dX9_does_76 : decode cX9_does 76 = .ok (.lstore 11, 2) := by decide +kernel
theorem dX9_does_78 : decode cX9_does 78 = .ok (.iload 9, 2) := by decide +kernel
theorem dX9_does_80 : decode cX9_does 80 = .ok (.lload 11, 2) := by decide +kernel
theorem dX9_does_82 : decode cX9_does 82 = .ok (.aload_n 0, 1) := by decide +kernel
theorem dX9_does_83 : decode cX9_does 83 = .ok (.getfield 19, 3) := by decide +kernel
theorem dX9_does_86 : decode cX9_does 86 = .ok (.iload 10, 2) := by decide +kernel
theorem dX9_does_88 : decode cX9_does 88 = .ok (.laload, 1) := by decide +kernel
theorem dX9_does_89 : decode cX9_does 89 = .ok (.lcmp, 1) := by decide +kernel
theorem dX9_does_90 : decode cX9_does 90 = .ok (.ifCond .ne 7, 3) := by decide +kernel
theorem dX9_does_93 : decode cX9_does 93 = .ok (.iconst 0, 1) := by decide +kernel
theorem dX9_does_94 : decode cX9_does 94 = .ok (.goto 4, 3) := by decide +kernel
theorem dX9_does_97 : decode cX9_does 97 = .ok (.iconst 1, 1) := by decide +kernel
theorem dX9_does_98 : decode cX9_does 98 = .ok (.iadd, 1) := by decide +kernel
theorem dX9_does_99 : decode cX9_does 99 = .ok (.istore 9, 2) := by decide +kernel
theorem dX9_does_101 : decode cX9_does 101 = .ok (.aload_n 0, 1) := by decide +kernel
theorem dX9_does_102 : decode cX9_does 102 = .ok (.getfield 19, 3) := by decide +kernel
theorem dX9_does_105 : decode cX9_does 105 = .ok (.iload 10, 2) := by decide +kernel
theorem dX9_does_107 : decode cX9_does 107 = .ok (.lload 11, 2) := by decide +kernel
theorem dX9_does_109 : decode cX9_does 109 = .ok (.lastore, 1) := by decide +kernel
theorem dX9_does_110 : decode cX9_does 110 = .ok (.aload_n 0, 1) := by decide +kernel
theorem dX9_does_111 : decode cX9_does 111 = .ok (.getfield 23, 3) := by decide +kernel
theorem dX9_does_114 : decode cX9_does 114 = .ok (.iload 10, 2) := by decide +kernel
theorem dX9_does_116 : decode cX9_does 116 = .ok (.lload 11, 2) := by decide +kernel
theorem dX9_does_118 : decode cX9_does 118 = .ok (.aload_n 0, 1) := by decide +kernel
theorem dX9_does_119 : decode cX9_does 119 = .ok (.getfield 23, 3) := by decide +kernel
theorem dX9_does_122 : decode cX9_does 122 = .ok (.iload 10, 2) := by decide +kernel
theorem dX9_does_124 : decode cX9_does 124 = .ok (.laload, 1) := by decide +kernel
theorem dX9_does_125 : decode cX9_does 125 = .ok (.lcmp, 1) := by decide +kernel
theorem dX9_does_126 : decode cX9_does 126 = .ok (.ifCond .le 8, 3) := by decide +kernel
theorem dX9_does_129 : decode cX9_does 129 = .ok (.lload 11, 2) := by decide +kernel
theorem dX9_does_131 : decode cX9_does 131 = .ok (.goto 10, 3) := by decide +kernel
theorem dX9_does_134 : decode cX9_does 134 = .ok (.aload_n 0, 1) := by decide +kernel
theorem dX9_does_135 : decode cX9_does 135 = .ok (.getfield 23, 3) := by decide +kernel
theorem dX9_does_138 : decode cX9_does 138 = .ok (.iload 10, 2) := by decide +kernel
theorem dX9_does_140 : decode cX9_does 140 = .ok (.laload, 1) := by decide +kernel
theorem dX9_does_141 : decode cX9_does 141 = .ok (.lastore, 1) := by decide +kernel
theorem dX9_does_142 : decode cX9_does 142 = .ok (.iinc 10 1, 3) := by decide +kernel
theorem dX9_does_145 : decode cX9_does 145 = .ok (.goto (-90), 3) := by decide +kernel
theorem dX9_does_148 : decode cX9_does 148 = .ok (.iload 9, 2) := by decide +kernel
theorem dX9_does_150 : decode cX9_does 150 = .ok (.ireturn, 1) := by decide +kernel
theorem dX9_writes_0 : decode cX9_writes 0 = .ok (.aload_n 0, 1) := by decide +kernel
theorem dX9_writes_1 : decode cX9_writes 1 = .ok (.getfield 35, 3) := by decide +kernel
theorem dX9_writes_4 : decode cX9_writes 4 = .ok (.aload_n 0, 1) := by decide +kernel
theorem dX9_writes_5 : decode cX9_writes 5 = .ok (.getfield 120, 3) := by decide +kernel
theorem dX9_writes_8 : decode cX9_writes 8 = .ok (.iload_n 1, 1) := by decide +kernel
theorem dX9_writes_9 : decode cX9_writes 9 = .ok (.iastore, 1) := by decide +kernel
theorem dX9_writes_10 : decode cX9_writes 10 = .ok (.aload_n 0, 1) := by decide +kernel
theorem dX9_writes_11 : decode cX9_writes 11 = .ok (.getfield 38, 3) := by decide +kernel
theorem dX9_writes_14 : decode cX9_writes 14 = .ok (.aload_n 0, 1) := by decide +kernel
theorem dX9_writes_15 : decode cX9_writes 15 = .ok (.getfield 120, 3) := by decide +kernel
theorem dX9_writes_18 : decode cX9_writes 18 = .ok (.iload_n 2, 1) := by decide +kernel
theorem dX9_writes_19 : decode cX9_writes 19 = .ok (.iastore, 1) := by decide +kernel
theorem dX9_writes_20 : decode cX9_writes 20 = .ok (.aload_n 0, 1) := by decide +kernel
theorem dX9_writes_21 : decode cX9_writes 21 = .ok (.getfield 41, 3) := by decide +kernel
theorem dX9_writes_24 : decode cX9_writes 24 = .ok (.aload_n 0, 1) := by decide +kernel
theorem dX9_writes_25 : decode cX9_writes 25 = .ok (.getfield 120, 3) := by decide +kernel
theorem dX9_writes_28 : decode cX9_writes 28 = .ok (.iload_n 3, 1) := by decide +kernel
theorem dX9_writes_29 : decode cX9_writes 29 = .ok (.iastore, 1) := by decide +kernel
theorem dX9_writes_30 : decode cX9_writes 30 = .ok (.aload_n 0, 1) := by decide +kernel
theorem dX9_writes_31 : decode cX9_writes 31 = .ok (.getfield 44, 3) := by decide +kernel
theorem dX9_writes_34 : decode cX9_writes 34 = .ok (.aload_n 0, 1) := by decide +kernel
theorem dX9_writes_35 : decode cX9_writes 35 = .ok (.getfield 120, 3) := by decide +kernel
theorem dX9_writes_38 : decode cX9_writes 38 = .ok (.lload 4, 2) := by decide +kernel
theorem dX9_writes_40 : decode cX9_writes 40 = .ok (.lastore, 1) := by decide +kernel
theorem dX9_writes_41 : decode cX9_writes 41 = .ok (.aload_n 0, 1) := by decide +kernel
theorem dX9_writes_42 : decode cX9_writes 42 = .ok (.dup, 1) := by decide +kernel
theorem dX9_writes_43 : decode cX9_writes 43 = .ok (.getfield 120, 3) := by decide +kernel
theorem dX9_writes_46 : decode cX9_writes 46 = .ok (.iconst 1, 1) := by decide +kernel
theorem dX9_writes_47 : decode cX9_writes 47 = .ok (.iadd, 1) := by decide +kernel
theorem dX9_writes_48 : decode cX9_writes 48 = .ok (.putfield 120, 3) := by decide +kernel
theorem dX9_writes_51 : decode cX9_writes 51 = .ok (.return_, 1) := by decide +kernel
set_option maxRecDepth 20000 in
theorem ggX9_refused_X9_isCell : GoodIn wsX9_refused wsX9_isCell := goodIn_r _ [8, 9, 13, 14, 15, 16, 17, 18, 19, 20, 21, 22, 23, 24, 25, 26, 27, 28, 29, 30, 31, 32, 33, 34, 35, 36, 37, 38, 39, 40, 41, 42, 43] (by decide +kernel) (by decide +kernel)
set_option maxRecDepth 20000 in
theorem gX9_refused_X9_isCell : GoodIn wsX9_refused (wsV RX9 142 RX9 yX9_isCell wsX9_isCell) := goodIn_app (goodIn_of _ (by decide +kernel)) ggX9_refused_X9_isCell
set_option maxRecDepth 20000 in
theorem ggX9_refused_X9_isBetween : GoodIn wsX9_refused wsX9_isBetween := goodIn_r _ [12] (by decide +kernel) (by decide +kernel)
set_option maxRecDepth 20000 in
theorem gX9_refused_X9_isBetween : GoodIn wsX9_refused (va_wsS RX9 153 yX9_isBetween wsX9_isBetween) := goodIn_app (goodIn_of _ (by decide +kernel)) ggX9_refused_X9_isBetween
theorem dX9_refused_0 : decode cX9_refused 0 = .ok (.aload_n 0, 1) := by decide +kernel
theorem dX9_refused_1 : decode cX9_refused 1 = .ok (.iload_n 1, 1) := by decide +kernel
theorem dX9_refused_2 : decode cX9_refused 2 = .ok (.invokevirtual 142, 3) := by decide +kernel
theorem dX9_refused_5 : decode cX9_refused 5 = .ok (.ifCond .eq 11, 3) := by decide +kernel
theorem dX9_refused_8 : decode cX9_refused 8 = .ok (.aload_n 0, 1) := by decide +kernel
theorem dX9_refused_9 : decode cX9_refused 9 = .ok (.iload_n 2, 1) := by decide +kernel
theorem dX9_refused_10 : decode cX9_refused 10 = .ok (.invokevirtual 142, 3) := by decide +kernel
theorem dX9_refused_13 : decode cX9_refused 13 = .ok (.ifCond .ne 5, 3) := by decide +kernel
theorem dX9_refused_16 : decode cX9_refused 16 = .ok (.iconst (-1), 1) := by decide +kernel
theorem dX9_refused_17 : decode cX9_refused 17 = .ok (.ireturn, 1) := by decide +kernel
theorem dX9_refused_18 : decode cX9_refused 18 = .ok (.iload_n 1, 1) := by decide +kernel
theorem dX9_refused_19 : decode cX9_refused 19 = .ok (.iload_n 2, 1) := by decide +kernel
theorem dX9_refused_20 : decode cX9_refused 20 = .ok (.if_icmp .gt 16, 3) := by decide +kernel
theorem dX9_refused_23 : decode cX9_refused 23 = .ok (.lload_n 3, 1) := by decide +kernel
theorem dX9_refused_24 : decode cX9_refused 24 = .ok (.ldc2_w 149, 3) := by decide +kernel
theorem dX9_refused_27 : decode cX9_refused 27 = .ok (.ldc2_w 151, 3) := by decide +kernel
theorem dX9_refused_30 : decode cX9_refused 30 = .ok (.invokestatic 153, 3) := by decide +kernel
theorem dX9_refused_33 : decode cX9_refused 33 = .ok (.ifCond .ne 8, 3) := by decide +kernel
theorem dX9_refused_36 : decode cX9_refused 36 = .ok (.bipush (-2), 2) := by decide +kernel
theorem dX9_refused_38 : decode cX9_refused 38 = .ok (.goto 18, 3) := by decide +kernel
theorem dX9_refused_41 : decode cX9_refused 41 = .ok (.aload_n 0, 1) := by decide +kernel
theorem dX9_refused_42 : decode cX9_refused 42 = .ok (.getfield 120, 3) := by decide +kernel
theorem dX9_refused_45 : decode cX9_refused 45 = .ok (.bipush 24, 2) := by decide +kernel
theorem dX9_refused_47 : decode cX9_refused 47 = .ok (.if_icmp .ne 8, 3) := by decide +kernel
theorem dX9_refused_50 : decode cX9_refused 50 = .ok (.bipush (-4), 2) := by decide +kernel
theorem dX9_refused_52 : decode cX9_refused 52 = .ok (.goto 4, 3) := by decide +kernel
theorem dX9_refused_55 : decode cX9_refused 55 = .ok (.iconst 0, 1) := by decide +kernel
theorem dX9_refused_56 : decode cX9_refused 56 = .ok (.ireturn, 1) := by decide +kernel
set_option maxRecDepth 20000 in
theorem ggX9_add_X9_refused : GoodIn wsX9_add wsX9_refused := goodIn_r _ [6, 7, 8, 1, 9, 10, 11, 5, 12, 13, 14, 15, 16, 41, 42, 43, 44, 45, 46, 47, 48, 49, 50, 51, 52, 53, 54, 55, 56, 57, 58, 59, 60, 61, 62, 63, 64, 65, 66, 67, 68, 69, 70, 71] (by decide +kernel) (by decide +kernel)
set_option maxRecDepth 20000 in
theorem gX9_add_X9_refused : GoodIn wsX9_add (wsV RX9 157 RX9 yX9_refused wsX9_refused) := goodIn_app (goodIn_of _ (by decide +kernel)) ggX9_add_X9_refused
set_option maxRecDepth 20000 in
theorem ggX9_add_X9_does : GoodIn wsX9_add wsX9_does := goodIn_r _ [20, 21, 22, 23, 24, 25, 5, 26, 27, 28, 29, 30, 31, 32, 41, 42, 43, 44, 45, 46, 47, 48, 49, 50, 51, 52, 53, 54, 55, 56, 57, 58, 59, 60, 61, 62, 63, 64, 65, 66, 67, 68, 69, 70, 71] (by decide +kernel) (by decide +kernel)
set_option maxRecDepth 20000 in
theorem gX9_add_X9_does : GoodIn wsX9_add (wsV RX9 161 RX9 yX9_does wsX9_does) := goodIn_app (goodIn_of _ (by decide +kernel)) ggX9_add_X9_does
set_option maxRecDepth 20000 in
theorem ggX9_add_X9_writes : GoodIn wsX9_add wsX9_writes := goodIn_r _ [36, 37, 1, 38, 39, 40, 41, 42, 43, 44, 45, 46, 47, 48, 49, 50, 51, 52, 53, 54, 55, 56, 57, 58, 59, 60, 61, 62, 63, 64, 65, 66, 67, 68, 69, 70, 71] (by decide +kernel) (by decide +kernel)
set_option maxRecDepth 20000 in
theorem gX9_add_X9_writes : GoodIn wsX9_add (wsV RX9 165 RX9 yX9_writes wsX9_writes) := goodIn_app (goodIn_of _ (by decide +kernel)) ggX9_add_X9_writes
theorem dX9_add_0 : decode cX9_add 0 = .ok (.aload_n 0, 1) := by decide +kernel
theorem dX9_add_1 : decode cX9_add 1 = .ok (.iload_n 1, 1) := by decide +kernel
theorem dX9_add_2 : decode cX9_add 2 = .ok (.iload_n 2, 1) := by decide +kernel
theorem dX9_add_3 : decode cX9_add 3 = .ok (.lload_n 3, 1) := by decide +kernel
theorem dX9_add_4 : decode cX9_add 4 = .ok (.invokevirtual 157, 3) := by decide +kernel
theorem dX9_add_7 : decode cX9_add 7 = .ok (.istore 5, 2) := by decide +kernel
theorem dX9_add_9 : decode cX9_add 9 = .ok (.iload 5, 2) := by decide +kernel
theorem dX9_add_11 : decode cX9_add 11 = .ok (.ifCond .eq 6, 3) := by decide +kernel
theorem dX9_add_14 : decode cX9_add 14 = .ok (.iload 5, 2) := by decide +kernel
theorem dX9_add_16 : decode cX9_add 16 = .ok (.ireturn, 1) := by decide +kernel
theorem dX9_add_17 : decode cX9_add 17 = .ok (.aload_n 0, 1) := by decide +kernel
theorem dX9_add_18 : decode cX9_add 18 = .ok (.iconst 0, 1) := by decide +kernel
theorem dX9_add_19 : decode cX9_add 19 = .ok (.iload_n 1, 1) := by decide +kernel
theorem dX9_add_20 : decode cX9_add 20 = .ok (.iload_n 2, 1) := by decide +kernel
theorem dX9_add_21 : decode cX9_add 21 = .ok (.lload_n 3, 1) := by decide +kernel
theorem dX9_add_22 : decode cX9_add 22 = .ok (.invokevirtual 161, 3) := by decide +kernel
theorem dX9_add_25 : decode cX9_add 25 = .ok (.pop, 1) := by decide +kernel
theorem dX9_add_26 : decode cX9_add 26 = .ok (.aload_n 0, 1) := by decide +kernel
theorem dX9_add_27 : decode cX9_add 27 = .ok (.iconst 0, 1) := by decide +kernel
theorem dX9_add_28 : decode cX9_add 28 = .ok (.iload_n 1, 1) := by decide +kernel
theorem dX9_add_29 : decode cX9_add 29 = .ok (.iload_n 2, 1) := by decide +kernel
theorem dX9_add_30 : decode cX9_add 30 = .ok (.lload_n 3, 1) := by decide +kernel
theorem dX9_add_31 : decode cX9_add 31 = .ok (.invokevirtual 165, 3) := by decide +kernel
theorem dX9_add_34 : decode cX9_add 34 = .ok (.aload_n 0, 1) := by decide +kernel
theorem dX9_add_35 : decode cX9_add 35 = .ok (.getfield 120, 3) := by decide +kernel
theorem dX9_add_38 : decode cX9_add 38 = .ok (.ireturn, 1) := by decide +kernel
set_option maxRecDepth 20000 in
theorem ggX9_cap_X9_refused : GoodIn wsX9_cap wsX9_refused := goodIn_r _ [5, 6, 7, 8, 9, 10, 11, 4, 12, 13, 14, 15, 16, 41, 42, 43, 44, 45, 46, 47, 48, 49, 50, 51, 52, 53, 54, 55, 56, 57, 58, 59, 60, 61, 62, 63, 64, 65, 66, 67, 68, 69, 70, 71] (by decide +kernel) (by decide +kernel)
set_option maxRecDepth 20000 in
theorem gX9_cap_X9_refused : GoodIn wsX9_cap (wsV RX9 157 RX9 yX9_refused wsX9_refused) := goodIn_app (goodIn_of _ (by decide +kernel)) ggX9_cap_X9_refused
set_option maxRecDepth 20000 in
theorem ggX9_cap_X9_writes : GoodIn wsX9_cap wsX9_writes := goodIn_r _ [20, 21, 8, 22, 23, 24, 41, 42, 43, 44, 45, 46, 47, 48, 49, 50, 51, 52, 53, 54, 55, 56, 57, 58, 59, 60, 61, 62, 63, 64, 65, 66, 67, 68, 69, 70, 71] (by decide +kernel) (by decide +kernel)
set_option maxRecDepth 20000 in
theorem gX9_cap_X9_writes : GoodIn wsX9_cap (wsV RX9 165 RX9 yX9_writes wsX9_writes) := goodIn_app (goodIn_of _ (by decide +kernel)) ggX9_cap_X9_writes
set_option maxRecDepth 20000 in
theorem ggX9_cap_X9_does : GoodIn wsX9_cap wsX9_does := goodIn_r _ [28, 29, 30, 31, 32, 33, 4, 34, 35, 36, 37, 38, 39, 40, 41, 42, 43, 44, 45, 46, 47, 48, 49, 50, 51, 52, 53, 54, 55, 56, 57, 58, 59, 60, 61, 62, 63, 64, 65, 66, 67, 68, 69, 70, 71] (by decide +kernel) (by decide +kernel)
set_option maxRecDepth 20000 in
theorem gX9_cap_X9_does : GoodIn wsX9_cap (wsV RX9 161 RX9 yX9_does wsX9_does) := goodIn_app (goodIn_of _ (by decide +kernel)) ggX9_cap_X9_does
theorem dX9_cap_0 : decode cX9_cap 0 = .ok (.aload_n 0, 1) := by decide +kernel
theorem dX9_cap_1 : decode cX9_cap 1 = .ok (.iload_n 1, 1) := by decide +kernel
theorem dX9_cap_2 : decode cX9_cap 2 = .ok (.iload_n 2, 1) := by decide +kernel
theorem dX9_cap_3 : decode cX9_cap 3 = .ok (.lload_n 3, 1) := by decide +kernel
theorem dX9_cap_4 : decode cX9_cap 4 = .ok (.invokevirtual 157, 3) := by decide +kernel
theorem dX9_cap_7 : decode cX9_cap 7 = .ok (.istore 5, 2) := by decide +kernel
theorem dX9_cap_9 : decode cX9_cap 9 = .ok (.iload 5, 2) := by decide +kernel
theorem dX9_cap_11 : decode cX9_cap 11 = .ok (.ifCond .eq 6, 3) := by decide +kernel
theorem dX9_cap_14 : decode cX9_cap 14 = .ok (.iload 5, 2) := by decide +kernel
theorem dX9_cap_16 : decode cX9_cap 16 = .ok (.ireturn, 1) := by decide +kernel
theorem dX9_cap_17 : decode cX9_cap 17 = .ok (.aload_n 0, 1) := by decide +kernel
theorem dX9_cap_18 : decode cX9_cap 18 = .ok (.iconst 1, 1) := by decide +kernel
theorem dX9_cap_19 : decode cX9_cap 19 = .ok (.iload_n 1, 1) := by decide +kernel
theorem dX9_cap_20 : decode cX9_cap 20 = .ok (.iload_n 2, 1) := by decide +kernel
theorem dX9_cap_21 : decode cX9_cap 21 = .ok (.lload_n 3, 1) := by decide +kernel
theorem dX9_cap_22 : decode cX9_cap 22 = .ok (.invokevirtual 165, 3) := by decide +kernel
theorem dX9_cap_25 : decode cX9_cap 25 = .ok (.aload_n 0, 1) := by decide +kernel
theorem dX9_cap_26 : decode cX9_cap 26 = .ok (.iconst 1, 1) := by decide +kernel
theorem dX9_cap_27 : decode cX9_cap 27 = .ok (.iload_n 1, 1) := by decide +kernel
theorem dX9_cap_28 : decode cX9_cap 28 = .ok (.iload_n 2, 1) := by decide +kernel
theorem dX9_cap_29 : decode cX9_cap 29 = .ok (.lload_n 3, 1) := by decide +kernel
theorem dX9_cap_30 : decode cX9_cap 30 = .ok (.invokevirtual 161, 3) := by decide +kernel
theorem dX9_cap_33 : decode cX9_cap 33 = .ok (.ireturn, 1) := by decide +kernel
set_option maxRecDepth 20000 in
theorem ggX9_floor_X9_refused : GoodIn wsX9_floor wsX9_refused := goodIn_r _ [5, 6, 7, 8, 9, 10, 11, 4, 12, 13, 14, 15, 16, 41, 42, 43, 44, 45, 46, 47, 48, 49, 50, 51, 52, 53, 54, 55, 56, 57, 58, 59, 60, 61, 62, 63, 64, 65, 66, 67, 68, 69, 70, 71] (by decide +kernel) (by decide +kernel)
set_option maxRecDepth 20000 in
theorem gX9_floor_X9_refused : GoodIn wsX9_floor (wsV RX9 157 RX9 yX9_refused wsX9_refused) := goodIn_app (goodIn_of _ (by decide +kernel)) ggX9_floor_X9_refused
set_option maxRecDepth 20000 in
theorem ggX9_floor_X9_writes : GoodIn wsX9_floor wsX9_writes := goodIn_r _ [20, 21, 8, 22, 23, 24, 41, 42, 43, 44, 45, 46, 47, 48, 49, 50, 51, 52, 53, 54, 55, 56, 57, 58, 59, 60, 61, 62, 63, 64, 65, 66, 67, 68, 69, 70, 71] (by decide +kernel) (by decide +kernel)
set_option maxRecDepth 20000 in
theorem gX9_floor_X9_writes : GoodIn wsX9_floor (wsV RX9 165 RX9 yX9_writes wsX9_writes) := goodIn_app (goodIn_of _ (by decide +kernel)) ggX9_floor_X9_writes
set_option maxRecDepth 20000 in
theorem ggX9_floor_X9_does : GoodIn wsX9_floor wsX9_does := goodIn_r _ [28, 29, 30, 31, 32, 33, 4, 34, 35, 36, 37, 38, 39, 40, 41, 42, 43, 44, 45, 46, 47, 48, 49, 50, 51, 52, 53, 54, 55, 56, 57, 58, 59, 60, 61, 62, 63, 64, 65, 66, 67, 68, 69, 70, 71] (by decide +kernel) (by decide +kernel)
set_option maxRecDepth 20000 in
theorem gX9_floor_X9_does : GoodIn wsX9_floor (wsV RX9 161 RX9 yX9_does wsX9_does) := goodIn_app (goodIn_of _ (by decide +kernel)) ggX9_floor_X9_does
theorem dX9_floor_0 : decode cX9_floor 0 = .ok (.aload_n 0, 1) := by decide +kernel
theorem dX9_floor_1 : decode cX9_floor 1 = .ok (.iload_n 1, 1) := by decide +kernel
theorem dX9_floor_2 : decode cX9_floor 2 = .ok (.iload_n 2, 1) := by decide +kernel
theorem dX9_floor_3 : decode cX9_floor 3 = .ok (.lload_n 3, 1) := by decide +kernel
theorem dX9_floor_4 : decode cX9_floor 4 = .ok (.invokevirtual 157, 3) := by decide +kernel
theorem dX9_floor_7 : decode cX9_floor 7 = .ok (.istore 5, 2) := by decide +kernel
theorem dX9_floor_9 : decode cX9_floor 9 = .ok (.iload 5, 2) := by decide +kernel
theorem dX9_floor_11 : decode cX9_floor 11 = .ok (.ifCond .eq 6, 3) := by decide +kernel
theorem dX9_floor_14 : decode cX9_floor 14 = .ok (.iload 5, 2) := by decide +kernel
theorem dX9_floor_16 : decode cX9_floor 16 = .ok (.ireturn, 1) := by decide +kernel
theorem dX9_floor_17 : decode cX9_floor 17 = .ok (.aload_n 0, 1) := by decide +kernel
theorem dX9_floor_18 : decode cX9_floor 18 = .ok (.iconst 2, 1) := by decide +kernel
theorem dX9_floor_19 : decode cX9_floor 19 = .ok (.iload_n 1, 1) := by decide +kernel
theorem dX9_floor_20 : decode cX9_floor 20 = .ok (.iload_n 2, 1) := by decide +kernel
theorem dX9_floor_21 : decode cX9_floor 21 = .ok (.lload_n 3, 1) := by decide +kernel
theorem dX9_floor_22 : decode cX9_floor 22 = .ok (.invokevirtual 165, 3) := by decide +kernel
theorem dX9_floor_25 : decode cX9_floor 25 = .ok (.aload_n 0, 1) := by decide +kernel
theorem dX9_floor_26 : decode cX9_floor 26 = .ok (.iconst 2, 1) := by decide +kernel
theorem dX9_floor_27 : decode cX9_floor 27 = .ok (.iload_n 1, 1) := by decide +kernel
theorem dX9_floor_28 : decode cX9_floor 28 = .ok (.iload_n 2, 1) := by decide +kernel
theorem dX9_floor_29 : decode cX9_floor 29 = .ok (.lload_n 3, 1) := by decide +kernel
theorem dX9_floor_30 : decode cX9_floor 30 = .ok (.invokevirtual 161, 3) := by decide +kernel
theorem dX9_floor_33 : decode cX9_floor 33 = .ok (.ireturn, 1) := by decide +kernel
set_option maxRecDepth 20000 in
theorem ggX9_help_X9_isHelper : GoodIn wsX9_help wsX9_isHelper := goodIn_r _ [6, 7, 40, 41, 42, 43, 44, 45, 46, 47, 48, 49, 50, 51, 52, 53, 54, 55, 56, 57, 58, 59, 60, 61, 62, 63, 64, 65, 66, 67, 68, 69, 70] (by decide +kernel) (by decide +kernel)
set_option maxRecDepth 20000 in
theorem gX9_help_X9_isHelper : GoodIn wsX9_help (wsV RX9 133 RX9 yX9_isHelper wsX9_isHelper) := goodIn_app (goodIn_of _ (by decide +kernel)) ggX9_help_X9_isHelper
set_option maxRecDepth 20000 in
theorem ggX9_help_X9_isCell : GoodIn wsX9_help wsX9_isCell := goodIn_r _ [11, 12, 40, 41, 42, 43, 44, 45, 46, 47, 48, 49, 50, 51, 52, 53, 54, 55, 56, 57, 58, 59, 60, 61, 62, 63, 64, 65, 66, 67, 68, 69, 70] (by decide +kernel) (by decide +kernel)
set_option maxRecDepth 20000 in
theorem gX9_help_X9_isCell : GoodIn wsX9_help (wsV RX9 142 RX9 yX9_isCell wsX9_isCell) := goodIn_app (goodIn_of _ (by decide +kernel)) ggX9_help_X9_isCell
set_option maxRecDepth 20000 in
theorem ggX9_help_X9_within : GoodIn wsX9_help wsX9_within := goodIn_r _ [15] (by decide +kernel) (by decide +kernel)
set_option maxRecDepth 20000 in
theorem gX9_help_X9_within : GoodIn wsX9_help (va_wsS RX9 77 yX9_within wsX9_within) := goodIn_app (goodIn_of _ (by decide +kernel)) ggX9_help_X9_within
set_option maxRecDepth 20000 in
theorem ggX9_help_X9_does : GoodIn wsX9_help wsX9_does := goodIn_r _ [19, 20, 21, 22, 23, 24, 5, 25, 26, 27, 28, 29, 30, 31, 40, 41, 42, 43, 44, 45, 46, 47, 48, 49, 50, 51, 52, 53, 54, 55, 56, 57, 58, 59, 60, 61, 62, 63, 64, 65, 66, 67, 68, 69, 70] (by decide +kernel) (by decide +kernel)
set_option maxRecDepth 20000 in
theorem gX9_help_X9_does : GoodIn wsX9_help (wsV RX9 161 RX9 yX9_does wsX9_does) := goodIn_app (goodIn_of _ (by decide +kernel)) ggX9_help_X9_does
set_option maxRecDepth 20000 in
theorem ggX9_help_X9_writes : GoodIn wsX9_help wsX9_writes := goodIn_r _ [35, 36, 1, 37, 38, 39, 40, 41, 42, 43, 44, 45, 46, 47, 48, 49, 50, 51, 52, 53, 54, 55, 56, 57, 58, 59, 60, 61, 62, 63, 64, 65, 66, 67, 68, 69, 70] (by decide +kernel) (by decide +kernel)
set_option maxRecDepth 20000 in
theorem gX9_help_X9_writes : GoodIn wsX9_help (wsV RX9 165 RX9 yX9_writes wsX9_writes) := goodIn_app (goodIn_of _ (by decide +kernel)) ggX9_help_X9_writes
set_option maxRecDepth 20000 in
theorem ggX9_help_X9_strengthOf : GoodIn wsX9_help wsX9_strengthOf := goodIn_r _ [25, 26, 27, 40, 41, 42, 43, 44, 45, 46, 47, 48, 49, 50, 51, 52, 53, 54, 55, 56, 57, 58, 59, 60, 61, 62, 63, 64, 65, 66, 67, 68, 69, 70] (by decide +kernel) (by decide +kernel)
set_option maxRecDepth 20000 in
theorem gX9_help_X9_strengthOf : GoodIn wsX9_help (wsV RX9 136 RX9 yX9_strengthOf wsX9_strengthOf) := goodIn_app (goodIn_of _ (by decide +kernel)) ggX9_help_X9_strengthOf
theorem dX9_help_0 : decode cX9_help 0 = .ok (.aload_n 0, 1) := by decide +kernel
theorem dX9_help_1 : decode cX9_help 1 = .ok (.iload_n 1, 1) := by decide +kernel
theorem dX9_help_2 : decode cX9_help 2 = .ok (.invokevirtual 133, 3) := by decide +kernel
theorem dX9_help_5 : decode cX9_help 5 = .ok (.ifCond .eq 19, 3) := by decide +kernel
theorem dX9_help_8 : decode cX9_help 8 = .ok (.aload_n 0, 1) := by decide +kernel
theorem dX9_help_9 : decode cX9_help 9 = .ok (.iload_n 2, 1) := by decide +kernel
theorem dX9_help_10 : decode cX9_help 10 = .ok (.invokevirtual 142, 3) := by decide +kernel
theorem dX9_help_13 : decode cX9_help 13 = .ok (.ifCond .eq 11, 3) := by decide +kernel
theorem dX9_help_16 : decode cX9_help 16 = .ok (.aload_n 0, 1) := by decide +kernel
theorem dX9_help_17 : decode cX9_help 17 = .ok (.iload_n 3, 1) := by decide +kernel
theorem dX9_help_18 : decode cX9_help 18 = .ok (.invokevirtual 142, 3) := by decide +kernel
theorem dX9_help_21 : decode cX9_help 21 = .ok (.ifCond .ne 5, 3) := by decide +kernel
theorem dX9_help_24 : decode cX9_help 24 = .ok (.iconst (-1), 1) := by decide +kernel
theorem dX9_help_25 : decode cX9_help 25 = .ok (.ireturn, 1) := by decide +kernel
theorem dX9_help_26 : decode cX9_help 26 = .ok (.iload_n 2, 1) := by decide +kernel
theorem dX9_help_27 : decode cX9_help 27 = .ok (.iload_n 3, 1) := by decide +kernel
theorem dX9_help_28 : decode cX9_help 28 = .ok (.if_icmp .gt 13, 3) := by decide +kernel
theorem dX9_help_31 : decode cX9_help 31 = .ok (.iload 4, 2) := by decide +kernel
theorem dX9_help_33 : decode cX9_help 33 = .ok (.iconst 0, 1) := by decide +kernel
theorem dX9_help_34 : decode cX9_help 34 = .ok (.iconst 1, 1) := by decide +kernel
theorem dX9_help_35 : decode cX9_help 35 = .ok (.invokestatic 77, 3) := by decide +kernel
theorem dX9_help_38 : decode cX9_help 38 = .ok (.ifCond .ne 6, 3) := by decide +kernel
theorem dX9_help_41 : decode cX9_help 41 = .ok (.bipush (-2), 2) := by decide +kernel
theorem dX9_help_43 : decode cX9_help 43 = .ok (.ireturn, 1) := by decide +kernel
theorem dX9_help_44 : decode cX9_help 44 = .ok (.aload_n 0, 1) := by decide +kernel
theorem dX9_help_45 : decode cX9_help 45 = .ok (.getfield 120, 3) := by decide +kernel
theorem dX9_help_48 : decode cX9_help 48 = .ok (.bipush 24, 2) := by decide +kernel
theorem dX9_help_50 : decode cX9_help 50 = .ok (.if_icmp .ne 6, 3) := by decide +kernel
theorem dX9_help_53 : decode cX9_help 53 = .ok (.bipush (-4), 2) := by decide +kernel
theorem dX9_help_55 : decode cX9_help 55 = .ok (.ireturn, 1) := by decide +kernel
theorem dX9_help_56 : decode cX9_help 56 = .ok (.iload 4, 2) := by decide +kernel
theorem dX9_help_58 : decode cX9_help 58 = .ok (.iconst 1, 1) := by decide +kernel
theorem dX9_help_59 : decode cX9_help 59 = .ok (.if_icmp .ne 7, 3) := by decide +kernel
theorem dX9_help_62 : decode cX9_help 62 = .ok (.iconst 3, 1) := by decide +kernel
theorem dX9_help_63 : decode cX9_help 63 = .ok (.goto 4, 3) := by decide +kernel
theorem dX9_help_66 : decode cX9_help 66 = .ok (.iconst 4, 1) := by decide +kernel
theorem dX9_help_67 : decode cX9_help 67 = .ok (.istore 5, 2) := by decide +kernel
theorem dX9_help_69 : decode cX9_help 69 = .ok (.aload_n 0, 1) := by decide +kernel
theorem dX9_help_70 : decode cX9_help 70 = .ok (.iload 5, 2) := by decide +kernel
theorem dX9_help_72 : decode cX9_help 72 = .ok (.iload_n 2, 1) := by decide +kernel
theorem dX9_help_73 : decode cX9_help 73 = .ok (.iload_n 3, 1) := by decide +kernel
theorem dX9_help_74 : decode cX9_help 74 = .ok (.iload_n 1, 1) := by decide +kernel
theorem dX9_help_75 : decode cX9_help 75 = .ok (.i2l, 1) := by decide +kernel
theorem dX9_help_76 : decode cX9_help 76 = .ok (.invokevirtual 161, 3) := by decide +kernel
theorem dX9_help_79 : decode cX9_help 79 = .ok (.pop, 1) := by decide +kernel
theorem dX9_help_80 : decode cX9_help 80 = .ok (.aload_n 0, 1) := by decide +kernel
theorem dX9_help_81 : decode cX9_help 81 = .ok (.iload 5, 2) := by decide +kernel
theorem dX9_help_83 : decode cX9_help 83 = .ok (.iload_n 2, 1) := by decide +kernel
theorem dX9_help_84 : decode cX9_help 84 = .ok (.iload_n 3, 1) := by decide +kernel
theorem dX9_help_85 : decode cX9_help 85 = .ok (.iload_n 1, 1) := by decide +kernel
theorem dX9_help_86 : decode cX9_help 86 = .ok (.i2l, 1) := by decide +kernel
theorem dX9_help_87 : decode cX9_help 87 = .ok (.invokevirtual 165, 3) := by decide +kernel
theorem dX9_help_90 : decode cX9_help 90 = .ok (.aload_n 0, 1) := by decide +kernel
theorem dX9_help_91 : decode cX9_help 91 = .ok (.iload_n 1, 1) := by decide +kernel
theorem dX9_help_92 : decode cX9_help 92 = .ok (.invokevirtual 136, 3) := by decide +kernel
theorem dX9_help_95 : decode cX9_help 95 = .ok (.ireturn, 1) := by decide +kernel
set_option maxRecDepth 20000 in
theorem ggX9_fresh_X9_begins : GoodIn wsX9_fresh wsX9_begins := goodIn_r _ [7, 2, 1, 8, 9, 10, 11, 12, 13, 14, 15, 16, 17, 18, 19, 20, 21, 22, 23, 24, 25, 26, 27, 28, 29, 30, 31, 32, 33, 34, 35, 36, 37, 38, 39, 40, 41] (by decide +kernel) (by decide +kernel)
set_option maxRecDepth 20000 in
theorem gX9_fresh_X9_begins : GoodIn wsX9_fresh (wsV RX9 114 RX9 yX9_begins wsX9_begins) := goodIn_app (goodIn_of _ (by decide +kernel)) ggX9_fresh_X9_begins
theorem dX9_fresh_0 : decode cX9_fresh 0 = .ok (.aload_n 0, 1) := by decide +kernel
theorem dX9_fresh_1 : decode cX9_fresh 1 = .ok (.getfield 81, 3) := by decide +kernel
theorem dX9_fresh_4 : decode cX9_fresh 4 = .ok (.ifCond .ne 6, 3) := by decide +kernel
theorem dX9_fresh_7 : decode cX9_fresh 7 = .ok (.bipush (-3), 2) := by decide +kernel
theorem dX9_fresh_9 : decode cX9_fresh 9 = .ok (.ireturn, 1) := by decide +kernel
theorem dX9_fresh_10 : decode cX9_fresh 10 = .ok (.aload_n 0, 1) := by decide +kernel
theorem dX9_fresh_11 : decode cX9_fresh 11 = .ok (.getfield 120, 3) := by decide +kernel
theorem dX9_fresh_14 : decode cX9_fresh 14 = .ok (.istore_n 1, 1) := by decide +kernel
theorem dX9_fresh_15 : decode cX9_fresh 15 = .ok (.aload_n 0, 1) := by decide +kernel
theorem dX9_fresh_16 : decode cX9_fresh 16 = .ok (.invokevirtual 114, 3) := by decide +kernel
theorem dX9_fresh_19 : decode cX9_fresh 19 = .ok (.iload_n 1, 1) := by decide +kernel
theorem dX9_fresh_20 : decode cX9_fresh 20 = .ok (.ireturn, 1) := by decide +kernel
theorem dX9_keep_0 : decode cX9_keep 0 = .ok (.iconst 0, 1) := by decide +kernel
theorem dX9_keep_1 : decode cX9_keep 1 = .ok (.istore_n 1, 1) := by decide +kernel
theorem dX9_keep_2 : decode cX9_keep 2 = .ok (.iload_n 1, 1) := by decide +kernel
theorem dX9_keep_3 : decode cX9_keep 3 = .ok (.aload_n 0, 1) := by decide +kernel
theorem dX9_keep_4 : decode cX9_keep 4 = .ok (.getfield 81, 3) := by decide +kernel
theorem dX9_keep_7 : decode cX9_keep 7 = .ok (.if_icmp .ge 33, 3) := by decide +kernel
theorem dX9_keep_10 : decode cX9_keep 10 = .ok (.aload_n 0, 1) := by decide +kernel
theorem dX9_keep_11 : decode cX9_keep 11 = .ok (.getfield 56, 3) := by decide +kernel
theorem dX9_keep_14 : decode cX9_keep 14 = .ok (.iload_n 1, 1) := by decide +kernel
theorem dX9_keep_15 : decode cX9_keep 15 = .ok (.aload_n 0, 1) := by decide +kernel
theorem dX9_keep_16 : decode cX9_keep 16 = .ok (.getfield 19, 3) := by decide +kernel
theorem dX9_keep_19 : decode cX9_keep 19 = .ok (.iload_n 1, 1) := by decide +kernel
theorem dX9_keep_20 : decode cX9_keep 20 = .ok (.laload, 1) := by decide +kernel
theorem dX9_keep_21 : decode cX9_keep 21 = .ok (.lastore, 1) := by decide +kernel
theorem dX9_keep_22 : decode cX9_keep 22 = .ok (.aload_n 0, 1) := by decide +kernel
theorem dX9_keep_23 : decode cX9_keep 23 = .ok (.getfield 59, 3) := by decide +kernel
theorem dX9_keep_26 : decode cX9_keep 26 = .ok (.iload_n 1, 1) := by decide +kernel
theorem dX9_keep_27 : decode cX9_keep 27 = .ok (.aload_n 0, 1) := by decide +kernel
theorem dX9_keep_28 : decode cX9_keep 28 = .ok (.getfield 23, 3) := by decide +kernel
theorem dX9_keep_31 : decode cX9_keep 31 = .ok (.iload_n 1, 1) := by decide +kernel
theorem dX9_keep_32 : decode cX9_keep 32 = .ok (.laload, 1) := by decide +kernel
theorem dX9_keep_33 : decode cX9_keep 33 = .ok (.lastore, 1) := by decide +kernel
theorem dX9_keep_34 : decode cX9_keep 34 = .ok (.iinc 1 1, 3) := by decide +kernel
theorem dX9_keep_37 : decode cX9_keep 37 = .ok (.goto (-35), 3) := by decide +kernel
theorem dX9_keep_40 : decode cX9_keep 40 = .ok (.return_, 1) := by decide +kernel
theorem dX9_putBack_0 : decode cX9_putBack 0 = .ok (.iconst 0, 1) := by decide +kernel
theorem dX9_putBack_1 : decode cX9_putBack 1 = .ok (.istore_n 1, 1) := by decide +kernel
theorem dX9_putBack_2 : decode cX9_putBack 2 = .ok (.iload_n 1, 1) := by decide +kernel
theorem dX9_putBack_3 : decode cX9_putBack 3 = .ok (.aload_n 0, 1) := by decide +kernel
theorem dX9_putBack_4 : decode cX9_putBack 4 = .ok (.getfield 81, 3) := by decide +kernel
theorem dX9_putBack_7 : decode cX9_putBack 7 = .ok (.if_icmp .ge 33, 3) := by decide +kernel
theorem dX9_putBack_10 : decode cX9_putBack 10 = .ok (.aload_n 0, 1) := by decide +kernel
theorem dX9_putBack_11 : decode cX9_putBack 11 = .ok (.getfield 19, 3) := by decide +kernel
theorem dX9_putBack_14 : decode cX9_putBack 14 = .ok (.iload_n 1, 1) := by decide +kernel
theorem dX9_putBack_15 : decode cX9_putBack 15 = .ok (.aload_n 0, 1) := by decide +kernel
theorem dX9_putBack_16 : decode cX9_putBack 16 = .ok (.getfield 56, 3) := by decide +kernel
theorem dX9_putBack_19 : decode cX9_putBack 19 = .ok (.iload_n 1, 1) := by decide +kernel
theorem dX9_putBack_20 : decode cX9_putBack 20 = .ok (.laload, 1) := by decide +kernel
theorem dX9_putBack_21 : decode cX9_putBack 21 = .ok (.lastore, 1) := by decide +kernel
theorem dX9_putBack_22 : decode cX9_putBack 22 = .ok (.aload_n 0, 1) := by decide +kernel
theorem dX9_putBack_23 : decode cX9_putBack 23 = .ok (.getfield 23, 3) := by decide +kernel
theorem dX9_putBack_26 : decode cX9_putBack 26 = .ok (.iload_n 1, 1) := by decide +kernel
theorem dX9_putBack_27 : decode cX9_putBack 27 = .ok (.aload_n 0, 1) := by decide +kernel
theorem dX9_putBack_28 : decode cX9_putBack 28 = .ok (.getfield 59, 3) := by decide +kernel
theorem dX9_putBack_31 : decode cX9_putBack 31 = .ok (.iload_n 1, 1) := by decide +kernel
theorem dX9_putBack_32 : decode cX9_putBack 32 = .ok (.laload, 1) := by decide +kernel
theorem dX9_putBack_33 : decode cX9_putBack 33 = .ok (.lastore, 1) := by decide +kernel
theorem dX9_putBack_34 : decode cX9_putBack 34 = .ok (.iinc 1 1, 3) := by decide +kernel
theorem dX9_putBack_37 : decode cX9_putBack 37 = .ok (.goto (-35), 3) := by decide +kernel
theorem dX9_putBack_40 : decode cX9_putBack 40 = .ok (.return_, 1) := by decide +kernel
set_option maxRecDepth 20000 in
theorem ggX9_goesFour_X9_isCell : GoodIn wsX9_goesFour wsX9_isCell := goodIn_r _ [6, 7, 29, 30, 31, 32, 33, 34, 35, 36, 37, 38, 39, 40, 41, 42, 43, 44, 45, 46, 47, 48, 49, 50, 51, 52, 53, 54, 55, 56, 57, 58, 59] (by decide +kernel) (by decide +kernel)
set_option maxRecDepth 20000 in
theorem gX9_goesFour_X9_isCell : GoodIn wsX9_goesFour (wsV RX9 142 RX9 yX9_isCell wsX9_isCell) := goodIn_app (goodIn_of _ (by decide +kernel)) ggX9_goesFour_X9_isCell
set_option maxRecDepth 20000 in
theorem ggX9_goesFour_X9_isHelper : GoodIn wsX9_goesFour wsX9_isHelper := goodIn_r _ [11, 12, 29, 30, 31, 32, 33, 34, 35, 36, 37, 38, 39, 40, 41, 42, 43, 44, 45, 46, 47, 48, 49, 50, 51, 52, 53, 54, 55, 56, 57, 58, 59] (by decide +kernel) (by decide +kernel)
set_option maxRecDepth 20000 in
theorem gX9_goesFour_X9_isHelper : GoodIn wsX9_goesFour (wsV RX9 133 RX9 yX9_isHelper wsX9_isHelper) := goodIn_app (goodIn_of _ (by decide +kernel)) ggX9_goesFour_X9_isHelper
set_option maxRecDepth 20000 in
theorem ggX9_goesFour_X9_does : GoodIn wsX9_goesFour wsX9_does := goodIn_r _ [16, 17, 18, 19, 20, 21, 5, 22, 23, 24, 25, 26, 27, 28, 29, 30, 31, 32, 33, 34, 35, 36, 37, 38, 39, 40, 41, 42, 43, 44, 45, 46, 47, 48, 49, 50, 51, 52, 53, 54, 55, 56, 57, 58, 59] (by decide +kernel) (by decide +kernel)
set_option maxRecDepth 20000 in
theorem gX9_goesFour_X9_does : GoodIn wsX9_goesFour (wsV RX9 161 RX9 yX9_does wsX9_does) := goodIn_app (goodIn_of _ (by decide +kernel)) ggX9_goesFour_X9_does
theorem dX9_goesFour_0 : decode cX9_goesFour 0 = .ok (.aload_n 0, 1) := by decide +kernel
theorem dX9_goesFour_1 : decode cX9_goesFour 1 = .ok (.getfield 16, 3) := by decide +kernel
theorem dX9_goesFour_4 : decode cX9_goesFour 4 = .ok (.iload_n 1, 1) := by decide +kernel
theorem dX9_goesFour_5 : decode cX9_goesFour 5 = .ok (.iaload, 1) := by decide +kernel
theorem dX9_goesFour_6 : decode cX9_goesFour 6 = .ok (.istore_n 2, 1) := by decide +kernel
theorem dX9_goesFour_7 : decode cX9_goesFour 7 = .ok (.aload_n 0, 1) := by decide +kernel
theorem dX9_goesFour_8 : decode cX9_goesFour 8 = .ok (.getfield 16, 3) := by decide +kernel
theorem dX9_goesFour_11 : decode cX9_goesFour 11 = .ok (.iload_n 1, 1) := by decide +kernel
theorem dX9_goesFour_12 : decode cX9_goesFour 12 = .ok (.iconst 1, 1) := by decide +kernel
theorem dX9_goesFour_13 : decode cX9_goesFour 13 = .ok (.iadd, 1) := by decide +kernel
theorem dX9_goesFour_14 : decode cX9_goesFour 14 = .ok (.iaload, 1) := by decide +kernel
theorem dX9_goesFour_15 : decode cX9_goesFour 15 = .ok (.istore_n 3, 1) := by decide +kernel
theorem dX9_goesFour_16 : decode cX9_goesFour 16 = .ok (.aload_n 0, 1) := by decide +kernel
theorem dX9_goesFour_17 : decode cX9_goesFour 17 = .ok (.getfield 16, 3) := by decide +kernel
theorem dX9_goesFour_20 : decode cX9_goesFour 20 = .ok (.iload_n 1, 1) := by decide +kernel
theorem dX9_goesFour_21 : decode cX9_goesFour 21 = .ok (.iconst 2, 1) := by decide +kernel
theorem dX9_goesFour_22 : decode cX9_goesFour 22 = .ok (.iadd, 1) := by decide +kernel
theorem dX9_goesFour_23 : decode cX9_goesFour 23 = .ok (.iaload, 1) := by decide +kernel
theorem dX9_goesFour_24 : decode cX9_goesFour 24 = .ok (.istore 4, 2) := by decide +kernel
theorem dX9_goesFour_26 : decode cX9_goesFour 26 = .ok (.aload_n 0, 1) := by decide +kernel
theorem dX9_goesFour_27 : decode cX9_goesFour 27 = .ok (.getfield 16, 3) := by decide +kernel
theorem dX9_goesFour_30 : decode cX9_goesFour 30 = .ok (.iload_n 1, 1) := by decide +kernel
theorem dX9_goesFour_31 : decode cX9_goesFour 31 = .ok (.iconst 3, 1) := by decide +kernel
theorem dX9_goesFour_32 : decode cX9_goesFour 32 = .ok (.iadd, 1) := by decide +kernel
theorem dX9_goesFour_33 : decode cX9_goesFour 33 = .ok (.iaload, 1) := by decide +kernel
theorem dX9_goesFour_34 : decode cX9_goesFour 34 = .ok (.istore 5, 2) := by decide +kernel
theorem dX9_goesFour_36 : decode cX9_goesFour 36 = .ok (.aload_n 0, 1) := by decide +kernel
theorem dX9_goesFour_37 : decode cX9_goesFour 37 = .ok (.iload_n 3, 1) := by decide +kernel
theorem dX9_goesFour_38 : decode cX9_goesFour 38 = .ok (.invokevirtual 142, 3) := by decide +kernel
theorem dX9_goesFour_41 : decode cX9_goesFour 41 = .ok (.ifCond .eq 32, 3) := by decide +kernel
theorem dX9_goesFour_44 : decode cX9_goesFour 44 = .ok (.aload_n 0, 1) := by decide +kernel
theorem dX9_goesFour_45 : decode cX9_goesFour 45 = .ok (.iload 4, 2) := by decide +kernel
theorem dX9_goesFour_47 : decode cX9_goesFour 47 = .ok (.invokevirtual 142, 3) := by decide +kernel
theorem dX9_goesFour_50 : decode cX9_goesFour 50 = .ok (.ifCond .eq 23, 3) := by decide +kernel
theorem dX9_goesFour_53 : decode cX9_goesFour 53 = .ok (.iload_n 3, 1) := by decide +kernel
theorem dX9_goesFour_54 : decode cX9_goesFour 54 = .ok (.iload 4, 2) := by decide +kernel
theorem dX9_goesFour_56 : decode cX9_goesFour 56 = .ok (.if_icmp .gt 17, 3) := by decide +kernel
theorem dX9_goesFour_59 : decode cX9_goesFour 59 = .ok (.iload_n 2, 1) := by decide +kernel
theorem dX9_goesFour_60 : decode cX9_goesFour 60 = .ok (.iconst 3, 1) := by decide +kernel
theorem dX9_goesFour_61 : decode cX9_goesFour 61 = .ok (.if_icmp .lt 14, 3) := by decide +kernel
theorem dX9_goesFour_64 : decode cX9_goesFour 64 = .ok (.aload_n 0, 1) := by decide +kernel
theorem dX9_goesFour_65 : decode cX9_goesFour 65 = .ok (.iload 5, 2) := by decide +kernel
theorem dX9_goesFour_67 : decode cX9_goesFour 67 = .ok (.invokevirtual 133, 3) := by decide +kernel
theorem dX9_goesFour_70 : decode cX9_goesFour 70 = .ok (.ifCond .ne 5, 3) := by decide +kernel
theorem dX9_goesFour_73 : decode cX9_goesFour 73 = .ok (.iconst 0, 1) := by decide +kernel
theorem dX9_goesFour_74 : decode cX9_goesFour 74 = .ok (.ireturn, 1) := by decide +kernel
theorem dX9_goesFour_75 : decode cX9_goesFour 75 = .ok (.aload_n 0, 1) := by decide +kernel
theorem dX9_goesFour_76 : decode cX9_goesFour 76 = .ok (.iload_n 2, 1) := by decide +kernel
theorem dX9_goesFour_77 : decode cX9_goesFour 77 = .ok (.iload_n 3, 1) := by decide +kernel
theorem dX9_goesFour_78 : decode cX9_goesFour 78 = .ok (.iload 4, 2) := by decide +kernel
theorem dX9_goesFour_80 : decode cX9_goesFour 80 = .ok (.iload 5, 2) := by decide +kernel
theorem dX9_goesFour_82 : decode cX9_goesFour 82 = .ok (.i2l, 1) := by decide +kernel
theorem dX9_goesFour_83 : decode cX9_goesFour 83 = .ok (.invokevirtual 161, 3) := by decide +kernel
theorem dX9_goesFour_86 : decode cX9_goesFour 86 = .ok (.pop, 1) := by decide +kernel
theorem dX9_goesFour_87 : decode cX9_goesFour 87 = .ok (.iconst 1, 1) := by decide +kernel
theorem dX9_goesFour_88 : decode cX9_goesFour 88 = .ok (.ireturn, 1) := by decide +kernel
set_option maxRecDepth 20000 in
theorem ggX9_goDay_X9_goesFour : GoodIn wsX9_goDay wsX9_goesFour := goodIn_r _ [5, 6, 7, 8, 9, 4, 10, 11, 12, 13, 14, 15, 16, 17, 18, 19, 20, 21, 22, 23, 24, 25, 26, 27, 28, 29, 30, 31, 32, 33, 34, 35, 36, 37, 38, 39, 40, 41, 42, 43, 44, 45, 46, 47, 48, 49, 50, 51, 52, 53, 54, 55, 56, 57, 58, 59, 60, 61, 62, 63] (by decide +kernel) (by decide +kernel)
set_option maxRecDepth 20000 in
theorem gX9_goDay_X9_goesFour : GoodIn wsX9_goDay (wsV RX9 169 RX9 yX9_goesFour wsX9_goesFour) := goodIn_app (goodIn_of _ (by decide +kernel)) ggX9_goDay_X9_goesFour
theorem dX9_goDay_0 : decode cX9_goDay 0 = .ok (.iconst 0, 1) := by decide +kernel
theorem dX9_goDay_1 : decode cX9_goDay 1 = .ok (.istore_n 3, 1) := by decide +kernel
theorem dX9_goDay_2 : decode cX9_goDay 2 = .ok (.iload_n 3, 1) := by decide +kernel
theorem dX9_goDay_3 : decode cX9_goDay 3 = .ok (.iload_n 2, 1) := by decide +kernel
theorem dX9_goDay_4 : decode cX9_goDay 4 = .ok (.if_icmp .ge 23, 3) := by decide +kernel
theorem dX9_goDay_7 : decode cX9_goDay 7 = .ok (.aload_n 0, 1) := by decide +kernel
theorem dX9_goDay_8 : decode cX9_goDay 8 = .ok (.iload_n 1, 1) := by decide +kernel
theorem dX9_goDay_9 : decode cX9_goDay 9 = .ok (.iconst 4, 1) := by decide +kernel
theorem dX9_goDay_10 : decode cX9_goDay 10 = .ok (.iload_n 3, 1) := by decide +kernel
theorem dX9_goDay_11 : decode cX9_goDay 11 = .ok (.imul, 1) := by decide +kernel
theorem dX9_goDay_12 : decode cX9_goDay 12 = .ok (.iadd, 1) := by decide +kernel
theorem dX9_goDay_13 : decode cX9_goDay 13 = .ok (.invokevirtual 169, 3) := by decide +kernel
theorem dX9_goDay_16 : decode cX9_goDay 16 = .ok (.ifCond .ne 5, 3) := by decide +kernel
theorem dX9_goDay_19 : decode cX9_goDay 19 = .ok (.iload_n 3, 1) := by decide +kernel
theorem dX9_goDay_20 : decode cX9_goDay 20 = .ok (.ireturn, 1) := by decide +kernel
theorem dX9_goDay_21 : decode cX9_goDay 21 = .ok (.iinc 3 1, 3) := by decide +kernel
theorem dX9_goDay_24 : decode cX9_goDay 24 = .ok (.goto (-22), 3) := by decide +kernel
theorem dX9_goDay_27 : decode cX9_goDay 27 = .ok (.bipush (-9), 2) := by decide +kernel
theorem dX9_goDay_29 : decode cX9_goDay 29 = .ok (.ireturn, 1) := by decide +kernel
set_option maxRecDepth 20000 in
theorem ggX9_day_X9_isSheet : GoodIn wsX9_day wsX9_isSheet := goodIn_r _ [10, 11, 12, 9, 13] (by decide +kernel) (by decide +kernel)
set_option maxRecDepth 20000 in
theorem gX9_day_X9_isSheet : GoodIn wsX9_day (va_wsS RX9 90 yX9_isSheet wsX9_isSheet) := goodIn_app (goodIn_of _ (by decide +kernel)) ggX9_day_X9_isSheet
set_option maxRecDepth 20000 in
theorem ggX9_day_X9_isSort : GoodIn wsX9_day wsX9_isSort := goodIn_r _ [16, 11, 12, 9, 13] (by decide +kernel) (by decide +kernel)
set_option maxRecDepth 20000 in
theorem gX9_day_X9_isSort : GoodIn wsX9_day (va_wsS RX9 94 yX9_isSort wsX9_isSort) := goodIn_app (goodIn_of _ (by decide +kernel)) ggX9_day_X9_isSort
set_option maxRecDepth 20000 in
theorem ggX9_day_X9_within : GoodIn wsX9_day wsX9_within := goodIn_r _ [13] (by decide +kernel) (by decide +kernel)
set_option maxRecDepth 20000 in
theorem gX9_day_X9_within : GoodIn wsX9_day (va_wsS RX9 77 yX9_within wsX9_within) := goodIn_app (goodIn_of _ (by decide +kernel)) ggX9_day_X9_within
set_option maxRecDepth 20000 in
theorem ggX9_day_X9_against : GoodIn wsX9_day wsX9_against := goodIn_r _ [20, 21, 22, 88, 89, 90, 91, 92, 93, 94, 95, 96, 97, 98, 99, 100, 101, 102, 103, 104, 105, 106, 107, 108, 109, 110, 111, 112, 113, 114, 115, 116, 117, 118] (by decide +kernel) (by decide +kernel)
set_option maxRecDepth 20000 in
theorem gX9_day_X9_against : GoodIn wsX9_day (wsV RX9 97 RX9 yX9_against wsX9_against) := goodIn_app (goodIn_of _ (by decide +kernel)) ggX9_day_X9_against
set_option maxRecDepth 20000 in
theorem ggX9_day_X9_lost : GoodIn wsX9_day wsX9_lost := goodIn_r _ [26, 1, 2, 88, 89, 90, 91, 92, 93, 94, 95, 96, 97, 98, 99, 100, 101, 102, 103, 104, 105, 106, 107, 108, 109, 110, 111, 112, 113, 114, 115, 116, 117, 118] (by decide +kernel) (by decide +kernel)
set_option maxRecDepth 20000 in
theorem gX9_day_X9_lost : GoodIn wsX9_day (wsV RX9 172 RX9 yX9_lost wsX9_lost) := goodIn_app (goodIn_of _ (by decide +kernel)) ggX9_day_X9_lost
set_option maxRecDepth 20000 in
theorem ggX9_day_X9_keep : GoodIn wsX9_day wsX9_keep := goodIn_r _ [30, 3, 31, 6, 32, 5, 88, 89, 90, 91, 92, 93, 94, 95, 96, 97, 98, 99, 100, 101, 102, 103, 104, 105, 106, 107, 108, 109, 110, 111, 112, 113, 114, 115, 116, 117, 118] (by decide +kernel) (by decide +kernel)
set_option maxRecDepth 20000 in
theorem gX9_day_X9_keep : GoodIn wsX9_day (wsV RX9 176 RX9 yX9_keep wsX9_keep) := goodIn_app (goodIn_of _ (by decide +kernel)) ggX9_day_X9_keep
set_option maxRecDepth 20000 in
theorem ggX9_day_X9_goDay : GoodIn wsX9_day wsX9_goDay := goodIn_r _ [36, 37, 38, 39, 9, 40, 4, 41, 42, 43, 44, 3, 45, 46, 47, 48, 49, 50, 51, 52, 53, 6, 5, 54, 55, 56, 57, 58, 59, 60, 61, 62, 63, 88, 89, 90, 91, 92, 93, 94, 95, 96, 97, 98, 99, 100, 101, 102, 103, 104, 105, 106, 107, 108, 109, 110, 111, 112, 113, 114, 115, 116, 117, 118] (by decide +kernel) (by decide +kernel)
set_option maxRecDepth 20000 in
theorem gX9_day_X9_goDay : GoodIn wsX9_day (wsV RX9 179 RX9 yX9_goDay wsX9_goDay) := goodIn_app (goodIn_of _ (by decide +kernel)) ggX9_day_X9_goDay
set_option maxRecDepth 20000 in
theorem ggX9_day_X9_tellDay : GoodIn wsX9_day wsX9_tellDay := goodIn_r _ [67, 6, 2, 3, 41, 42, 43, 9, 44, 68, 69, 70, 71, 72, 73, 74, 75, 76, 77, 78, 79, 80, 81, 82, 83, 5, 88, 89, 90, 91, 92, 93, 94, 95, 96, 97, 98, 99, 100, 101, 102, 103, 104, 105, 106, 107, 108, 109, 110, 111, 112, 113, 114, 115, 116, 117, 118] (by decide +kernel) (by decide +kernel)
set_option maxRecDepth 20000 in
theorem gX9_day_X9_tellDay : GoodIn wsX9_day (wsV RX9 183 RX9 yX9_tellDay wsX9_tellDay) := goodIn_app (goodIn_of _ (by decide +kernel)) ggX9_day_X9_tellDay
set_option maxRecDepth 20000 in
theorem ggX9_day_X9_putBack : GoodIn wsX9_day wsX9_putBack := goodIn_r _ [87, 3, 6, 31, 5, 32, 88, 89, 90, 91, 92, 93, 94, 95, 96, 97, 98, 99, 100, 101, 102, 103, 104, 105, 106, 107, 108, 109, 110, 111, 112, 113, 114, 115, 116, 117, 118] (by decide +kernel) (by decide +kernel)
set_option maxRecDepth 20000 in
theorem gX9_day_X9_putBack : GoodIn wsX9_day (wsV RX9 186 RX9 yX9_putBack wsX9_putBack) := goodIn_app (goodIn_of _ (by decide +kernel)) ggX9_day_X9_putBack
theorem dX9_day_0 : decode cX9_day 0 = .ok (.aload_n 0, 1) := by decide +kernel
theorem dX9_day_1 : decode cX9_day 1 = .ok (.iconst 0, 1) := by decide +kernel
theorem dX9_day_2 : decode cX9_day 2 = .ok (.putfield 71, 3) := by decide +kernel
theorem dX9_day_5 : decode cX9_day 5 = .ok (.iload_n 1, 1) := by decide +kernel
theorem dX9_day_6 : decode cX9_day 6 = .ok (.invokestatic 90, 3) := by decide +kernel
theorem dX9_day_9 : decode cX9_day 9 = .ok (.ifCond .eq 43, 3) := by decide +kernel
theorem dX9_day_12 : decode cX9_day 12 = .ok (.iload_n 2, 1) := by decide +kernel
theorem dX9_day_13 : decode cX9_day 13 = .ok (.invokestatic 94, 3) := by decide +kernel
theorem dX9_day_16 : decode cX9_day 16 = .ok (.ifCond .eq 36, 3) := by decide +kernel
theorem dX9_day_19 : decode cX9_day 19 = .ok (.iload 4, 2) := by decide +kernel
theorem dX9_day_21 : decode cX9_day 21 = .ok (.iconst 0, 1) := by decide +kernel
theorem dX9_day_22 : decode cX9_day 22 = .ok (.bipush 12, 2) := by decide +kernel
theorem dX9_day_24 : decode cX9_day 24 = .ok (.invokestatic 77, 3) := by decide +kernel
theorem dX9_day_27 : decode cX9_day 27 = .ok (.ifCond .eq 25, 3) := by decide +kernel
theorem dX9_day_30 : decode cX9_day 30 = .ok (.iload 5, 2) := by decide +kernel
theorem dX9_day_32 : decode cX9_day 32 = .ok (.iconst 0, 1) := by decide +kernel
theorem dX9_day_33 : decode cX9_day 33 = .ok (.iconst 4, 1) := by decide +kernel
theorem dX9_day_34 : decode cX9_day 34 = .ok (.invokestatic 77, 3) := by decide +kernel
theorem dX9_day_37 : decode cX9_day 37 = .ok (.ifCond .ne 19, 3) := by decide +kernel
theorem dX9_day_40 : decode cX9_day 40 = .ok (.iload 5, 2) := by decide +kernel
theorem dX9_day_42 : decode cX9_day 42 = .ok (.bipush 10, 2) := by decide +kernel
theorem dX9_day_44 : decode cX9_day 44 = .ok (.bipush 25, 2) := by decide +kernel
theorem dX9_day_46 : decode cX9_day 46 = .ok (.invokestatic 77, 3) := by decide +kernel
theorem dX9_day_49 : decode cX9_day 49 = .ok (.ifCond .ne 7, 3) := by decide +kernel
theorem dX9_day_52 : decode cX9_day 52 = .ok (.ldc2_w 75, 3) := by decide +kernel
theorem dX9_day_55 : decode cX9_day 55 = .ok (.lreturn, 1) := by decide +kernel
theorem dX9_day_56 : decode cX9_day 56 = .ok (.aload_n 0, 1) := by decide +kernel
theorem dX9_day_57 : decode cX9_day 57 = .ok (.iload_n 1, 1) := by decide +kernel
theorem dX9_day_58 : decode cX9_day 58 = .ok (.iload_n 2, 1) := by decide +kernel
theorem dX9_day_59 : decode cX9_day 59 = .ok (.iload_n 3, 1) := by decide +kernel
theorem dX9_day_60 : decode cX9_day 60 = .ok (.iconst 4, 1) := by decide +kernel
theorem dX9_day_61 : decode cX9_day 61 = .ok (.iload 4, 2) := by decide +kernel
theorem dX9_day_63 : decode cX9_day 63 = .ok (.imul, 1) := by decide +kernel
theorem dX9_day_64 : decode cX9_day 64 = .ok (.invokevirtual 97, 3) := by decide +kernel
theorem dX9_day_67 : decode cX9_day 67 = .ok (.istore 6, 2) := by decide +kernel
theorem dX9_day_69 : decode cX9_day 69 = .ok (.iload 6, 2) := by decide +kernel
theorem dX9_day_71 : decode cX9_day 71 = .ok (.ifCond .eq 10, 3) := by decide +kernel
theorem dX9_day_74 : decode cX9_day 74 = .ok (.aload_n 0, 1) := by decide +kernel
theorem dX9_day_75 : decode cX9_day 75 = .ok (.iload 6, 2) := by decide +kernel
theorem dX9_day_77 : decode cX9_day 77 = .ok (.invokevirtual 172, 3) := by decide +kernel
theorem dX9_day_80 : decode cX9_day 80 = .ok (.lreturn, 1) := by decide +kernel
theorem dX9_day_81 : decode cX9_day 81 = .ok (.aload_n 0, 1) := by decide +kernel
theorem dX9_day_82 : decode cX9_day 82 = .ok (.getfield 81, 3) := by decide +kernel
theorem dX9_day_85 : decode cX9_day 85 = .ok (.ifCond .ne 7, 3) := by decide +kernel
theorem dX9_day_88 : decode cX9_day 88 = .ok (.ldc2_w 75, 3) := by decide +kernel
theorem dX9_day_91 : decode cX9_day 91 = .ok (.lreturn, 1) := by decide +kernel
theorem dX9_day_92 : decode cX9_day 92 = .ok (.bipush 60, 2) := by decide +kernel
theorem dX9_day_94 : decode cX9_day 94 = .ok (.iload_n 1, 1) := by decide +kernel
theorem dX9_day_95 : decode cX9_day 95 = .ok (.imul, 1) := by decide +kernel
theorem dX9_day_96 : decode cX9_day 96 = .ok (.iload_n 3, 1) := by decide +kernel
theorem dX9_day_97 : decode cX9_day 97 = .ok (.iadd, 1) := by decide +kernel
theorem dX9_day_98 : decode cX9_day 98 = .ok (.istore 7, 2) := by decide +kernel
theorem dX9_day_100 : decode cX9_day 100 = .ok (.iconst 0, 1) := by decide +kernel
theorem dX9_day_101 : decode cX9_day 101 = .ok (.istore 8, 2) := by decide +kernel
theorem dX9_day_103 : decode cX9_day 103 = .ok (.iload 8, 2) := by decide +kernel
theorem dX9_day_105 : decode cX9_day 105 = .ok (.iload 4, 2) := by decide +kernel
theorem dX9_day_107 : decode cX9_day 107 = .ok (.if_icmp .ge 33, 3) := by decide +kernel
theorem dX9_day_110 : decode cX9_day 110 = .ok (.aload_n 0, 1) := by decide +kernel
theorem dX9_day_111 : decode cX9_day 111 = .ok (.getfield 16, 3) := by decide +kernel
theorem dX9_day_114 : decode cX9_day 114 = .ok (.iload 7, 2) := by decide +kernel
theorem dX9_day_116 : decode cX9_day 116 = .ok (.iconst 4, 1) := by decide +kernel
theorem dX9_day_117 : decode cX9_day 117 = .ok (.iload 8, 2) := by decide +kernel
theorem dX9_day_119 : decode cX9_day 119 = .ok (.imul, 1) := by decide +kernel
theorem dX9_day_120 : decode cX9_day 120 = .ok (.iadd, 1) := by decide +kernel
theorem dX9_day_121 : decode cX9_day 121 = .ok (.iaload, 1) := by decide +kernel
theorem dX9_day_122 : decode cX9_day 122 = .ok (.iconst 0, 1) := by decide +kernel
theorem dX9_day_123 : decode cX9_day 123 = .ok (.iconst 4, 1) := by decide +kernel
theorem dX9_day_124 : decode cX9_day 124 = .ok (.invokestatic 77, 3) := by decide +kernel
theorem dX9_day_127 : decode cX9_day 127 = .ok (.ifCond .ne 7, 3) := by decide +kernel
theorem dX9_day_130 : decode cX9_day 130 = .ok (.ldc2_w 75, 3) := by decide +kernel
theorem dX9_day_133 : decode cX9_day 133 = .ok (.lreturn, 1) := by decide +kernel
theorem dX9_day_134 : decode cX9_day 134 = .ok (.iinc 8 1, 3) := by decide +kernel
theorem dX9_day_137 : decode cX9_day 137 = .ok (.goto (-34), 3) := by decide +kernel
theorem dX9_day_140 : decode cX9_day 140 = .ok (.aload_n 0, 1) := by decide +kernel
theorem dX9_day_141 : decode cX9_day 141 = .ok (.invokevirtual 176, 3) := by decide +kernel
theorem dX9_day_144 : decode cX9_day 144 = .ok (.iconst 0, 1) := by decide +kernel
theorem dX9_day_145 : decode cX9_day 145 = .ok (.istore 8, 2) := by decide +kernel
theorem dX9_day_147 : decode cX9_day 147 = .ok (.iload 8, 2) := by decide +kernel
theorem dX9_day_149 : decode cX9_day 149 = .ok (.aload_n 0, 1) := by decide +kernel
theorem dX9_day_150 : decode cX9_day 150 = .ok (.getfield 81, 3) := by decide +kernel
theorem dX9_day_153 : decode cX9_day 153 = .ok (.if_icmp .ge 23, 3) := by decide +kernel
theorem dX9_day_156 : decode cX9_day 156 = .ok (.aload_n 0, 1) := by decide +kernel
theorem dX9_day_157 : decode cX9_day 157 = .ok (.getfield 23, 3) := by decide +kernel
theorem dX9_day_160 : decode cX9_day 160 = .ok (.iload 8, 2) := by decide +kernel
theorem dX9_day_162 : decode cX9_day 162 = .ok (.aload_n 0, 1) := by decide +kernel
theorem dX9_day_163 : decode cX9_day 163 = .ok (.getfield 19, 3) := by decide +kernel
theorem dX9_day_166 : decode cX9_day 166 = .ok (.iload 8, 2) := by decide +kernel
theorem dX9_day_168 : decode cX9_day 168 = .ok (.laload, 1) := by decide +kernel
theorem dX9_day_169 : decode cX9_day 169 = .ok (.lastore, 1) := by decide +kernel
theorem dX9_day_170 : decode cX9_day 170 = .ok (.iinc 8 1, 3) := by decide +kernel
theorem dX9_day_173 : decode cX9_day 173 = .ok (.goto (-26), 3) := by decide +kernel
theorem dX9_day_176 : decode cX9_day 176 = .ok (.aload_n 0, 1) := by decide +kernel
theorem dX9_day_177 : decode cX9_day 177 = .ok (.iload 7, 2) := by decide +kernel
theorem dX9_day_179 : decode cX9_day 179 = .ok (.iload 4, 2) := by decide +kernel
theorem dX9_day_181 : decode cX9_day 181 = .ok (.invokevirtual 179, 3) := by decide +kernel
theorem dX9_day_184 : decode cX9_day 184 = .ok (.istore 8, 2) := by decide +kernel
theorem dX9_day_186 : decode cX9_day 186 = .ok (.aload_n 0, 1) := by decide +kernel
theorem dX9_day_187 : decode cX9_day 187 = .ok (.iload 5, 2) := by decide +kernel
theorem dX9_day_189 : decode cX9_day 189 = .ok (.invokevirtual 183, 3) := by decide +kernel
theorem dX9_day_192 : decode cX9_day 192 = .ok (.lstore 9, 2) := by decide +kernel
theorem dX9_day_194 : decode cX9_day 194 = .ok (.aload_n 0, 1) := by decide +kernel
theorem dX9_day_195 : decode cX9_day 195 = .ok (.invokevirtual 186, 3) := by decide +kernel
theorem dX9_day_198 : decode cX9_day 198 = .ok (.iload 5, 2) := by decide +kernel
theorem dX9_day_200 : decode cX9_day 200 = .ok (.iconst 1, 1) := by decide +kernel
theorem dX9_day_201 : decode cX9_day 201 = .ok (.if_icmp .ne 9, 3) := by decide +kernel
theorem dX9_day_204 : decode cX9_day 204 = .ok (.iload 8, 2) := by decide +kernel
theorem dX9_day_206 : decode cX9_day 206 = .ok (.i2l, 1) := by decide +kernel
theorem dX9_day_207 : decode cX9_day 207 = .ok (.goto 21, 3) := by decide +kernel
theorem dX9_day_210 : decode cX9_day 210 = .ok (.iload 8, 2) := by decide +kernel
theorem dX9_day_212 : decode cX9_day 212 = .ok (.bipush (-9), 2) := by decide +kernel
theorem dX9_day_214 : decode cX9_day 214 = .ok (.if_icmp .ne 8, 3) := by decide +kernel
theorem dX9_day_217 : decode cX9_day 217 = .ok (.lload 9, 2) := by decide +kernel
theorem dX9_day_219 : decode cX9_day 219 = .ok (.goto 9, 3) := by decide +kernel
theorem dX9_day_222 : decode cX9_day 222 = .ok (.bipush (-100), 2) := by decide +kernel
theorem dX9_day_224 : decode cX9_day 224 = .ok (.iload 8, 2) := by decide +kernel
theorem dX9_day_226 : decode cX9_day 226 = .ok (.isub, 1) := by decide +kernel
theorem dX9_day_227 : decode cX9_day 227 = .ok (.i2l, 1) := by decide +kernel
theorem dX9_day_228 : decode cX9_day 228 = .ok (.lreturn, 1) := by decide +kernel
set_option maxRecDepth 20000 in
theorem ggX9_tellDay_X9_isCell : GoodIn wsX9_tellDay wsX9_isCell := goodIn_r _ [8, 3, 26, 27, 28, 29, 30, 31, 32, 33, 34, 35, 36, 37, 38, 39, 40, 41, 42, 43, 44, 45, 46, 47, 48, 49, 50, 51, 52, 53, 54, 55, 56] (by decide +kernel) (by decide +kernel)
set_option maxRecDepth 20000 in
theorem gX9_tellDay_X9_isCell : GoodIn wsX9_tellDay (wsV RX9 142 RX9 yX9_isCell wsX9_isCell) := goodIn_app (goodIn_of _ (by decide +kernel)) ggX9_tellDay_X9_isCell
set_option maxRecDepth 20000 in
theorem ggX9_tellDay_X9_sumOf : GoodIn wsX9_tellDay wsX9_sumOf := goodIn_r _ [12, 1, 26, 27, 28, 29, 30, 31, 32, 33, 34, 35, 36, 37, 38, 39, 40, 41, 42, 43, 44, 45, 46, 47, 48, 49, 50, 51, 52, 53, 54, 55, 56] (by decide +kernel) (by decide +kernel)
set_option maxRecDepth 20000 in
theorem gX9_tellDay_X9_sumOf : GoodIn wsX9_tellDay (wsV RX9 189 RX9 yX9_sumOf wsX9_sumOf) := goodIn_app (goodIn_of _ (by decide +kernel)) ggX9_tellDay_X9_sumOf
set_option maxRecDepth 20000 in
theorem ggX9_tellDay_X9_greatestOf : GoodIn wsX9_tellDay wsX9_greatestOf := goodIn_r _ [16, 1, 26, 27, 28, 29, 30, 31, 32, 33, 34, 35, 36, 37, 38, 39, 40, 41, 42, 43, 44, 45, 46, 47, 48, 49, 50, 51, 52, 53, 54, 55, 56] (by decide +kernel) (by decide +kernel)
set_option maxRecDepth 20000 in
theorem gX9_tellDay_X9_greatestOf : GoodIn wsX9_tellDay (wsV RX9 193 RX9 yX9_greatestOf wsX9_greatestOf) := goodIn_app (goodIn_of _ (by decide +kernel)) ggX9_tellDay_X9_greatestOf
set_option maxRecDepth 20000 in
theorem ggX9_tellDay_X9_leastOf : GoodIn wsX9_tellDay wsX9_leastOf := goodIn_r _ [20, 1, 26, 27, 28, 29, 30, 31, 32, 33, 34, 35, 36, 37, 38, 39, 40, 41, 42, 43, 44, 45, 46, 47, 48, 49, 50, 51, 52, 53, 54, 55, 56] (by decide +kernel) (by decide +kernel)
set_option maxRecDepth 20000 in
theorem gX9_tellDay_X9_leastOf : GoodIn wsX9_tellDay (wsV RX9 196 RX9 yX9_leastOf wsX9_leastOf) := goodIn_app (goodIn_of _ (by decide +kernel)) ggX9_tellDay_X9_leastOf
set_option maxRecDepth 20000 in
theorem ggX9_tellDay_X9_greatestEver : GoodIn wsX9_tellDay wsX9_greatestEver := goodIn_r _ [24, 25, 26, 27, 28, 29, 30, 31, 32, 33, 34, 35, 36, 37, 38, 39, 40, 41, 42, 43, 44, 45, 46, 47, 48, 49, 50, 51, 52, 53, 54, 55, 56] (by decide +kernel) (by decide +kernel)
set_option maxRecDepth 20000 in
theorem gX9_tellDay_X9_greatestEver : GoodIn wsX9_tellDay (wsV RX9 199 RX9 yX9_greatestEver wsX9_greatestEver) := goodIn_app (goodIn_of _ (by decide +kernel)) ggX9_tellDay_X9_greatestEver
theorem dX9_tellDay_0 : decode cX9_tellDay 0 = .ok (.iload_n 1, 1) := by decide +kernel
theorem dX9_tellDay_1 : decode cX9_tellDay 1 = .ok (.bipush 10, 2) := by decide +kernel
theorem dX9_tellDay_3 : decode cX9_tellDay 3 = .ok (.if_icmp .lt 30, 3) := by decide +kernel
theorem dX9_tellDay_6 : decode cX9_tellDay 6 = .ok (.aload_n 0, 1) := by decide +kernel
theorem dX9_tellDay_7 : decode cX9_tellDay 7 = .ok (.iload_n 1, 1) := by decide +kernel
theorem dX9_tellDay_8 : decode cX9_tellDay 8 = .ok (.bipush 10, 2) := by decide +kernel
theorem dX9_tellDay_10 : decode cX9_tellDay 10 = .ok (.isub, 1) := by decide +kernel
theorem dX9_tellDay_11 : decode cX9_tellDay 11 = .ok (.invokevirtual 142, 3) := by decide +kernel
theorem dX9_tellDay_14 : decode cX9_tellDay 14 = .ok (.ifCond .eq 15, 3) := by decide +kernel
theorem dX9_tellDay_17 : decode cX9_tellDay 17 = .ok (.aload_n 0, 1) := by decide +kernel
theorem dX9_tellDay_18 : decode cX9_tellDay 18 = .ok (.getfield 19, 3) := by decide +kernel
theorem dX9_tellDay_21 : decode cX9_tellDay 21 = .ok (.iload_n 1, 1) := by decide +kernel
theorem dX9_tellDay_22 : decode cX9_tellDay 22 = .ok (.bipush 10, 2) := by decide +kernel
theorem dX9_tellDay_24 : decode cX9_tellDay 24 = .ok (.isub, 1) := by decide +kernel
theorem dX9_tellDay_25 : decode cX9_tellDay 25 = .ok (.laload, 1) := by decide +kernel
theorem dX9_tellDay_26 : decode cX9_tellDay 26 = .ok (.goto 6, 3) := by decide +kernel
theorem dX9_tellDay_29 : decode cX9_tellDay 29 = .ok (.ldc2_w 75, 3) := by decide +kernel
theorem dX9_tellDay_32 : decode cX9_tellDay 32 = .ok (.lreturn, 1) := by decide +kernel
theorem dX9_tellDay_33 : decode cX9_tellDay 33 = .ok (.aload_n 0, 1) := by decide +kernel
theorem dX9_tellDay_34 : decode cX9_tellDay 34 = .ok (.getfield 81, 3) := by decide +kernel
theorem dX9_tellDay_37 : decode cX9_tellDay 37 = .ok (.iconst 1, 1) := by decide +kernel
theorem dX9_tellDay_38 : decode cX9_tellDay 38 = .ok (.isub, 1) := by decide +kernel
theorem dX9_tellDay_39 : decode cX9_tellDay 39 = .ok (.istore_n 2, 1) := by decide +kernel
theorem dX9_tellDay_40 : decode cX9_tellDay 40 = .ok (.iload_n 1, 1) := by decide +kernel
theorem dX9_tellDay_41 : decode cX9_tellDay 41 = .ok (.ifCond .ne 12, 3) := by decide +kernel
theorem dX9_tellDay_44 : decode cX9_tellDay 44 = .ok (.aload_n 0, 1) := by decide +kernel
theorem dX9_tellDay_45 : decode cX9_tellDay 45 = .ok (.iconst 0, 1) := by decide +kernel
theorem dX9_tellDay_46 : decode cX9_tellDay 46 = .ok (.iload_n 2, 1) := by decide +kernel
theorem dX9_tellDay_47 : decode cX9_tellDay 47 = .ok (.invokevirtual 189, 3) := by decide +kernel
theorem dX9_tellDay_50 : decode cX9_tellDay 50 = .ok (.goto 37, 3) := by decide +kernel
theorem dX9_tellDay_53 : decode cX9_tellDay 53 = .ok (.iload_n 1, 1) := by decide +kernel
theorem dX9_tellDay_54 : decode cX9_tellDay 54 = .ok (.iconst 2, 1) := by decide +kernel
theorem dX9_tellDay_55 : decode cX9_tellDay 55 = .ok (.if_icmp .ne 12, 3) := by decide +kernel
theorem dX9_tellDay_58 : decode cX9_tellDay 58 = .ok (.aload_n 0, 1) := by decide +kernel
theorem dX9_tellDay_59 : decode cX9_tellDay 59 = .ok (.iconst 0, 1) := by decide +kernel
theorem dX9_tellDay_60 : decode cX9_tellDay 60 = .ok (.iload_n 2, 1) := by decide +kernel
theorem dX9_tellDay_61 : decode cX9_tellDay 61 = .ok (.invokevirtual 193, 3) := by decide +kernel
theorem dX9_tellDay_64 : decode cX9_tellDay 64 = .ok (.goto 23, 3) := by decide +kernel
theorem dX9_tellDay_67 : decode cX9_tellDay 67 = .ok (.iload_n 1, 1) := by decide +kernel
theorem dX9_tellDay_68 : decode cX9_tellDay 68 = .ok (.iconst 3, 1) := by decide +kernel
theorem dX9_tellDay_69 : decode cX9_tellDay 69 = .ok (.if_icmp .ne 12, 3) := by decide +kernel
theorem dX9_tellDay_72 : decode cX9_tellDay 72 = .ok (.aload_n 0, 1) := by decide +kernel
theorem dX9_tellDay_73 : decode cX9_tellDay 73 = .ok (.iconst 0, 1) := by decide +kernel
theorem dX9_tellDay_74 : decode cX9_tellDay 74 = .ok (.iload_n 2, 1) := by decide +kernel
theorem dX9_tellDay_75 : decode cX9_tellDay 75 = .ok (.invokevirtual 196, 3) := by decide +kernel
theorem dX9_tellDay_78 : decode cX9_tellDay 78 = .ok (.goto 9, 3) := by decide +kernel
theorem dX9_tellDay_81 : decode cX9_tellDay 81 = .ok (.aload_n 0, 1) := by decide +kernel
theorem dX9_tellDay_82 : decode cX9_tellDay 82 = .ok (.iconst 0, 1) := by decide +kernel
theorem dX9_tellDay_83 : decode cX9_tellDay 83 = .ok (.iload_n 2, 1) := by decide +kernel
theorem dX9_tellDay_84 : decode cX9_tellDay 84 = .ok (.invokevirtual 199, 3) := by decide +kernel
theorem dX9_tellDay_87 : decode cX9_tellDay 87 = .ok (.lreturn, 1) := by decide +kernel
theorem dX9_sumOf_0 : decode cX9_sumOf 0 = .ok (.lconst 0, 1) := by decide +kernel
theorem dX9_sumOf_1 : decode cX9_sumOf 1 = .ok (.lstore_n 3, 1) := by decide +kernel
theorem dX9_sumOf_2 : decode cX9_sumOf 2 = .ok (.iload_n 1, 1) := by decide +kernel
theorem dX9_sumOf_3 : decode cX9_sumOf 3 = .ok (.istore 5, 2) := by decide +kernel
theorem dX9_sumOf_5 : decode cX9_sumOf 5 = .ok (.iload 5, 2) := by decide +kernel
theorem dX9_sumOf_7 : decode cX9_sumOf 7 = .ok (.iload_n 2, 1) := by decide +kernel
theorem dX9_sumOf_8 : decode cX9_sumOf 8 = .ok (.if_icmp .gt 19, 3) := by decide +kernel
theorem dX9_sumOf_11 : decode cX9_sumOf 11 = .ok (.lload_n 3, 1) := by decide +kernel
theorem dX9_sumOf_12 : decode cX9_sumOf 12 = .ok (.aload_n 0, 1) := by decide +kernel
theorem dX9_sumOf_13 : decode cX9_sumOf 13 = .ok (.getfield 19, 3) := by decide +kernel
theorem dX9_sumOf_16 : decode cX9_sumOf 16 = .ok (.iload 5, 2) := by decide +kernel
theorem dX9_sumOf_18 : decode cX9_sumOf 18 = .ok (.laload, 1) := by decide +kernel
theorem dX9_sumOf_19 : decode cX9_sumOf 19 = .ok (.ladd, 1) := by decide +kernel
theorem dX9_sumOf_20 : decode cX9_sumOf 20 = .ok (.lstore_n 3, 1) := by decide +kernel
theorem dX9_sumOf_21 : decode cX9_sumOf 21 = .ok (.iinc 5 1, 3) := by decide +kernel
theorem dX9_sumOf_24 : decode cX9_sumOf 24 = .ok (.goto (-19), 3) := by decide +kernel
theorem dX9_sumOf_27 : decode cX9_sumOf 27 = .ok (.lload_n 3, 1) := by decide +kernel
theorem dX9_sumOf_28 : decode cX9_sumOf 28 = .ok (.lreturn, 1) := by decide +kernel
theorem dX9_greatestOf_0 : decode cX9_greatestOf 0 = .ok (.aload_n 0, 1) := by decide +kernel
theorem dX9_greatestOf_1 : decode cX9_greatestOf 1 = .ok (.getfield 19, 3) := by decide +kernel
theorem dX9_greatestOf_4 : decode cX9_greatestOf 4 = .ok (.iload_n 1, 1) := by decide +kernel
theorem dX9_greatestOf_5 : decode cX9_greatestOf 5 = .ok (.laload, 1) := by decide +kernel
theorem dX9_greatestOf_6 : decode cX9_greatestOf 6 = .ok (.lstore_n 3, 1) := by decide +kernel
theorem dX9_greatestOf_7 : decode cX9_greatestOf 7 = .ok (.iload_n 1, 1) := by decide +kernel
theorem dX9_greatestOf_8 : decode cX9_greatestOf 8 = .ok (.istore 5, 2) := by decide +kernel
theorem dX9_greatestOf_10 : decode cX9_greatestOf 10 = .ok (.iload 5, 2) := by decide +kernel
theorem dX9_greatestOf_12 : decode cX9_greatestOf 12 = .ok (.iload_n 2, 1) := by decide +kernel
theorem dX9_greatestOf_13 : decode cX9_greatestOf 13 = .ok (.if_icmp .gt 33, 3) := by decide +kernel
theorem dX9_greatestOf_16 : decode cX9_greatestOf 16 = .ok (.aload_n 0, 1) := by decide +kernel
theorem dX9_greatestOf_17 : decode cX9_greatestOf 17 = .ok (.getfield 19, 3) := by decide +kernel
theorem dX9_greatestOf_20 : decode cX9_greatestOf 20 = .ok (.iload 5, 2) := by decide +kernel
theorem dX9_greatestOf_22 : decode cX9_greatestOf 22 = .ok (.laload, 1) := by decide +kernel
theorem dX9_greatestOf_23 : decode cX9_greatestOf 23 = .ok (.lload_n 3, 1) := by decide +kernel
theorem dX9_greatestOf_24 : decode cX9_greatestOf 24 = .ok (.lcmp, 1) := by decide +kernel
theorem dX9_greatestOf_25 : decode cX9_greatestOf 25 = .ok (.ifCond .le 13, 3) := by decide +kernel
theorem dX9_greatestOf_28 : decode cX9_greatestOf 28 = .ok (.aload_n 0, 1) := by decide +kernel
theorem dX9_greatestOf_29 : decode cX9_greatestOf 29 = .ok (.getfield 19, 3) := by decide +kernel
theorem dX9_greatestOf_32 : decode cX9_greatestOf 32 = .ok (.iload 5, 2) := by decide +kernel
theorem dX9_greatestOf_34 : decode cX9_greatestOf 34 = .ok (.laload, 1) := by decide +kernel
theorem dX9_greatestOf_35 : decode cX9_greatestOf 35 = .ok (.goto 4, 3) := by decide +kernel
theorem dX9_greatestOf_38 : decode cX9_greatestOf 38 = .ok (.lload_n 3, 1) := by decide +kernel
theorem dX9_greatestOf_39 : decode cX9_greatestOf 39 = .ok (.lstore_n 3, 1) := by decide +kernel
theorem dX9_greatestOf_40 : decode cX9_greatestOf 40 = .ok (.iinc 5 1, 3) := by decide +kernel
theorem dX9_greatestOf_43 : decode cX9_greatestOf 43 = .ok (.goto (-33), 3) := by decide +kernel
theorem dX9_greatestOf_46 : decode cX9_greatestOf 46 = .ok (.lload_n 3, 1) := by decide +kernel
theorem dX9_greatestOf_47 : decode cX9_greatestOf 47 = .ok (.lreturn, 1) := by decide +kernel
theorem dX9_leastOf_0 : decode cX9_leastOf 0 = .ok (.aload_n 0, 1) := by decide +kernel
theorem dX9_leastOf_1 : decode cX9_leastOf 1 = .ok (.getfield 19, 3) := by decide +kernel
theorem dX9_leastOf_4 : decode cX9_leastOf 4 = .ok (.iload_n 1, 1) := by decide +kernel
theorem dX9_leastOf_5 : decode cX9_leastOf 5 = .ok (.laload, 1) := by decide +kernel
theorem dX9_leastOf_6 : decode cX9_leastOf 6 = .ok (.lstore_n 3, 1) := by decide +kernel
theorem dX9_leastOf_7 : decode cX9_leastOf 7 = .ok (.iload_n 1, 1) := by decide +kernel
theorem dX9_leastOf_8 : decode cX9_leastOf 8 = .ok (.istore 5, 2) := by decide +kernel
theorem dX9_leastOf_10 : decode cX9_leastOf 10 = .ok (.iload 5, 2) := by decide +kernel
theorem dX9_leastOf_12 : decode cX9_leastOf 12 = .ok (.iload_n 2, 1) := by decide +kernel
theorem dX9_leastOf_13 : decode cX9_leastOf 13 = .ok (.if_icmp .gt 33, 3) := by decide +kernel
theorem dX9_leastOf_16 : decode cX9_leastOf 16 = .ok (.aload_n 0, 1) := by decide +kernel
theorem dX9_leastOf_17 : decode cX9_leastOf 17 = .ok (.getfield 19, 3) := by decide +kernel
theorem dX9_leastOf_20 : decode cX9_leastOf 20 = .ok (.iload 5, 2) := by decide +kernel
theorem dX9_leastOf_22 : decode cX9_leastOf 22 = .ok (.laload, 1) := by decide +kernel
theorem dX9_leastOf_23 : decode cX9_leastOf 23 = .ok (.lload_n 3, 1) := by decide +kernel
theorem dX9_leastOf_24 : decode cX9_leastOf 24 = .ok (.lcmp, 1) := by decide +kernel
theorem dX9_leastOf_25 : decode cX9_leastOf 25 = .ok (.ifCond .ge 13, 3) := by decide +kernel
theorem dX9_leastOf_28 : decode cX9_leastOf 28 = .ok (.aload_n 0, 1) := by decide +kernel
theorem dX9_leastOf_29 : decode cX9_leastOf 29 = .ok (.getfield 19, 3) := by decide +kernel
theorem dX9_leastOf_32 : decode cX9_leastOf 32 = .ok (.iload 5, 2) := by decide +kernel
theorem dX9_leastOf_34 : decode cX9_leastOf 34 = .ok (.laload, 1) := by decide +kernel
theorem dX9_leastOf_35 : decode cX9_leastOf 35 = .ok (.goto 4, 3) := by decide +kernel
theorem dX9_leastOf_38 : decode cX9_leastOf 38 = .ok (.lload_n 3, 1) := by decide +kernel
theorem dX9_leastOf_39 : decode cX9_leastOf 39 = .ok (.lstore_n 3, 1) := by decide +kernel
theorem dX9_leastOf_40 : decode cX9_leastOf 40 = .ok (.iinc 5 1, 3) := by decide +kernel
theorem dX9_leastOf_43 : decode cX9_leastOf 43 = .ok (.goto (-33), 3) := by decide +kernel
theorem dX9_leastOf_46 : decode cX9_leastOf 46 = .ok (.lload_n 3, 1) := by decide +kernel
theorem dX9_leastOf_47 : decode cX9_leastOf 47 = .ok (.lreturn, 1) := by decide +kernel
set_option maxRecDepth 20000 in
theorem ggX9_manyGreatest_X9_greatestOf : GoodIn wsX9_manyGreatest wsX9_greatestOf := goodIn_r _ [6, 1, 7, 8, 9, 10, 11, 12, 13, 14, 15, 16, 17, 18, 19, 20, 21, 22, 23, 24, 25, 26, 27, 28, 29, 30, 31, 32, 33, 34, 35, 36, 37] (by decide +kernel) (by decide +kernel)
set_option maxRecDepth 20000 in
theorem gX9_manyGreatest_X9_greatestOf : GoodIn wsX9_manyGreatest (wsV RX9 193 RX9 yX9_greatestOf wsX9_greatestOf) := goodIn_app (goodIn_of _ (by decide +kernel)) ggX9_manyGreatest_X9_greatestOf
theorem dX9_manyGreatest_0 : decode cX9_manyGreatest 0 = .ok (.aload_n 0, 1) := by decide +kernel
theorem dX9_manyGreatest_1 : decode cX9_manyGreatest 1 = .ok (.iload_n 1, 1) := by decide +kernel
theorem dX9_manyGreatest_2 : decode cX9_manyGreatest 2 = .ok (.iload_n 2, 1) := by decide +kernel
theorem dX9_manyGreatest_3 : decode cX9_manyGreatest 3 = .ok (.invokevirtual 193, 3) := by decide +kernel
theorem dX9_manyGreatest_6 : decode cX9_manyGreatest 6 = .ok (.lstore_n 3, 1) := by decide +kernel
theorem dX9_manyGreatest_7 : decode cX9_manyGreatest 7 = .ok (.iconst 0, 1) := by decide +kernel
theorem dX9_manyGreatest_8 : decode cX9_manyGreatest 8 = .ok (.istore 5, 2) := by decide +kernel
theorem dX9_manyGreatest_10 : decode cX9_manyGreatest 10 = .ok (.iload_n 1, 1) := by decide +kernel
theorem dX9_manyGreatest_11 : decode cX9_manyGreatest 11 = .ok (.istore 6, 2) := by decide +kernel
theorem dX9_manyGreatest_13 : decode cX9_manyGreatest 13 = .ok (.iload 6, 2) := by decide +kernel
theorem dX9_manyGreatest_15 : decode cX9_manyGreatest 15 = .ok (.iload_n 2, 1) := by decide +kernel
theorem dX9_manyGreatest_16 : decode cX9_manyGreatest 16 = .ok (.if_icmp .gt 31, 3) := by decide +kernel
theorem dX9_manyGreatest_19 : decode cX9_manyGreatest 19 = .ok (.iload 5, 2) := by decide +kernel
theorem dX9_manyGreatest_21 : decode cX9_manyGreatest 21 = .ok (.aload_n 0, 1) := by decide +kernel
theorem dX9_manyGreatest_22 : decode cX9_manyGreatest 22 = .ok (.getfield 19, 3) := by decide +kernel
theorem dX9_manyGreatest_25 : decode cX9_manyGreatest 25 = .ok (.iload 6, 2) := by decide +kernel
theorem dX9_manyGreatest_27 : decode cX9_manyGreatest 27 = .ok (.laload, 1) := by decide +kernel
theorem dX9_manyGreatest_28 : decode cX9_manyGreatest 28 = .ok (.lload_n 3, 1) := by decide +kernel
theorem dX9_manyGreatest_29 : decode cX9_manyGreatest 29 = .ok (.lcmp, 1) := by decide +kernel
theorem dX9_manyGreatest_30 : decode cX9_manyGreatest 30 = .ok (.ifCond .ne 7, 3) := by decide +kernel
theorem dX9_manyGreatest_33 : decode cX9_manyGreatest 33 = .ok (.iconst 1, 1) := by decide +kernel
theorem dX9_manyGreatest_34 : decode cX9_manyGreatest 34 = .ok (.goto 4, 3) := by decide +kernel
theorem dX9_manyGreatest_37 : decode cX9_manyGreatest 37 = .ok (.iconst 0, 1) := by decide +kernel
theorem dX9_manyGreatest_38 : decode cX9_manyGreatest 38 = .ok (.iadd, 1) := by decide +kernel
theorem dX9_manyGreatest_39 : decode cX9_manyGreatest 39 = .ok (.istore 5, 2) := by decide +kernel
theorem dX9_manyGreatest_41 : decode cX9_manyGreatest 41 = .ok (.iinc 6 1, 3) := by decide +kernel
theorem dX9_manyGreatest_44 : decode cX9_manyGreatest 44 = .ok (.goto (-31), 3) := by decide +kernel
theorem dX9_manyGreatest_47 : decode cX9_manyGreatest 47 = .ok (.iload 5, 2) := by decide +kernel
theorem dX9_manyGreatest_49 : decode cX9_manyGreatest 49 = .ok (.ireturn, 1) := by decide +kernel
set_option maxRecDepth 20000 in
theorem ggX9_secondOf_X9_greatestOf : GoodIn wsX9_secondOf wsX9_greatestOf := goodIn_r _ [7, 2, 8, 9, 10, 11, 12, 13, 14, 15, 16, 17, 18, 19, 20, 21, 22, 23, 24, 25, 26, 27, 28, 29, 30, 31, 32, 33, 34, 35, 36, 37, 38] (by decide +kernel) (by decide +kernel)
set_option maxRecDepth 20000 in
theorem gX9_secondOf_X9_greatestOf : GoodIn wsX9_secondOf (wsV RX9 193 RX9 yX9_greatestOf wsX9_greatestOf) := goodIn_app (goodIn_of _ (by decide +kernel)) ggX9_secondOf_X9_greatestOf
theorem dX9_secondOf_0 : decode cX9_secondOf 0 = .ok (.aload_n 0, 1) := by decide +kernel
theorem dX9_secondOf_1 : decode cX9_secondOf 1 = .ok (.iload_n 1, 1) := by decide +kernel
theorem dX9_secondOf_2 : decode cX9_secondOf 2 = .ok (.iload_n 2, 1) := by decide +kernel
theorem dX9_secondOf_3 : decode cX9_secondOf 3 = .ok (.invokevirtual 193, 3) := by decide +kernel
theorem dX9_secondOf_6 : decode cX9_secondOf 6 = .ok (.lstore_n 3, 1) := by decide +kernel
theorem dX9_secondOf_7 : decode cX9_secondOf 7 = .ok (.ldc2_w 75, 3) := by decide +kernel
theorem dX9_secondOf_10 : decode cX9_secondOf 10 = .ok (.lstore 5, 2) := by decide +kernel
theorem dX9_secondOf_12 : decode cX9_secondOf 12 = .ok (.iload_n 1, 1) := by decide +kernel
theorem dX9_secondOf_13 : decode cX9_secondOf 13 = .ok (.istore 7, 2) := by decide +kernel
theorem dX9_secondOf_15 : decode cX9_secondOf 15 = .ok (.iload 7, 2) := by decide +kernel
theorem dX9_secondOf_17 : decode cX9_secondOf 17 = .ok (.iload_n 2, 1) := by decide +kernel
theorem dX9_secondOf_18 : decode cX9_secondOf 18 = .ok (.if_icmp .gt 48, 3) := by decide +kernel
theorem dX9_secondOf_21 : decode cX9_secondOf 21 = .ok (.aload_n 0, 1) := by decide +kernel
theorem dX9_secondOf_22 : decode cX9_secondOf 22 = .ok (.getfield 19, 3) := by decide +kernel
theorem dX9_secondOf_25 : decode cX9_secondOf 25 = .ok (.iload 7, 2) := by decide +kernel
theorem dX9_secondOf_27 : decode cX9_secondOf 27 = .ok (.laload, 1) := by decide +kernel
theorem dX9_secondOf_28 : decode cX9_secondOf 28 = .ok (.lload_n 3, 1) := by decide +kernel
theorem dX9_secondOf_29 : decode cX9_secondOf 29 = .ok (.lcmp, 1) := by decide +kernel
theorem dX9_secondOf_30 : decode cX9_secondOf 30 = .ok (.ifCond .ge 26, 3) := by decide +kernel
theorem dX9_secondOf_33 : decode cX9_secondOf 33 = .ok (.aload_n 0, 1) := by decide +kernel
theorem dX9_secondOf_34 : decode cX9_secondOf 34 = .ok (.getfield 19, 3) := by decide +kernel
theorem dX9_secondOf_37 : decode cX9_secondOf 37 = .ok (.iload 7, 2) := by decide +kernel
theorem dX9_secondOf_39 : decode cX9_secondOf 39 = .ok (.laload, 1) := by decide +kernel
theorem dX9_secondOf_40 : decode cX9_secondOf 40 = .ok (.lload 5, 2) := by decide +kernel
theorem dX9_secondOf_42 : decode cX9_secondOf 42 = .ok (.lcmp, 1) := by decide +kernel
theorem dX9_secondOf_43 : decode cX9_secondOf 43 = .ok (.ifCond .le 13, 3) := by decide +kernel
theorem dX9_secondOf_46 : decode cX9_secondOf 46 = .ok (.aload_n 0, 1) := by decide +kernel
theorem dX9_secondOf_47 : decode cX9_secondOf 47 = .ok (.getfield 19, 3) := by decide +kernel
theorem dX9_secondOf_50 : decode cX9_secondOf 50 = .ok (.iload 7, 2) := by decide +kernel
theorem dX9_secondOf_52 : decode cX9_secondOf 52 = .ok (.laload, 1) := by decide +kernel
theorem dX9_secondOf_53 : decode cX9_secondOf 53 = .ok (.goto 5, 3) := by decide +kernel
theorem dX9_secondOf_56 : decode cX9_secondOf 56 = .ok (.lload 5, 2) := by decide +kernel
theorem dX9_secondOf_58 : decode cX9_secondOf 58 = .ok (.lstore 5, 2) := by decide +kernel
theorem dX9_secondOf_60 : decode cX9_secondOf 60 = .ok (.iinc 7 1, 3) := by decide +kernel
theorem dX9_secondOf_63 : decode cX9_secondOf 63 = .ok (.goto (-48), 3) := by decide +kernel
theorem dX9_secondOf_66 : decode cX9_secondOf 66 = .ok (.lload 5, 2) := by decide +kernel
theorem dX9_secondOf_68 : decode cX9_secondOf 68 = .ok (.lreturn, 1) := by decide +kernel
theorem dX9_unlikeIn_0 : decode cX9_unlikeIn 0 = .ok (.iconst 0, 1) := by decide +kernel
theorem dX9_unlikeIn_1 : decode cX9_unlikeIn 1 = .ok (.istore_n 3, 1) := by decide +kernel
theorem dX9_unlikeIn_2 : decode cX9_unlikeIn 2 = .ok (.iload_n 1, 1) := by decide +kernel
theorem dX9_unlikeIn_3 : decode cX9_unlikeIn 3 = .ok (.istore 4, 2) := by decide +kernel
theorem dX9_unlikeIn_5 : decode cX9_unlikeIn 5 = .ok (.iload 4, 2) := by decide +kernel
theorem dX9_unlikeIn_7 : decode cX9_unlikeIn 7 = .ok (.iload_n 2, 1) := by decide +kernel
theorem dX9_unlikeIn_8 : decode cX9_unlikeIn 8 = .ok (.if_icmp .gt 71, 3) := by decide +kernel
theorem dX9_unlikeIn_11 : decode cX9_unlikeIn 11 = .ok (.iconst 1, 1) := by decide +kernel
theorem dX9_unlikeIn_12 : decode cX9_unlikeIn 12 = .ok (.istore 5, 2) := by decide +kernel
theorem dX9_unlikeIn_14 : decode cX9_unlikeIn 14 = .ok (.iload_n 1, 1) := by decide +kernel
theorem dX9_unlikeIn_15 : decode cX9_unlikeIn 15 = .ok (.istore 6, 2) := by decide +kernel
theorem dX9_unlikeIn_17 : decode cX9_unlikeIn 17 = .ok (.iload 6, 2) := by decide +kernel
theorem dX9_unlikeIn_19 : decode cX9_unlikeIn 19 = .ok (.iload 4, 2) := by decide +kernel
theorem dX9_unlikeIn_21 : decode cX9_unlikeIn 21 = .ok (.if_icmp .ge 39, 3) := by decide +kernel
theorem dX9_unlikeIn_24 : decode cX9_unlikeIn 24 = .ok (.iload 5, 2) := by decide +kernel
theorem dX9_unlikeIn_26 : decode cX9_unlikeIn 26 = .ok (.ifCond .eq 34, 3) := by decide +kernel
theorem dX9_unlikeIn_29 : decode cX9_unlikeIn 29 = .ok (.aload_n 0, 1) := by decide +kernel
theorem dX9_unlikeIn_30 : decode cX9_unlikeIn 30 = .ok (.getfield 19, 3) := by decide +kernel
theorem dX9_unlikeIn_33 : decode cX9_unlikeIn 33 = .ok (.iload 6, 2) := by decide +kernel
theorem dX9_unlikeIn_35 : decode cX9_unlikeIn 35 = .ok (.laload, 1) := by decide +kernel
theorem dX9_unlikeIn_36 : decode cX9_unlikeIn 36 = .ok (.aload_n 0, 1) := by decide +kernel
theorem dX9_unlikeIn_37 : decode cX9_unlikeIn 37 = .ok (.getfield 19, 3) := by decide +kernel
theorem dX9_unlikeIn_40 : decode cX9_unlikeIn 40 = .ok (.iload 4, 2) := by decide +kernel
theorem dX9_unlikeIn_42 : decode cX9_unlikeIn 42 = .ok (.laload, 1) := by decide +kernel
theorem dX9_unlikeIn_43 : decode cX9_unlikeIn 43 = .ok (.lcmp, 1) := by decide +kernel
theorem dX9_unlikeIn_44 : decode cX9_unlikeIn 44 = .ok (.ifCond .eq 7, 3) := by decide +kernel
theorem dX9_unlikeIn_47 : decode cX9_unlikeIn 47 = .ok (.iconst 1, 1) := by decide +kernel
theorem dX9_unlikeIn_48 : decode cX9_unlikeIn 48 = .ok (.goto 4, 3) := by decide +kernel
theorem dX9_unlikeIn_51 : decode cX9_unlikeIn 51 = .ok (.iconst 0, 1) := by decide +kernel
theorem dX9_unlikeIn_52 : decode cX9_unlikeIn 52 = .ok (.istore 5, 2) := by decide +kernel
theorem dX9_unlikeIn_54 : decode cX9_unlikeIn 54 = .ok (.iinc 6 1, 3) := by decide +kernel
theorem dX9_unlikeIn_57 : decode cX9_unlikeIn 57 = .ok (.goto (-40), 3) := by decide +kernel
theorem dX9_unlikeIn_60 : decode cX9_unlikeIn 60 = .ok (.iload_n 3, 1) := by decide +kernel
theorem dX9_unlikeIn_61 : decode cX9_unlikeIn 61 = .ok (.iload 5, 2) := by decide +kernel
theorem dX9_unlikeIn_63 : decode cX9_unlikeIn 63 = .ok (.ifCond .eq 7, 3) := by decide +kernel
theorem dX9_unlikeIn_66 : decode cX9_unlikeIn 66 = .ok (.iconst 1, 1) := by decide +kernel
theorem dX9_unlikeIn_67 : decode cX9_unlikeIn 67 = .ok (.goto 4, 3) := by decide +kernel
theorem dX9_unlikeIn_70 : decode cX9_unlikeIn 70 = .ok (.iconst 0, 1) := by decide +kernel
theorem dX9_unlikeIn_71 : decode cX9_unlikeIn 71 = .ok (.iadd, 1) := by decide +kernel
theorem dX9_unlikeIn_72 : decode cX9_unlikeIn 72 = .ok (.istore_n 3, 1) := by decide +kernel
theorem dX9_unlikeIn_73 : decode cX9_unlikeIn 73 = .ok (.iinc 4 1, 3) := by decide +kernel
theorem dX9_unlikeIn_76 : decode cX9_unlikeIn 76 = .ok (.goto (-71), 3) := by decide +kernel
theorem dX9_unlikeIn_79 : decode cX9_unlikeIn 79 = .ok (.iload_n 3, 1) := by decide +kernel
theorem dX9_unlikeIn_80 : decode cX9_unlikeIn 80 = .ok (.ireturn, 1) := by decide +kernel
theorem dX9_greatestEver_0 : decode cX9_greatestEver 0 = .ok (.aload_n 0, 1) := by decide +kernel
theorem dX9_greatestEver_1 : decode cX9_greatestEver 1 = .ok (.getfield 23, 3) := by decide +kernel
theorem dX9_greatestEver_4 : decode cX9_greatestEver 4 = .ok (.iload_n 1, 1) := by decide +kernel
theorem dX9_greatestEver_5 : decode cX9_greatestEver 5 = .ok (.laload, 1) := by decide +kernel
theorem dX9_greatestEver_6 : decode cX9_greatestEver 6 = .ok (.lstore_n 3, 1) := by decide +kernel
theorem dX9_greatestEver_7 : decode cX9_greatestEver 7 = .ok (.iload_n 1, 1) := by decide +kernel
theorem dX9_greatestEver_8 : decode cX9_greatestEver 8 = .ok (.istore 5, 2) := by decide +kernel
theorem dX9_greatestEver_10 : decode cX9_greatestEver 10 = .ok (.iload 5, 2) := by decide +kernel
theorem dX9_greatestEver_12 : decode cX9_greatestEver 12 = .ok (.iload_n 2, 1) := by decide +kernel
theorem dX9_greatestEver_13 : decode cX9_greatestEver 13 = .ok (.if_icmp .gt 33, 3) := by decide +kernel
theorem dX9_greatestEver_16 : decode cX9_greatestEver 16 = .ok (.aload_n 0, 1) := by decide +kernel
theorem dX9_greatestEver_17 : decode cX9_greatestEver 17 = .ok (.getfield 23, 3) := by decide +kernel
theorem dX9_greatestEver_20 : decode cX9_greatestEver 20 = .ok (.iload 5, 2) := by decide +kernel
theorem dX9_greatestEver_22 : decode cX9_greatestEver 22 = .ok (.laload, 1) := by decide +kernel
theorem dX9_greatestEver_23 : decode cX9_greatestEver 23 = .ok (.lload_n 3, 1) := by decide +kernel
theorem dX9_greatestEver_24 : decode cX9_greatestEver 24 = .ok (.lcmp, 1) := by decide +kernel
theorem dX9_greatestEver_25 : decode cX9_greatestEver 25 = .ok (.ifCond .le 13, 3) := by decide +kernel
theorem dX9_greatestEver_28 : decode cX9_greatestEver 28 = .ok (.aload_n 0, 1) := by decide +kernel
theorem dX9_greatestEver_29 : decode cX9_greatestEver 29 = .ok (.getfield 23, 3) := by decide +kernel
theorem dX9_greatestEver_32 : decode cX9_greatestEver 32 = .ok (.iload 5, 2) := by decide +kernel
theorem dX9_greatestEver_34 : decode cX9_greatestEver 34 = .ok (.laload, 1) := by decide +kernel
theorem dX9_greatestEver_35 : decode cX9_greatestEver 35 = .ok (.goto 4, 3) := by decide +kernel
theorem dX9_greatestEver_38 : decode cX9_greatestEver 38 = .ok (.lload_n 3, 1) := by decide +kernel
theorem dX9_greatestEver_39 : decode cX9_greatestEver 39 = .ok (.lstore_n 3, 1) := by decide +kernel
theorem dX9_greatestEver_40 : decode cX9_greatestEver 40 = .ok (.iinc 5 1, 3) := by decide +kernel
theorem dX9_greatestEver_43 : decode cX9_greatestEver 43 = .ok (.goto (-33), 3) := by decide +kernel
theorem dX9_greatestEver_46 : decode cX9_greatestEver 46 = .ok (.lload_n 3, 1) := by decide +kernel
theorem dX9_greatestEver_47 : decode cX9_greatestEver 47 = .ok (.lreturn, 1) := by decide +kernel
set_option maxRecDepth 20000 in
theorem ggX9_ask_X9_isCell : GoodIn wsX9_ask wsX9_isCell := goodIn_r _ [7, 8, 38, 39, 40, 41, 42, 43, 44, 45, 46, 47, 48, 49, 50, 51, 52, 53, 54, 55, 56, 57, 58, 59, 60, 61, 62, 63, 64, 65, 66, 67, 68] (by decide +kernel) (by decide +kernel)
set_option maxRecDepth 20000 in
theorem gX9_ask_X9_isCell : GoodIn wsX9_ask (wsV RX9 142 RX9 yX9_isCell wsX9_isCell) := goodIn_app (goodIn_of _ (by decide +kernel)) ggX9_ask_X9_isCell
set_option maxRecDepth 20000 in
theorem ggX9_ask_X9_sumOf : GoodIn wsX9_ask wsX9_sumOf := goodIn_r _ [12, 13, 38, 39, 40, 41, 42, 43, 44, 45, 46, 47, 48, 49, 50, 51, 52, 53, 54, 55, 56, 57, 58, 59, 60, 61, 62, 63, 64, 65, 66, 67, 68] (by decide +kernel) (by decide +kernel)
set_option maxRecDepth 20000 in
theorem gX9_ask_X9_sumOf : GoodIn wsX9_ask (wsV RX9 189 RX9 yX9_sumOf wsX9_sumOf) := goodIn_app (goodIn_of _ (by decide +kernel)) ggX9_ask_X9_sumOf
set_option maxRecDepth 20000 in
theorem ggX9_ask_X9_greatestOf : GoodIn wsX9_ask wsX9_greatestOf := goodIn_r _ [17, 13, 38, 39, 40, 41, 42, 43, 44, 45, 46, 47, 48, 49, 50, 51, 52, 53, 54, 55, 56, 57, 58, 59, 60, 61, 62, 63, 64, 65, 66, 67, 68] (by decide +kernel) (by decide +kernel)
set_option maxRecDepth 20000 in
theorem gX9_ask_X9_greatestOf : GoodIn wsX9_ask (wsV RX9 193 RX9 yX9_greatestOf wsX9_greatestOf) := goodIn_app (goodIn_of _ (by decide +kernel)) ggX9_ask_X9_greatestOf
set_option maxRecDepth 20000 in
theorem ggX9_ask_X9_leastOf : GoodIn wsX9_ask wsX9_leastOf := goodIn_r _ [21, 13, 38, 39, 40, 41, 42, 43, 44, 45, 46, 47, 48, 49, 50, 51, 52, 53, 54, 55, 56, 57, 58, 59, 60, 61, 62, 63, 64, 65, 66, 67, 68] (by decide +kernel) (by decide +kernel)
set_option maxRecDepth 20000 in
theorem gX9_ask_X9_leastOf : GoodIn wsX9_ask (wsV RX9 196 RX9 yX9_leastOf wsX9_leastOf) := goodIn_app (goodIn_of _ (by decide +kernel)) ggX9_ask_X9_leastOf
set_option maxRecDepth 20000 in
theorem ggX9_ask_X9_manyGreatest : GoodIn wsX9_ask wsX9_manyGreatest := goodIn_r _ [25, 13, 14, 15, 16, 6, 17, 38, 39, 40, 41, 42, 43, 44, 45, 46, 47, 48, 49, 50, 51, 52, 53, 54, 55, 56, 57, 58, 59, 60, 61, 62, 63, 64, 65, 66, 67, 68] (by decide +kernel) (by decide +kernel)
set_option maxRecDepth 20000 in
theorem gX9_ask_X9_manyGreatest : GoodIn wsX9_ask (wsV RX9 202 RX9 yX9_manyGreatest wsX9_manyGreatest) := goodIn_app (goodIn_of _ (by decide +kernel)) ggX9_ask_X9_manyGreatest
set_option maxRecDepth 20000 in
theorem ggX9_ask_X9_secondOf : GoodIn wsX9_ask wsX9_secondOf := goodIn_r _ [29, 1, 13, 14, 15, 16, 6, 17, 38, 39, 40, 41, 42, 43, 44, 45, 46, 47, 48, 49, 50, 51, 52, 53, 54, 55, 56, 57, 58, 59, 60, 61, 62, 63, 64, 65, 66, 67, 68] (by decide +kernel) (by decide +kernel)
set_option maxRecDepth 20000 in
theorem gX9_ask_X9_secondOf : GoodIn wsX9_ask (wsV RX9 205 RX9 yX9_secondOf wsX9_secondOf) := goodIn_app (goodIn_of _ (by decide +kernel)) ggX9_ask_X9_secondOf
set_option maxRecDepth 20000 in
theorem ggX9_ask_X9_unlikeIn : GoodIn wsX9_ask wsX9_unlikeIn := goodIn_r _ [33, 13, 38, 39, 40, 41, 42, 43, 44, 45, 46, 47, 48, 49, 50, 51, 52, 53, 54, 55, 56, 57, 58, 59, 60, 61, 62, 63, 64, 65, 66, 67, 68] (by decide +kernel) (by decide +kernel)
set_option maxRecDepth 20000 in
theorem gX9_ask_X9_unlikeIn : GoodIn wsX9_ask (wsV RX9 208 RX9 yX9_unlikeIn wsX9_unlikeIn) := goodIn_app (goodIn_of _ (by decide +kernel)) ggX9_ask_X9_unlikeIn
set_option maxRecDepth 20000 in
theorem ggX9_ask_X9_greatestEver : GoodIn wsX9_ask wsX9_greatestEver := goodIn_r _ [37, 2, 38, 39, 40, 41, 42, 43, 44, 45, 46, 47, 48, 49, 50, 51, 52, 53, 54, 55, 56, 57, 58, 59, 60, 61, 62, 63, 64, 65, 66, 67, 68] (by decide +kernel) (by decide +kernel)
set_option maxRecDepth 20000 in
theorem gX9_ask_X9_greatestEver : GoodIn wsX9_ask (wsV RX9 199 RX9 yX9_greatestEver wsX9_greatestEver) := goodIn_app (goodIn_of _ (by decide +kernel)) ggX9_ask_X9_greatestEver
theorem dX9_ask_0 : decode cX9_ask 0 = .ok (.aload_n 0, 1) := by decide +kernel
theorem dX9_ask_1 : decode cX9_ask 1 = .ok (.iload_n 1, 1) := by decide +kernel
theorem dX9_ask_2 : decode cX9_ask 2 = .ok (.invokevirtual 142, 3) := by decide +kernel
theorem dX9_ask_5 : decode cX9_ask 5 = .ok (.ifCond .eq 16, 3) := by decide +kernel
theorem dX9_ask_8 : decode cX9_ask 8 = .ok (.aload_n 0, 1) := by decide +kernel
theorem dX9_ask_9 : decode cX9_ask 9 = .ok (.iload_n 2, 1) := by decide +kernel
theorem dX9_ask_10 : decode cX9_ask 10 = .ok (.invokevirtual 142, 3) := by decide +kernel
theorem dX9_ask_13 : decode cX9_ask 13 = .ok (.ifCond .eq 8, 3) := by decide +kernel
theorem dX9_ask_16 : decode cX9_ask 16 = .ok (.iload_n 1, 1) := by decide +kernel
theorem dX9_ask_17 : decode cX9_ask 17 = .ok (.iload_n 2, 1) := by decide +kernel
theorem dX9_ask_18 : decode cX9_ask 18 = .ok (.if_icmp .le 7, 3) := by decide +kernel
theorem dX9_ask_21 : decode cX9_ask 21 = .ok (.ldc2_w 75, 3) := by decide +kernel
theorem dX9_ask_24 : decode cX9_ask 24 = .ok (.lreturn, 1) := by decide +kernel
theorem dX9_ask_25 : decode cX9_ask 25 = .ok (.iload_n 3, 1) := by decide +kernel
theorem dX9_ask_26 : decode cX9_ask 26 = .ok (.tableswitch 130 0 7 #[46, 53, 60, 67, 75, 82, 90, 97], 46) := by decide +kernel
theorem dX9_ask_72 : decode cX9_ask 72 = .ok (.aload_n 0, 1) := by decide +kernel
theorem dX9_ask_73 : decode cX9_ask 73 = .ok (.iload_n 1, 1) := by decide +kernel
theorem dX9_ask_74 : decode cX9_ask 74 = .ok (.iload_n 2, 1) := by decide +kernel
theorem dX9_ask_75 : decode cX9_ask 75 = .ok (.invokevirtual 189, 3) := by decide +kernel
theorem dX9_ask_78 : decode cX9_ask 78 = .ok (.lreturn, 1) := by decide +kernel
theorem dX9_ask_79 : decode cX9_ask 79 = .ok (.aload_n 0, 1) := by decide +kernel
theorem dX9_ask_80 : decode cX9_ask 80 = .ok (.iload_n 1, 1) := by decide +kernel
theorem dX9_ask_81 : decode cX9_ask 81 = .ok (.iload_n 2, 1) := by decide +kernel
theorem dX9_ask_82 : decode cX9_ask 82 = .ok (.invokevirtual 193, 3) := by decide +kernel
theorem dX9_ask_85 : decode cX9_ask 85 = .ok (.lreturn, 1) := by decide +kernel
theorem dX9_ask_86 : decode cX9_ask 86 = .ok (.aload_n 0, 1) := by decide +kernel
theorem dX9_ask_87 : decode cX9_ask 87 = .ok (.iload_n 1, 1) := by decide +kernel
theorem dX9_ask_88 : decode cX9_ask 88 = .ok (.iload_n 2, 1) := by decide +kernel
theorem dX9_ask_89 : decode cX9_ask 89 = .ok (.invokevirtual 196, 3) := by decide +kernel
theorem dX9_ask_92 : decode cX9_ask 92 = .ok (.lreturn, 1) := by decide +kernel
theorem dX9_ask_93 : decode cX9_ask 93 = .ok (.aload_n 0, 1) := by decide +kernel
theorem dX9_ask_94 : decode cX9_ask 94 = .ok (.iload_n 1, 1) := by decide +kernel
theorem dX9_ask_95 : decode cX9_ask 95 = .ok (.iload_n 2, 1) := by decide +kernel
theorem dX9_ask_96 : decode cX9_ask 96 = .ok (.invokevirtual 202, 3) := by decide +kernel
theorem dX9_ask_99 : decode cX9_ask 99 = .ok (.i2l, 1) := by decide +kernel
theorem dX9_ask_100 : decode cX9_ask 100 = .ok (.lreturn, 1) := by decide +kernel
theorem dX9_ask_101 : decode cX9_ask 101 = .ok (.aload_n 0, 1) := by decide +kernel
theorem dX9_ask_102 : decode cX9_ask 102 = .ok (.iload_n 1, 1) := by decide +kernel
theorem dX9_ask_103 : decode cX9_ask 103 = .ok (.iload_n 2, 1) := by decide +kernel
theorem dX9_ask_104 : decode cX9_ask 104 = .ok (.invokevirtual 205, 3) := by decide +kernel
theorem dX9_ask_107 : decode cX9_ask 107 = .ok (.lreturn, 1) := by decide +kernel
theorem dX9_ask_108 : decode cX9_ask 108 = .ok (.aload_n 0, 1) := by decide +kernel
theorem dX9_ask_109 : decode cX9_ask 109 = .ok (.iload_n 1, 1) := by decide +kernel
theorem dX9_ask_110 : decode cX9_ask 110 = .ok (.iload_n 2, 1) := by decide +kernel
theorem dX9_ask_111 : decode cX9_ask 111 = .ok (.invokevirtual 208, 3) := by decide +kernel
theorem dX9_ask_114 : decode cX9_ask 114 = .ok (.i2l, 1) := by decide +kernel
theorem dX9_ask_115 : decode cX9_ask 115 = .ok (.lreturn, 1) := by decide +kernel
theorem dX9_ask_116 : decode cX9_ask 116 = .ok (.aload_n 0, 1) := by decide +kernel
theorem dX9_ask_117 : decode cX9_ask 117 = .ok (.iload_n 1, 1) := by decide +kernel
theorem dX9_ask_118 : decode cX9_ask 118 = .ok (.iload_n 2, 1) := by decide +kernel
theorem dX9_ask_119 : decode cX9_ask 119 = .ok (.invokevirtual 199, 3) := by decide +kernel
theorem dX9_ask_122 : decode cX9_ask 122 = .ok (.lreturn, 1) := by decide +kernel
theorem dX9_ask_123 : decode cX9_ask 123 = .ok (.lconst 0, 1) := by decide +kernel
theorem dX9_ask_124 : decode cX9_ask 124 = .ok (.lstore 4, 2) := by decide +kernel
theorem dX9_ask_126 : decode cX9_ask 126 = .ok (.iload_n 1, 1) := by decide +kernel
theorem dX9_ask_127 : decode cX9_ask 127 = .ok (.istore 6, 2) := by decide +kernel
theorem dX9_ask_129 : decode cX9_ask 129 = .ok (.iload 6, 2) := by decide +kernel
theorem dX9_ask_131 : decode cX9_ask 131 = .ok (.iload_n 2, 1) := by decide +kernel
theorem dX9_ask_132 : decode cX9_ask 132 = .ok (.if_icmp .gt 21, 3) := by decide +kernel
theorem dX9_ask_135 : decode cX9_ask 135 = .ok (.lload 4, 2) := by decide +kernel
theorem dX9_ask_137 : decode cX9_ask 137 = .ok (.aload_n 0, 1) := by decide +kernel
theorem dX9_ask_138 : decode cX9_ask 138 = .ok (.getfield 23, 3) := by decide +kernel
theorem dX9_ask_141 : decode cX9_ask 141 = .ok (.iload 6, 2) := by decide +kernel
theorem dX9_ask_143 : decode cX9_ask 143 = .ok (.laload, 1) := by decide +kernel
theorem dX9_ask_144 : decode cX9_ask 144 = .ok (.ladd, 1) := by decide +kernel
theorem dX9_ask_145 : decode cX9_ask 145 = .ok (.lstore 4, 2) := by decide +kernel
theorem dX9_ask_147 : decode cX9_ask 147 = .ok (.iinc 6 1, 3) := by decide +kernel
theorem dX9_ask_150 : decode cX9_ask 150 = .ok (.goto (-21), 3) := by decide +kernel
theorem dX9_ask_153 : decode cX9_ask 153 = .ok (.lload 4, 2) := by decide +kernel
theorem dX9_ask_155 : decode cX9_ask 155 = .ok (.lreturn, 1) := by decide +kernel
theorem dX9_ask_156 : decode cX9_ask 156 = .ok (.ldc2_w 75, 3) := by decide +kernel
theorem dX9_ask_159 : decode cX9_ask 159 = .ok (.lreturn, 1) := by decide +kernel
theorem dX9_findSpan_0 : decode cX9_findSpan 0 = .ok (.iload_n 1, 1) := by decide +kernel
theorem dX9_findSpan_1 : decode cX9_findSpan 1 = .ok (.iconst 1, 1) := by decide +kernel
theorem dX9_findSpan_2 : decode cX9_findSpan 2 = .ok (.if_icmp .lt 10, 3) := by decide +kernel
theorem dX9_findSpan_5 : decode cX9_findSpan 5 = .ok (.aload_n 0, 1) := by decide +kernel
theorem dX9_findSpan_6 : decode cX9_findSpan 6 = .ok (.getfield 81, 3) := by decide +kernel
theorem dX9_findSpan_9 : decode cX9_findSpan 9 = .ok (.ifCond .ne 5, 3) := by decide +kernel
theorem dX9_findSpan_12 : decode cX9_findSpan 12 = .ok (.iconst 0, 1) := by decide +kernel
theorem dX9_findSpan_13 : decode cX9_findSpan 13 = .ok (.ireturn, 1) := by decide +kernel
theorem dX9_findSpan_14 : decode cX9_findSpan 14 = .ok (.iconst 0, 1) := by decide +kernel
theorem dX9_findSpan_15 : decode cX9_findSpan 15 = .ok (.istore_n 2, 1) := by decide +kernel
theorem dX9_findSpan_16 : decode cX9_findSpan 16 = .ok (.iload_n 1, 1) := by decide +kernel
theorem dX9_findSpan_17 : decode cX9_findSpan 17 = .ok (.istore_n 3, 1) := by decide +kernel
theorem dX9_findSpan_18 : decode cX9_findSpan 18 = .ok (.iload_n 3, 1) := by decide +kernel
theorem dX9_findSpan_19 : decode cX9_findSpan 19 = .ok (.iconst 1, 1) := by decide +kernel
theorem dX9_findSpan_20 : decode cX9_findSpan 20 = .ok (.if_icmp .le 13, 3) := by decide +kernel
theorem dX9_findSpan_23 : decode cX9_findSpan 23 = .ok (.iinc 2 1, 3) := by decide +kernel
theorem dX9_findSpan_26 : decode cX9_findSpan 26 = .ok (.iload_n 3, 1) := by decide +kernel
theorem dX9_findSpan_27 : decode cX9_findSpan 27 = .ok (.iconst 1, 1) := by decide +kernel
theorem dX9_findSpan_28 : decode cX9_findSpan 28 = .ok (.ishr, 1) := by decide +kernel
theorem dX9_findSpan_29 : decode cX9_findSpan 29 = .ok (.istore_n 3, 1) := by decide +kernel
theorem dX9_findSpan_30 : decode cX9_findSpan 30 = .ok (.goto (-12), 3) := by decide +kernel
theorem dX9_findSpan_33 : decode cX9_findSpan 33 = .ok (.aload_n 0, 1) := by decide +kernel
theorem dX9_findSpan_34 : decode cX9_findSpan 34 = .ok (.iconst 0, 1) := by decide +kernel
theorem dX9_findSpan_35 : decode cX9_findSpan 35 = .ok (.putfield 211, 3) := by decide +kernel
theorem dX9_findSpan_38 : decode cX9_findSpan 38 = .ok (.aload_n 0, 1) := by decide +kernel
theorem dX9_findSpan_39 : decode cX9_findSpan 39 = .ok (.aload_n 0, 1) := by decide +kernel
theorem dX9_findSpan_40 : decode cX9_findSpan 40 = .ok (.getfield 81, 3) := by decide +kernel
theorem dX9_findSpan_43 : decode cX9_findSpan 43 = .ok (.iconst 1, 1) := by decide +kernel
theorem dX9_findSpan_44 : decode cX9_findSpan 44 = .ok (.isub, 1) := by decide +kernel
theorem dX9_findSpan_45 : decode cX9_findSpan 45 = .ok (.putfield 214, 3) := by decide +kernel
theorem dX9_findSpan_48 : decode cX9_findSpan 48 = .ok (.iload_n 2, 1) := by decide +kernel
theorem dX9_findSpan_49 : decode cX9_findSpan 49 = .ok (.iconst 1, 1) := by decide +kernel
theorem dX9_findSpan_50 : decode cX9_findSpan 50 = .ok (.isub, 1) := by decide +kernel
theorem dX9_findSpan_51 : decode cX9_findSpan 51 = .ok (.istore_n 3, 1) := by decide +kernel
theorem dX9_findSpan_52 : decode cX9_findSpan 52 = .ok (.iload_n 3, 1) := by decide +kernel
theorem dX9_findSpan_53 : decode cX9_findSpan 53 = .ok (.ifCond .lt 60, 3) := by decide +kernel
theorem dX9_findSpan_56 : decode cX9_findSpan 56 = .ok (.aload_n 0, 1) := by decide +kernel
theorem dX9_findSpan_57 : decode cX9_findSpan 57 = .ok (.getfield 211, 3) := by decide +kernel
theorem dX9_findSpan_60 : decode cX9_findSpan 60 = .ok (.aload_n 0, 1) := by decide +kernel
theorem dX9_findSpan_61 : decode cX9_findSpan 61 = .ok (.getfield 214, 3) := by decide +kernel
theorem dX9_findSpan_64 : decode cX9_findSpan 64 = .ok (.if_icmp .ne 5, 3) := by decide +kernel
theorem dX9_findSpan_67 : decode cX9_findSpan 67 = .ok (.iconst 0, 1) := by decide +kernel
theorem dX9_findSpan_68 : decode cX9_findSpan 68 = .ok (.ireturn, 1) := by decide +kernel
theorem dX9_findSpan_69 : decode cX9_findSpan 69 = .ok (.aload_n 0, 1) := by decide +kernel
theorem dX9_findSpan_70 : decode cX9_findSpan 70 = .ok (.getfield 211, 3) := by decide +kernel
theorem dX9_findSpan_73 : decode cX9_findSpan 73 = .ok (.aload_n 0, 1) := by decide +kernel
theorem dX9_findSpan_74 : decode cX9_findSpan 74 = .ok (.getfield 214, 3) := by decide +kernel
theorem dX9_findSpan_77 : decode cX9_findSpan 77 = .ok (.iadd, 1) := by decide +kernel
theorem dX9_findSpan_78 : decode cX9_findSpan 78 = .ok (.iconst 2, 1) := by decide +kernel
theorem dX9_findSpan_79 : decode cX9_findSpan 79 = .ok (.idiv, 1) := by decide +kernel
theorem dX9_findSpan_80 : decode cX9_findSpan 80 = .ok (.istore 4, 2) := by decide +kernel
theorem dX9_findSpan_82 : decode cX9_findSpan 82 = .ok (.iload_n 1, 1) := by decide +kernel
theorem dX9_findSpan_83 : decode cX9_findSpan 83 = .ok (.iload_n 3, 1) := by decide +kernel
theorem dX9_findSpan_84 : decode cX9_findSpan 84 = .ok (.ishr, 1) := by decide +kernel
theorem dX9_findSpan_85 : decode cX9_findSpan 85 = .ok (.iconst 1, 1) := by decide +kernel
theorem dX9_findSpan_86 : decode cX9_findSpan 86 = .ok (.iand, 1) := by decide +kernel
theorem dX9_findSpan_87 : decode cX9_findSpan 87 = .ok (.ifCond .ne 12, 3) := by decide +kernel
theorem dX9_findSpan_90 : decode cX9_findSpan 90 = .ok (.aload_n 0, 1) := by decide +kernel
theorem dX9_findSpan_91 : decode cX9_findSpan 91 = .ok (.iload 4, 2) := by decide +kernel
theorem dX9_findSpan_93 : decode cX9_findSpan 93 = .ok (.putfield 214, 3) := by decide +kernel
theorem dX9_findSpan_96 : decode cX9_findSpan 96 = .ok (.goto 11, 3) := by decide +kernel
theorem dX9_findSpan_99 : decode cX9_findSpan 99 = .ok (.aload_n 0, 1) := by decide +kernel
theorem dX9_findSpan_100 : decode cX9_findSpan 100 = .ok (.iload 4, 2) := by decide +kernel
theorem dX9_findSpan_102 : decode cX9_findSpan 102 = .ok (.iconst 1, 1) := by decide +kernel
theorem dX9_findSpan_103 : decode cX9_findSpan 103 = .ok (.iadd, 1) := by decide +kernel
theorem dX9_findSpan_104 : decode cX9_findSpan 104 = .ok (.putfield 211, 3) := by decide +kernel
theorem dX9_findSpan_107 : decode cX9_findSpan 107 = .ok (.iinc 3 (-1), 3) := by decide +kernel
theorem dX9_findSpan_110 : decode cX9_findSpan 110 = .ok (.goto (-58), 3) := by decide +kernel
theorem dX9_findSpan_113 : decode cX9_findSpan 113 = .ok (.iconst 1, 1) := by decide +kernel
theorem dX9_findSpan_114 : decode cX9_findSpan 114 = .ok (.ireturn, 1) := by decide +kernel
set_option maxRecDepth 20000 in
theorem ggX9_ofSpan_X9_findSpan : GoodIn wsX9_ofSpan wsX9_findSpan := goodIn_r _ [8, 9, 2, 3, 31, 32, 33, 34, 35, 36, 37, 38, 39, 40, 41, 42, 43, 44, 45, 46, 47, 48, 49, 50, 51, 52, 53, 54, 55, 56, 57, 58, 59, 60, 61] (by decide +kernel) (by decide +kernel)
set_option maxRecDepth 20000 in
theorem gX9_ofSpan_X9_findSpan : GoodIn wsX9_ofSpan (wsV RX9 217 RX9 yX9_findSpan wsX9_findSpan) := goodIn_app (goodIn_of _ (by decide +kernel)) ggX9_ofSpan_X9_findSpan
set_option maxRecDepth 20000 in
theorem ggX9_ofSpan_X9_greatestOf : GoodIn wsX9_ofSpan wsX9_greatestOf := goodIn_r _ [13, 14, 31, 32, 33, 34, 35, 36, 37, 38, 39, 40, 41, 42, 43, 44, 45, 46, 47, 48, 49, 50, 51, 52, 53, 54, 55, 56, 57, 58, 59, 60, 61] (by decide +kernel) (by decide +kernel)
set_option maxRecDepth 20000 in
theorem gX9_ofSpan_X9_greatestOf : GoodIn wsX9_ofSpan (wsV RX9 193 RX9 yX9_greatestOf wsX9_greatestOf) := goodIn_app (goodIn_of _ (by decide +kernel)) ggX9_ofSpan_X9_greatestOf
set_option maxRecDepth 20000 in
theorem ggX9_ofSpan_X9_secondOf : GoodIn wsX9_ofSpan wsX9_secondOf := goodIn_r _ [18, 1, 14, 10, 11, 12, 7, 13, 31, 32, 33, 34, 35, 36, 37, 38, 39, 40, 41, 42, 43, 44, 45, 46, 47, 48, 49, 50, 51, 52, 53, 54, 55, 56, 57, 58, 59, 60, 61] (by decide +kernel) (by decide +kernel)
set_option maxRecDepth 20000 in
theorem gX9_ofSpan_X9_secondOf : GoodIn wsX9_ofSpan (wsV RX9 205 RX9 yX9_secondOf wsX9_secondOf) := goodIn_app (goodIn_of _ (by decide +kernel)) ggX9_ofSpan_X9_secondOf
set_option maxRecDepth 20000 in
theorem ggX9_ofSpan_X9_manyGreatest : GoodIn wsX9_ofSpan wsX9_manyGreatest := goodIn_r _ [22, 14, 10, 11, 12, 7, 13, 31, 32, 33, 34, 35, 36, 37, 38, 39, 40, 41, 42, 43, 44, 45, 46, 47, 48, 49, 50, 51, 52, 53, 54, 55, 56, 57, 58, 59, 60, 61] (by decide +kernel) (by decide +kernel)
set_option maxRecDepth 20000 in
theorem gX9_ofSpan_X9_manyGreatest : GoodIn wsX9_ofSpan (wsV RX9 202 RX9 yX9_manyGreatest wsX9_manyGreatest) := goodIn_app (goodIn_of _ (by decide +kernel)) ggX9_ofSpan_X9_manyGreatest
set_option maxRecDepth 20000 in
theorem ggX9_ofSpan_X9_sumOf : GoodIn wsX9_ofSpan wsX9_sumOf := goodIn_r _ [26, 14, 31, 32, 33, 34, 35, 36, 37, 38, 39, 40, 41, 42, 43, 44, 45, 46, 47, 48, 49, 50, 51, 52, 53, 54, 55, 56, 57, 58, 59, 60, 61] (by decide +kernel) (by decide +kernel)
set_option maxRecDepth 20000 in
theorem gX9_ofSpan_X9_sumOf : GoodIn wsX9_ofSpan (wsV RX9 189 RX9 yX9_sumOf wsX9_sumOf) := goodIn_app (goodIn_of _ (by decide +kernel)) ggX9_ofSpan_X9_sumOf
set_option maxRecDepth 20000 in
theorem ggX9_ofSpan_X9_unlikeIn : GoodIn wsX9_ofSpan wsX9_unlikeIn := goodIn_r _ [30, 14, 31, 32, 33, 34, 35, 36, 37, 38, 39, 40, 41, 42, 43, 44, 45, 46, 47, 48, 49, 50, 51, 52, 53, 54, 55, 56, 57, 58, 59, 60, 61] (by decide +kernel) (by decide +kernel)
set_option maxRecDepth 20000 in
theorem gX9_ofSpan_X9_unlikeIn : GoodIn wsX9_ofSpan (wsV RX9 208 RX9 yX9_unlikeIn wsX9_unlikeIn) := goodIn_app (goodIn_of _ (by decide +kernel)) ggX9_ofSpan_X9_unlikeIn
theorem dX9_ofSpan_0 : decode cX9_ofSpan 0 = .ok (.aload_n 0, 1) := by decide +kernel
theorem dX9_ofSpan_1 : decode cX9_ofSpan 1 = .ok (.iload_n 1, 1) := by decide +kernel
theorem dX9_ofSpan_2 : decode cX9_ofSpan 2 = .ok (.invokevirtual 217, 3) := by decide +kernel
theorem dX9_ofSpan_5 : decode cX9_ofSpan 5 = .ok (.ifCond .ne 7, 3) := by decide +kernel
theorem dX9_ofSpan_8 : decode cX9_ofSpan 8 = .ok (.ldc2_w 75, 3) := by decide +kernel
theorem dX9_ofSpan_11 : decode cX9_ofSpan 11 = .ok (.lreturn, 1) := by decide +kernel
theorem dX9_ofSpan_12 : decode cX9_ofSpan 12 = .ok (.iload_n 2, 1) := by decide +kernel
theorem dX9_ofSpan_13 : decode cX9_ofSpan 13 = .ok (.tableswitch 122 0 6 #[43, 49, 55, 68, 81, 95, 108], 43) := by decide +kernel
theorem dX9_ofSpan_56 : decode cX9_ofSpan 56 = .ok (.aload_n 0, 1) := by decide +kernel
theorem dX9_ofSpan_57 : decode cX9_ofSpan 57 = .ok (.getfield 211, 3) := by decide +kernel
theorem dX9_ofSpan_60 : decode cX9_ofSpan 60 = .ok (.i2l, 1) := by decide +kernel
theorem dX9_ofSpan_61 : decode cX9_ofSpan 61 = .ok (.lreturn, 1) := by decide +kernel
theorem dX9_ofSpan_62 : decode cX9_ofSpan 62 = .ok (.aload_n 0, 1) := by decide +kernel
theorem dX9_ofSpan_63 : decode cX9_ofSpan 63 = .ok (.getfield 214, 3) := by decide +kernel
theorem dX9_ofSpan_66 : decode cX9_ofSpan 66 = .ok (.i2l, 1) := by decide +kernel
theorem dX9_ofSpan_67 : decode cX9_ofSpan 67 = .ok (.lreturn, 1) := by decide +kernel
theorem dX9_ofSpan_68 : decode cX9_ofSpan 68 = .ok (.aload_n 0, 1) := by decide +kernel
theorem dX9_ofSpan_69 : decode cX9_ofSpan 69 = .ok (.aload_n 0, 1) := by decide +kernel
theorem dX9_ofSpan_70 : decode cX9_ofSpan 70 = .ok (.getfield 211, 3) := by decide +kernel
theorem dX9_ofSpan_73 : decode cX9_ofSpan 73 = .ok (.aload_n 0, 1) := by decide +kernel
theorem dX9_ofSpan_74 : decode cX9_ofSpan 74 = .ok (.getfield 214, 3) := by decide +kernel
theorem dX9_ofSpan_77 : decode cX9_ofSpan 77 = .ok (.invokevirtual 193, 3) := by decide +kernel
theorem dX9_ofSpan_80 : decode cX9_ofSpan 80 = .ok (.lreturn, 1) := by decide +kernel
theorem dX9_ofSpan_81 : decode cX9_ofSpan 81 = .ok (.aload_n 0, 1) := by decide +kernel
theorem dX9_ofSpan_82 : decode cX9_ofSpan 82 = .ok (.aload_n 0, 1) := by decide +kernel
theorem dX9_ofSpan_83 : decode cX9_ofSpan 83 = .ok (.getfield 211, 3) := by decide +kernel
theorem dX9_ofSpan_86 : decode cX9_ofSpan 86 = .ok (.aload_n 0, 1) := by decide +kernel
theorem dX9_ofSpan_87 : decode cX9_ofSpan 87 = .ok (.getfield 214, 3) := by decide +kernel
theorem dX9_ofSpan_90 : decode cX9_ofSpan 90 = .ok (.invokevirtual 205, 3) := by decide +kernel
theorem dX9_ofSpan_93 : decode cX9_ofSpan 93 = .ok (.lreturn, 1) := by decide +kernel
theorem dX9_ofSpan_94 : decode cX9_ofSpan 94 = .ok (.aload_n 0, 1) := by decide +kernel
theorem dX9_ofSpan_95 : decode cX9_ofSpan 95 = .ok (.aload_n 0, 1) := by decide +kernel
theorem dX9_ofSpan_96 : decode cX9_ofSpan 96 = .ok (.getfield 211, 3) := by decide +kernel
theorem dX9_ofSpan_99 : decode cX9_ofSpan 99 = .ok (.aload_n 0, 1) := by decide +kernel
theorem dX9_ofSpan_100 : decode cX9_ofSpan 100 = .ok (.getfield 214, 3) := by decide +kernel
theorem dX9_ofSpan_103 : decode cX9_ofSpan 103 = .ok (.invokevirtual 202, 3) := by decide +kernel
theorem dX9_ofSpan_106 : decode cX9_ofSpan 106 = .ok (.i2l, 1) := by decide +kernel
theorem dX9_ofSpan_107 : decode cX9_ofSpan 107 = .ok (.lreturn, 1) := by decide +kernel
theorem dX9_ofSpan_108 : decode cX9_ofSpan 108 = .ok (.aload_n 0, 1) := by decide +kernel
theorem dX9_ofSpan_109 : decode cX9_ofSpan 109 = .ok (.aload_n 0, 1) := by decide +kernel
theorem dX9_ofSpan_110 : decode cX9_ofSpan 110 = .ok (.getfield 211, 3) := by decide +kernel
theorem dX9_ofSpan_113 : decode cX9_ofSpan 113 = .ok (.aload_n 0, 1) := by decide +kernel
theorem dX9_ofSpan_114 : decode cX9_ofSpan 114 = .ok (.getfield 214, 3) := by decide +kernel
theorem dX9_ofSpan_117 : decode cX9_ofSpan 117 = .ok (.invokevirtual 189, 3) := by decide +kernel
theorem dX9_ofSpan_120 : decode cX9_ofSpan 120 = .ok (.lreturn, 1) := by decide +kernel
theorem dX9_ofSpan_121 : decode cX9_ofSpan 121 = .ok (.aload_n 0, 1) := by decide +kernel
theorem dX9_ofSpan_122 : decode cX9_ofSpan 122 = .ok (.aload_n 0, 1) := by decide +kernel
theorem dX9_ofSpan_123 : decode cX9_ofSpan 123 = .ok (.getfield 211, 3) := by decide +kernel
theorem dX9_ofSpan_126 : decode cX9_ofSpan 126 = .ok (.aload_n 0, 1) := by decide +kernel
theorem dX9_ofSpan_127 : decode cX9_ofSpan 127 = .ok (.getfield 214, 3) := by decide +kernel
theorem dX9_ofSpan_130 : decode cX9_ofSpan 130 = .ok (.invokevirtual 208, 3) := by decide +kernel
theorem dX9_ofSpan_133 : decode cX9_ofSpan 133 = .ok (.i2l, 1) := by decide +kernel
theorem dX9_ofSpan_134 : decode cX9_ofSpan 134 = .ok (.lreturn, 1) := by decide +kernel
theorem dX9_ofSpan_135 : decode cX9_ofSpan 135 = .ok (.ldc2_w 75, 3) := by decide +kernel
theorem dX9_ofSpan_138 : decode cX9_ofSpan 138 = .ok (.lreturn, 1) := by decide +kernel
set_option maxRecDepth 20000 in
theorem ggX9_opens_X9_greatestOf : GoodIn wsX9_opens wsX9_greatestOf := goodIn_r _ [8, 9, 14, 15, 16, 17, 18, 19, 20, 21, 22, 23, 24, 25, 26, 27, 28, 29, 30, 31, 32, 33, 34, 35, 36, 37, 38, 39, 40, 41, 42, 43, 44] (by decide +kernel) (by decide +kernel)
set_option maxRecDepth 20000 in
theorem gX9_opens_X9_greatestOf : GoodIn wsX9_opens (wsV RX9 193 RX9 yX9_greatestOf wsX9_greatestOf) := goodIn_app (goodIn_of _ (by decide +kernel)) ggX9_opens_X9_greatestOf
set_option maxRecDepth 20000 in
theorem ggX9_opens_X9_secondOf : GoodIn wsX9_opens wsX9_secondOf := goodIn_r _ [13, 3, 9, 4, 5, 6, 7, 8, 14, 15, 16, 17, 18, 19, 20, 21, 22, 23, 24, 25, 26, 27, 28, 29, 30, 31, 32, 33, 34, 35, 36, 37, 38, 39, 40, 41, 42, 43, 44] (by decide +kernel) (by decide +kernel)
set_option maxRecDepth 20000 in
theorem gX9_opens_X9_secondOf : GoodIn wsX9_opens (wsV RX9 205 RX9 yX9_secondOf wsX9_secondOf) := goodIn_app (goodIn_of _ (by decide +kernel)) ggX9_opens_X9_secondOf
theorem dX9_opens_0 : decode cX9_opens 0 = .ok (.aload_n 0, 1) := by decide +kernel
theorem dX9_opens_1 : decode cX9_opens 1 = .ok (.getfield 211, 3) := by decide +kernel
theorem dX9_opens_4 : decode cX9_opens 4 = .ok (.iload_n 2, 1) := by decide +kernel
theorem dX9_opens_5 : decode cX9_opens 5 = .ok (.if_icmp .gt 15, 3) := by decide +kernel
theorem dX9_opens_8 : decode cX9_opens 8 = .ok (.aload_n 0, 1) := by decide +kernel
theorem dX9_opens_9 : decode cX9_opens 9 = .ok (.getfield 214, 3) := by decide +kernel
theorem dX9_opens_12 : decode cX9_opens 12 = .ok (.iload_n 1, 1) := by decide +kernel
theorem dX9_opens_13 : decode cX9_opens 13 = .ok (.if_icmp .lt 7, 3) := by decide +kernel
theorem dX9_opens_16 : decode cX9_opens 16 = .ok (.iconst 1, 1) := by decide +kernel
theorem dX9_opens_17 : decode cX9_opens 17 = .ok (.goto 4, 3) := by decide +kernel
theorem dX9_opens_20 : decode cX9_opens 20 = .ok (.iconst 0, 1) := by decide +kernel
theorem dX9_opens_21 : decode cX9_opens 21 = .ok (.istore 5, 2) := by decide +kernel
theorem dX9_opens_23 : decode cX9_opens 23 = .ok (.aload_n 0, 1) := by decide +kernel
theorem dX9_opens_24 : decode cX9_opens 24 = .ok (.getfield 211, 3) := by decide +kernel
theorem dX9_opens_27 : decode cX9_opens 27 = .ok (.iload_n 1, 1) := by decide +kernel
theorem dX9_opens_28 : decode cX9_opens 28 = .ok (.if_icmp .lt 15, 3) := by decide +kernel
theorem dX9_opens_31 : decode cX9_opens 31 = .ok (.aload_n 0, 1) := by decide +kernel
theorem dX9_opens_32 : decode cX9_opens 32 = .ok (.getfield 214, 3) := by decide +kernel
theorem dX9_opens_35 : decode cX9_opens 35 = .ok (.iload_n 2, 1) := by decide +kernel
theorem dX9_opens_36 : decode cX9_opens 36 = .ok (.if_icmp .gt 7, 3) := by decide +kernel
theorem dX9_opens_39 : decode cX9_opens 39 = .ok (.iconst 1, 1) := by decide +kernel
theorem dX9_opens_40 : decode cX9_opens 40 = .ok (.goto 4, 3) := by decide +kernel
theorem dX9_opens_43 : decode cX9_opens 43 = .ok (.iconst 0, 1) := by decide +kernel
theorem dX9_opens_44 : decode cX9_opens 44 = .ok (.istore 6, 2) := by decide +kernel
theorem dX9_opens_46 : decode cX9_opens 46 = .ok (.iload 5, 2) := by decide +kernel
theorem dX9_opens_48 : decode cX9_opens 48 = .ok (.ifCond .eq 20, 3) := by decide +kernel
theorem dX9_opens_51 : decode cX9_opens 51 = .ok (.aload_n 0, 1) := by decide +kernel
theorem dX9_opens_52 : decode cX9_opens 52 = .ok (.aload_n 0, 1) := by decide +kernel
theorem dX9_opens_53 : decode cX9_opens 53 = .ok (.getfield 211, 3) := by decide +kernel
theorem dX9_opens_56 : decode cX9_opens 56 = .ok (.aload_n 0, 1) := by decide +kernel
theorem dX9_opens_57 : decode cX9_opens 57 = .ok (.getfield 214, 3) := by decide +kernel
theorem dX9_opens_60 : decode cX9_opens 60 = .ok (.invokevirtual 193, 3) := by decide +kernel
theorem dX9_opens_63 : decode cX9_opens 63 = .ok (.lload_n 3, 1) := by decide +kernel
theorem dX9_opens_64 : decode cX9_opens 64 = .ok (.lcmp, 1) := by decide +kernel
theorem dX9_opens_65 : decode cX9_opens 65 = .ok (.ifCond .gt 5, 3) := by decide +kernel
theorem dX9_opens_68 : decode cX9_opens 68 = .ok (.iconst 0, 1) := by decide +kernel
theorem dX9_opens_69 : decode cX9_opens 69 = .ok (.ireturn, 1) := by decide +kernel
theorem dX9_opens_70 : decode cX9_opens 70 = .ok (.aload_n 0, 1) := by decide +kernel
theorem dX9_opens_71 : decode cX9_opens 71 = .ok (.aload_n 0, 1) := by decide +kernel
theorem dX9_opens_72 : decode cX9_opens 72 = .ok (.getfield 211, 3) := by decide +kernel
theorem dX9_opens_75 : decode cX9_opens 75 = .ok (.aload_n 0, 1) := by decide +kernel
theorem dX9_opens_76 : decode cX9_opens 76 = .ok (.getfield 214, 3) := by decide +kernel
theorem dX9_opens_79 : decode cX9_opens 79 = .ok (.invokevirtual 205, 3) := by decide +kernel
theorem dX9_opens_82 : decode cX9_opens 82 = .ok (.lstore 7, 2) := by decide +kernel
theorem dX9_opens_84 : decode cX9_opens 84 = .ok (.iload 6, 2) := by decide +kernel
theorem dX9_opens_86 : decode cX9_opens 86 = .ok (.ifCond .eq 19, 3) := by decide +kernel
theorem dX9_opens_89 : decode cX9_opens 89 = .ok (.lload 7, 2) := by decide +kernel
theorem dX9_opens_91 : decode cX9_opens 91 = .ok (.ldc2_w 75, 3) := by decide +kernel
theorem dX9_opens_94 : decode cX9_opens 94 = .ok (.lcmp, 1) := by decide +kernel
theorem dX9_opens_95 : decode cX9_opens 95 = .ok (.ifCond .eq 14, 3) := by decide +kernel
theorem dX9_opens_98 : decode cX9_opens 98 = .ok (.lload 7, 2) := by decide +kernel
theorem dX9_opens_100 : decode cX9_opens 100 = .ok (.lload_n 3, 1) := by decide +kernel
theorem dX9_opens_101 : decode cX9_opens 101 = .ok (.lcmp, 1) := by decide +kernel
theorem dX9_opens_102 : decode cX9_opens 102 = .ok (.ifCond .lt 7, 3) := by decide +kernel
theorem dX9_opens_105 : decode cX9_opens 105 = .ok (.iconst 1, 1) := by decide +kernel
theorem dX9_opens_106 : decode cX9_opens 106 = .ok (.goto 4, 3) := by decide +kernel
theorem dX9_opens_109 : decode cX9_opens 109 = .ok (.iconst 0, 1) := by decide +kernel
theorem dX9_opens_110 : decode cX9_opens 110 = .ok (.ireturn, 1) := by decide +kernel
set_option maxRecDepth 20000 in
theorem ggX9_looks_X9_isCell : GoodIn wsX9_looks wsX9_isCell := goodIn_r _ [8, 9, 33, 34, 35, 36, 37, 38, 39, 40, 41, 42, 43, 44, 45, 46, 47, 48, 49, 50, 51, 52, 53, 54, 55, 56, 57, 58, 59, 60, 61, 62, 63] (by decide +kernel) (by decide +kernel)
set_option maxRecDepth 20000 in
theorem gX9_looks_X9_isCell : GoodIn wsX9_looks (wsV RX9 142 RX9 yX9_isCell wsX9_isCell) := goodIn_app (goodIn_of _ (by decide +kernel)) ggX9_looks_X9_isCell
set_option maxRecDepth 20000 in
theorem ggX9_looks_X9_isBetween : GoodIn wsX9_looks wsX9_isBetween := goodIn_r _ [12] (by decide +kernel) (by decide +kernel)
set_option maxRecDepth 20000 in
theorem gX9_looks_X9_isBetween : GoodIn wsX9_looks (va_wsS RX9 153 yX9_isBetween wsX9_isBetween) := goodIn_app (goodIn_of _ (by decide +kernel)) ggX9_looks_X9_isBetween
set_option maxRecDepth 20000 in
theorem ggX9_looks_X9_findSpan : GoodIn wsX9_looks wsX9_findSpan := goodIn_r _ [16, 9, 17, 18, 33, 34, 35, 36, 37, 38, 39, 40, 41, 42, 43, 44, 45, 46, 47, 48, 49, 50, 51, 52, 53, 54, 55, 56, 57, 58, 59, 60, 61, 62, 63] (by decide +kernel) (by decide +kernel)
set_option maxRecDepth 20000 in
theorem gX9_looks_X9_findSpan : GoodIn wsX9_looks (wsV RX9 217 RX9 yX9_findSpan wsX9_findSpan) := goodIn_app (goodIn_of _ (by decide +kernel)) ggX9_looks_X9_findSpan
set_option maxRecDepth 20000 in
theorem ggX9_looks_X9_opens : GoodIn wsX9_looks wsX9_opens := goodIn_r _ [22, 17, 18, 23, 24, 25, 26, 7, 27, 28, 29, 30, 31, 32, 33, 34, 35, 36, 37, 38, 39, 40, 41, 42, 43, 44, 45, 46, 47, 48, 49, 50, 51, 52, 53, 54, 55, 56, 57, 58, 59, 60, 61, 62, 63] (by decide +kernel) (by decide +kernel)
set_option maxRecDepth 20000 in
theorem gX9_looks_X9_opens : GoodIn wsX9_looks (wsV RX9 220 RX9 yX9_opens wsX9_opens) := goodIn_app (goodIn_of _ (by decide +kernel)) ggX9_looks_X9_opens
theorem dX9_looks_0 : decode cX9_looks 0 = .ok (.aload_n 0, 1) := by decide +kernel
theorem dX9_looks_1 : decode cX9_looks 1 = .ok (.iload_n 1, 1) := by decide +kernel
theorem dX9_looks_2 : decode cX9_looks 2 = .ok (.invokevirtual 142, 3) := by decide +kernel
theorem dX9_looks_5 : decode cX9_looks 5 = .ok (.ifCond .eq 11, 3) := by decide +kernel
theorem dX9_looks_8 : decode cX9_looks 8 = .ok (.aload_n 0, 1) := by decide +kernel
theorem dX9_looks_9 : decode cX9_looks 9 = .ok (.iload_n 2, 1) := by decide +kernel
theorem dX9_looks_10 : decode cX9_looks 10 = .ok (.invokevirtual 142, 3) := by decide +kernel
theorem dX9_looks_13 : decode cX9_looks 13 = .ok (.ifCond .ne 5, 3) := by decide +kernel
theorem dX9_looks_16 : decode cX9_looks 16 = .ok (.iconst (-1), 1) := by decide +kernel
theorem dX9_looks_17 : decode cX9_looks 17 = .ok (.ireturn, 1) := by decide +kernel
theorem dX9_looks_18 : decode cX9_looks 18 = .ok (.iload_n 1, 1) := by decide +kernel
theorem dX9_looks_19 : decode cX9_looks 19 = .ok (.iload_n 2, 1) := by decide +kernel
theorem dX9_looks_20 : decode cX9_looks 20 = .ok (.if_icmp .gt 16, 3) := by decide +kernel
theorem dX9_looks_23 : decode cX9_looks 23 = .ok (.lload_n 3, 1) := by decide +kernel
theorem dX9_looks_24 : decode cX9_looks 24 = .ok (.ldc2_w 149, 3) := by decide +kernel
theorem dX9_looks_27 : decode cX9_looks 27 = .ok (.ldc2_w 151, 3) := by decide +kernel
theorem dX9_looks_30 : decode cX9_looks 30 = .ok (.invokestatic 153, 3) := by decide +kernel
theorem dX9_looks_33 : decode cX9_looks 33 = .ok (.ifCond .ne 6, 3) := by decide +kernel
theorem dX9_looks_36 : decode cX9_looks 36 = .ok (.bipush (-2), 2) := by decide +kernel
theorem dX9_looks_38 : decode cX9_looks 38 = .ok (.ireturn, 1) := by decide +kernel
theorem dX9_looks_39 : decode cX9_looks 39 = .ok (.aload_n 0, 1) := by decide +kernel
theorem dX9_looks_40 : decode cX9_looks 40 = .ok (.getfield 62, 3) := by decide +kernel
theorem dX9_looks_43 : decode cX9_looks 43 = .ok (.iconst 0, 1) := by decide +kernel
theorem dX9_looks_44 : decode cX9_looks 44 = .ok (.iconst 1, 1) := by decide +kernel
theorem dX9_looks_45 : decode cX9_looks 45 = .ok (.iastore, 1) := by decide +kernel
theorem dX9_looks_46 : decode cX9_looks 46 = .ok (.iconst 1, 1) := by decide +kernel
theorem dX9_looks_47 : decode cX9_looks 47 = .ok (.istore 5, 2) := by decide +kernel
theorem dX9_looks_49 : decode cX9_looks 49 = .ok (.iconst 0, 1) := by decide +kernel
theorem dX9_looks_50 : decode cX9_looks 50 = .ok (.istore 6, 2) := by decide +kernel
theorem dX9_looks_52 : decode cX9_looks 52 = .ok (.iload 6, 2) := by decide +kernel
theorem dX9_looks_54 : decode cX9_looks 54 = .ok (.iload 5, 2) := by decide +kernel
theorem dX9_looks_56 : decode cX9_looks 56 = .ok (.if_icmp .ge 70, 3) := by decide +kernel
theorem dX9_looks_59 : decode cX9_looks 59 = .ok (.aload_n 0, 1) := by decide +kernel
theorem dX9_looks_60 : decode cX9_looks 60 = .ok (.aload_n 0, 1) := by decide +kernel
theorem dX9_looks_61 : decode cX9_looks 61 = .ok (.getfield 62, 3) := by decide +kernel
theorem dX9_looks_64 : decode cX9_looks 64 = .ok (.iload 6, 2) := by decide +kernel
theorem dX9_looks_66 : decode cX9_looks 66 = .ok (.iaload, 1) := by decide +kernel
theorem dX9_looks_67 : decode cX9_looks 67 = .ok (.invokevirtual 217, 3) := by decide +kernel
theorem dX9_looks_70 : decode cX9_looks 70 = .ok (.pop, 1) := by decide +kernel
theorem dX9_looks_71 : decode cX9_looks 71 = .ok (.aload_n 0, 1) := by decide +kernel
theorem dX9_looks_72 : decode cX9_looks 72 = .ok (.iload_n 1, 1) := by decide +kernel
theorem dX9_looks_73 : decode cX9_looks 73 = .ok (.iload_n 2, 1) := by decide +kernel
theorem dX9_looks_74 : decode cX9_looks 74 = .ok (.lload_n 3, 1) := by decide +kernel
theorem dX9_looks_75 : decode cX9_looks 75 = .ok (.invokevirtual 220, 3) := by decide +kernel
theorem dX9_looks_78 : decode cX9_looks 78 = .ok (.ifCond .eq 42, 3) := by decide +kernel
theorem dX9_looks_81 : decode cX9_looks 81 = .ok (.aload_n 0, 1) := by decide +kernel
theorem dX9_looks_82 : decode cX9_looks 82 = .ok (.getfield 62, 3) := by decide +kernel
theorem dX9_looks_85 : decode cX9_looks 85 = .ok (.iload 5, 2) := by decide +kernel
theorem dX9_looks_87 : decode cX9_looks 87 = .ok (.iconst 2, 1) := by decide +kernel
theorem dX9_looks_88 : decode cX9_looks 88 = .ok (.aload_n 0, 1) := by decide +kernel
theorem dX9_looks_89 : decode cX9_looks 89 = .ok (.getfield 62, 3) := by decide +kernel
theorem dX9_looks_92 : decode cX9_looks 92 = .ok (.iload 6, 2) := by decide +kernel
theorem dX9_looks_94 : decode cX9_looks 94 = .ok (.iaload, 1) := by decide +kernel
theorem dX9_looks_95 : decode cX9_looks 95 = .ok (.imul, 1) := by decide +kernel
theorem dX9_looks_96 : decode cX9_looks 96 = .ok (.iastore, 1) := by decide +kernel
theorem dX9_looks_97 : decode cX9_looks 97 = .ok (.aload_n 0, 1) := by decide +kernel
theorem dX9_looks_98 : decode cX9_looks 98 = .ok (.getfield 62, 3) := by decide +kernel
theorem dX9_looks_101 : decode cX9_looks 101 = .ok (.iload 5, 2) := by decide +kernel
theorem dX9_looks_103 : decode cX9_looks 103 = .ok (.iconst 1, 1) := by decide +kernel
theorem dX9_looks_104 : decode cX9_looks 104 = .ok (.iadd, 1) := by decide +kernel
theorem dX9_looks_105 : decode cX9_looks 105 = .ok (.iconst 2, 1) := by decide +kernel
theorem dX9_looks_106 : decode cX9_looks 106 = .ok (.aload_n 0, 1) := by decide +kernel
theorem dX9_looks_107 : decode cX9_looks 107 = .ok (.getfield 62, 3) := by decide +kernel
theorem dX9_looks_110 : decode cX9_looks 110 = .ok (.iload 6, 2) := by decide +kernel
theorem dX9_looks_112 : decode cX9_looks 112 = .ok (.iaload, 1) := by decide +kernel
theorem dX9_looks_113 : decode cX9_looks 113 = .ok (.imul, 1) := by decide +kernel
theorem dX9_looks_114 : decode cX9_looks 114 = .ok (.iconst 1, 1) := by decide +kernel
theorem dX9_looks_115 : decode cX9_looks 115 = .ok (.iadd, 1) := by decide +kernel
theorem dX9_looks_116 : decode cX9_looks 116 = .ok (.iastore, 1) := by decide +kernel
theorem dX9_looks_117 : decode cX9_looks 117 = .ok (.iinc 5 2, 3) := by decide +kernel
theorem dX9_looks_120 : decode cX9_looks 120 = .ok (.iinc 6 1, 3) := by decide +kernel
theorem dX9_looks_123 : decode cX9_looks 123 = .ok (.goto (-71), 3) := by decide +kernel
theorem dX9_looks_126 : decode cX9_looks 126 = .ok (.iload 5, 2) := by decide +kernel
theorem dX9_looks_128 : decode cX9_looks 128 = .ok (.ireturn, 1) := by decide +kernel
set_option maxRecDepth 20000 in
theorem ggX9_unlike_X9_findSpan : GoodIn wsX9_unlike wsX9_findSpan := goodIn_r _ [8, 1, 2, 3, 14, 15, 16, 17, 18, 19, 20, 21, 22, 23, 24, 25, 26, 27, 28, 29, 30, 31, 32, 33, 34, 35, 36, 37, 38, 39, 40, 41, 42, 43, 44] (by decide +kernel) (by decide +kernel)
set_option maxRecDepth 20000 in
theorem gX9_unlike_X9_findSpan : GoodIn wsX9_unlike (wsV RX9 217 RX9 yX9_findSpan wsX9_findSpan) := goodIn_app (goodIn_of _ (by decide +kernel)) ggX9_unlike_X9_findSpan
set_option maxRecDepth 20000 in
theorem ggX9_unlike_X9_unlikeIn : GoodIn wsX9_unlike wsX9_unlikeIn := goodIn_r _ [12, 13, 14, 15, 16, 17, 18, 19, 20, 21, 22, 23, 24, 25, 26, 27, 28, 29, 30, 31, 32, 33, 34, 35, 36, 37, 38, 39, 40, 41, 42, 43, 44] (by decide +kernel) (by decide +kernel)
set_option maxRecDepth 20000 in
theorem gX9_unlike_X9_unlikeIn : GoodIn wsX9_unlike (wsV RX9 208 RX9 yX9_unlikeIn wsX9_unlikeIn) := goodIn_app (goodIn_of _ (by decide +kernel)) ggX9_unlike_X9_unlikeIn
theorem dX9_unlike_0 : decode cX9_unlike 0 = .ok (.aload_n 0, 1) := by decide +kernel
theorem dX9_unlike_1 : decode cX9_unlike 1 = .ok (.getfield 81, 3) := by decide +kernel
theorem dX9_unlike_4 : decode cX9_unlike 4 = .ok (.ifCond .ne 6, 3) := by decide +kernel
theorem dX9_unlike_7 : decode cX9_unlike 7 = .ok (.bipush (-3), 2) := by decide +kernel
theorem dX9_unlike_9 : decode cX9_unlike 9 = .ok (.ireturn, 1) := by decide +kernel
theorem dX9_unlike_10 : decode cX9_unlike 10 = .ok (.iconst 0, 1) := by decide +kernel
theorem dX9_unlike_11 : decode cX9_unlike 11 = .ok (.istore_n 1, 1) := by decide +kernel
theorem dX9_unlike_12 : decode cX9_unlike 12 = .ok (.iconst 1, 1) := by decide +kernel
theorem dX9_unlike_13 : decode cX9_unlike 13 = .ok (.istore_n 2, 1) := by decide +kernel
theorem dX9_unlike_14 : decode cX9_unlike 14 = .ok (.iload_n 2, 1) := by decide +kernel
theorem dX9_unlike_15 : decode cX9_unlike 15 = .ok (.bipush 64, 2) := by decide +kernel
theorem dX9_unlike_17 : decode cX9_unlike 17 = .ok (.if_icmp .ge 36, 3) := by decide +kernel
theorem dX9_unlike_20 : decode cX9_unlike 20 = .ok (.iload_n 1, 1) := by decide +kernel
theorem dX9_unlike_21 : decode cX9_unlike 21 = .ok (.aload_n 0, 1) := by decide +kernel
theorem dX9_unlike_22 : decode cX9_unlike 22 = .ok (.iload_n 2, 1) := by decide +kernel
theorem dX9_unlike_23 : decode cX9_unlike 23 = .ok (.invokevirtual 217, 3) := by decide +kernel
theorem dX9_unlike_26 : decode cX9_unlike 26 = .ok (.ifCond .eq 18, 3) := by decide +kernel
theorem dX9_unlike_29 : decode cX9_unlike 29 = .ok (.aload_n 0, 1) := by decide +kernel
theorem dX9_unlike_30 : decode cX9_unlike 30 = .ok (.aload_n 0, 1) := by decide +kernel
theorem dX9_unlike_31 : decode cX9_unlike 31 = .ok (.getfield 211, 3) := by decide +kernel
theorem dX9_unlike_34 : decode cX9_unlike 34 = .ok (.aload_n 0, 1) := by decide +kernel
theorem dX9_unlike_35 : decode cX9_unlike 35 = .ok (.getfield 214, 3) := by decide +kernel
theorem dX9_unlike_38 : decode cX9_unlike 38 = .ok (.invokevirtual 208, 3) := by decide +kernel
theorem dX9_unlike_41 : decode cX9_unlike 41 = .ok (.goto 4, 3) := by decide +kernel
theorem dX9_unlike_44 : decode cX9_unlike 44 = .ok (.iconst 0, 1) := by decide +kernel
theorem dX9_unlike_45 : decode cX9_unlike 45 = .ok (.iadd, 1) := by decide +kernel
theorem dX9_unlike_46 : decode cX9_unlike 46 = .ok (.istore_n 1, 1) := by decide +kernel
theorem dX9_unlike_47 : decode cX9_unlike 47 = .ok (.iinc 2 1, 3) := by decide +kernel
theorem dX9_unlike_50 : decode cX9_unlike 50 = .ok (.goto (-36), 3) := by decide +kernel
theorem dX9_unlike_53 : decode cX9_unlike 53 = .ok (.iload_n 1, 1) := by decide +kernel
theorem dX9_unlike_54 : decode cX9_unlike 54 = .ok (.ireturn, 1) := by decide +kernel
set_option maxRecDepth 20000 in
theorem ggX9_reading_X9_isCell : GoodIn wsX9_reading wsX9_isCell := goodIn_r _ [10, 11, 15, 16, 17, 18, 19, 20, 21, 22, 23, 24, 25, 26, 27, 28, 29, 30, 31, 32, 33, 34, 35, 36, 37, 38, 39, 40, 41, 42, 43, 44, 45] (by decide +kernel) (by decide +kernel)
set_option maxRecDepth 20000 in
theorem gX9_reading_X9_isCell : GoodIn wsX9_reading (wsV RX9 142 RX9 yX9_isCell wsX9_isCell) := goodIn_app (goodIn_of _ (by decide +kernel)) ggX9_reading_X9_isCell
set_option maxRecDepth 20000 in
theorem ggX9_reading_X9_isBetween : GoodIn wsX9_reading wsX9_isBetween := goodIn_r _ [14] (by decide +kernel) (by decide +kernel)
set_option maxRecDepth 20000 in
theorem gX9_reading_X9_isBetween : GoodIn wsX9_reading (va_wsS RX9 153 yX9_isBetween wsX9_isBetween) := goodIn_app (goodIn_of _ (by decide +kernel)) ggX9_reading_X9_isBetween
theorem dX9_reading_0 : decode cX9_reading 0 = .ok (.aload_n 0, 1) := by decide +kernel
theorem dX9_reading_1 : decode cX9_reading 1 = .ok (.iload_n 1, 1) := by decide +kernel
theorem dX9_reading_2 : decode cX9_reading 2 = .ok (.invokevirtual 142, 3) := by decide +kernel
theorem dX9_reading_5 : decode cX9_reading 5 = .ok (.ifCond .ne 5, 3) := by decide +kernel
theorem dX9_reading_8 : decode cX9_reading 8 = .ok (.iconst (-1), 1) := by decide +kernel
theorem dX9_reading_9 : decode cX9_reading 9 = .ok (.ireturn, 1) := by decide +kernel
theorem dX9_reading_10 : decode cX9_reading 10 = .ok (.lload_n 2, 1) := by decide +kernel
theorem dX9_reading_11 : decode cX9_reading 11 = .ok (.ldc2_w 224, 3) := by decide +kernel
theorem dX9_reading_14 : decode cX9_reading 14 = .ok (.ldc2_w 226, 3) := by decide +kernel
theorem dX9_reading_17 : decode cX9_reading 17 = .ok (.invokestatic 153, 3) := by decide +kernel
theorem dX9_reading_20 : decode cX9_reading 20 = .ok (.ifCond .ne 6, 3) := by decide +kernel
theorem dX9_reading_23 : decode cX9_reading 23 = .ok (.bipush (-2), 2) := by decide +kernel
theorem dX9_reading_25 : decode cX9_reading 25 = .ok (.ireturn, 1) := by decide +kernel
theorem dX9_reading_26 : decode cX9_reading 26 = .ok (.aload_n 0, 1) := by decide +kernel
theorem dX9_reading_27 : decode cX9_reading 27 = .ok (.getfield 117, 3) := by decide +kernel
theorem dX9_reading_30 : decode cX9_reading 30 = .ok (.bipush 8, 2) := by decide +kernel
theorem dX9_reading_32 : decode cX9_reading 32 = .ok (.if_icmp .ne 6, 3) := by decide +kernel
theorem dX9_reading_35 : decode cX9_reading 35 = .ok (.bipush (-4), 2) := by decide +kernel
theorem dX9_reading_37 : decode cX9_reading 37 = .ok (.ireturn, 1) := by decide +kernel
theorem dX9_reading_38 : decode cX9_reading 38 = .ok (.aload_n 0, 1) := by decide +kernel
theorem dX9_reading_39 : decode cX9_reading 39 = .ok (.getfield 65, 3) := by decide +kernel
theorem dX9_reading_42 : decode cX9_reading 42 = .ok (.aload_n 0, 1) := by decide +kernel
theorem dX9_reading_43 : decode cX9_reading 43 = .ok (.getfield 117, 3) := by decide +kernel
theorem dX9_reading_46 : decode cX9_reading 46 = .ok (.iload_n 1, 1) := by decide +kernel
theorem dX9_reading_47 : decode cX9_reading 47 = .ok (.iastore, 1) := by decide +kernel
theorem dX9_reading_48 : decode cX9_reading 48 = .ok (.aload_n 0, 1) := by decide +kernel
theorem dX9_reading_49 : decode cX9_reading 49 = .ok (.getfield 68, 3) := by decide +kernel
theorem dX9_reading_52 : decode cX9_reading 52 = .ok (.aload_n 0, 1) := by decide +kernel
theorem dX9_reading_53 : decode cX9_reading 53 = .ok (.getfield 117, 3) := by decide +kernel
theorem dX9_reading_56 : decode cX9_reading 56 = .ok (.lload_n 2, 1) := by decide +kernel
theorem dX9_reading_57 : decode cX9_reading 57 = .ok (.lastore, 1) := by decide +kernel
theorem dX9_reading_58 : decode cX9_reading 58 = .ok (.aload_n 0, 1) := by decide +kernel
theorem dX9_reading_59 : decode cX9_reading 59 = .ok (.dup, 1) := by decide +kernel
theorem dX9_reading_60 : decode cX9_reading 60 = .ok (.getfield 117, 3) := by decide +kernel
theorem dX9_reading_63 : decode cX9_reading 63 = .ok (.iconst 1, 1) := by decide +kernel
theorem dX9_reading_64 : decode cX9_reading 64 = .ok (.iadd, 1) := by decide +kernel
theorem dX9_reading_65 : decode cX9_reading 65 = .ok (.putfield 117, 3) := by decide +kernel
theorem dX9_reading_68 : decode cX9_reading 68 = .ok (.aload_n 0, 1) := by decide +kernel
theorem dX9_reading_69 : decode cX9_reading 69 = .ok (.getfield 117, 3) := by decide +kernel
theorem dX9_reading_72 : decode cX9_reading 72 = .ok (.iconst 1, 1) := by decide +kernel
theorem dX9_reading_73 : decode cX9_reading 73 = .ok (.isub, 1) := by decide +kernel
theorem dX9_reading_74 : decode cX9_reading 74 = .ok (.ireturn, 1) := by decide +kernel
set_option maxRecDepth 20000 in
theorem ggX9_back_X9_within : GoodIn wsX9_back wsX9_within := goodIn_r _ [5] (by decide +kernel) (by decide +kernel)
set_option maxRecDepth 20000 in
theorem gX9_back_X9_within : GoodIn wsX9_back (va_wsS RX9 77 yX9_within wsX9_within) := goodIn_app (goodIn_of _ (by decide +kernel)) ggX9_back_X9_within
theorem dX9_back_0 : decode cX9_back 0 = .ok (.iload_n 1, 1) := by decide +kernel
theorem dX9_back_1 : decode cX9_back 1 = .ok (.iconst 0, 1) := by decide +kernel
theorem dX9_back_2 : decode cX9_back 2 = .ok (.aload_n 0, 1) := by decide +kernel
theorem dX9_back_3 : decode cX9_back 3 = .ok (.getfield 117, 3) := by decide +kernel
theorem dX9_back_6 : decode cX9_back 6 = .ok (.invokestatic 77, 3) := by decide +kernel
theorem dX9_back_9 : decode cX9_back 9 = .ok (.ifCond .ne 6, 3) := by decide +kernel
theorem dX9_back_12 : decode cX9_back 12 = .ok (.bipush (-2), 2) := by decide +kernel
theorem dX9_back_14 : decode cX9_back 14 = .ok (.ireturn, 1) := by decide +kernel
theorem dX9_back_15 : decode cX9_back 15 = .ok (.aload_n 0, 1) := by decide +kernel
theorem dX9_back_16 : decode cX9_back 16 = .ok (.dup, 1) := by decide +kernel
theorem dX9_back_17 : decode cX9_back 17 = .ok (.getfield 117, 3) := by decide +kernel
theorem dX9_back_20 : decode cX9_back 20 = .ok (.iload_n 1, 1) := by decide +kernel
theorem dX9_back_21 : decode cX9_back 21 = .ok (.isub, 1) := by decide +kernel
theorem dX9_back_22 : decode cX9_back 22 = .ok (.putfield 117, 3) := by decide +kernel
theorem dX9_back_25 : decode cX9_back 25 = .ok (.aload_n 0, 1) := by decide +kernel
theorem dX9_back_26 : decode cX9_back 26 = .ok (.getfield 117, 3) := by decide +kernel
theorem dX9_back_29 : decode cX9_back 29 = .ok (.ireturn, 1) := by decide +kernel
set_option maxRecDepth 20000 in
theorem ggX9_areSo_X9_keep : GoodIn wsX9_areSo wsX9_keep := goodIn_r _ [16, 1, 17, 2, 18, 19, 38, 39, 40, 41, 42, 43, 44, 45, 46, 47, 48, 49, 50, 51, 52, 53, 54, 55, 56, 57, 58, 59, 60, 61, 62, 63, 64, 65, 66, 67, 68] (by decide +kernel) (by decide +kernel)
set_option maxRecDepth 20000 in
theorem gX9_areSo_X9_keep : GoodIn wsX9_areSo (wsV RX9 176 RX9 yX9_keep wsX9_keep) := goodIn_app (goodIn_of _ (by decide +kernel)) ggX9_areSo_X9_keep
set_option maxRecDepth 20000 in
theorem ggX9_areSo_X9_does : GoodIn wsX9_areSo wsX9_does := goodIn_r _ [23, 2, 19, 24, 25, 26, 15, 27, 28, 29, 30, 31, 32, 33, 38, 39, 40, 41, 42, 43, 44, 45, 46, 47, 48, 49, 50, 51, 52, 53, 54, 55, 56, 57, 58, 59, 60, 61, 62, 63, 64, 65, 66, 67, 68] (by decide +kernel) (by decide +kernel)
set_option maxRecDepth 20000 in
theorem gX9_areSo_X9_does : GoodIn wsX9_areSo (wsV RX9 161 RX9 yX9_does wsX9_does) := goodIn_app (goodIn_of _ (by decide +kernel)) ggX9_areSo_X9_does
set_option maxRecDepth 20000 in
theorem ggX9_areSo_X9_putBack : GoodIn wsX9_areSo wsX9_putBack := goodIn_r _ [37, 1, 2, 17, 19, 18, 38, 39, 40, 41, 42, 43, 44, 45, 46, 47, 48, 49, 50, 51, 52, 53, 54, 55, 56, 57, 58, 59, 60, 61, 62, 63, 64, 65, 66, 67, 68] (by decide +kernel) (by decide +kernel)
set_option maxRecDepth 20000 in
theorem gX9_areSo_X9_putBack : GoodIn wsX9_areSo (wsV RX9 186 RX9 yX9_putBack wsX9_putBack) := goodIn_app (goodIn_of _ (by decide +kernel)) ggX9_areSo_X9_putBack
theorem dX9_areSo_0 : decode cX9_areSo 0 = .ok (.aload_n 0, 1) := by decide +kernel
theorem dX9_areSo_1 : decode cX9_areSo 1 = .ok (.invokevirtual 176, 3) := by decide +kernel
theorem dX9_areSo_4 : decode cX9_areSo 4 = .ok (.iconst 0, 1) := by decide +kernel
theorem dX9_areSo_5 : decode cX9_areSo 5 = .ok (.istore_n 1, 1) := by decide +kernel
theorem dX9_areSo_6 : decode cX9_areSo 6 = .ok (.iload_n 1, 1) := by decide +kernel
theorem dX9_areSo_7 : decode cX9_areSo 7 = .ok (.aload_n 0, 1) := by decide +kernel
theorem dX9_areSo_8 : decode cX9_areSo 8 = .ok (.getfield 81, 3) := by decide +kernel
theorem dX9_areSo_11 : decode cX9_areSo 11 = .ok (.if_icmp .ge 21, 3) := by decide +kernel
theorem dX9_areSo_14 : decode cX9_areSo 14 = .ok (.aload_n 0, 1) := by decide +kernel
theorem dX9_areSo_15 : decode cX9_areSo 15 = .ok (.getfield 19, 3) := by decide +kernel
theorem dX9_areSo_18 : decode cX9_areSo 18 = .ok (.iload_n 1, 1) := by decide +kernel
theorem dX9_areSo_19 : decode cX9_areSo 19 = .ok (.aload_n 0, 1) := by decide +kernel
theorem dX9_areSo_20 : decode cX9_areSo 20 = .ok (.getfield 26, 3) := by decide +kernel
theorem dX9_areSo_23 : decode cX9_areSo 23 = .ok (.iload_n 1, 1) := by decide +kernel
theorem dX9_areSo_24 : decode cX9_areSo 24 = .ok (.laload, 1) := by decide +kernel
theorem dX9_areSo_25 : decode cX9_areSo 25 = .ok (.lastore, 1) := by decide +kernel
theorem dX9_areSo_26 : decode cX9_areSo 26 = .ok (.iinc 1 1, 3) := by decide +kernel
theorem dX9_areSo_29 : decode cX9_areSo 29 = .ok (.goto (-23), 3) := by decide +kernel
theorem dX9_areSo_32 : decode cX9_areSo 32 = .ok (.iconst 0, 1) := by decide +kernel
theorem dX9_areSo_33 : decode cX9_areSo 33 = .ok (.istore_n 1, 1) := by decide +kernel
theorem dX9_areSo_34 : decode cX9_areSo 34 = .ok (.iload_n 1, 1) := by decide +kernel
theorem dX9_areSo_35 : decode cX9_areSo 35 = .ok (.aload_n 0, 1) := by decide +kernel
theorem dX9_areSo_36 : decode cX9_areSo 36 = .ok (.getfield 120, 3) := by decide +kernel
theorem dX9_areSo_39 : decode cX9_areSo 39 = .ok (.if_icmp .ge 38, 3) := by decide +kernel
theorem dX9_areSo_42 : decode cX9_areSo 42 = .ok (.aload_n 0, 1) := by decide +kernel
theorem dX9_areSo_43 : decode cX9_areSo 43 = .ok (.aload_n 0, 1) := by decide +kernel
theorem dX9_areSo_44 : decode cX9_areSo 44 = .ok (.getfield 35, 3) := by decide +kernel
theorem dX9_areSo_47 : decode cX9_areSo 47 = .ok (.iload_n 1, 1) := by decide +kernel
theorem dX9_areSo_48 : decode cX9_areSo 48 = .ok (.iaload, 1) := by decide +kernel
theorem dX9_areSo_49 : decode cX9_areSo 49 = .ok (.aload_n 0, 1) := by decide +kernel
theorem dX9_areSo_50 : decode cX9_areSo 50 = .ok (.getfield 38, 3) := by decide +kernel
theorem dX9_areSo_53 : decode cX9_areSo 53 = .ok (.iload_n 1, 1) := by decide +kernel
theorem dX9_areSo_54 : decode cX9_areSo 54 = .ok (.iaload, 1) := by decide +kernel
theorem dX9_areSo_55 : decode cX9_areSo 55 = .ok (.aload_n 0, 1) := by decide +kernel
theorem dX9_areSo_56 : decode cX9_areSo 56 = .ok (.getfield 41, 3) := by decide +kernel
theorem dX9_areSo_59 : decode cX9_areSo 59 = .ok (.iload_n 1, 1) := by decide +kernel
theorem dX9_areSo_60 : decode cX9_areSo 60 = .ok (.iaload, 1) := by decide +kernel
theorem dX9_areSo_61 : decode cX9_areSo 61 = .ok (.aload_n 0, 1) := by decide +kernel
theorem dX9_areSo_62 : decode cX9_areSo 62 = .ok (.getfield 44, 3) := by decide +kernel
theorem dX9_areSo_65 : decode cX9_areSo 65 = .ok (.iload_n 1, 1) := by decide +kernel
theorem dX9_areSo_66 : decode cX9_areSo 66 = .ok (.laload, 1) := by decide +kernel
theorem dX9_areSo_67 : decode cX9_areSo 67 = .ok (.invokevirtual 161, 3) := by decide +kernel
theorem dX9_areSo_70 : decode cX9_areSo 70 = .ok (.pop, 1) := by decide +kernel
theorem dX9_areSo_71 : decode cX9_areSo 71 = .ok (.iinc 1 1, 3) := by decide +kernel
theorem dX9_areSo_74 : decode cX9_areSo 74 = .ok (.goto (-40), 3) := by decide +kernel
theorem dX9_areSo_77 : decode cX9_areSo 77 = .ok (.iconst 1, 1) := by decide +kernel
theorem dX9_areSo_78 : decode cX9_areSo 78 = .ok (.istore_n 1, 1) := by decide +kernel
theorem dX9_areSo_79 : decode cX9_areSo 79 = .ok (.iconst 0, 1) := by decide +kernel
theorem dX9_areSo_80 : decode cX9_areSo 80 = .ok (.istore_n 2, 1) := by decide +kernel
theorem dX9_areSo_81 : decode cX9_areSo 81 = .ok (.iload_n 2, 1) := by decide +kernel
theorem dX9_areSo_82 : decode cX9_areSo 82 = .ok (.aload_n 0, 1) := by decide +kernel
theorem dX9_areSo_83 : decode cX9_areSo 83 = .ok (.getfield 117, 3) := by decide +kernel
theorem dX9_areSo_86 : decode cX9_areSo 86 = .ok (.if_icmp .ge 40, 3) := by decide +kernel
theorem dX9_areSo_89 : decode cX9_areSo 89 = .ok (.iload_n 1, 1) := by decide +kernel
theorem dX9_areSo_90 : decode cX9_areSo 90 = .ok (.ifCond .eq 28, 3) := by decide +kernel
theorem dX9_areSo_93 : decode cX9_areSo 93 = .ok (.aload_n 0, 1) := by decide +kernel
theorem dX9_areSo_94 : decode cX9_areSo 94 = .ok (.getfield 19, 3) := by decide +kernel
theorem dX9_areSo_97 : decode cX9_areSo 97 = .ok (.aload_n 0, 1) := by decide +kernel
theorem dX9_areSo_98 : decode cX9_areSo 98 = .ok (.getfield 65, 3) := by decide +kernel
theorem dX9_areSo_101 : decode cX9_areSo 101 = .ok (.iload_n 2, 1) := by decide +kernel
theorem dX9_areSo_102 : decode cX9_areSo 102 = .ok (.iaload, 1) := by decide +kernel
theorem dX9_areSo_103 : decode cX9_areSo 103 = .ok (.laload, 1) := by decide +kernel
theorem dX9_areSo_104 : decode cX9_areSo 104 = .ok (.aload_n 0, 1) := by decide +kernel
theorem dX9_areSo_105 : decode cX9_areSo 105 = .ok (.getfield 68, 3) := by decide +kernel
theorem dX9_areSo_108 : decode cX9_areSo 108 = .ok (.iload_n 2, 1) := by decide +kernel
theorem dX9_areSo_109 : decode cX9_areSo 109 = .ok (.laload, 1) := by decide +kernel
theorem dX9_areSo_110 : decode cX9_areSo 110 = .ok (.lcmp, 1) := by decide +kernel
theorem dX9_areSo_111 : decode cX9_areSo 111 = .ok (.ifCond .ne 7, 3) := by decide +kernel
theorem dX9_areSo_114 : decode cX9_areSo 114 = .ok (.iconst 1, 1) := by decide +kernel
theorem dX9_areSo_115 : decode cX9_areSo 115 = .ok (.goto 4, 3) := by decide +kernel
theorem dX9_areSo_118 : decode cX9_areSo 118 = .ok (.iconst 0, 1) := by decide +kernel
theorem dX9_areSo_119 : decode cX9_areSo 119 = .ok (.istore_n 1, 1) := by decide +kernel
theorem dX9_areSo_120 : decode cX9_areSo 120 = .ok (.iinc 2 1, 3) := by decide +kernel
theorem dX9_areSo_123 : decode cX9_areSo 123 = .ok (.goto (-42), 3) := by decide +kernel
theorem dX9_areSo_126 : decode cX9_areSo 126 = .ok (.aload_n 0, 1) := by decide +kernel
theorem dX9_areSo_127 : decode cX9_areSo 127 = .ok (.invokevirtual 186, 3) := by decide +kernel
theorem dX9_areSo_130 : decode cX9_areSo 130 = .ok (.iload_n 1, 1) := by decide +kernel
theorem dX9_areSo_131 : decode cX9_areSo 131 = .ok (.ireturn, 1) := by decide +kernel
set_option maxRecDepth 20000 in
theorem ggX9_kinds_X9_isHelper : GoodIn wsX9_kinds wsX9_isHelper := goodIn_r _ [6, 7, 47, 48, 49, 50, 51, 52, 53, 54, 55, 56, 57, 58, 59, 60, 61, 62, 63, 64, 65, 66, 67, 68, 69, 70, 71, 72, 73, 74, 75, 76, 77] (by decide +kernel) (by decide +kernel)
set_option maxRecDepth 20000 in
theorem gX9_kinds_X9_isHelper : GoodIn wsX9_kinds (wsV RX9 133 RX9 yX9_isHelper wsX9_isHelper) := goodIn_app (goodIn_of _ (by decide +kernel)) ggX9_kinds_X9_isHelper
set_option maxRecDepth 20000 in
theorem ggX9_kinds_X9_areSo : GoodIn wsX9_kinds wsX9_areSo := goodIn_r _ [11, 12, 13, 14, 15, 16, 17, 18, 19, 20, 21, 22, 23, 24, 25, 5, 26, 27, 28, 29, 30, 31, 32, 33, 34, 35, 36, 37, 1, 38, 39, 40, 41, 42, 43, 44, 45, 46, 47, 48, 49, 50, 51, 52, 53, 54, 55, 56, 57, 58, 59, 60, 61, 62, 63, 64, 65, 66, 67, 68, 69, 70, 71, 72, 73, 74, 75, 76, 77] (by decide +kernel) (by decide +kernel)
set_option maxRecDepth 20000 in
theorem gX9_kinds_X9_areSo : GoodIn wsX9_kinds (wsV RX9 228 RX9 yX9_areSo wsX9_areSo) := goodIn_app (goodIn_of _ (by decide +kernel)) ggX9_kinds_X9_areSo
theorem dX9_kinds_0 : decode cX9_kinds 0 = .ok (.aload_n 0, 1) := by decide +kernel
theorem dX9_kinds_1 : decode cX9_kinds 1 = .ok (.iload_n 1, 1) := by decide +kernel
theorem dX9_kinds_2 : decode cX9_kinds 2 = .ok (.invokevirtual 133, 3) := by decide +kernel
theorem dX9_kinds_5 : decode cX9_kinds 5 = .ok (.ifCond .ne 5, 3) := by decide +kernel
theorem dX9_kinds_8 : decode cX9_kinds 8 = .ok (.iconst (-1), 1) := by decide +kernel
theorem dX9_kinds_9 : decode cX9_kinds 9 = .ok (.ireturn, 1) := by decide +kernel
theorem dX9_kinds_10 : decode cX9_kinds 10 = .ok (.aload_n 0, 1) := by decide +kernel
theorem dX9_kinds_11 : decode cX9_kinds 11 = .ok (.getfield 29, 3) := by decide +kernel
theorem dX9_kinds_14 : decode cX9_kinds 14 = .ok (.iload_n 1, 1) := by decide +kernel
theorem dX9_kinds_15 : decode cX9_kinds 15 = .ok (.iaload, 1) := by decide +kernel
theorem dX9_kinds_16 : decode cX9_kinds 16 = .ok (.istore_n 2, 1) := by decide +kernel
theorem dX9_kinds_17 : decode cX9_kinds 17 = .ok (.iconst 0, 1) := by decide +kernel
theorem dX9_kinds_18 : decode cX9_kinds 18 = .ok (.istore_n 3, 1) := by decide +kernel
theorem dX9_kinds_19 : decode cX9_kinds 19 = .ok (.iconst 0, 1) := by decide +kernel
theorem dX9_kinds_20 : decode cX9_kinds 20 = .ok (.istore 4, 2) := by decide +kernel
theorem dX9_kinds_22 : decode cX9_kinds 22 = .ok (.iload 4, 2) := by decide +kernel
theorem dX9_kinds_24 : decode cX9_kinds 24 = .ok (.iconst 3, 1) := by decide +kernel
theorem dX9_kinds_25 : decode cX9_kinds 25 = .ok (.if_icmp .ge 35, 3) := by decide +kernel
theorem dX9_kinds_28 : decode cX9_kinds 28 = .ok (.aload_n 0, 1) := by decide +kernel
theorem dX9_kinds_29 : decode cX9_kinds 29 = .ok (.getfield 29, 3) := by decide +kernel
theorem dX9_kinds_32 : decode cX9_kinds 32 = .ok (.iload_n 1, 1) := by decide +kernel
theorem dX9_kinds_33 : decode cX9_kinds 33 = .ok (.iload 4, 2) := by decide +kernel
theorem dX9_kinds_35 : decode cX9_kinds 35 = .ok (.iastore, 1) := by decide +kernel
theorem dX9_kinds_36 : decode cX9_kinds 36 = .ok (.iload_n 3, 1) := by decide +kernel
theorem dX9_kinds_37 : decode cX9_kinds 37 = .ok (.aload_n 0, 1) := by decide +kernel
theorem dX9_kinds_38 : decode cX9_kinds 38 = .ok (.invokevirtual 228, 3) := by decide +kernel
theorem dX9_kinds_41 : decode cX9_kinds 41 = .ok (.ifCond .eq 10, 3) := by decide +kernel
theorem dX9_kinds_44 : decode cX9_kinds 44 = .ok (.iconst 1, 1) := by decide +kernel
theorem dX9_kinds_45 : decode cX9_kinds 45 = .ok (.iload 4, 2) := by decide +kernel
theorem dX9_kinds_47 : decode cX9_kinds 47 = .ok (.ishl, 1) := by decide +kernel
theorem dX9_kinds_48 : decode cX9_kinds 48 = .ok (.goto 4, 3) := by decide +kernel
theorem dX9_kinds_51 : decode cX9_kinds 51 = .ok (.iconst 0, 1) := by decide +kernel
theorem dX9_kinds_52 : decode cX9_kinds 52 = .ok (.ior, 1) := by decide +kernel
theorem dX9_kinds_53 : decode cX9_kinds 53 = .ok (.istore_n 3, 1) := by decide +kernel
theorem dX9_kinds_54 : decode cX9_kinds 54 = .ok (.iinc 4 1, 3) := by decide +kernel
theorem dX9_kinds_57 : decode cX9_kinds 57 = .ok (.goto (-35), 3) := by decide +kernel
theorem dX9_kinds_60 : decode cX9_kinds 60 = .ok (.aload_n 0, 1) := by decide +kernel
theorem dX9_kinds_61 : decode cX9_kinds 61 = .ok (.getfield 29, 3) := by decide +kernel
theorem dX9_kinds_64 : decode cX9_kinds 64 = .ok (.iload_n 1, 1) := by decide +kernel
theorem dX9_kinds_65 : decode cX9_kinds 65 = .ok (.iload_n 2, 1) := by decide +kernel
theorem dX9_kinds_66 : decode cX9_kinds 66 = .ok (.iastore, 1) := by decide +kernel
theorem dX9_kinds_67 : decode cX9_kinds 67 = .ok (.iload_n 3, 1) := by decide +kernel
theorem dX9_kinds_68 : decode cX9_kinds 68 = .ok (.ireturn, 1) := by decide +kernel
set_option maxRecDepth 20000 in
theorem ggX9_paces_X9_isHelper : GoodIn wsX9_paces wsX9_isHelper := goodIn_r _ [6, 7, 47, 48, 49, 50, 51, 52, 53, 54, 55, 56, 57, 58, 59, 60, 61, 62, 63, 64, 65, 66, 67, 68, 69, 70, 71, 72, 73, 74, 75, 76, 77] (by decide +kernel) (by decide +kernel)
set_option maxRecDepth 20000 in
theorem gX9_paces_X9_isHelper : GoodIn wsX9_paces (wsV RX9 133 RX9 yX9_isHelper wsX9_isHelper) := goodIn_app (goodIn_of _ (by decide +kernel)) ggX9_paces_X9_isHelper
set_option maxRecDepth 20000 in
theorem ggX9_paces_X9_areSo : GoodIn wsX9_paces wsX9_areSo := goodIn_r _ [11, 12, 13, 14, 15, 16, 17, 18, 19, 20, 21, 22, 23, 24, 25, 5, 26, 27, 28, 29, 30, 31, 32, 33, 34, 35, 36, 37, 38, 1, 39, 40, 41, 42, 43, 44, 45, 46, 47, 48, 49, 50, 51, 52, 53, 54, 55, 56, 57, 58, 59, 60, 61, 62, 63, 64, 65, 66, 67, 68, 69, 70, 71, 72, 73, 74, 75, 76, 77] (by decide +kernel) (by decide +kernel)
set_option maxRecDepth 20000 in
theorem gX9_paces_X9_areSo : GoodIn wsX9_paces (wsV RX9 228 RX9 yX9_areSo wsX9_areSo) := goodIn_app (goodIn_of _ (by decide +kernel)) ggX9_paces_X9_areSo
theorem dX9_paces_0 : decode cX9_paces 0 = .ok (.aload_n 0, 1) := by decide +kernel
theorem dX9_paces_1 : decode cX9_paces 1 = .ok (.iload_n 1, 1) := by decide +kernel
theorem dX9_paces_2 : decode cX9_paces 2 = .ok (.invokevirtual 133, 3) := by decide +kernel
theorem dX9_paces_5 : decode cX9_paces 5 = .ok (.ifCond .ne 5, 3) := by decide +kernel
theorem dX9_paces_8 : decode cX9_paces 8 = .ok (.iconst (-1), 1) := by decide +kernel
theorem dX9_paces_9 : decode cX9_paces 9 = .ok (.ireturn, 1) := by decide +kernel
theorem dX9_paces_10 : decode cX9_paces 10 = .ok (.aload_n 0, 1) := by decide +kernel
theorem dX9_paces_11 : decode cX9_paces 11 = .ok (.getfield 32, 3) := by decide +kernel
theorem dX9_paces_14 : decode cX9_paces 14 = .ok (.iload_n 1, 1) := by decide +kernel
theorem dX9_paces_15 : decode cX9_paces 15 = .ok (.iaload, 1) := by decide +kernel
theorem dX9_paces_16 : decode cX9_paces 16 = .ok (.istore_n 2, 1) := by decide +kernel
theorem dX9_paces_17 : decode cX9_paces 17 = .ok (.iconst 0, 1) := by decide +kernel
theorem dX9_paces_18 : decode cX9_paces 18 = .ok (.istore_n 3, 1) := by decide +kernel
theorem dX9_paces_19 : decode cX9_paces 19 = .ok (.iconst 0, 1) := by decide +kernel
theorem dX9_paces_20 : decode cX9_paces 20 = .ok (.istore 4, 2) := by decide +kernel
theorem dX9_paces_22 : decode cX9_paces 22 = .ok (.iload 4, 2) := by decide +kernel
theorem dX9_paces_24 : decode cX9_paces 24 = .ok (.bipush 9, 2) := by decide +kernel
theorem dX9_paces_26 : decode cX9_paces 26 = .ok (.if_icmp .gt 35, 3) := by decide +kernel
theorem dX9_paces_29 : decode cX9_paces 29 = .ok (.aload_n 0, 1) := by decide +kernel
theorem dX9_paces_30 : decode cX9_paces 30 = .ok (.getfield 32, 3) := by decide +kernel
theorem dX9_paces_33 : decode cX9_paces 33 = .ok (.iload_n 1, 1) := by decide +kernel
theorem dX9_paces_34 : decode cX9_paces 34 = .ok (.iload 4, 2) := by decide +kernel
theorem dX9_paces_36 : decode cX9_paces 36 = .ok (.iastore, 1) := by decide +kernel
theorem dX9_paces_37 : decode cX9_paces 37 = .ok (.iload_n 3, 1) := by decide +kernel
theorem dX9_paces_38 : decode cX9_paces 38 = .ok (.aload_n 0, 1) := by decide +kernel
theorem dX9_paces_39 : decode cX9_paces 39 = .ok (.invokevirtual 228, 3) := by decide +kernel
theorem dX9_paces_42 : decode cX9_paces 42 = .ok (.ifCond .eq 10, 3) := by decide +kernel
theorem dX9_paces_45 : decode cX9_paces 45 = .ok (.iconst 1, 1) := by decide +kernel
theorem dX9_paces_46 : decode cX9_paces 46 = .ok (.iload 4, 2) := by decide +kernel
theorem dX9_paces_48 : decode cX9_paces 48 = .ok (.ishl, 1) := by decide +kernel
theorem dX9_paces_49 : decode cX9_paces 49 = .ok (.goto 4, 3) := by decide +kernel
theorem dX9_paces_52 : decode cX9_paces 52 = .ok (.iconst 0, 1) := by decide +kernel
theorem dX9_paces_53 : decode cX9_paces 53 = .ok (.ior, 1) := by decide +kernel
theorem dX9_paces_54 : decode cX9_paces 54 = .ok (.istore_n 3, 1) := by decide +kernel
theorem dX9_paces_55 : decode cX9_paces 55 = .ok (.iinc 4 1, 3) := by decide +kernel
theorem dX9_paces_58 : decode cX9_paces 58 = .ok (.goto (-36), 3) := by decide +kernel
theorem dX9_paces_61 : decode cX9_paces 61 = .ok (.aload_n 0, 1) := by decide +kernel
theorem dX9_paces_62 : decode cX9_paces 62 = .ok (.getfield 32, 3) := by decide +kernel
theorem dX9_paces_65 : decode cX9_paces 65 = .ok (.iload_n 1, 1) := by decide +kernel
theorem dX9_paces_66 : decode cX9_paces 66 = .ok (.iload_n 2, 1) := by decide +kernel
theorem dX9_paces_67 : decode cX9_paces 67 = .ok (.iastore, 1) := by decide +kernel
theorem dX9_paces_68 : decode cX9_paces 68 = .ok (.iload_n 3, 1) := by decide +kernel
theorem dX9_paces_69 : decode cX9_paces 69 = .ok (.ireturn, 1) := by decide +kernel
theorem dX9_inLeastTerms_0 : decode cX9_inLeastTerms 0 = .ok (.lload_n 0, 1) := by decide +kernel
theorem dX9_inLeastTerms_1 : decode cX9_inLeastTerms 1 = .ok (.lstore 5, 2) := by decide +kernel
theorem dX9_inLeastTerms_3 : decode cX9_inLeastTerms 3 = .ok (.lload_n 2, 1) := by decide +kernel
theorem dX9_inLeastTerms_4 : decode cX9_inLeastTerms 4 = .ok (.lstore 7, 2) := by decide +kernel
theorem dX9_inLeastTerms_6 : decode cX9_inLeastTerms 6 = .ok (.lload 7, 2) := by decide +kernel
theorem dX9_inLeastTerms_8 : decode cX9_inLeastTerms 8 = .ok (.lconst 0, 1) := by decide +kernel
theorem dX9_inLeastTerms_9 : decode cX9_inLeastTerms 9 = .ok (.lcmp, 1) := by decide +kernel
theorem dX9_inLeastTerms_10 : decode cX9_inLeastTerms 10 = .ok (.ifCond .eq 21, 3) := by decide +kernel
theorem dX9_inLeastTerms_13 : decode cX9_inLeastTerms 13 = .ok (.lload 5, 2) := by decide +kernel
theorem dX9_inLeastTerms_15 : decode cX9_inLeastTerms 15 = .ok (.lload 7, 2) := by decide +kernel
theorem dX9_inLeastTerms_17 : decode cX9_inLeastTerms 17 = .ok (.lrem, 1) := by decide +kernel
theorem dX9_inLeastTerms_18 : decode cX9_inLeastTerms 18 = .ok (.lstore 9, 2) := by decide +kernel
theorem dX9_inLeastTerms_20 : decode cX9_inLeastTerms 20 = .ok (.lload 7, 2) := by decide +kernel
theorem dX9_inLeastTerms_22 : decode cX9_inLeastTerms 22 = .ok (.lstore 5, 2) := by decide +kernel
theorem dX9_inLeastTerms_24 : decode cX9_inLeastTerms 24 = .ok (.lload 9, 2) := by decide +kernel
theorem dX9_inLeastTerms_26 : decode cX9_inLeastTerms 26 = .ok (.lstore 7, 2) := by decide +kernel
theorem dX9_inLeastTerms_28 : decode cX9_inLeastTerms 28 = .ok (.goto (-22), 3) := by decide +kernel
theorem dX9_inLeastTerms_31 : decode cX9_inLeastTerms 31 = .ok (.iload 4, 2) := by decide +kernel
theorem dX9_inLeastTerms_33 : decode cX9_inLeastTerms 33 = .ok (.ifCond .ne 10, 3) := by decide +kernel
theorem dX9_inLeastTerms_36 : decode cX9_inLeastTerms 36 = .ok (.lload_n 0, 1) := by decide +kernel
theorem dX9_inLeastTerms_37 : decode cX9_inLeastTerms 37 = .ok (.lload 5, 2) := by decide +kernel
theorem dX9_inLeastTerms_39 : decode cX9_inLeastTerms 39 = .ok (.ldiv, 1) := by decide +kernel
theorem dX9_inLeastTerms_40 : decode cX9_inLeastTerms 40 = .ok (.goto 7, 3) := by decide +kernel
theorem dX9_inLeastTerms_43 : decode cX9_inLeastTerms 43 = .ok (.lload_n 2, 1) := by decide +kernel
theorem dX9_inLeastTerms_44 : decode cX9_inLeastTerms 44 = .ok (.lload 5, 2) := by decide +kernel
theorem dX9_inLeastTerms_46 : decode cX9_inLeastTerms 46 = .ok (.ldiv, 1) := by decide +kernel
theorem dX9_inLeastTerms_47 : decode cX9_inLeastTerms 47 = .ok (.lreturn, 1) := by decide +kernel
set_option maxRecDepth 20000 in
theorem ggX9_odds_X9_isCell : GoodIn wsX9_odds wsX9_isCell := goodIn_r _ [7, 8, 15, 16, 17, 18, 19, 20, 21, 22, 23, 24, 25, 26, 27, 28, 29, 30, 31, 32, 33, 34, 35, 36, 37, 38, 39, 40, 41, 42, 43, 44, 45] (by decide +kernel) (by decide +kernel)
set_option maxRecDepth 20000 in
theorem gX9_odds_X9_isCell : GoodIn wsX9_odds (wsV RX9 142 RX9 yX9_isCell wsX9_isCell) := goodIn_app (goodIn_of _ (by decide +kernel)) ggX9_odds_X9_isCell
set_option maxRecDepth 20000 in
theorem ggX9_odds_X9_within : GoodIn wsX9_odds wsX9_within := goodIn_r _ [11] (by decide +kernel) (by decide +kernel)
set_option maxRecDepth 20000 in
theorem gX9_odds_X9_within : GoodIn wsX9_odds (va_wsS RX9 77 yX9_within wsX9_within) := goodIn_app (goodIn_of _ (by decide +kernel)) ggX9_odds_X9_within
set_option maxRecDepth 20000 in
theorem ggX9_odds_X9_inLeastTerms : GoodIn wsX9_odds wsX9_inLeastTerms := goodIn_r _ [14] (by decide +kernel) (by decide +kernel)
set_option maxRecDepth 20000 in
theorem gX9_odds_X9_inLeastTerms : GoodIn wsX9_odds (va_wsS RX9 232 yX9_inLeastTerms wsX9_inLeastTerms) := goodIn_app (goodIn_of _ (by decide +kernel)) ggX9_odds_X9_inLeastTerms
theorem dX9_odds_0 : decode cX9_odds 0 = .ok (.aload_n 0, 1) := by decide +kernel
theorem dX9_odds_1 : decode cX9_odds 1 = .ok (.iload_n 1, 1) := by decide +kernel
theorem dX9_odds_2 : decode cX9_odds 2 = .ok (.invokevirtual 142, 3) := by decide +kernel
theorem dX9_odds_5 : decode cX9_odds 5 = .ok (.ifCond .eq 26, 3) := by decide +kernel
theorem dX9_odds_8 : decode cX9_odds 8 = .ok (.aload_n 0, 1) := by decide +kernel
theorem dX9_odds_9 : decode cX9_odds 9 = .ok (.iload_n 2, 1) := by decide +kernel
theorem dX9_odds_10 : decode cX9_odds 10 = .ok (.invokevirtual 142, 3) := by decide +kernel
theorem dX9_odds_13 : decode cX9_odds 13 = .ok (.ifCond .eq 18, 3) := by decide +kernel
theorem dX9_odds_16 : decode cX9_odds 16 = .ok (.iload_n 1, 1) := by decide +kernel
theorem dX9_odds_17 : decode cX9_odds 17 = .ok (.iload_n 2, 1) := by decide +kernel
theorem dX9_odds_18 : decode cX9_odds 18 = .ok (.if_icmp .gt 13, 3) := by decide +kernel
theorem dX9_odds_21 : decode cX9_odds 21 = .ok (.iload 5, 2) := by decide +kernel
theorem dX9_odds_23 : decode cX9_odds 23 = .ok (.iconst 0, 1) := by decide +kernel
theorem dX9_odds_24 : decode cX9_odds 24 = .ok (.iconst 1, 1) := by decide +kernel
theorem dX9_odds_25 : decode cX9_odds 25 = .ok (.invokestatic 77, 3) := by decide +kernel
theorem dX9_odds_28 : decode cX9_odds 28 = .ok (.ifCond .ne 7, 3) := by decide +kernel
theorem dX9_odds_31 : decode cX9_odds 31 = .ok (.ldc2_w 75, 3) := by decide +kernel
theorem dX9_odds_34 : decode cX9_odds 34 = .ok (.lreturn, 1) := by decide +kernel
theorem dX9_odds_35 : decode cX9_odds 35 = .ok (.iconst 0, 1) := by decide +kernel
theorem dX9_odds_36 : decode cX9_odds 36 = .ok (.istore 6, 2) := by decide +kernel
theorem dX9_odds_38 : decode cX9_odds 38 = .ok (.iload_n 1, 1) := by decide +kernel
theorem dX9_odds_39 : decode cX9_odds 39 = .ok (.istore 7, 2) := by decide +kernel
theorem dX9_odds_41 : decode cX9_odds 41 = .ok (.iload 7, 2) := by decide +kernel
theorem dX9_odds_43 : decode cX9_odds 43 = .ok (.iload_n 2, 1) := by decide +kernel
theorem dX9_odds_44 : decode cX9_odds 44 = .ok (.if_icmp .gt 31, 3) := by decide +kernel
theorem dX9_odds_47 : decode cX9_odds 47 = .ok (.iload 6, 2) := by decide +kernel
theorem dX9_odds_49 : decode cX9_odds 49 = .ok (.aload_n 0, 1) := by decide +kernel
theorem dX9_odds_50 : decode cX9_odds 50 = .ok (.getfield 19, 3) := by decide +kernel
theorem dX9_odds_53 : decode cX9_odds 53 = .ok (.iload 7, 2) := by decide +kernel
theorem dX9_odds_55 : decode cX9_odds 55 = .ok (.laload, 1) := by decide +kernel
theorem dX9_odds_56 : decode cX9_odds 56 = .ok (.lload_n 3, 1) := by decide +kernel
theorem dX9_odds_57 : decode cX9_odds 57 = .ok (.lcmp, 1) := by decide +kernel
theorem dX9_odds_58 : decode cX9_odds 58 = .ok (.ifCond .lt 7, 3) := by decide +kernel
theorem dX9_odds_61 : decode cX9_odds 61 = .ok (.iconst 1, 1) := by decide +kernel
theorem dX9_odds_62 : decode cX9_odds 62 = .ok (.goto 4, 3) := by decide +kernel
theorem dX9_odds_65 : decode cX9_odds 65 = .ok (.iconst 0, 1) := by decide +kernel
theorem dX9_odds_66 : decode cX9_odds 66 = .ok (.iadd, 1) := by decide +kernel
theorem dX9_odds_67 : decode cX9_odds 67 = .ok (.istore 6, 2) := by decide +kernel
theorem dX9_odds_69 : decode cX9_odds 69 = .ok (.iinc 7 1, 3) := by decide +kernel
theorem dX9_odds_72 : decode cX9_odds 72 = .ok (.goto (-31), 3) := by decide +kernel
theorem dX9_odds_75 : decode cX9_odds 75 = .ok (.iload 6, 2) := by decide +kernel
theorem dX9_odds_77 : decode cX9_odds 77 = .ok (.i2l, 1) := by decide +kernel
theorem dX9_odds_78 : decode cX9_odds 78 = .ok (.iload_n 2, 1) := by decide +kernel
theorem dX9_odds_79 : decode cX9_odds 79 = .ok (.iload_n 1, 1) := by decide +kernel
theorem dX9_odds_80 : decode cX9_odds 80 = .ok (.isub, 1) := by decide +kernel
theorem dX9_odds_81 : decode cX9_odds 81 = .ok (.iconst 1, 1) := by decide +kernel
theorem dX9_odds_82 : decode cX9_odds 82 = .ok (.iadd, 1) := by decide +kernel
theorem dX9_odds_83 : decode cX9_odds 83 = .ok (.i2l, 1) := by decide +kernel
theorem dX9_odds_84 : decode cX9_odds 84 = .ok (.iload 5, 2) := by decide +kernel
theorem dX9_odds_86 : decode cX9_odds 86 = .ok (.invokestatic 232, 3) := by decide +kernel
theorem dX9_odds_89 : decode cX9_odds 89 = .ok (.lreturn, 1) := by decide +kernel
set_option maxRecDepth 20000 in
theorem ggX9_sheet_X9_isSheet : GoodIn wsX9_sheet wsX9_isSheet := goodIn_r _ [8, 9, 10, 7, 11] (by decide +kernel) (by decide +kernel)
set_option maxRecDepth 20000 in
theorem gX9_sheet_X9_isSheet : GoodIn wsX9_sheet (va_wsS RX9 90 yX9_isSheet wsX9_isSheet) := goodIn_app (goodIn_of _ (by decide +kernel)) ggX9_sheet_X9_isSheet
set_option maxRecDepth 20000 in
theorem ggX9_sheet_X9_isSort : GoodIn wsX9_sheet wsX9_isSort := goodIn_r _ [14, 9, 10, 7, 11] (by decide +kernel) (by decide +kernel)
set_option maxRecDepth 20000 in
theorem gX9_sheet_X9_isSort : GoodIn wsX9_sheet (va_wsS RX9 94 yX9_isSort wsX9_isSort) := goodIn_app (goodIn_of _ (by decide +kernel)) ggX9_sheet_X9_isSort
set_option maxRecDepth 20000 in
theorem ggX9_sheet_X9_fails : GoodIn wsX9_sheet wsX9_fails := goodIn_r _ [18, 1, 19, 20, 21, 22, 23, 24, 25, 26, 27, 28, 29, 30, 31, 32, 33, 34, 35, 36, 37, 38, 39, 40, 41, 42, 43, 44, 45, 46, 47, 48, 49] (by decide +kernel) (by decide +kernel)
set_option maxRecDepth 20000 in
theorem gX9_sheet_X9_fails : GoodIn wsX9_sheet (wsV RX9 101 RX9 yX9_fails wsX9_fails) := goodIn_app (goodIn_of _ (by decide +kernel)) ggX9_sheet_X9_fails
theorem dX9_sheet_0 : decode cX9_sheet 0 = .ok (.aload_n 0, 1) := by decide +kernel
theorem dX9_sheet_1 : decode cX9_sheet 1 = .ok (.iconst 0, 1) := by decide +kernel
theorem dX9_sheet_2 : decode cX9_sheet 2 = .ok (.putfield 71, 3) := by decide +kernel
theorem dX9_sheet_5 : decode cX9_sheet 5 = .ok (.iload_n 1, 1) := by decide +kernel
theorem dX9_sheet_6 : decode cX9_sheet 6 = .ok (.invokestatic 90, 3) := by decide +kernel
theorem dX9_sheet_9 : decode cX9_sheet 9 = .ok (.ifCond .ne 5, 3) := by decide +kernel
theorem dX9_sheet_12 : decode cX9_sheet 12 = .ok (.iconst (-1), 1) := by decide +kernel
theorem dX9_sheet_13 : decode cX9_sheet 13 = .ok (.ireturn, 1) := by decide +kernel
theorem dX9_sheet_14 : decode cX9_sheet 14 = .ok (.iload_n 2, 1) := by decide +kernel
theorem dX9_sheet_15 : decode cX9_sheet 15 = .ok (.invokestatic 94, 3) := by decide +kernel
theorem dX9_sheet_18 : decode cX9_sheet 18 = .ok (.ifCond .eq 9, 3) := by decide +kernel
theorem dX9_sheet_21 : decode cX9_sheet 21 = .ok (.iload_n 3, 1) := by decide +kernel
theorem dX9_sheet_22 : decode cX9_sheet 22 = .ok (.bipush 60, 2) := by decide +kernel
theorem dX9_sheet_24 : decode cX9_sheet 24 = .ok (.if_icmp .le 6, 3) := by decide +kernel
theorem dX9_sheet_27 : decode cX9_sheet 27 = .ok (.bipush (-2), 2) := by decide +kernel
theorem dX9_sheet_29 : decode cX9_sheet 29 = .ok (.ireturn, 1) := by decide +kernel
theorem dX9_sheet_30 : decode cX9_sheet 30 = .ok (.iload_n 3, 1) := by decide +kernel
theorem dX9_sheet_31 : decode cX9_sheet 31 = .ok (.ifCond .ge 9, 3) := by decide +kernel
theorem dX9_sheet_34 : decode cX9_sheet 34 = .ok (.aload_n 0, 1) := by decide +kernel
theorem dX9_sheet_35 : decode cX9_sheet 35 = .ok (.iconst 4, 1) := by decide +kernel
theorem dX9_sheet_36 : decode cX9_sheet 36 = .ok (.invokevirtual 101, 3) := by decide +kernel
theorem dX9_sheet_39 : decode cX9_sheet 39 = .ok (.ireturn, 1) := by decide +kernel
theorem dX9_sheet_40 : decode cX9_sheet 40 = .ok (.aload_n 0, 1) := by decide +kernel
theorem dX9_sheet_41 : decode cX9_sheet 41 = .ok (.getfield 9, 3) := by decide +kernel
theorem dX9_sheet_44 : decode cX9_sheet 44 = .ok (.iload_n 1, 1) := by decide +kernel
theorem dX9_sheet_45 : decode cX9_sheet 45 = .ok (.iload_n 2, 1) := by decide +kernel
theorem dX9_sheet_46 : decode cX9_sheet 46 = .ok (.iastore, 1) := by decide +kernel
theorem dX9_sheet_47 : decode cX9_sheet 47 = .ok (.aload_n 0, 1) := by decide +kernel
theorem dX9_sheet_48 : decode cX9_sheet 48 = .ok (.getfield 13, 3) := by decide +kernel
theorem dX9_sheet_51 : decode cX9_sheet 51 = .ok (.iload_n 1, 1) := by decide +kernel
theorem dX9_sheet_52 : decode cX9_sheet 52 = .ok (.iload_n 3, 1) := by decide +kernel
theorem dX9_sheet_53 : decode cX9_sheet 53 = .ok (.iastore, 1) := by decide +kernel
theorem dX9_sheet_54 : decode cX9_sheet 54 = .ok (.iconst 0, 1) := by decide +kernel
theorem dX9_sheet_55 : decode cX9_sheet 55 = .ok (.istore 4, 2) := by decide +kernel
theorem dX9_sheet_57 : decode cX9_sheet 57 = .ok (.iload 4, 2) := by decide +kernel
theorem dX9_sheet_59 : decode cX9_sheet 59 = .ok (.bipush 60, 2) := by decide +kernel
theorem dX9_sheet_61 : decode cX9_sheet 61 = .ok (.if_icmp .ge 22, 3) := by decide +kernel
theorem dX9_sheet_64 : decode cX9_sheet 64 = .ok (.aload_n 0, 1) := by decide +kernel
theorem dX9_sheet_65 : decode cX9_sheet 65 = .ok (.getfield 16, 3) := by decide +kernel
theorem dX9_sheet_68 : decode cX9_sheet 68 = .ok (.bipush 60, 2) := by decide +kernel
theorem dX9_sheet_70 : decode cX9_sheet 70 = .ok (.iload_n 1, 1) := by decide +kernel
theorem dX9_sheet_71 : decode cX9_sheet 71 = .ok (.imul, 1) := by decide +kernel
theorem dX9_sheet_72 : decode cX9_sheet 72 = .ok (.iload 4, 2) := by decide +kernel
theorem dX9_sheet_74 : decode cX9_sheet 74 = .ok (.iadd, 1) := by decide +kernel
theorem dX9_sheet_75 : decode cX9_sheet 75 = .ok (.iconst 0, 1) := by decide +kernel
theorem dX9_sheet_76 : decode cX9_sheet 76 = .ok (.iastore, 1) := by decide +kernel
theorem dX9_sheet_77 : decode cX9_sheet 77 = .ok (.iinc 4 1, 3) := by decide +kernel
theorem dX9_sheet_80 : decode cX9_sheet 80 = .ok (.goto (-23), 3) := by decide +kernel
theorem dX9_sheet_83 : decode cX9_sheet 83 = .ok (.iconst 1, 1) := by decide +kernel
theorem dX9_sheet_84 : decode cX9_sheet 84 = .ok (.ireturn, 1) := by decide +kernel
set_option maxRecDepth 20000 in
theorem ggX9_lose_X9_isSheet : GoodIn wsX9_lose wsX9_isSheet := goodIn_r _ [5, 6, 7, 4, 8] (by decide +kernel) (by decide +kernel)
set_option maxRecDepth 20000 in
theorem gX9_lose_X9_isSheet : GoodIn wsX9_lose (va_wsS RX9 90 yX9_isSheet wsX9_isSheet) := goodIn_app (goodIn_of _ (by decide +kernel)) ggX9_lose_X9_isSheet
theorem dX9_lose_0 : decode cX9_lose 0 = .ok (.iload_n 1, 1) := by decide +kernel
theorem dX9_lose_1 : decode cX9_lose 1 = .ok (.invokestatic 90, 3) := by decide +kernel
theorem dX9_lose_4 : decode cX9_lose 4 = .ok (.ifCond .ne 5, 3) := by decide +kernel
theorem dX9_lose_7 : decode cX9_lose 7 = .ok (.iconst (-1), 1) := by decide +kernel
theorem dX9_lose_8 : decode cX9_lose 8 = .ok (.ireturn, 1) := by decide +kernel
theorem dX9_lose_9 : decode cX9_lose 9 = .ok (.aload_n 0, 1) := by decide +kernel
theorem dX9_lose_10 : decode cX9_lose 10 = .ok (.getfield 9, 3) := by decide +kernel
theorem dX9_lose_13 : decode cX9_lose 13 = .ok (.iload_n 1, 1) := by decide +kernel
theorem dX9_lose_14 : decode cX9_lose 14 = .ok (.iaload, 1) := by decide +kernel
theorem dX9_lose_15 : decode cX9_lose 15 = .ok (.bipush (-9), 2) := by decide +kernel
theorem dX9_lose_17 : decode cX9_lose 17 = .ok (.if_icmp .ne 7, 3) := by decide +kernel
theorem dX9_lose_20 : decode cX9_lose 20 = .ok (.iconst 0, 1) := by decide +kernel
theorem dX9_lose_21 : decode cX9_lose 21 = .ok (.goto 4, 3) := by decide +kernel
theorem dX9_lose_24 : decode cX9_lose 24 = .ok (.iconst 1, 1) := by decide +kernel
theorem dX9_lose_25 : decode cX9_lose 25 = .ok (.istore_n 2, 1) := by decide +kernel
theorem dX9_lose_26 : decode cX9_lose 26 = .ok (.aload_n 0, 1) := by decide +kernel
theorem dX9_lose_27 : decode cX9_lose 27 = .ok (.getfield 9, 3) := by decide +kernel
theorem dX9_lose_30 : decode cX9_lose 30 = .ok (.iload_n 1, 1) := by decide +kernel
theorem dX9_lose_31 : decode cX9_lose 31 = .ok (.bipush (-9), 2) := by decide +kernel
theorem dX9_lose_33 : decode cX9_lose 33 = .ok (.iastore, 1) := by decide +kernel
theorem dX9_lose_34 : decode cX9_lose 34 = .ok (.iload_n 2, 1) := by decide +kernel
theorem dX9_lose_35 : decode cX9_lose 35 = .ok (.ireturn, 1) := by decide +kernel
set_option maxRecDepth 20000 in
theorem ggX9_put_X9_isSheet : GoodIn wsX9_put wsX9_isSheet := goodIn_r _ [8, 9, 10, 7, 11] (by decide +kernel) (by decide +kernel)
set_option maxRecDepth 20000 in
theorem gX9_put_X9_isSheet : GoodIn wsX9_put (va_wsS RX9 90 yX9_isSheet wsX9_isSheet) := goodIn_app (goodIn_of _ (by decide +kernel)) ggX9_put_X9_isSheet
set_option maxRecDepth 20000 in
theorem ggX9_put_X9_fails : GoodIn wsX9_put wsX9_fails := goodIn_r _ [15, 1, 16, 17, 18, 19, 20, 21, 22, 23, 24, 25, 26, 27, 28, 29, 30, 31, 32, 33, 34, 35, 36, 37, 38, 39, 40, 41, 42, 43, 44, 45, 46] (by decide +kernel) (by decide +kernel)
set_option maxRecDepth 20000 in
theorem gX9_put_X9_fails : GoodIn wsX9_put (wsV RX9 101 RX9 yX9_fails wsX9_fails) := goodIn_app (goodIn_of _ (by decide +kernel)) ggX9_put_X9_fails
set_option maxRecDepth 20000 in
theorem ggX9_put_X9_within : GoodIn wsX9_put wsX9_within := goodIn_r _ [11] (by decide +kernel) (by decide +kernel)
set_option maxRecDepth 20000 in
theorem gX9_put_X9_within : GoodIn wsX9_put (va_wsS RX9 77 yX9_within wsX9_within) := goodIn_app (goodIn_of _ (by decide +kernel)) ggX9_put_X9_within
theorem dX9_put_0 : decode cX9_put 0 = .ok (.aload_n 0, 1) := by decide +kernel
theorem dX9_put_1 : decode cX9_put 1 = .ok (.iconst 0, 1) := by decide +kernel
theorem dX9_put_2 : decode cX9_put 2 = .ok (.putfield 71, 3) := by decide +kernel
theorem dX9_put_5 : decode cX9_put 5 = .ok (.iload_n 1, 1) := by decide +kernel
theorem dX9_put_6 : decode cX9_put 6 = .ok (.invokestatic 90, 3) := by decide +kernel
theorem dX9_put_9 : decode cX9_put 9 = .ok (.ifCond .ne 5, 3) := by decide +kernel
theorem dX9_put_12 : decode cX9_put 12 = .ok (.iconst (-1), 1) := by decide +kernel
theorem dX9_put_13 : decode cX9_put 13 = .ok (.ireturn, 1) := by decide +kernel
theorem dX9_put_14 : decode cX9_put 14 = .ok (.aload_n 0, 1) := by decide +kernel
theorem dX9_put_15 : decode cX9_put 15 = .ok (.getfield 9, 3) := by decide +kernel
theorem dX9_put_18 : decode cX9_put 18 = .ok (.iload_n 1, 1) := by decide +kernel
theorem dX9_put_19 : decode cX9_put 19 = .ok (.iaload, 1) := by decide +kernel
theorem dX9_put_20 : decode cX9_put 20 = .ok (.bipush (-9), 2) := by decide +kernel
theorem dX9_put_22 : decode cX9_put 22 = .ok (.if_icmp .ne 9, 3) := by decide +kernel
theorem dX9_put_25 : decode cX9_put 25 = .ok (.aload_n 0, 1) := by decide +kernel
theorem dX9_put_26 : decode cX9_put 26 = .ok (.iconst 1, 1) := by decide +kernel
theorem dX9_put_27 : decode cX9_put 27 = .ok (.invokevirtual 101, 3) := by decide +kernel
theorem dX9_put_30 : decode cX9_put 30 = .ok (.ireturn, 1) := by decide +kernel
theorem dX9_put_31 : decode cX9_put 31 = .ok (.iload_n 2, 1) := by decide +kernel
theorem dX9_put_32 : decode cX9_put 32 = .ok (.iconst 0, 1) := by decide +kernel
theorem dX9_put_33 : decode cX9_put 33 = .ok (.aload_n 0, 1) := by decide +kernel
theorem dX9_put_34 : decode cX9_put 34 = .ok (.getfield 13, 3) := by decide +kernel
theorem dX9_put_37 : decode cX9_put 37 = .ok (.iload_n 1, 1) := by decide +kernel
theorem dX9_put_38 : decode cX9_put 38 = .ok (.iaload, 1) := by decide +kernel
theorem dX9_put_39 : decode cX9_put 39 = .ok (.iconst 1, 1) := by decide +kernel
theorem dX9_put_40 : decode cX9_put 40 = .ok (.isub, 1) := by decide +kernel
theorem dX9_put_41 : decode cX9_put 41 = .ok (.invokestatic 77, 3) := by decide +kernel
theorem dX9_put_44 : decode cX9_put 44 = .ok (.ifCond .ne 9, 3) := by decide +kernel
theorem dX9_put_47 : decode cX9_put 47 = .ok (.aload_n 0, 1) := by decide +kernel
theorem dX9_put_48 : decode cX9_put 48 = .ok (.iconst 3, 1) := by decide +kernel
theorem dX9_put_49 : decode cX9_put 49 = .ok (.invokevirtual 101, 3) := by decide +kernel
theorem dX9_put_52 : decode cX9_put 52 = .ok (.ireturn, 1) := by decide +kernel
theorem dX9_put_53 : decode cX9_put 53 = .ok (.aload_n 0, 1) := by decide +kernel
theorem dX9_put_54 : decode cX9_put 54 = .ok (.getfield 16, 3) := by decide +kernel
theorem dX9_put_57 : decode cX9_put 57 = .ok (.bipush 60, 2) := by decide +kernel
theorem dX9_put_59 : decode cX9_put 59 = .ok (.iload_n 1, 1) := by decide +kernel
theorem dX9_put_60 : decode cX9_put 60 = .ok (.imul, 1) := by decide +kernel
theorem dX9_put_61 : decode cX9_put 61 = .ok (.iload_n 2, 1) := by decide +kernel
theorem dX9_put_62 : decode cX9_put 62 = .ok (.iadd, 1) := by decide +kernel
theorem dX9_put_63 : decode cX9_put 63 = .ok (.aload_n 0, 1) := by decide +kernel
theorem dX9_put_64 : decode cX9_put 64 = .ok (.getfield 9, 3) := by decide +kernel
theorem dX9_put_67 : decode cX9_put 67 = .ok (.iload_n 1, 1) := by decide +kernel
theorem dX9_put_68 : decode cX9_put 68 = .ok (.iaload, 1) := by decide +kernel
theorem dX9_put_69 : decode cX9_put 69 = .ok (.ifCond .ne 8, 3) := by decide +kernel
theorem dX9_put_72 : decode cX9_put 72 = .ok (.iload_n 3, 1) := by decide +kernel
theorem dX9_put_73 : decode cX9_put 73 = .ok (.i2b, 1) := by decide +kernel
theorem dX9_put_74 : decode cX9_put 74 = .ok (.goto 19, 3) := by decide +kernel
theorem dX9_put_77 : decode cX9_put 77 = .ok (.aload_n 0, 1) := by decide +kernel
theorem dX9_put_78 : decode cX9_put 78 = .ok (.getfield 9, 3) := by decide +kernel
theorem dX9_put_81 : decode cX9_put 81 = .ok (.iload_n 1, 1) := by decide +kernel
theorem dX9_put_82 : decode cX9_put 82 = .ok (.iaload, 1) := by decide +kernel
theorem dX9_put_83 : decode cX9_put 83 = .ok (.iconst 1, 1) := by decide +kernel
theorem dX9_put_84 : decode cX9_put 84 = .ok (.if_icmp .ne 8, 3) := by decide +kernel
theorem dX9_put_87 : decode cX9_put 87 = .ok (.iload_n 3, 1) := by decide +kernel
theorem dX9_put_88 : decode cX9_put 88 = .ok (.i2s, 1) := by decide +kernel
theorem dX9_put_89 : decode cX9_put 89 = .ok (.goto 4, 3) := by decide +kernel
theorem dX9_put_92 : decode cX9_put 92 = .ok (.iload_n 3, 1) := by decide +kernel
theorem dX9_put_93 : decode cX9_put 93 = .ok (.iastore, 1) := by decide +kernel
theorem dX9_put_94 : decode cX9_put 94 = .ok (.iconst 1, 1) := by decide +kernel
theorem dX9_put_95 : decode cX9_put 95 = .ok (.ireturn, 1) := by decide +kernel
set_option maxRecDepth 20000 in
theorem ggX9_cell_X9_isSheet : GoodIn wsX9_cell wsX9_isSheet := goodIn_r _ [9, 10, 11, 8, 12] (by decide +kernel) (by decide +kernel)
set_option maxRecDepth 20000 in
theorem gX9_cell_X9_isSheet : GoodIn wsX9_cell (va_wsS RX9 90 yX9_isSheet wsX9_isSheet) := goodIn_app (goodIn_of _ (by decide +kernel)) ggX9_cell_X9_isSheet
set_option maxRecDepth 20000 in
theorem ggX9_cell_X9_isSort : GoodIn wsX9_cell wsX9_isSort := goodIn_r _ [15, 10, 11, 8, 12] (by decide +kernel) (by decide +kernel)
set_option maxRecDepth 20000 in
theorem gX9_cell_X9_isSort : GoodIn wsX9_cell (va_wsS RX9 94 yX9_isSort wsX9_isSort) := goodIn_app (goodIn_of _ (by decide +kernel)) ggX9_cell_X9_isSort
set_option maxRecDepth 20000 in
theorem ggX9_cell_X9_lost : GoodIn wsX9_cell wsX9_lost := goodIn_r _ [19, 1, 2, 20, 21, 22, 23, 24, 25, 26, 27, 28, 29, 30, 31, 32, 33, 34, 35, 36, 37, 38, 39, 40, 41, 42, 43, 44, 45, 46, 47, 48, 49, 50] (by decide +kernel) (by decide +kernel)
set_option maxRecDepth 20000 in
theorem gX9_cell_X9_lost : GoodIn wsX9_cell (wsV RX9 172 RX9 yX9_lost wsX9_lost) := goodIn_app (goodIn_of _ (by decide +kernel)) ggX9_cell_X9_lost
set_option maxRecDepth 20000 in
theorem ggX9_cell_X9_within : GoodIn wsX9_cell wsX9_within := goodIn_r _ [12] (by decide +kernel) (by decide +kernel)
set_option maxRecDepth 20000 in
theorem gX9_cell_X9_within : GoodIn wsX9_cell (va_wsS RX9 77 yX9_within wsX9_within) := goodIn_app (goodIn_of _ (by decide +kernel)) ggX9_cell_X9_within
theorem dX9_cell_0 : decode cX9_cell 0 = .ok (.aload_n 0, 1) := by decide +kernel
theorem dX9_cell_1 : decode cX9_cell 1 = .ok (.iconst 0, 1) := by decide +kernel
theorem dX9_cell_2 : decode cX9_cell 2 = .ok (.putfield 71, 3) := by decide +kernel
theorem dX9_cell_5 : decode cX9_cell 5 = .ok (.iload_n 1, 1) := by decide +kernel
theorem dX9_cell_6 : decode cX9_cell 6 = .ok (.invokestatic 90, 3) := by decide +kernel
theorem dX9_cell_9 : decode cX9_cell 9 = .ok (.ifCond .eq 10, 3) := by decide +kernel
theorem dX9_cell_12 : decode cX9_cell 12 = .ok (.iload_n 3, 1) := by decide +kernel
theorem dX9_cell_13 : decode cX9_cell 13 = .ok (.invokestatic 94, 3) := by decide +kernel
theorem dX9_cell_16 : decode cX9_cell 16 = .ok (.ifCond .ne 7, 3) := by decide +kernel
theorem dX9_cell_19 : decode cX9_cell 19 = .ok (.ldc2_w 75, 3) := by decide +kernel
theorem dX9_cell_22 : decode cX9_cell 22 = .ok (.lreturn, 1) := by decide +kernel
theorem dX9_cell_23 : decode cX9_cell 23 = .ok (.aload_n 0, 1) := by decide +kernel
theorem dX9_cell_24 : decode cX9_cell 24 = .ok (.getfield 9, 3) := by decide +kernel
theorem dX9_cell_27 : decode cX9_cell 27 = .ok (.iload_n 1, 1) := by decide +kernel
theorem dX9_cell_28 : decode cX9_cell 28 = .ok (.iaload, 1) := by decide +kernel
theorem dX9_cell_29 : decode cX9_cell 29 = .ok (.bipush (-9), 2) := by decide +kernel
theorem dX9_cell_31 : decode cX9_cell 31 = .ok (.if_icmp .eq 19, 3) := by decide +kernel
theorem dX9_cell_34 : decode cX9_cell 34 = .ok (.aload_n 0, 1) := by decide +kernel
theorem dX9_cell_35 : decode cX9_cell 35 = .ok (.getfield 9, 3) := by decide +kernel
theorem dX9_cell_38 : decode cX9_cell 38 = .ok (.iload_n 1, 1) := by decide +kernel
theorem dX9_cell_39 : decode cX9_cell 39 = .ok (.iaload, 1) := by decide +kernel
theorem dX9_cell_40 : decode cX9_cell 40 = .ok (.iload_n 3, 1) := by decide +kernel
theorem dX9_cell_41 : decode cX9_cell 41 = .ok (.if_icmp .eq 9, 3) := by decide +kernel
theorem dX9_cell_44 : decode cX9_cell 44 = .ok (.aload_n 0, 1) := by decide +kernel
theorem dX9_cell_45 : decode cX9_cell 45 = .ok (.iconst 2, 1) := by decide +kernel
theorem dX9_cell_46 : decode cX9_cell 46 = .ok (.invokevirtual 172, 3) := by decide +kernel
theorem dX9_cell_49 : decode cX9_cell 49 = .ok (.lreturn, 1) := by decide +kernel
theorem dX9_cell_50 : decode cX9_cell 50 = .ok (.aload_n 0, 1) := by decide +kernel
theorem dX9_cell_51 : decode cX9_cell 51 = .ok (.getfield 9, 3) := by decide +kernel
theorem dX9_cell_54 : decode cX9_cell 54 = .ok (.iload_n 1, 1) := by decide +kernel
theorem dX9_cell_55 : decode cX9_cell 55 = .ok (.iaload, 1) := by decide +kernel
theorem dX9_cell_56 : decode cX9_cell 56 = .ok (.bipush (-9), 2) := by decide +kernel
theorem dX9_cell_58 : decode cX9_cell 58 = .ok (.if_icmp .ne 9, 3) := by decide +kernel
theorem dX9_cell_61 : decode cX9_cell 61 = .ok (.aload_n 0, 1) := by decide +kernel
theorem dX9_cell_62 : decode cX9_cell 62 = .ok (.iconst 1, 1) := by decide +kernel
theorem dX9_cell_63 : decode cX9_cell 63 = .ok (.invokevirtual 172, 3) := by decide +kernel
theorem dX9_cell_66 : decode cX9_cell 66 = .ok (.lreturn, 1) := by decide +kernel
theorem dX9_cell_67 : decode cX9_cell 67 = .ok (.iload_n 2, 1) := by decide +kernel
theorem dX9_cell_68 : decode cX9_cell 68 = .ok (.iconst 0, 1) := by decide +kernel
theorem dX9_cell_69 : decode cX9_cell 69 = .ok (.aload_n 0, 1) := by decide +kernel
theorem dX9_cell_70 : decode cX9_cell 70 = .ok (.getfield 13, 3) := by decide +kernel
theorem dX9_cell_73 : decode cX9_cell 73 = .ok (.iload_n 1, 1) := by decide +kernel
theorem dX9_cell_74 : decode cX9_cell 74 = .ok (.iaload, 1) := by decide +kernel
theorem dX9_cell_75 : decode cX9_cell 75 = .ok (.iconst 1, 1) := by decide +kernel
theorem dX9_cell_76 : decode cX9_cell 76 = .ok (.isub, 1) := by decide +kernel
theorem dX9_cell_77 : decode cX9_cell 77 = .ok (.invokestatic 77, 3) := by decide +kernel
theorem dX9_cell_80 : decode cX9_cell 80 = .ok (.ifCond .ne 9, 3) := by decide +kernel
theorem dX9_cell_83 : decode cX9_cell 83 = .ok (.aload_n 0, 1) := by decide +kernel
theorem dX9_cell_84 : decode cX9_cell 84 = .ok (.iconst 3, 1) := by decide +kernel
theorem dX9_cell_85 : decode cX9_cell 85 = .ok (.invokevirtual 172, 3) := by decide +kernel
theorem dX9_cell_88 : decode cX9_cell 88 = .ok (.lreturn, 1) := by decide +kernel
theorem dX9_cell_89 : decode cX9_cell 89 = .ok (.aload_n 0, 1) := by decide +kernel
theorem dX9_cell_90 : decode cX9_cell 90 = .ok (.getfield 16, 3) := by decide +kernel
theorem dX9_cell_93 : decode cX9_cell 93 = .ok (.bipush 60, 2) := by decide +kernel
theorem dX9_cell_95 : decode cX9_cell 95 = .ok (.iload_n 1, 1) := by decide +kernel
theorem dX9_cell_96 : decode cX9_cell 96 = .ok (.imul, 1) := by decide +kernel
theorem dX9_cell_97 : decode cX9_cell 97 = .ok (.iload_n 2, 1) := by decide +kernel
theorem dX9_cell_98 : decode cX9_cell 98 = .ok (.iadd, 1) := by decide +kernel
theorem dX9_cell_99 : decode cX9_cell 99 = .ok (.iaload, 1) := by decide +kernel
theorem dX9_cell_100 : decode cX9_cell 100 = .ok (.i2l, 1) := by decide +kernel
theorem dX9_cell_101 : decode cX9_cell 101 = .ok (.lreturn, 1) := by decide +kernel
set_option maxRecDepth 20000 in
theorem ggX9_copy_X9_isSheet : GoodIn wsX9_copy wsX9_isSheet := goodIn_r _ [8, 9, 10, 7, 11] (by decide +kernel) (by decide +kernel)
set_option maxRecDepth 20000 in
theorem gX9_copy_X9_isSheet : GoodIn wsX9_copy (va_wsS RX9 90 yX9_isSheet wsX9_isSheet) := goodIn_app (goodIn_of _ (by decide +kernel)) ggX9_copy_X9_isSheet
set_option maxRecDepth 20000 in
theorem ggX9_copy_X9_fails : GoodIn wsX9_copy wsX9_fails := goodIn_r _ [15, 1, 16, 17, 18, 19, 20, 21, 22, 23, 24, 25, 26, 27, 28, 29, 30, 31, 32, 33, 34, 35, 36, 37, 38, 39, 40, 41, 42, 43, 44, 45, 46] (by decide +kernel) (by decide +kernel)
set_option maxRecDepth 20000 in
theorem gX9_copy_X9_fails : GoodIn wsX9_copy (wsV RX9 101 RX9 yX9_fails wsX9_fails) := goodIn_app (goodIn_of _ (by decide +kernel)) ggX9_copy_X9_fails
theorem dX9_copy_0 : decode cX9_copy 0 = .ok (.aload_n 0, 1) := by decide +kernel
theorem dX9_copy_1 : decode cX9_copy 1 = .ok (.iconst 0, 1) := by decide +kernel
theorem dX9_copy_2 : decode cX9_copy 2 = .ok (.putfield 71, 3) := by decide +kernel
theorem dX9_copy_5 : decode cX9_copy 5 = .ok (.iload_n 1, 1) := by decide +kernel
theorem dX9_copy_6 : decode cX9_copy 6 = .ok (.invokestatic 90, 3) := by decide +kernel
theorem dX9_copy_9 : decode cX9_copy 9 = .ok (.ifCond .eq 10, 3) := by decide +kernel
theorem dX9_copy_12 : decode cX9_copy 12 = .ok (.iload_n 3, 1) := by decide +kernel
theorem dX9_copy_13 : decode cX9_copy 13 = .ok (.invokestatic 90, 3) := by decide +kernel
theorem dX9_copy_16 : decode cX9_copy 16 = .ok (.ifCond .ne 5, 3) := by decide +kernel
theorem dX9_copy_19 : decode cX9_copy 19 = .ok (.iconst (-1), 1) := by decide +kernel
theorem dX9_copy_20 : decode cX9_copy 20 = .ok (.ireturn, 1) := by decide +kernel
theorem dX9_copy_21 : decode cX9_copy 21 = .ok (.aload_n 0, 1) := by decide +kernel
theorem dX9_copy_22 : decode cX9_copy 22 = .ok (.getfield 9, 3) := by decide +kernel
theorem dX9_copy_25 : decode cX9_copy 25 = .ok (.iload_n 1, 1) := by decide +kernel
theorem dX9_copy_26 : decode cX9_copy 26 = .ok (.iaload, 1) := by decide +kernel
theorem dX9_copy_27 : decode cX9_copy 27 = .ok (.bipush (-9), 2) := by decide +kernel
theorem dX9_copy_29 : decode cX9_copy 29 = .ok (.if_icmp .eq 14, 3) := by decide +kernel
theorem dX9_copy_32 : decode cX9_copy 32 = .ok (.aload_n 0, 1) := by decide +kernel
theorem dX9_copy_33 : decode cX9_copy 33 = .ok (.getfield 9, 3) := by decide +kernel
theorem dX9_copy_36 : decode cX9_copy 36 = .ok (.iload_n 3, 1) := by decide +kernel
theorem dX9_copy_37 : decode cX9_copy 37 = .ok (.iaload, 1) := by decide +kernel
theorem dX9_copy_38 : decode cX9_copy 38 = .ok (.bipush (-9), 2) := by decide +kernel
theorem dX9_copy_40 : decode cX9_copy 40 = .ok (.if_icmp .ne 9, 3) := by decide +kernel
theorem dX9_copy_43 : decode cX9_copy 43 = .ok (.aload_n 0, 1) := by decide +kernel
theorem dX9_copy_44 : decode cX9_copy 44 = .ok (.iconst 1, 1) := by decide +kernel
theorem dX9_copy_45 : decode cX9_copy 45 = .ok (.invokevirtual 101, 3) := by decide +kernel
theorem dX9_copy_48 : decode cX9_copy 48 = .ok (.ireturn, 1) := by decide +kernel
theorem dX9_copy_49 : decode cX9_copy 49 = .ok (.aload_n 0, 1) := by decide +kernel
theorem dX9_copy_50 : decode cX9_copy 50 = .ok (.getfield 9, 3) := by decide +kernel
theorem dX9_copy_53 : decode cX9_copy 53 = .ok (.iload_n 1, 1) := by decide +kernel
theorem dX9_copy_54 : decode cX9_copy 54 = .ok (.iaload, 1) := by decide +kernel
theorem dX9_copy_55 : decode cX9_copy 55 = .ok (.aload_n 0, 1) := by decide +kernel
theorem dX9_copy_56 : decode cX9_copy 56 = .ok (.getfield 9, 3) := by decide +kernel
theorem dX9_copy_59 : decode cX9_copy 59 = .ok (.iload_n 3, 1) := by decide +kernel
theorem dX9_copy_60 : decode cX9_copy 60 = .ok (.iaload, 1) := by decide +kernel
theorem dX9_copy_61 : decode cX9_copy 61 = .ok (.if_icmp .eq 9, 3) := by decide +kernel
theorem dX9_copy_64 : decode cX9_copy 64 = .ok (.aload_n 0, 1) := by decide +kernel
theorem dX9_copy_65 : decode cX9_copy 65 = .ok (.iconst 2, 1) := by decide +kernel
theorem dX9_copy_66 : decode cX9_copy 66 = .ok (.invokevirtual 101, 3) := by decide +kernel
theorem dX9_copy_69 : decode cX9_copy 69 = .ok (.ireturn, 1) := by decide +kernel
theorem dX9_copy_70 : decode cX9_copy 70 = .ok (.iload_n 2, 1) := by decide +kernel
theorem dX9_copy_71 : decode cX9_copy 71 = .ok (.ifCond .lt 38, 3) := by decide +kernel
theorem dX9_copy_74 : decode cX9_copy 74 = .ok (.iload 4, 2) := by decide +kernel
theorem dX9_copy_76 : decode cX9_copy 76 = .ok (.ifCond .lt 33, 3) := by decide +kernel
theorem dX9_copy_79 : decode cX9_copy 79 = .ok (.iload 5, 2) := by decide +kernel
theorem dX9_copy_81 : decode cX9_copy 81 = .ok (.ifCond .lt 28, 3) := by decide +kernel
theorem dX9_copy_84 : decode cX9_copy 84 = .ok (.iload_n 2, 1) := by decide +kernel
theorem dX9_copy_85 : decode cX9_copy 85 = .ok (.aload_n 0, 1) := by decide +kernel
theorem dX9_copy_86 : decode cX9_copy 86 = .ok (.getfield 13, 3) := by decide +kernel
theorem dX9_copy_89 : decode cX9_copy 89 = .ok (.iload_n 1, 1) := by decide +kernel
theorem dX9_copy_90 : decode cX9_copy 90 = .ok (.iaload, 1) := by decide +kernel
theorem dX9_copy_91 : decode cX9_copy 91 = .ok (.if_icmp .gt 18, 3) := by decide +kernel
theorem dX9_copy_94 : decode cX9_copy 94 = .ok (.iload 4, 2) := by decide +kernel
theorem dX9_copy_96 : decode cX9_copy 96 = .ok (.aload_n 0, 1) := by decide +kernel
theorem dX9_copy_97 : decode cX9_copy 97 = .ok (.getfield 13, 3) := by decide +kernel
theorem dX9_copy_100 : decode cX9_copy 100 = .ok (.iload_n 3, 1) := by decide +kernel
theorem dX9_copy_101 : decode cX9_copy 101 = .ok (.iaload, 1) := by decide +kernel
theorem dX9_copy_102 : decode cX9_copy 102 = .ok (.if_icmp .gt 7, 3) := by decide +kernel
theorem dX9_copy_105 : decode cX9_copy 105 = .ok (.iconst 1, 1) := by decide +kernel
theorem dX9_copy_106 : decode cX9_copy 106 = .ok (.goto 4, 3) := by decide +kernel
theorem dX9_copy_109 : decode cX9_copy 109 = .ok (.iconst 0, 1) := by decide +kernel
theorem dX9_copy_110 : decode cX9_copy 110 = .ok (.istore 6, 2) := by decide +kernel
theorem dX9_copy_112 : decode cX9_copy 112 = .ok (.iload 6, 2) := by decide +kernel
theorem dX9_copy_114 : decode cX9_copy 114 = .ok (.ifCond .eq 30, 3) := by decide +kernel
theorem dX9_copy_117 : decode cX9_copy 117 = .ok (.iload 5, 2) := by decide +kernel
theorem dX9_copy_119 : decode cX9_copy 119 = .ok (.aload_n 0, 1) := by decide +kernel
theorem dX9_copy_120 : decode cX9_copy 120 = .ok (.getfield 13, 3) := by decide +kernel
theorem dX9_copy_123 : decode cX9_copy 123 = .ok (.iload_n 1, 1) := by decide +kernel
theorem dX9_copy_124 : decode cX9_copy 124 = .ok (.iaload, 1) := by decide +kernel
theorem dX9_copy_125 : decode cX9_copy 125 = .ok (.iload_n 2, 1) := by decide +kernel
theorem dX9_copy_126 : decode cX9_copy 126 = .ok (.isub, 1) := by decide +kernel
theorem dX9_copy_127 : decode cX9_copy 127 = .ok (.if_icmp .gt 17, 3) := by decide +kernel
theorem dX9_copy_130 : decode cX9_copy 130 = .ok (.iload 5, 2) := by decide +kernel
theorem dX9_copy_132 : decode cX9_copy 132 = .ok (.aload_n 0, 1) := by decide +kernel
theorem dX9_copy_133 : decode cX9_copy 133 = .ok (.getfield 13, 3) := by decide +kernel
theorem dX9_copy_136 : decode cX9_copy 136 = .ok (.iload_n 3, 1) := by decide +kernel
theorem dX9_copy_137 : decode cX9_copy 137 = .ok (.iaload, 1) := by decide +kernel
theorem dX9_copy_138 : decode cX9_copy 138 = .ok (.iload 4, 2) := by decide +kernel
theorem dX9_copy_140 : decode cX9_copy 140 = .ok (.isub, 1) := by decide +kernel
theorem dX9_copy_141 : decode cX9_copy 141 = .ok (.if_icmp .le 9, 3) := by decide +kernel
theorem dX9_copy_144 : decode cX9_copy 144 = .ok (.aload_n 0, 1) := by decide +kernel
theorem dX9_copy_145 : decode cX9_copy 145 = .ok (.iconst 3, 1) := by decide +kernel
theorem dX9_copy_146 : decode cX9_copy 146 = .ok (.invokevirtual 101, 3) := by decide +kernel
theorem dX9_copy_149 : decode cX9_copy 149 = .ok (.ireturn, 1) := by decide +kernel
theorem dX9_copy_150 : decode cX9_copy 150 = .ok (.iload_n 2, 1) := by decide +kernel
theorem dX9_copy_151 : decode cX9_copy 151 = .ok (.iload 4, 2) := by decide +kernel
theorem dX9_copy_153 : decode cX9_copy 153 = .ok (.if_icmp .ge 7, 3) := by decide +kernel
theorem dX9_copy_156 : decode cX9_copy 156 = .ok (.iconst 1, 1) := by decide +kernel
theorem dX9_copy_157 : decode cX9_copy 157 = .ok (.goto 4, 3) := by decide +kernel
theorem dX9_copy_160 : decode cX9_copy 160 = .ok (.iconst 0, 1) := by decide +kernel
theorem dX9_copy_161 : decode cX9_copy 161 = .ok (.istore 7, 2) := by decide +kernel
theorem dX9_copy_163 : decode cX9_copy 163 = .ok (.iconst 0, 1) := by decide +kernel
theorem dX9_copy_164 : decode cX9_copy 164 = .ok (.istore 8, 2) := by decide +kernel
theorem dX9_copy_166 : decode cX9_copy 166 = .ok (.iload 8, 2) := by decide +kernel
theorem dX9_copy_168 : decode cX9_copy 168 = .ok (.iload 5, 2) := by decide +kernel
theorem dX9_copy_170 : decode cX9_copy 170 = .ok (.if_icmp .ge 57, 3) := by decide +kernel
theorem dX9_copy_173 : decode cX9_copy 173 = .ok (.iload 7, 2) := by decide +kernel
theorem dX9_copy_175 : decode cX9_copy 175 = .ok (.ifCond .eq 13, 3) := by decide +kernel
theorem dX9_copy_178 : decode cX9_copy 178 = .ok (.iload 5, 2) := by decide +kernel
theorem dX9_copy_180 : decode cX9_copy 180 = .ok (.iconst 1, 1) := by decide +kernel
theorem dX9_copy_181 : decode cX9_copy 181 = .ok (.isub, 1) := by decide +kernel
theorem dX9_copy_182 : decode cX9_copy 182 = .ok (.iload 8, 2) := by decide +kernel
theorem dX9_copy_184 : decode cX9_copy 184 = .ok (.isub, 1) := by decide +kernel
theorem dX9_copy_185 : decode cX9_copy 185 = .ok (.goto 5, 3) := by decide +kernel
theorem dX9_copy_188 : decode cX9_copy 188 = .ok (.iload 8, 2) := by decide +kernel
theorem dX9_copy_190 : decode cX9_copy 190 = .ok (.istore 9, 2) := by decide +kernel
theorem dX9_copy_192 : decode cX9_copy 192 = .ok (.aload_n 0, 1) := by decide +kernel
theorem dX9_copy_193 : decode cX9_copy 193 = .ok (.getfield 16, 3) := by decide +kernel
theorem dX9_copy_196 : decode cX9_copy 196 = .ok (.bipush 60, 2) := by decide +kernel
theorem dX9_copy_198 : decode cX9_copy 198 = .ok (.iload_n 3, 1) := by decide +kernel
theorem dX9_copy_199 : decode cX9_copy 199 = .ok (.imul, 1) := by decide +kernel
theorem dX9_copy_200 : decode cX9_copy 200 = .ok (.iload 4, 2) := by decide +kernel
theorem dX9_copy_202 : decode cX9_copy 202 = .ok (.iadd, 1) := by decide +kernel
theorem dX9_copy_203 : decode cX9_copy 203 = .ok (.iload 9, 2) := by decide +kernel
theorem dX9_copy_205 : decode cX9_copy 205 = .ok (.iadd, 1) := by decide +kernel
theorem dX9_copy_206 : decode cX9_copy 206 = .ok (.aload_n 0, 1) := by decide +kernel
theorem dX9_copy_207 : decode cX9_copy 207 = .ok (.getfield 16, 3) := by decide +kernel
theorem dX9_copy_210 : decode cX9_copy 210 = .ok (.bipush 60, 2) := by decide +kernel
theorem dX9_copy_212 : decode cX9_copy 212 = .ok (.iload_n 1, 1) := by decide +kernel
theorem dX9_copy_213 : decode cX9_copy 213 = .ok (.imul, 1) := by decide +kernel
theorem dX9_copy_214 : decode cX9_copy 214 = .ok (.iload_n 2, 1) := by decide +kernel
theorem dX9_copy_215 : decode cX9_copy 215 = .ok (.iadd, 1) := by decide +kernel
theorem dX9_copy_216 : decode cX9_copy 216 = .ok (.iload 9, 2) := by decide +kernel
theorem dX9_copy_218 : decode cX9_copy 218 = .ok (.iadd, 1) := by decide +kernel
theorem dX9_copy_219 : decode cX9_copy 219 = .ok (.iaload, 1) := by decide +kernel
theorem dX9_copy_220 : decode cX9_copy 220 = .ok (.iastore, 1) := by decide +kernel
theorem dX9_copy_221 : decode cX9_copy 221 = .ok (.iinc 8 1, 3) := by decide +kernel
theorem dX9_copy_224 : decode cX9_copy 224 = .ok (.goto (-58), 3) := by decide +kernel
theorem dX9_copy_227 : decode cX9_copy 227 = .ok (.iload 5, 2) := by decide +kernel
theorem dX9_copy_229 : decode cX9_copy 229 = .ok (.ireturn, 1) := by decide +kernel
theorem dX9_leaves_0 : decode cX9_leaves 0 = .ok (.aload_n 0, 1) := by decide +kernel
theorem dX9_leaves_1 : decode cX9_leaves 1 = .ok (.bipush 31, 2) := by decide +kernel
theorem dX9_leaves_3 : decode cX9_leaves 3 = .ok (.aload_n 0, 1) := by decide +kernel
theorem dX9_leaves_4 : decode cX9_leaves 4 = .ok (.getfield 236, 3) := by decide +kernel
theorem dX9_leaves_7 : decode cX9_leaves 7 = .ok (.imul, 1) := by decide +kernel
theorem dX9_leaves_8 : decode cX9_leaves 8 = .ok (.iload_n 1, 1) := by decide +kernel
theorem dX9_leaves_9 : decode cX9_leaves 9 = .ok (.iadd, 1) := by decide +kernel
theorem dX9_leaves_10 : decode cX9_leaves 10 = .ok (.putfield 236, 3) := by decide +kernel
theorem dX9_leaves_13 : decode cX9_leaves 13 = .ok (.return_, 1) := by decide +kernel
set_option maxRecDepth 20000 in
theorem ggX9_tell_X9_isHelper : GoodIn wsX9_tell wsX9_isHelper := goodIn_r _ [7, 8, 14, 15, 16, 17, 18, 19, 20, 21, 22, 23, 24, 25, 26, 27, 28, 29, 30, 31, 32, 33, 34, 35, 36, 37, 38, 39, 40, 41, 42, 43, 44] (by decide +kernel) (by decide +kernel)
set_option maxRecDepth 20000 in
theorem gX9_tell_X9_isHelper : GoodIn wsX9_tell (wsV RX9 133 RX9 yX9_isHelper wsX9_isHelper) := goodIn_app (goodIn_of _ (by decide +kernel)) ggX9_tell_X9_isHelper
set_option maxRecDepth 20000 in
theorem ggX9_tell_X9_leaves : GoodIn wsX9_tell wsX9_leaves := goodIn_r _ [12, 13, 14, 15, 16, 17, 18, 19, 20, 21, 22, 23, 24, 25, 26, 27, 28, 29, 30, 31, 32, 33, 34, 35, 36, 37, 38, 39, 40, 41, 42, 43, 44] (by decide +kernel) (by decide +kernel)
set_option maxRecDepth 20000 in
theorem gX9_tell_X9_leaves : GoodIn wsX9_tell (wsV RX9 239 RX9 yX9_leaves wsX9_leaves) := goodIn_app (goodIn_of _ (by decide +kernel)) ggX9_tell_X9_leaves
theorem dX9_tell_0 : decode cX9_tell 0 = .ok (.aload_n 0, 1) := by decide +kernel
theorem dX9_tell_1 : decode cX9_tell 1 = .ok (.iload_n 1, 1) := by decide +kernel
theorem dX9_tell_2 : decode cX9_tell 2 = .ok (.invokevirtual 133, 3) := by decide +kernel
theorem dX9_tell_5 : decode cX9_tell 5 = .ok (.ifCond .ne 5, 3) := by decide +kernel
theorem dX9_tell_8 : decode cX9_tell 8 = .ok (.iconst (-1), 1) := by decide +kernel
theorem dX9_tell_9 : decode cX9_tell 9 = .ok (.ireturn, 1) := by decide +kernel
theorem dX9_tell_10 : decode cX9_tell 10 = .ok (.aload_n 0, 1) := by decide +kernel
theorem dX9_tell_11 : decode cX9_tell 11 = .ok (.getfield 32, 3) := by decide +kernel
theorem dX9_tell_14 : decode cX9_tell 14 = .ok (.iload_n 1, 1) := by decide +kernel
theorem dX9_tell_15 : decode cX9_tell 15 = .ok (.iaload, 1) := by decide +kernel
theorem dX9_tell_16 : decode cX9_tell 16 = .ok (.istore_n 2, 1) := by decide +kernel
theorem dX9_tell_17 : decode cX9_tell 17 = .ok (.aload_n 0, 1) := by decide +kernel
theorem dX9_tell_18 : decode cX9_tell 18 = .ok (.getfield 29, 3) := by decide +kernel
theorem dX9_tell_21 : decode cX9_tell 21 = .ok (.iload_n 1, 1) := by decide +kernel
theorem dX9_tell_22 : decode cX9_tell 22 = .ok (.iaload, 1) := by decide +kernel
theorem dX9_tell_23 : decode cX9_tell 23 = .ok (.lookupswitch 67 #[(1, 25), (2, 40)], 25) := by decide +kernel
theorem dX9_tell_48 : decode cX9_tell 48 = .ok (.aload_n 0, 1) := by decide +kernel
theorem dX9_tell_49 : decode cX9_tell 49 = .ok (.iconst 2, 1) := by decide +kernel
theorem dX9_tell_50 : decode cX9_tell 50 = .ok (.invokevirtual 239, 3) := by decide +kernel
theorem dX9_tell_53 : decode cX9_tell 53 = .ok (.aload_n 0, 1) := by decide +kernel
theorem dX9_tell_54 : decode cX9_tell 54 = .ok (.iconst 1, 1) := by decide +kernel
theorem dX9_tell_55 : decode cX9_tell 55 = .ok (.invokevirtual 239, 3) := by decide +kernel
theorem dX9_tell_58 : decode cX9_tell 58 = .ok (.iload_n 2, 1) := by decide +kernel
theorem dX9_tell_59 : decode cX9_tell 59 = .ok (.bipush 100, 2) := by decide +kernel
theorem dX9_tell_61 : decode cX9_tell 61 = .ok (.iadd, 1) := by decide +kernel
theorem dX9_tell_62 : decode cX9_tell 62 = .ok (.ireturn, 1) := by decide +kernel
theorem dX9_tell_63 : decode cX9_tell 63 = .ok (.aload_n 0, 1) := by decide +kernel
theorem dX9_tell_64 : decode cX9_tell 64 = .ok (.iconst 3, 1) := by decide +kernel
theorem dX9_tell_65 : decode cX9_tell 65 = .ok (.invokevirtual 239, 3) := by decide +kernel
theorem dX9_tell_68 : decode cX9_tell 68 = .ok (.aload_n 0, 1) := by decide +kernel
theorem dX9_tell_69 : decode cX9_tell 69 = .ok (.iconst 2, 1) := by decide +kernel
theorem dX9_tell_70 : decode cX9_tell 70 = .ok (.invokevirtual 239, 3) := by decide +kernel
theorem dX9_tell_73 : decode cX9_tell 73 = .ok (.aload_n 0, 1) := by decide +kernel
theorem dX9_tell_74 : decode cX9_tell 74 = .ok (.iconst 1, 1) := by decide +kernel
theorem dX9_tell_75 : decode cX9_tell 75 = .ok (.invokevirtual 239, 3) := by decide +kernel
theorem dX9_tell_78 : decode cX9_tell 78 = .ok (.aload_n 0, 1) := by decide +kernel
theorem dX9_tell_79 : decode cX9_tell 79 = .ok (.iconst 1, 1) := by decide +kernel
theorem dX9_tell_80 : decode cX9_tell 80 = .ok (.invokevirtual 239, 3) := by decide +kernel
theorem dX9_tell_83 : decode cX9_tell 83 = .ok (.iconst 2, 1) := by decide +kernel
theorem dX9_tell_84 : decode cX9_tell 84 = .ok (.iload_n 2, 1) := by decide +kernel
theorem dX9_tell_85 : decode cX9_tell 85 = .ok (.imul, 1) := by decide +kernel
theorem dX9_tell_86 : decode cX9_tell 86 = .ok (.bipush 100, 2) := by decide +kernel
theorem dX9_tell_88 : decode cX9_tell 88 = .ok (.iadd, 1) := by decide +kernel
theorem dX9_tell_89 : decode cX9_tell 89 = .ok (.ireturn, 1) := by decide +kernel
theorem dX9_tell_90 : decode cX9_tell 90 = .ok (.aload_n 0, 1) := by decide +kernel
theorem dX9_tell_91 : decode cX9_tell 91 = .ok (.iconst 1, 1) := by decide +kernel
theorem dX9_tell_92 : decode cX9_tell 92 = .ok (.invokevirtual 239, 3) := by decide +kernel
theorem dX9_tell_95 : decode cX9_tell 95 = .ok (.iload_n 2, 1) := by decide +kernel
theorem dX9_tell_96 : decode cX9_tell 96 = .ok (.ireturn, 1) := by decide +kernel
set_option maxRecDepth 20000 in
theorem ggX9_cheer_X9_isHelper : GoodIn wsX9_cheer wsX9_isHelper := goodIn_r _ [6, 7, 13, 14, 15, 16, 17, 18, 19, 20, 21, 22, 23, 24, 25, 26, 27, 28, 29, 30, 31, 32, 33, 34, 35, 36, 37, 38, 39, 40, 41, 42, 43] (by decide +kernel) (by decide +kernel)
set_option maxRecDepth 20000 in
theorem gX9_cheer_X9_isHelper : GoodIn wsX9_cheer (wsV RX9 133 RX9 yX9_isHelper wsX9_isHelper) := goodIn_app (goodIn_of _ (by decide +kernel)) ggX9_cheer_X9_isHelper
set_option maxRecDepth 20000 in
theorem ggX9_cheer_X9_leaves : GoodIn wsX9_cheer wsX9_leaves := goodIn_r _ [11, 12, 13, 14, 15, 16, 17, 18, 19, 20, 21, 22, 23, 24, 25, 26, 27, 28, 29, 30, 31, 32, 33, 34, 35, 36, 37, 38, 39, 40, 41, 42, 43] (by decide +kernel) (by decide +kernel)
set_option maxRecDepth 20000 in
theorem gX9_cheer_X9_leaves : GoodIn wsX9_cheer (wsV RX9 239 RX9 yX9_leaves wsX9_leaves) := goodIn_app (goodIn_of _ (by decide +kernel)) ggX9_cheer_X9_leaves
theorem dX9_cheer_0 : decode cX9_cheer 0 = .ok (.aload_n 0, 1) := by decide +kernel
theorem dX9_cheer_1 : decode cX9_cheer 1 = .ok (.iload_n 1, 1) := by decide +kernel
theorem dX9_cheer_2 : decode cX9_cheer 2 = .ok (.invokevirtual 133, 3) := by decide +kernel
theorem dX9_cheer_5 : decode cX9_cheer 5 = .ok (.ifCond .ne 5, 3) := by decide +kernel
theorem dX9_cheer_8 : decode cX9_cheer 8 = .ok (.iconst (-1), 1) := by decide +kernel
theorem dX9_cheer_9 : decode cX9_cheer 9 = .ok (.ireturn, 1) := by decide +kernel
theorem dX9_cheer_10 : decode cX9_cheer 10 = .ok (.aload_n 0, 1) := by decide +kernel
theorem dX9_cheer_11 : decode cX9_cheer 11 = .ok (.aload_n 0, 1) := by decide +kernel
theorem dX9_cheer_12 : decode cX9_cheer 12 = .ok (.getfield 29, 3) := by decide +kernel
theorem dX9_cheer_15 : decode cX9_cheer 15 = .ok (.iload_n 1, 1) := by decide +kernel
theorem dX9_cheer_16 : decode cX9_cheer 16 = .ok (.iaload, 1) := by decide +kernel
theorem dX9_cheer_17 : decode cX9_cheer 17 = .ok (.iconst 2, 1) := by decide +kernel
theorem dX9_cheer_18 : decode cX9_cheer 18 = .ok (.if_icmp .ne 7, 3) := by decide +kernel
theorem dX9_cheer_21 : decode cX9_cheer 21 = .ok (.iconst 5, 1) := by decide +kernel
theorem dX9_cheer_22 : decode cX9_cheer 22 = .ok (.goto 4, 3) := by decide +kernel
theorem dX9_cheer_25 : decode cX9_cheer 25 = .ok (.iconst 4, 1) := by decide +kernel
theorem dX9_cheer_26 : decode cX9_cheer 26 = .ok (.invokevirtual 239, 3) := by decide +kernel
theorem dX9_cheer_29 : decode cX9_cheer 29 = .ok (.aload_n 0, 1) := by decide +kernel
theorem dX9_cheer_30 : decode cX9_cheer 30 = .ok (.getfield 29, 3) := by decide +kernel
theorem dX9_cheer_33 : decode cX9_cheer 33 = .ok (.iload_n 1, 1) := by decide +kernel
theorem dX9_cheer_34 : decode cX9_cheer 34 = .ok (.iaload, 1) := by decide +kernel
theorem dX9_cheer_35 : decode cX9_cheer 35 = .ok (.iconst 2, 1) := by decide +kernel
theorem dX9_cheer_36 : decode cX9_cheer 36 = .ok (.if_icmp .ne 8, 3) := by decide +kernel
theorem dX9_cheer_39 : decode cX9_cheer 39 = .ok (.bipush 60, 2) := by decide +kernel
theorem dX9_cheer_41 : decode cX9_cheer 41 = .ok (.goto 4, 3) := by decide +kernel
theorem dX9_cheer_44 : decode cX9_cheer 44 = .ok (.iload_n 1, 1) := by decide +kernel
theorem dX9_cheer_45 : decode cX9_cheer 45 = .ok (.ireturn, 1) := by decide +kernel
set_option maxRecDepth 20000 in
theorem ggX9_as_X9_isHelper : GoodIn wsX9_as wsX9_isHelper := goodIn_r _ [7, 8, 16, 17, 18, 19, 20, 21, 22, 23, 24, 25, 26, 27, 28, 29, 30, 31, 32, 33, 34, 35, 36, 37, 38, 39, 40, 41, 42, 43, 44, 45, 46] (by decide +kernel) (by decide +kernel)
set_option maxRecDepth 20000 in
theorem gX9_as_X9_isHelper : GoodIn wsX9_as (wsV RX9 133 RX9 yX9_isHelper wsX9_isHelper) := goodIn_app (goodIn_of _ (by decide +kernel)) ggX9_as_X9_isHelper
set_option maxRecDepth 20000 in
theorem ggX9_as_X9_within : GoodIn wsX9_as wsX9_within := goodIn_r _ [11] (by decide +kernel) (by decide +kernel)
set_option maxRecDepth 20000 in
theorem gX9_as_X9_within : GoodIn wsX9_as (va_wsS RX9 77 yX9_within wsX9_within) := goodIn_app (goodIn_of _ (by decide +kernel)) ggX9_as_X9_within
set_option maxRecDepth 20000 in
theorem ggX9_as_X9_fails : GoodIn wsX9_as wsX9_fails := goodIn_r _ [15, 1, 16, 17, 18, 19, 20, 21, 22, 23, 24, 25, 26, 27, 28, 29, 30, 31, 32, 33, 34, 35, 36, 37, 38, 39, 40, 41, 42, 43, 44, 45, 46] (by decide +kernel) (by decide +kernel)
set_option maxRecDepth 20000 in
theorem gX9_as_X9_fails : GoodIn wsX9_as (wsV RX9 101 RX9 yX9_fails wsX9_fails) := goodIn_app (goodIn_of _ (by decide +kernel)) ggX9_as_X9_fails
theorem dX9_as_0 : decode cX9_as 0 = .ok (.aload_n 0, 1) := by decide +kernel
theorem dX9_as_1 : decode cX9_as 1 = .ok (.iconst 0, 1) := by decide +kernel
theorem dX9_as_2 : decode cX9_as 2 = .ok (.putfield 71, 3) := by decide +kernel
theorem dX9_as_5 : decode cX9_as 5 = .ok (.aload_n 0, 1) := by decide +kernel
theorem dX9_as_6 : decode cX9_as 6 = .ok (.iload_n 1, 1) := by decide +kernel
theorem dX9_as_7 : decode cX9_as 7 = .ok (.invokevirtual 133, 3) := by decide +kernel
theorem dX9_as_10 : decode cX9_as 10 = .ok (.ifCond .ne 5, 3) := by decide +kernel
theorem dX9_as_13 : decode cX9_as 13 = .ok (.iconst (-1), 1) := by decide +kernel
theorem dX9_as_14 : decode cX9_as 14 = .ok (.ireturn, 1) := by decide +kernel
theorem dX9_as_15 : decode cX9_as 15 = .ok (.iload_n 2, 1) := by decide +kernel
theorem dX9_as_16 : decode cX9_as 16 = .ok (.iconst 0, 1) := by decide +kernel
theorem dX9_as_17 : decode cX9_as 17 = .ok (.iconst 2, 1) := by decide +kernel
theorem dX9_as_18 : decode cX9_as 18 = .ok (.invokestatic 77, 3) := by decide +kernel
theorem dX9_as_21 : decode cX9_as 21 = .ok (.ifCond .ne 6, 3) := by decide +kernel
theorem dX9_as_24 : decode cX9_as 24 = .ok (.bipush (-2), 2) := by decide +kernel
theorem dX9_as_26 : decode cX9_as 26 = .ok (.ireturn, 1) := by decide +kernel
theorem dX9_as_27 : decode cX9_as 27 = .ok (.aload_n 0, 1) := by decide +kernel
theorem dX9_as_28 : decode cX9_as 28 = .ok (.getfield 29, 3) := by decide +kernel
theorem dX9_as_31 : decode cX9_as 31 = .ok (.iload_n 1, 1) := by decide +kernel
theorem dX9_as_32 : decode cX9_as 32 = .ok (.iaload, 1) := by decide +kernel
theorem dX9_as_33 : decode cX9_as 33 = .ok (.iload_n 2, 1) := by decide +kernel
theorem dX9_as_34 : decode cX9_as 34 = .ok (.if_icmp .lt 7, 3) := by decide +kernel
theorem dX9_as_37 : decode cX9_as 37 = .ok (.iconst 1, 1) := by decide +kernel
theorem dX9_as_38 : decode cX9_as 38 = .ok (.goto 8, 3) := by decide +kernel
theorem dX9_as_41 : decode cX9_as 41 = .ok (.aload_n 0, 1) := by decide +kernel
theorem dX9_as_42 : decode cX9_as 42 = .ok (.iconst 2, 1) := by decide +kernel
theorem dX9_as_43 : decode cX9_as 43 = .ok (.invokevirtual 101, 3) := by decide +kernel
theorem dX9_as_46 : decode cX9_as 46 = .ok (.ireturn, 1) := by decide +kernel
theorem dX9_trace_0 : decode cX9_trace 0 = .ok (.aload_n 0, 1) := by decide +kernel
theorem dX9_trace_1 : decode cX9_trace 1 = .ok (.getfield 236, 3) := by decide +kernel
theorem dX9_trace_4 : decode cX9_trace 4 = .ok (.ireturn, 1) := by decide +kernel
theorem dX9_fault_0 : decode cX9_fault 0 = .ok (.aload_n 0, 1) := by decide +kernel
theorem dX9_fault_1 : decode cX9_fault 1 = .ok (.getfield 71, 3) := by decide +kernel
theorem dX9_fault_4 : decode cX9_fault 4 = .ok (.ireturn, 1) := by decide +kernel
theorem dX9_many_0 : decode cX9_many 0 = .ok (.iload_n 1, 1) := by decide +kernel
theorem dX9_many_1 : decode cX9_many 1 = .ok (.tableswitch 75 0 4 #[35, 40, 45, 50, 70], 35) := by decide +kernel
theorem dX9_many_36 : decode cX9_many 36 = .ok (.aload_n 0, 1) := by decide +kernel
theorem dX9_many_37 : decode cX9_many 37 = .ok (.getfield 81, 3) := by decide +kernel
theorem dX9_many_40 : decode cX9_many 40 = .ok (.ireturn, 1) := by decide +kernel
theorem dX9_many_41 : decode cX9_many 41 = .ok (.aload_n 0, 1) := by decide +kernel
theorem dX9_many_42 : decode cX9_many 42 = .ok (.getfield 84, 3) := by decide +kernel
theorem dX9_many_45 : decode cX9_many 45 = .ok (.ireturn, 1) := by decide +kernel
theorem dX9_many_46 : decode cX9_many 46 = .ok (.aload_n 0, 1) := by decide +kernel
theorem dX9_many_47 : decode cX9_many 47 = .ok (.getfield 120, 3) := by decide +kernel
theorem dX9_many_50 : decode cX9_many 50 = .ok (.ireturn, 1) := by decide +kernel
theorem dX9_many_51 : decode cX9_many 51 = .ok (.aload_n 0, 1) := by decide +kernel
theorem dX9_many_52 : decode cX9_many 52 = .ok (.getfield 81, 3) := by decide +kernel
theorem dX9_many_55 : decode cX9_many 55 = .ok (.ifCond .ne 7, 3) := by decide +kernel
theorem dX9_many_58 : decode cX9_many 58 = .ok (.iconst 0, 1) := by decide +kernel
theorem dX9_many_59 : decode cX9_many 59 = .ok (.goto 11, 3) := by decide +kernel
theorem dX9_many_62 : decode cX9_many 62 = .ok (.iconst 2, 1) := by decide +kernel
theorem dX9_many_63 : decode cX9_many 63 = .ok (.aload_n 0, 1) := by decide +kernel
theorem dX9_many_64 : decode cX9_many 64 = .ok (.getfield 81, 3) := by decide +kernel
theorem dX9_many_67 : decode cX9_many 67 = .ok (.imul, 1) := by decide +kernel
theorem dX9_many_68 : decode cX9_many 68 = .ok (.iconst 1, 1) := by decide +kernel
theorem dX9_many_69 : decode cX9_many 69 = .ok (.isub, 1) := by decide +kernel
theorem dX9_many_70 : decode cX9_many 70 = .ok (.ireturn, 1) := by decide +kernel
theorem dX9_many_71 : decode cX9_many 71 = .ok (.aload_n 0, 1) := by decide +kernel
theorem dX9_many_72 : decode cX9_many 72 = .ok (.getfield 117, 3) := by decide +kernel
theorem dX9_many_75 : decode cX9_many 75 = .ok (.ireturn, 1) := by decide +kernel
theorem dX9_many_76 : decode cX9_many 76 = .ok (.bipush (-2), 2) := by decide +kernel
theorem dX9_many_78 : decode cX9_many 78 = .ok (.ireturn, 1) := by decide +kernel
theorem dJ13_bitCount_95d88_0 : decode cJ13_bitCount_95d88 0 = .ok (.lload_n 0, 1) := by decide +kernel
theorem dJ13_bitCount_95d88_1 : decode cJ13_bitCount_95d88 1 = .ok (.lload_n 0, 1) := by decide +kernel
theorem dJ13_bitCount_95d88_2 : decode cJ13_bitCount_95d88 2 = .ok (.iconst 1, 1) := by decide +kernel
theorem dJ13_bitCount_95d88_3 : decode cJ13_bitCount_95d88 3 = .ok (.lushr, 1) := by decide +kernel
theorem dJ13_bitCount_95d88_4 : decode cJ13_bitCount_95d88 4 = .ok (.ldc2_w 314, 3) := by decide +kernel
theorem dJ13_bitCount_95d88_7 : decode cJ13_bitCount_95d88 7 = .ok (.land, 1) := by decide +kernel
theorem dJ13_bitCount_95d88_8 : decode cJ13_bitCount_95d88 8 = .ok (.lsub, 1) := by decide +kernel
theorem dJ13_bitCount_95d88_9 : decode cJ13_bitCount_95d88 9 = .ok (.lstore_n 0, 1) := by decide +kernel
theorem dJ13_bitCount_95d88_10 : decode cJ13_bitCount_95d88 10 = .ok (.lload_n 0, 1) := by decide +kernel
theorem dJ13_bitCount_95d88_11 : decode cJ13_bitCount_95d88 11 = .ok (.ldc2_w 316, 3) := by decide +kernel
theorem dJ13_bitCount_95d88_14 : decode cJ13_bitCount_95d88 14 = .ok (.land, 1) := by decide +kernel
theorem dJ13_bitCount_95d88_15 : decode cJ13_bitCount_95d88 15 = .ok (.lload_n 0, 1) := by decide +kernel
theorem dJ13_bitCount_95d88_16 : decode cJ13_bitCount_95d88 16 = .ok (.iconst 2, 1) := by decide +kernel
theorem dJ13_bitCount_95d88_17 : decode cJ13_bitCount_95d88 17 = .ok (.lushr, 1) := by decide +kernel
theorem dJ13_bitCount_95d88_18 : decode cJ13_bitCount_95d88 18 = .ok (.ldc2_w 316, 3) := by decide +kernel
theorem dJ13_bitCount_95d88_21 : decode cJ13_bitCount_95d88 21 = .ok (.land, 1) := by decide +kernel
theorem dJ13_bitCount_95d88_22 : decode cJ13_bitCount_95d88 22 = .ok (.ladd, 1) := by decide +kernel
theorem dJ13_bitCount_95d88_23 : decode cJ13_bitCount_95d88 23 = .ok (.lstore_n 0, 1) := by decide +kernel
theorem dJ13_bitCount_95d88_24 : decode cJ13_bitCount_95d88 24 = .ok (.lload_n 0, 1) := by decide +kernel
theorem dJ13_bitCount_95d88_25 : decode cJ13_bitCount_95d88 25 = .ok (.lload_n 0, 1) := by decide +kernel
theorem dJ13_bitCount_95d88_26 : decode cJ13_bitCount_95d88 26 = .ok (.iconst 4, 1) := by decide +kernel
theorem dJ13_bitCount_95d88_27 : decode cJ13_bitCount_95d88 27 = .ok (.lushr, 1) := by decide +kernel
theorem dJ13_bitCount_95d88_28 : decode cJ13_bitCount_95d88 28 = .ok (.ladd, 1) := by decide +kernel
theorem dJ13_bitCount_95d88_29 : decode cJ13_bitCount_95d88 29 = .ok (.ldc2_w 318, 3) := by decide +kernel
theorem dJ13_bitCount_95d88_32 : decode cJ13_bitCount_95d88 32 = .ok (.land, 1) := by decide +kernel
theorem dJ13_bitCount_95d88_33 : decode cJ13_bitCount_95d88 33 = .ok (.lstore_n 0, 1) := by decide +kernel
theorem dJ13_bitCount_95d88_34 : decode cJ13_bitCount_95d88 34 = .ok (.lload_n 0, 1) := by decide +kernel
theorem dJ13_bitCount_95d88_35 : decode cJ13_bitCount_95d88 35 = .ok (.lload_n 0, 1) := by decide +kernel
theorem dJ13_bitCount_95d88_36 : decode cJ13_bitCount_95d88 36 = .ok (.bipush 8, 2) := by decide +kernel
theorem dJ13_bitCount_95d88_38 : decode cJ13_bitCount_95d88 38 = .ok (.lushr, 1) := by decide +kernel
theorem dJ13_bitCount_95d88_39 : decode cJ13_bitCount_95d88 39 = .ok (.ladd, 1) := by decide +kernel
theorem dJ13_bitCount_95d88_40 : decode cJ13_bitCount_95d88 40 = .ok (.lstore_n 0, 1) := by decide +kernel
theorem dJ13_bitCount_95d88_41 : decode cJ13_bitCount_95d88 41 = .ok (.lload_n 0, 1) := by decide +kernel
theorem dJ13_bitCount_95d88_42 : decode cJ13_bitCount_95d88 42 = .ok (.lload_n 0, 1) := by decide +kernel
theorem dJ13_bitCount_95d88_43 : decode cJ13_bitCount_95d88 43 = .ok (.bipush 16, 2) := by decide +kernel
theorem dJ13_bitCount_95d88_45 : decode cJ13_bitCount_95d88 45 = .ok (.lushr, 1) := by decide +kernel
theorem dJ13_bitCount_95d88_46 : decode cJ13_bitCount_95d88 46 = .ok (.ladd, 1) := by decide +kernel
theorem dJ13_bitCount_95d88_47 : decode cJ13_bitCount_95d88 47 = .ok (.lstore_n 0, 1) := by decide +kernel
theorem dJ13_bitCount_95d88_48 : decode cJ13_bitCount_95d88 48 = .ok (.lload_n 0, 1) := by decide +kernel
theorem dJ13_bitCount_95d88_49 : decode cJ13_bitCount_95d88 49 = .ok (.lload_n 0, 1) := by decide +kernel
theorem dJ13_bitCount_95d88_50 : decode cJ13_bitCount_95d88 50 = .ok (.bipush 32, 2) := by decide +kernel
theorem dJ13_bitCount_95d88_52 : decode cJ13_bitCount_95d88 52 = .ok (.lushr, 1) := by decide +kernel
theorem dJ13_bitCount_95d88_53 : decode cJ13_bitCount_95d88 53 = .ok (.ladd, 1) := by decide +kernel
theorem dJ13_bitCount_95d88_54 : decode cJ13_bitCount_95d88 54 = .ok (.lstore_n 0, 1) := by decide +kernel
theorem dJ13_bitCount_95d88_55 : decode cJ13_bitCount_95d88 55 = .ok (.lload_n 0, 1) := by decide +kernel
theorem dJ13_bitCount_95d88_56 : decode cJ13_bitCount_95d88 56 = .ok (.l2i, 1) := by decide +kernel
theorem dJ13_bitCount_95d88_57 : decode cJ13_bitCount_95d88 57 = .ok (.bipush 127, 2) := by decide +kernel
theorem dJ13_bitCount_95d88_59 : decode cJ13_bitCount_95d88 59 = .ok (.iand, 1) := by decide +kernel
theorem dJ13_bitCount_95d88_60 : decode cJ13_bitCount_95d88 60 = .ok (.ireturn, 1) := by decide +kernel
theorem dJ9_max_f86c9_0 : decode cJ9_max_f86c9 0 = .ok (.lload_n 0, 1) := by decide +kernel
theorem dJ9_max_f86c9_1 : decode cJ9_max_f86c9 1 = .ok (.lload_n 2, 1) := by decide +kernel
theorem dJ9_max_f86c9_2 : decode cJ9_max_f86c9 2 = .ok (.lcmp, 1) := by decide +kernel
theorem dJ9_max_f86c9_3 : decode cJ9_max_f86c9 3 = .ok (.ifCond .lt 7, 3) := by decide +kernel
theorem dJ9_max_f86c9_6 : decode cJ9_max_f86c9 6 = .ok (.lload_n 0, 1) := by decide +kernel
theorem dJ9_max_f86c9_7 : decode cJ9_max_f86c9 7 = .ok (.goto 4, 3) := by decide +kernel
theorem dJ9_max_f86c9_10 : decode cJ9_max_f86c9 10 = .ok (.lload_n 2, 1) := by decide +kernel
theorem dJ9_max_f86c9_11 : decode cJ9_max_f86c9 11 = .ok (.lreturn, 1) := by decide +kernel
theorem dJ9_min_f86c9_0 : decode cJ9_min_f86c9 0 = .ok (.lload_n 0, 1) := by decide +kernel
theorem dJ9_min_f86c9_1 : decode cJ9_min_f86c9 1 = .ok (.lload_n 2, 1) := by decide +kernel
theorem dJ9_min_f86c9_2 : decode cJ9_min_f86c9 2 = .ok (.lcmp, 1) := by decide +kernel
theorem dJ9_min_f86c9_3 : decode cJ9_min_f86c9 3 = .ok (.ifCond .gt 7, 3) := by decide +kernel
theorem dJ9_min_f86c9_6 : decode cJ9_min_f86c9 6 = .ok (.lload_n 0, 1) := by decide +kernel
theorem dJ9_min_f86c9_7 : decode cJ9_min_f86c9 7 = .ok (.goto 4, 3) := by decide +kernel
theorem dJ9_min_f86c9_10 : decode cJ9_min_f86c9 10 = .ok (.lload_n 2, 1) := by decide +kernel
theorem dJ9_min_f86c9_11 : decode cJ9_min_f86c9 11 = .ok (.lreturn, 1) := by decide +kernel
theorem dJ7_fill_53178_0 : decode cJ7_fill_53178 0 = .ok (.iconst 0, 1) := by decide +kernel
theorem dJ7_fill_53178_1 : decode cJ7_fill_53178 1 = .ok (.istore_n 2, 1) := by decide +kernel
theorem dJ7_fill_53178_2 : decode cJ7_fill_53178 2 = .ok (.aload_n 0, 1) := by decide +kernel
theorem dJ7_fill_53178_3 : decode cJ7_fill_53178 3 = .ok (.arraylength, 1) := by decide +kernel
theorem dJ7_fill_53178_4 : decode cJ7_fill_53178 4 = .ok (.istore_n 3, 1) := by decide +kernel
theorem dJ7_fill_53178_5 : decode cJ7_fill_53178 5 = .ok (.iload_n 2, 1) := by decide +kernel
theorem dJ7_fill_53178_6 : decode cJ7_fill_53178 6 = .ok (.iload_n 3, 1) := by decide +kernel
theorem dJ7_fill_53178_7 : decode cJ7_fill_53178 7 = .ok (.if_icmp .ge 13, 3) := by decide +kernel
theorem dJ7_fill_53178_10 : decode cJ7_fill_53178 10 = .ok (.aload_n 0, 1) := by decide +kernel
theorem dJ7_fill_53178_11 : decode cJ7_fill_53178 11 = .ok (.iload_n 2, 1) := by decide +kernel
theorem dJ7_fill_53178_12 : decode cJ7_fill_53178 12 = .ok (.iload_n 1, 1) := by decide +kernel
theorem dJ7_fill_53178_13 : decode cJ7_fill_53178 13 = .ok (.iastore, 1) := by decide +kernel
theorem dJ7_fill_53178_14 : decode cJ7_fill_53178 14 = .ok (.iinc 2 1, 3) := by decide +kernel
theorem dJ7_fill_53178_17 : decode cJ7_fill_53178 17 = .ok (.goto (-12), 3) := by decide +kernel
theorem dJ7_fill_53178_20 : decode cJ7_fill_53178 20 = .ok (.return_, 1) := by decide +kernel
