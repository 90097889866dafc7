theorem dX3_buy_0 : decode cX3_buy 0 = .ok (.iload_n 1, 1) := by decide +kernel
theorem dX3_buy_1 : decode cX3_buy 1 = .ok (.invokestatic 107, 3) := by decide +kernel
theorem dX3_buy_4 : decode cX3_buy 4 = .ok (.ifCond .ne 5, 3) := by decide +kernel
theorem dX3_buy_7 : decode cX3_buy 7 = .ok (.iconst (-1), 1) := by decide +kernel
theorem dX3_buy_8 : decode cX3_buy 8 = .ok (.ireturn, 1) := by decide +kernel
theorem dX3_buy_9 : decode cX3_buy 9 = .ok (.aload_n 0, 1) := by decide +kernel
theorem dX3_buy_10 : decode cX3_buy 10 = .ok (.getfield 12, 3) := by decide +kernel
theorem dX3_buy_13 : decode cX3_buy 13 = .ok (.iload_n 1, 1) := by decide +kernel
theorem dX3_buy_14 : decode cX3_buy 14 = .ok (.invokevirtual 149, 3) := by decide +kernel
theorem dX3_buy_17 : decode cX3_buy 17 = .ok (.istore_n 2, 1) := by decide +kernel
theorem dX3_buy_18 : decode cX3_buy 18 = .ok (.aload_n 0, 1) := by decide +kernel
theorem dX3_buy_19 : decode cX3_buy 19 = .ok (.getfield 12, 3) := by decide +kernel
theorem dX3_buy_22 : decode cX3_buy 22 = .ok (.getfield 113, 3) := by decide +kernel
theorem dX3_buy_25 : decode cX3_buy 25 = .ok (.iload_n 1, 1) := by decide +kernel
theorem dX3_buy_26 : decode cX3_buy 26 = .ok (.baload, 1) := by decide +kernel
theorem dX3_buy_27 : decode cX3_buy 27 = .ok (.ifCond .ne 14, 3) := by decide +kernel
theorem dX3_buy_30 : decode cX3_buy 30 = .ok (.aload_n 0, 1) := by decide +kernel
theorem dX3_buy_31 : decode cX3_buy 31 = .ok (.getfield 12, 3) := by decide +kernel
theorem dX3_buy_34 : decode cX3_buy 34 = .ok (.getfield 152, 3) := by decide +kernel
theorem dX3_buy_37 : decode cX3_buy 37 = .ok (.iload_n 2, 1) := by decide +kernel
theorem dX3_buy_38 : decode cX3_buy 38 = .ok (.if_icmp .ge 6, 3) := by decide +kernel
theorem dX3_buy_41 : decode cX3_buy 41 = .ok (.bipush (-4), 2) := by decide +kernel
theorem dX3_buy_43 : decode cX3_buy 43 = .ok (.ireturn, 1) := by decide +kernel
theorem dX3_buy_44 : decode cX3_buy 44 = .ok (.aload_n 0, 1) := by decide +kernel
theorem dX3_buy_45 : decode cX3_buy 45 = .ok (.getfield 12, 3) := by decide +kernel
theorem dX3_buy_48 : decode cX3_buy 48 = .ok (.iload_n 1, 1) := by decide +kernel
theorem dX3_buy_49 : decode cX3_buy 49 = .ok (.invokevirtual 155, 3) := by decide +kernel
theorem dX3_buy_52 : decode cX3_buy 52 = .ok (.ifCond .ne 6, 3) := by decide +kernel
theorem dX3_buy_55 : decode cX3_buy 55 = .ok (.bipush (-5), 2) := by decide +kernel
theorem dX3_buy_57 : decode cX3_buy 57 = .ok (.ireturn, 1) := by decide +kernel
theorem dX3_buy_58 : decode cX3_buy 58 = .ok (.aload_n 0, 1) := by decide +kernel
theorem dX3_buy_59 : decode cX3_buy 59 = .ok (.invokevirtual 45, 3) := by decide +kernel
theorem dX3_buy_62 : decode cX3_buy 62 = .ok (.aload_n 0, 1) := by decide +kernel
theorem dX3_buy_63 : decode cX3_buy 63 = .ok (.getfield 12, 3) := by decide +kernel
theorem dX3_buy_66 : decode cX3_buy 66 = .ok (.iload_n 1, 1) := by decide +kernel
theorem dX3_buy_67 : decode cX3_buy 67 = .ok (.invokevirtual 158, 3) := by decide +kernel
theorem dX3_buy_70 : decode cX3_buy 70 = .ok (.istore_n 3, 1) := by decide +kernel
theorem dX3_buy_71 : decode cX3_buy 71 = .ok (.aload_n 0, 1) := by decide +kernel
theorem dX3_buy_72 : decode cX3_buy 72 = .ok (.getfield 12, 3) := by decide +kernel
theorem dX3_buy_75 : decode cX3_buy 75 = .ok (.iload_n 3, 1) := by decide +kernel
theorem dX3_buy_76 : decode cX3_buy 76 = .ok (.invokevirtual 161, 3) := by decide +kernel
theorem dX3_buy_79 : decode cX3_buy 79 = .ok (.istore 4, 2) := by decide +kernel
theorem dX3_buy_81 : decode cX3_buy 81 = .ok (.iload 4, 2) := by decide +kernel
theorem dX3_buy_83 : decode cX3_buy 83 = .ok (.invokestatic 107, 3) := by decide +kernel
theorem dX3_buy_86 : decode cX3_buy 86 = .ok (.ifCond .eq 14, 3) := by decide +kernel
theorem dX3_buy_89 : decode cX3_buy 89 = .ok (.aload_n 0, 1) := by decide +kernel
theorem dX3_buy_90 : decode cX3_buy 90 = .ok (.getfield 12, 3) := by decide +kernel
theorem dX3_buy_93 : decode cX3_buy 93 = .ok (.getfield 121, 3) := by decide +kernel
theorem dX3_buy_96 : decode cX3_buy 96 = .ok (.iload 4, 2) := by decide +kernel
theorem dX3_buy_98 : decode cX3_buy 98 = .ok (.iconst 0, 1) := by decide +kernel
theorem dX3_buy_99 : decode cX3_buy 99 = .ok (.iastore, 1) := by decide +kernel
theorem dX3_buy_100 : decode cX3_buy 100 = .ok (.aload_n 0, 1) := by decide +kernel
theorem dX3_buy_101 : decode cX3_buy 101 = .ok (.getfield 12, 3) := by decide +kernel
theorem dX3_buy_104 : decode cX3_buy 104 = .ok (.getfield 121, 3) := by decide +kernel
theorem dX3_buy_107 : decode cX3_buy 107 = .ok (.iload_n 1, 1) := by decide +kernel
theorem dX3_buy_108 : decode cX3_buy 108 = .ok (.iload_n 3, 1) := by decide +kernel
theorem dX3_buy_109 : decode cX3_buy 109 = .ok (.iastore, 1) := by decide +kernel
theorem dX3_buy_110 : decode cX3_buy 110 = .ok (.aload_n 0, 1) := by decide +kernel
theorem dX3_buy_111 : decode cX3_buy 111 = .ok (.getfield 12, 3) := by decide +kernel
theorem dX3_buy_114 : decode cX3_buy 114 = .ok (.getfield 113, 3) := by decide +kernel
theorem dX3_buy_117 : decode cX3_buy 117 = .ok (.iload_n 1, 1) := by decide +kernel
theorem dX3_buy_118 : decode cX3_buy 118 = .ok (.iconst 1, 1) := by decide +kernel
theorem dX3_buy_119 : decode cX3_buy 119 = .ok (.bastore, 1) := by decide +kernel
theorem dX3_buy_120 : decode cX3_buy 120 = .ok (.aload_n 0, 1) := by decide +kernel
theorem dX3_buy_121 : decode cX3_buy 121 = .ok (.getfield 12, 3) := by decide +kernel
theorem dX3_buy_124 : decode cX3_buy 124 = .ok (.dup, 1) := by decide +kernel
theorem dX3_buy_125 : decode cX3_buy 125 = .ok (.getfield 152, 3) := by decide +kernel
theorem dX3_buy_128 : decode cX3_buy 128 = .ok (.iload_n 2, 1) := by decide +kernel
theorem dX3_buy_129 : decode cX3_buy 129 = .ok (.isub, 1) := by decide +kernel
theorem dX3_buy_130 : decode cX3_buy 130 = .ok (.putfield 152, 3) := by decide +kernel
theorem dX3_buy_133 : decode cX3_buy 133 = .ok (.aload_n 0, 1) := by decide +kernel
theorem dX3_buy_134 : decode cX3_buy 134 = .ok (.getfield 12, 3) := by decide +kernel
theorem dX3_buy_137 : decode cX3_buy 137 = .ok (.dup, 1) := by decide +kernel
theorem dX3_buy_138 : decode cX3_buy 138 = .ok (.getfield 164, 3) := by decide +kernel
theorem dX3_buy_141 : decode cX3_buy 141 = .ok (.iconst 1, 1) := by decide +kernel
theorem dX3_buy_142 : decode cX3_buy 142 = .ok (.iadd, 1) := by decide +kernel
theorem dX3_buy_143 : decode cX3_buy 143 = .ok (.putfield 164, 3) := by decide +kernel
theorem dX3_buy_146 : decode cX3_buy 146 = .ok (.iload_n 3, 1) := by decide +kernel
theorem dX3_buy_147 : decode cX3_buy 147 = .ok (.ireturn, 1) := by decide +kernel
set_option maxRecDepth 20000 in
theorem ggX3_check_X3_isWord : GoodIn wsX3_check wsX3_isWord := goodIn_r _ [11, 4, 12, 60, 61, 62, 63, 64, 65, 66, 78, 79, 80, 81] (by decide +kernel) (by decide +kernel)
set_option maxRecDepth 20000 in
theorem gX3_check_X3_isWord : GoodIn wsX3_check (wsV RX3 127 RX3 yX3_isWord wsX3_isWord) := goodIn_app (goodIn_of _ (by decide +kernel)) ggX3_check_X3_isWord
set_option maxRecDepth 20000 in
theorem ggX3_check_X3_remember : GoodIn wsX3_check wsX3_remember := goodIn_r _ [16, 17, 18, 1, 19, 20, 21, 22, 23, 24, 25, 26, 27, 28, 29, 30, 31, 32, 33, 34, 35, 36, 37, 38, 60, 61, 62, 63, 64, 65, 66, 67, 68, 69, 70, 71, 72, 73, 74, 75, 76, 77] (by decide +kernel) (by decide +kernel)
set_option maxRecDepth 20000 in
theorem gX3_check_X3_remember : GoodIn wsX3_check (wsV RX3 45 RX3 yX3_remember wsX3_remember) := goodIn_app (goodIn_of _ (by decide +kernel)) ggX3_check_X3_remember
set_option maxRecDepth 20000 in
theorem ggX3_check_X2_cellOf : GoodIn wsX3_check wsX2_cellOf := goodIn_r _ [43, 44, 45, 78, 79, 80, 81] (by decide +kernel) (by decide +kernel)
set_option maxRecDepth 20000 in
theorem gX3_check_X2_cellOf : GoodIn wsX3_check (wsV RX3 170 RX2 yX2_cellOf wsX2_cellOf) := goodIn_app (goodIn_of _ (by decide +kernel)) ggX3_check_X2_cellOf
set_option maxRecDepth 20000 in
theorem ggX3_check_X0_guessAt : GoodIn wsX3_check wsX0_guessAt := goodIn_r _ [49, 31, 50, 51, 52, 22, 53, 24, 54, 55, 56, 57, 34, 35, 58, 10, 59, 67, 68, 69, 70, 71, 72, 73, 74, 75, 76, 77] (by decide +kernel) (by decide +kernel)
set_option maxRecDepth 20000 in
theorem gX3_check_X0_guessAt : GoodIn wsX3_check (wsV RX3 173 RX0 yX0_guessAt wsX0_guessAt) := goodIn_app (goodIn_of _ (by decide +kernel)) ggX3_check_X0_guessAt
theorem dX3_check_0 : decode cX3_check 0 = .ok (.aload_n 0, 1) := by decide +kernel
theorem dX3_check_1 : decode cX3_check 1 = .ok (.iload_n 1, 1) := by decide +kernel
theorem dX3_check_2 : decode cX3_check 2 = .ok (.invokevirtual 127, 3) := by decide +kernel
theorem dX3_check_5 : decode cX3_check 5 = .ok (.ifCond .ne 5, 3) := by decide +kernel
theorem dX3_check_8 : decode cX3_check 8 = .ok (.iconst (-1), 1) := by decide +kernel
theorem dX3_check_9 : decode cX3_check 9 = .ok (.ireturn, 1) := by decide +kernel
theorem dX3_check_10 : decode cX3_check 10 = .ok (.aload_n 0, 1) := by decide +kernel
theorem dX3_check_11 : decode cX3_check 11 = .ok (.getfield 12, 3) := by decide +kernel
theorem dX3_check_14 : decode cX3_check 14 = .ok (.getfield 152, 3) := by decide +kernel
theorem dX3_check_17 : decode cX3_check 17 = .ok (.ifCond .ne 6, 3) := by decide +kernel
theorem dX3_check_20 : decode cX3_check 20 = .ok (.bipush (-4), 2) := by decide +kernel
theorem dX3_check_22 : decode cX3_check 22 = .ok (.ireturn, 1) := by decide +kernel
theorem dX3_check_23 : decode cX3_check 23 = .ok (.aload_n 0, 1) := by decide +kernel
theorem dX3_check_24 : decode cX3_check 24 = .ok (.invokevirtual 45, 3) := by decide +kernel
theorem dX3_check_27 : decode cX3_check 27 = .ok (.aload_n 0, 1) := by decide +kernel
theorem dX3_check_28 : decode cX3_check 28 = .ok (.getfield 12, 3) := by decide +kernel
theorem dX3_check_31 : decode cX3_check 31 = .ok (.dup, 1) := by decide +kernel
theorem dX3_check_32 : decode cX3_check 32 = .ok (.getfield 152, 3) := by decide +kernel
theorem dX3_check_35 : decode cX3_check 35 = .ok (.iconst 1, 1) := by decide +kernel
theorem dX3_check_36 : decode cX3_check 36 = .ok (.isub, 1) := by decide +kernel
theorem dX3_check_37 : decode cX3_check 37 = .ok (.putfield 152, 3) := by decide +kernel
theorem dX3_check_40 : decode cX3_check 40 = .ok (.aload_n 0, 1) := by decide +kernel
theorem dX3_check_41 : decode cX3_check 41 = .ok (.getfield 12, 3) := by decide +kernel
theorem dX3_check_44 : decode cX3_check 44 = .ok (.dup, 1) := by decide +kernel
theorem dX3_check_45 : decode cX3_check 45 = .ok (.getfield 167, 3) := by decide +kernel
theorem dX3_check_48 : decode cX3_check 48 = .ok (.iconst 1, 1) := by decide +kernel
theorem dX3_check_49 : decode cX3_check 49 = .ok (.iadd, 1) := by decide +kernel
theorem dX3_check_50 : decode cX3_check 50 = .ok (.putfield 167, 3) := by decide +kernel
theorem dX3_check_53 : decode cX3_check 53 = .ok (.iconst 0, 1) := by decide +kernel
theorem dX3_check_54 : decode cX3_check 54 = .ok (.istore_n 2, 1) := by decide +kernel
theorem dX3_check_55 : decode cX3_check 55 = .ok (.iconst 0, 1) := by decide +kernel
theorem dX3_check_56 : decode cX3_check 56 = .ok (.istore_n 3, 1) := by decide +kernel
theorem dX3_check_57 : decode cX3_check 57 = .ok (.iload_n 3, 1) := by decide +kernel
theorem dX3_check_58 : decode cX3_check 58 = .ok (.aload_n 0, 1) := by decide +kernel
theorem dX3_check_59 : decode cX3_check 59 = .ok (.getfield 19, 3) := by decide +kernel
theorem dX3_check_62 : decode cX3_check 62 = .ok (.getfield 136, 3) := by decide +kernel
theorem dX3_check_65 : decode cX3_check 65 = .ok (.iload_n 1, 1) := by decide +kernel
theorem dX3_check_66 : decode cX3_check 66 = .ok (.iaload, 1) := by decide +kernel
theorem dX3_check_67 : decode cX3_check 67 = .ok (.if_icmp .ge 54, 3) := by decide +kernel
theorem dX3_check_70 : decode cX3_check 70 = .ok (.aload_n 0, 1) := by decide +kernel
theorem dX3_check_71 : decode cX3_check 71 = .ok (.getfield 19, 3) := by decide +kernel
theorem dX3_check_74 : decode cX3_check 74 = .ok (.iload_n 1, 1) := by decide +kernel
theorem dX3_check_75 : decode cX3_check 75 = .ok (.iload_n 3, 1) := by decide +kernel
theorem dX3_check_76 : decode cX3_check 76 = .ok (.invokevirtual 170, 3) := by decide +kernel
theorem dX3_check_79 : decode cX3_check 79 = .ok (.istore 4, 2) := by decide +kernel
theorem dX3_check_81 : decode cX3_check 81 = .ok (.aload_n 0, 1) := by decide +kernel
theorem dX3_check_82 : decode cX3_check 82 = .ok (.getfield 12, 3) := by decide +kernel
theorem dX3_check_85 : decode cX3_check 85 = .ok (.iload 4, 2) := by decide +kernel
theorem dX3_check_87 : decode cX3_check 87 = .ok (.invokevirtual 173, 3) := by decide +kernel
theorem dX3_check_90 : decode cX3_check 90 = .ok (.istore 5, 2) := by decide +kernel
theorem dX3_check_92 : decode cX3_check 92 = .ok (.iload 5, 2) := by decide +kernel
theorem dX3_check_94 : decode cX3_check 94 = .ok (.ifCond .eq 21, 3) := by decide +kernel
theorem dX3_check_97 : decode cX3_check 97 = .ok (.iload 5, 2) := by decide +kernel
theorem dX3_check_99 : decode cX3_check 99 = .ok (.aload_n 0, 1) := by decide +kernel
theorem dX3_check_100 : decode cX3_check 100 = .ok (.getfield 12, 3) := by decide +kernel
theorem dX3_check_103 : decode cX3_check 103 = .ok (.getfield 48, 3) := by decide +kernel
theorem dX3_check_106 : decode cX3_check 106 = .ok (.iload 4, 2) := by decide +kernel
theorem dX3_check_108 : decode cX3_check 108 = .ok (.iaload, 1) := by decide +kernel
theorem dX3_check_109 : decode cX3_check 109 = .ok (.if_icmp .eq 6, 3) := by decide +kernel
theorem dX3_check_112 : decode cX3_check 112 = .ok (.iinc 2 1, 3) := by decide +kernel
theorem dX3_check_115 : decode cX3_check 115 = .ok (.iinc 3 1, 3) := by decide +kernel
theorem dX3_check_118 : decode cX3_check 118 = .ok (.goto (-61), 3) := by decide +kernel
theorem dX3_check_121 : decode cX3_check 121 = .ok (.iload_n 2, 1) := by decide +kernel
theorem dX3_check_122 : decode cX3_check 122 = .ok (.ireturn, 1) := by decide +kernel
set_option maxRecDepth 20000 in
theorem ggX3_give_X3_remember : GoodIn wsX3_give wsX3_remember := goodIn_r _ [11, 12, 13, 1, 14, 15, 16, 17, 18, 19, 20, 21, 22, 23, 24, 25, 26, 27, 28, 29, 30, 31, 32, 33, 34, 35, 36, 37, 38, 39, 40, 41, 42, 43, 44, 45, 46, 47, 48, 49, 50, 51] (by decide +kernel) (by decide +kernel)
set_option maxRecDepth 20000 in
theorem gX3_give_X3_remember : GoodIn wsX3_give (wsV RX3 45 RX3 yX3_remember wsX3_remember) := goodIn_app (goodIn_of _ (by decide +kernel)) ggX3_give_X3_remember
theorem dX3_give_0 : decode cX3_give 0 = .ok (.iload_n 1, 1) := by decide +kernel
theorem dX3_give_1 : decode cX3_give 1 = .ok (.iconst 1, 1) := by decide +kernel
theorem dX3_give_2 : decode cX3_give 2 = .ok (.if_icmp .lt 9, 3) := by decide +kernel
theorem dX3_give_5 : decode cX3_give 5 = .ok (.iload_n 1, 1) := by decide +kernel
theorem dX3_give_6 : decode cX3_give 6 = .ok (.bipush 99, 2) := by decide +kernel
theorem dX3_give_8 : decode cX3_give 8 = .ok (.if_icmp .le 6, 3) := by decide +kernel
theorem dX3_give_11 : decode cX3_give 11 = .ok (.bipush (-2), 2) := by decide +kernel
theorem dX3_give_13 : decode cX3_give 13 = .ok (.ireturn, 1) := by decide +kernel
theorem dX3_give_14 : decode cX3_give 14 = .ok (.aload_n 0, 1) := by decide +kernel
theorem dX3_give_15 : decode cX3_give 15 = .ok (.getfield 12, 3) := by decide +kernel
theorem dX3_give_18 : decode cX3_give 18 = .ok (.getfield 152, 3) := by decide +kernel
theorem dX3_give_21 : decode cX3_give 21 = .ok (.sipush 999, 3) := by decide +kernel
theorem dX3_give_24 : decode cX3_give 24 = .ok (.if_icmp .ne 6, 3) := by decide +kernel
theorem dX3_give_27 : decode cX3_give 27 = .ok (.bipush (-5), 2) := by decide +kernel
theorem dX3_give_29 : decode cX3_give 29 = .ok (.ireturn, 1) := by decide +kernel
theorem dX3_give_30 : decode cX3_give 30 = .ok (.aload_n 0, 1) := by decide +kernel
theorem dX3_give_31 : decode cX3_give 31 = .ok (.invokevirtual 45, 3) := by decide +kernel
theorem dX3_give_34 : decode cX3_give 34 = .ok (.aload_n 0, 1) := by decide +kernel
theorem dX3_give_35 : decode cX3_give 35 = .ok (.getfield 12, 3) := by decide +kernel
theorem dX3_give_38 : decode cX3_give 38 = .ok (.sipush 999, 3) := by decide +kernel
theorem dX3_give_41 : decode cX3_give 41 = .ok (.aload_n 0, 1) := by decide +kernel
theorem dX3_give_42 : decode cX3_give 42 = .ok (.getfield 12, 3) := by decide +kernel
theorem dX3_give_45 : decode cX3_give 45 = .ok (.getfield 152, 3) := by decide +kernel
theorem dX3_give_48 : decode cX3_give 48 = .ok (.iload_n 1, 1) := by decide +kernel
theorem dX3_give_49 : decode cX3_give 49 = .ok (.iadd, 1) := by decide +kernel
theorem dX3_give_50 : decode cX3_give 50 = .ok (.invokestatic 176, 3) := by decide +kernel
theorem dX3_give_53 : decode cX3_give 53 = .ok (.putfield 152, 3) := by decide +kernel
theorem dX3_give_56 : decode cX3_give 56 = .ok (.aload_n 0, 1) := by decide +kernel
theorem dX3_give_57 : decode cX3_give 57 = .ok (.getfield 12, 3) := by decide +kernel
theorem dX3_give_60 : decode cX3_give 60 = .ok (.getfield 152, 3) := by decide +kernel
theorem dX3_give_63 : decode cX3_give 63 = .ok (.ireturn, 1) := by decide +kernel
set_option maxRecDepth 20000 in
theorem ggX3_type_X1_append : GoodIn wsX3_type wsX1_append := goodIn_r _ [7, 8, 9, 17, 18] (by decide +kernel) (by decide +kernel)
set_option maxRecDepth 20000 in
theorem gX3_type_X1_append : GoodIn wsX3_type (wsV RX3 181 RX1 yX1_append wsX1_append) := goodIn_app (goodIn_of _ (by decide +kernel)) ggX3_type_X1_append
theorem dX3_type_0 : decode cX3_type 0 = .ok (.aload_n 0, 1) := by decide +kernel
theorem dX3_type_1 : decode cX3_type 1 = .ok (.getfield 26, 3) := by decide +kernel
theorem dX3_type_4 : decode cX3_type 4 = .ok (.getfield 88, 3) := by decide +kernel
theorem dX3_type_7 : decode cX3_type 7 = .ok (.bipush 60, 2) := by decide +kernel
theorem dX3_type_9 : decode cX3_type 9 = .ok (.if_icmp .lt 6, 3) := by decide +kernel
theorem dX3_type_12 : decode cX3_type 12 = .ok (.bipush (-3), 2) := by decide +kernel
theorem dX3_type_14 : decode cX3_type 14 = .ok (.ireturn, 1) := by decide +kernel
theorem dX3_type_15 : decode cX3_type 15 = .ok (.aload_n 0, 1) := by decide +kernel
theorem dX3_type_16 : decode cX3_type 16 = .ok (.getfield 26, 3) := by decide +kernel
theorem dX3_type_19 : decode cX3_type 19 = .ok (.iload_n 1, 1) := by decide +kernel
theorem dX3_type_20 : decode cX3_type 20 = .ok (.invokevirtual 181, 3) := by decide +kernel
theorem dX3_type_23 : decode cX3_type 23 = .ok (.aload_n 0, 1) := by decide +kernel
theorem dX3_type_24 : decode cX3_type 24 = .ok (.getfield 26, 3) := by decide +kernel
theorem dX3_type_27 : decode cX3_type 27 = .ok (.getfield 88, 3) := by decide +kernel
theorem dX3_type_30 : decode cX3_type 30 = .ok (.ireturn, 1) := by decide +kernel
theorem dX3_clearText_0 : decode cX3_clearText 0 = .ok (.aload_n 0, 1) := by decide +kernel
theorem dX3_clearText_1 : decode cX3_clearText 1 = .ok (.getfield 26, 3) := by decide +kernel
theorem dX3_clearText_4 : decode cX3_clearText 4 = .ok (.getfield 88, 3) := by decide +kernel
theorem dX3_clearText_7 : decode cX3_clearText 7 = .ok (.istore_n 1, 1) := by decide +kernel
theorem dX3_clearText_8 : decode cX3_clearText 8 = .ok (.aload_n 0, 1) := by decide +kernel
theorem dX3_clearText_9 : decode cX3_clearText 9 = .ok (.getfield 26, 3) := by decide +kernel
theorem dX3_clearText_12 : decode cX3_clearText 12 = .ok (.iconst 0, 1) := by decide +kernel
theorem dX3_clearText_13 : decode cX3_clearText 13 = .ok (.putfield 88, 3) := by decide +kernel
theorem dX3_clearText_16 : decode cX3_clearText 16 = .ok (.iload_n 1, 1) := by decide +kernel
theorem dX3_clearText_17 : decode cX3_clearText 17 = .ok (.ireturn, 1) := by decide +kernel
set_option maxRecDepth 20000 in
theorem ggX3_undo_X3_bringBack : GoodIn wsX3_undo wsX3_bringBack := goodIn_r _ [7, 8, 9, 10, 11, 12, 13, 14, 15, 16, 17, 18, 19, 20, 21, 22, 23, 24, 25, 26, 27, 28, 29, 30, 31, 32, 33, 34, 35, 36, 37, 38, 39, 40, 41, 42, 43, 44, 45, 46, 47, 48, 49, 50, 51, 52, 53, 54, 55, 56, 57, 58, 59, 60, 61, 62, 63, 64, 65, 66, 67, 68, 69] (by decide +kernel) (by decide +kernel)
set_option maxRecDepth 20000 in
theorem gX3_undo_X3_bringBack : GoodIn wsX3_undo (wsV RX3 187 RX3 yX3_bringBack wsX3_bringBack) := goodIn_app (goodIn_of _ (by decide +kernel)) ggX3_undo_X3_bringBack
theorem dX3_undo_0 : decode cX3_undo 0 = .ok (.aload_n 0, 1) := by decide +kernel
theorem dX3_undo_1 : decode cX3_undo 1 = .ok (.getfield 184, 3) := by decide +kernel
theorem dX3_undo_4 : decode cX3_undo 4 = .ok (.ifCond .ne 6, 3) := by decide +kernel
theorem dX3_undo_7 : decode cX3_undo 7 = .ok (.bipush (-5), 2) := by decide +kernel
theorem dX3_undo_9 : decode cX3_undo 9 = .ok (.ireturn, 1) := by decide +kernel
theorem dX3_undo_10 : decode cX3_undo 10 = .ok (.aload_n 0, 1) := by decide +kernel
theorem dX3_undo_11 : decode cX3_undo 11 = .ok (.dup, 1) := by decide +kernel
theorem dX3_undo_12 : decode cX3_undo 12 = .ok (.getfield 184, 3) := by decide +kernel
theorem dX3_undo_15 : decode cX3_undo 15 = .ok (.iconst 1, 1) := by decide +kernel
theorem dX3_undo_16 : decode cX3_undo 16 = .ok (.isub, 1) := by decide +kernel
theorem dX3_undo_17 : decode cX3_undo 17 = .ok (.putfield 184, 3) := by decide +kernel
theorem dX3_undo_20 : decode cX3_undo 20 = .ok (.aload_n 0, 1) := by decide +kernel
theorem dX3_undo_21 : decode cX3_undo 21 = .ok (.aload_n 0, 1) := by decide +kernel
theorem dX3_undo_22 : decode cX3_undo 22 = .ok (.getfield 30, 3) := by decide +kernel
theorem dX3_undo_25 : decode cX3_undo 25 = .ok (.aload_n 0, 1) := by decide +kernel
theorem dX3_undo_26 : decode cX3_undo 26 = .ok (.getfield 184, 3) := by decide +kernel
theorem dX3_undo_29 : decode cX3_undo 29 = .ok (.aaload, 1) := by decide +kernel
theorem dX3_undo_30 : decode cX3_undo 30 = .ok (.invokevirtual 187, 3) := by decide +kernel
theorem dX3_undo_33 : decode cX3_undo 33 = .ok (.aload_n 0, 1) := by decide +kernel
theorem dX3_undo_34 : decode cX3_undo 34 = .ok (.getfield 184, 3) := by decide +kernel
theorem dX3_undo_37 : decode cX3_undo 37 = .ok (.ireturn, 1) := by decide +kernel
set_option maxRecDepth 20000 in
theorem ggX3_keep_X0_copyFrom : GoodIn wsX3_keep wsX0_copyFrom := goodIn_r _ [9, 10, 11, 12, 13, 14, 15, 16, 17, 18, 19, 20, 21, 22, 23, 24, 32, 33, 34, 35, 36, 37, 38, 39, 40, 41, 42] (by decide +kernel) (by decide +kernel)
set_option maxRecDepth 20000 in
theorem gX3_keep_X0_copyFrom : GoodIn wsX3_keep (wsV RX3 191 RX0 yX0_copyFrom wsX0_copyFrom) := goodIn_app (goodIn_of _ (by decide +kernel)) ggX3_keep_X0_copyFrom
theorem dX3_keep_0 : decode cX3_keep 0 = .ok (.aload_n 0, 1) := by decide +kernel
theorem dX3_keep_1 : decode cX3_keep 1 = .ok (.getfield 34, 3) := by decide +kernel
theorem dX3_keep_4 : decode cX3_keep 4 = .ok (.aload_n 0, 1) := by decide +kernel
theorem dX3_keep_5 : decode cX3_keep 5 = .ok (.getfield 12, 3) := by decide +kernel
theorem dX3_keep_8 : decode cX3_keep 8 = .ok (.invokevirtual 191, 3) := by decide +kernel
theorem dX3_keep_11 : decode cX3_keep 11 = .ok (.aload_n 0, 1) := by decide +kernel
theorem dX3_keep_12 : decode cX3_keep 12 = .ok (.iconst 1, 1) := by decide +kernel
theorem dX3_keep_13 : decode cX3_keep 13 = .ok (.putfield 194, 3) := by decide +kernel
theorem dX3_keep_16 : decode cX3_keep 16 = .ok (.aload_n 0, 1) := by decide +kernel
theorem dX3_keep_17 : decode cX3_keep 17 = .ok (.getfield 12, 3) := by decide +kernel
theorem dX3_keep_20 : decode cX3_keep 20 = .ok (.getfield 152, 3) := by decide +kernel
theorem dX3_keep_23 : decode cX3_keep 23 = .ok (.ireturn, 1) := by decide +kernel
set_option maxRecDepth 20000 in
theorem ggX3_restore_X3_remember : GoodIn wsX3_restore wsX3_remember := goodIn_r _ [9, 10, 11, 3, 12, 13, 14, 15, 16, 17, 18, 19, 20, 21, 22, 23, 24, 25, 26, 27, 28, 29, 30, 31, 55, 56, 57, 58, 59, 60, 61, 62, 63, 64, 65, 66, 67, 68, 69, 70, 71, 72] (by decide +kernel) (by decide +kernel)
set_option maxRecDepth 20000 in
theorem gX3_restore_X3_remember : GoodIn wsX3_restore (wsV RX3 45 RX3 yX3_remember wsX3_remember) := goodIn_app (goodIn_of _ (by decide +kernel)) ggX3_restore_X3_remember
set_option maxRecDepth 20000 in
theorem ggX3_restore_X3_bringBack : GoodIn wsX3_restore wsX3_bringBack := goodIn_r _ [35, 3, 36, 37, 12, 13, 14, 15, 16, 17, 18, 19, 20, 21, 22, 23, 24, 25, 26, 27, 28, 29, 30, 31, 38, 39, 40, 41, 42, 43, 44, 45, 46, 47, 48, 49, 50, 51, 52, 53, 54, 55, 56, 57, 58, 59, 60, 61, 62, 63, 64, 65, 66, 67, 68, 69, 70, 71, 72, 73, 74, 75, 76] (by decide +kernel) (by decide +kernel)
set_option maxRecDepth 20000 in
theorem gX3_restore_X3_bringBack : GoodIn wsX3_restore (wsV RX3 187 RX3 yX3_bringBack wsX3_bringBack) := goodIn_app (goodIn_of _ (by decide +kernel)) ggX3_restore_X3_bringBack
theorem dX3_restore_0 : decode cX3_restore 0 = .ok (.aload_n 0, 1) := by decide +kernel
theorem dX3_restore_1 : decode cX3_restore 1 = .ok (.getfield 194, 3) := by decide +kernel
theorem dX3_restore_4 : decode cX3_restore 4 = .ok (.ifCond .ne 6, 3) := by decide +kernel
theorem dX3_restore_7 : decode cX3_restore 7 = .ok (.bipush (-5), 2) := by decide +kernel
theorem dX3_restore_9 : decode cX3_restore 9 = .ok (.ireturn, 1) := by decide +kernel
theorem dX3_restore_10 : decode cX3_restore 10 = .ok (.aload_n 0, 1) := by decide +kernel
theorem dX3_restore_11 : decode cX3_restore 11 = .ok (.invokevirtual 45, 3) := by decide +kernel
theorem dX3_restore_14 : decode cX3_restore 14 = .ok (.aload_n 0, 1) := by decide +kernel
theorem dX3_restore_15 : decode cX3_restore 15 = .ok (.aload_n 0, 1) := by decide +kernel
theorem dX3_restore_16 : decode cX3_restore 16 = .ok (.getfield 34, 3) := by decide +kernel
theorem dX3_restore_19 : decode cX3_restore 19 = .ok (.invokevirtual 187, 3) := by decide +kernel
theorem dX3_restore_22 : decode cX3_restore 22 = .ok (.aload_n 0, 1) := by decide +kernel
theorem dX3_restore_23 : decode cX3_restore 23 = .ok (.getfield 12, 3) := by decide +kernel
theorem dX3_restore_26 : decode cX3_restore 26 = .ok (.getfield 152, 3) := by decide +kernel
theorem dX3_restore_29 : decode cX3_restore 29 = .ok (.ireturn, 1) := by decide +kernel
set_option maxRecDepth 20000 in
theorem ggX3_cell_X3_isInGrid : GoodIn wsX3_cell wsX3_isInGrid := goodIn_r _ [6] (by decide +kernel) (by decide +kernel)
set_option maxRecDepth 20000 in
theorem gX3_cell_X3_isInGrid : GoodIn wsX3_cell (va_wsS RX3 37 yX3_isInGrid wsX3_isInGrid) := goodIn_app (goodIn_of _ (by decide +kernel)) ggX3_cell_X3_isInGrid
set_option maxRecDepth 20000 in
theorem ggX3_cell_X0_numberAt : GoodIn wsX3_cell wsX0_numberAt := goodIn_r _ [11, 12, 13, 14, 15, 10, 16, 17, 18, 58, 59, 60, 61, 62, 63, 64, 65, 66, 67, 68] (by decide +kernel) (by decide +kernel)
set_option maxRecDepth 20000 in
theorem gX3_cell_X0_numberAt : GoodIn wsX3_cell (wsV RX3 198 RX0 yX0_numberAt wsX0_numberAt) := goodIn_app (goodIn_of _ (by decide +kernel)) ggX3_cell_X0_numberAt
set_option maxRecDepth 20000 in
theorem ggX3_cell_X3_orNone : GoodIn wsX3_cell wsX3_orNone := goodIn_r _ [21] (by decide +kernel) (by decide +kernel)
set_option maxRecDepth 20000 in
theorem gX3_cell_X3_orNone : GoodIn wsX3_cell (va_wsS RX3 201 yX3_orNone wsX3_orNone) := goodIn_app (goodIn_of _ (by decide +kernel)) ggX3_cell_X3_orNone
set_option maxRecDepth 20000 in
theorem ggX3_cell_X0_guessAt : GoodIn wsX3_cell wsX0_guessAt := goodIn_r _ [25, 26, 27, 8, 9, 10, 11, 12, 13, 14, 15, 16, 17, 18, 28, 5, 29, 58, 59, 60, 61, 62, 63, 64, 65, 66, 67, 68] (by decide +kernel) (by decide +kernel)
set_option maxRecDepth 20000 in
theorem gX3_cell_X0_guessAt : GoodIn wsX3_cell (wsV RX3 173 RX0 yX0_guessAt wsX0_guessAt) := goodIn_app (goodIn_of _ (by decide +kernel)) ggX3_cell_X0_guessAt
set_option maxRecDepth 20000 in
theorem ggX3_cell_X2_wordAt : GoodIn wsX3_cell wsX2_wordAt := goodIn_r _ [34, 35, 36, 37, 38, 33, 39, 40, 41, 42, 43, 44, 45, 46, 47, 48, 49, 50, 69, 70, 71, 72] (by decide +kernel) (by decide +kernel)
set_option maxRecDepth 20000 in
theorem gX3_cell_X2_wordAt : GoodIn wsX3_cell (wsV RX3 204 RX2 yX2_wordAt wsX2_wordAt) := goodIn_app (goodIn_of _ (by decide +kernel)) ggX3_cell_X2_wordAt
theorem dX3_cell_0 : decode cX3_cell 0 = .ok (.iload_n 1, 1) := by decide +kernel
theorem dX3_cell_1 : decode cX3_cell 1 = .ok (.invokestatic 37, 3) := by decide +kernel
theorem dX3_cell_4 : decode cX3_cell 4 = .ok (.ifCond .eq 10, 3) := by decide +kernel
theorem dX3_cell_7 : decode cX3_cell 7 = .ok (.iload_n 2, 1) := by decide +kernel
theorem dX3_cell_8 : decode cX3_cell 8 = .ok (.invokestatic 37, 3) := by decide +kernel
theorem dX3_cell_11 : decode cX3_cell 11 = .ok (.ifCond .ne 5, 3) := by decide +kernel
theorem dX3_cell_14 : decode cX3_cell 14 = .ok (.iconst (-1), 1) := by decide +kernel
theorem dX3_cell_15 : decode cX3_cell 15 = .ok (.ireturn, 1) := by decide +kernel
theorem dX3_cell_16 : decode cX3_cell 16 = .ok (.iload_n 1, 1) := by decide +kernel
theorem dX3_cell_17 : decode cX3_cell 17 = .ok (.bipush 7, 2) := by decide +kernel
theorem dX3_cell_19 : decode cX3_cell 19 = .ok (.imul, 1) := by decide +kernel
theorem dX3_cell_20 : decode cX3_cell 20 = .ok (.iload_n 2, 1) := by decide +kernel
theorem dX3_cell_21 : decode cX3_cell 21 = .ok (.iadd, 1) := by decide +kernel
theorem dX3_cell_22 : decode cX3_cell 22 = .ok (.istore 4, 2) := by decide +kernel
theorem dX3_cell_24 : decode cX3_cell 24 = .ok (.iload_n 3, 1) := by decide +kernel
theorem dX3_cell_25 : decode cX3_cell 25 = .ok (.tableswitch 79 0 3 #[31, 44, 57, 68], 31) := by decide +kernel
theorem dX3_cell_56 : decode cX3_cell 56 = .ok (.aload_n 0, 1) := by decide +kernel
theorem dX3_cell_57 : decode cX3_cell 57 = .ok (.getfield 12, 3) := by decide +kernel
theorem dX3_cell_60 : decode cX3_cell 60 = .ok (.iload 4, 2) := by decide +kernel
theorem dX3_cell_62 : decode cX3_cell 62 = .ok (.invokevirtual 198, 3) := by decide +kernel
theorem dX3_cell_65 : decode cX3_cell 65 = .ok (.invokestatic 201, 3) := by decide +kernel
theorem dX3_cell_68 : decode cX3_cell 68 = .ok (.ireturn, 1) := by decide +kernel
theorem dX3_cell_69 : decode cX3_cell 69 = .ok (.aload_n 0, 1) := by decide +kernel
theorem dX3_cell_70 : decode cX3_cell 70 = .ok (.getfield 12, 3) := by decide +kernel
theorem dX3_cell_73 : decode cX3_cell 73 = .ok (.iload 4, 2) := by decide +kernel
theorem dX3_cell_75 : decode cX3_cell 75 = .ok (.invokevirtual 173, 3) := by decide +kernel
theorem dX3_cell_78 : decode cX3_cell 78 = .ok (.invokestatic 201, 3) := by decide +kernel
theorem dX3_cell_81 : decode cX3_cell 81 = .ok (.ireturn, 1) := by decide +kernel
theorem dX3_cell_82 : decode cX3_cell 82 = .ok (.aload_n 0, 1) := by decide +kernel
theorem dX3_cell_83 : decode cX3_cell 83 = .ok (.getfield 19, 3) := by decide +kernel
theorem dX3_cell_86 : decode cX3_cell 86 = .ok (.iload 4, 2) := by decide +kernel
theorem dX3_cell_88 : decode cX3_cell 88 = .ok (.iconst 0, 1) := by decide +kernel
theorem dX3_cell_89 : decode cX3_cell 89 = .ok (.invokevirtual 204, 3) := by decide +kernel
theorem dX3_cell_92 : decode cX3_cell 92 = .ok (.ireturn, 1) := by decide +kernel
theorem dX3_cell_93 : decode cX3_cell 93 = .ok (.aload_n 0, 1) := by decide +kernel
theorem dX3_cell_94 : decode cX3_cell 94 = .ok (.getfield 19, 3) := by decide +kernel
theorem dX3_cell_97 : decode cX3_cell 97 = .ok (.iload 4, 2) := by decide +kernel
theorem dX3_cell_99 : decode cX3_cell 99 = .ok (.iconst 1, 1) := by decide +kernel
theorem dX3_cell_100 : decode cX3_cell 100 = .ok (.invokevirtual 204, 3) := by decide +kernel
theorem dX3_cell_103 : decode cX3_cell 103 = .ok (.ireturn, 1) := by decide +kernel
theorem dX3_cell_104 : decode cX3_cell 104 = .ok (.bipush (-2), 2) := by decide +kernel
theorem dX3_cell_106 : decode cX3_cell 106 = .ok (.ireturn, 1) := by decide +kernel
set_option maxRecDepth 20000 in
theorem ggX3_number_X3_isNumber : GoodIn wsX3_number wsX3_isNumber := goodIn_r _ [7] (by decide +kernel) (by decide +kernel)
set_option maxRecDepth 20000 in
theorem gX3_number_X3_isNumber : GoodIn wsX3_number (va_wsS RX3 107 yX3_isNumber wsX3_isNumber) := goodIn_app (goodIn_of _ (by decide +kernel)) ggX3_number_X3_isNumber
set_option maxRecDepth 20000 in
theorem ggX3_number_X0_cellsWith : GoodIn wsX3_number wsX0_cellsWith := goodIn_r _ [12, 13, 14, 15, 11, 16, 17, 18, 19, 20, 21, 22, 23, 73, 74, 75, 76, 77, 78, 79, 80, 81, 82, 83] (by decide +kernel) (by decide +kernel)
set_option maxRecDepth 20000 in
theorem gX3_number_X0_cellsWith : GoodIn wsX3_number (wsV RX3 155 RX0 yX0_cellsWith wsX0_cellsWith) := goodIn_app (goodIn_of _ (by decide +kernel)) ggX3_number_X0_cellsWith
set_option maxRecDepth 20000 in
theorem ggX3_number_X3_orNone : GoodIn wsX3_number wsX3_orNone := goodIn_r _ [26] (by decide +kernel) (by decide +kernel)
set_option maxRecDepth 20000 in
theorem gX3_number_X3_orNone : GoodIn wsX3_number (va_wsS RX3 201 yX3_orNone wsX3_orNone) := goodIn_app (goodIn_of _ (by decide +kernel)) ggX3_number_X3_orNone
set_option maxRecDepth 20000 in
theorem ggX3_number_X0_priceOf : GoodIn wsX3_number wsX0_priceOf := goodIn_r _ [30, 31, 32, 33, 34, 35, 9, 10, 11, 12, 13, 14, 15, 16, 17, 18, 19, 20, 21, 22, 23, 73, 74, 75, 76, 77, 78, 79, 80, 81, 82, 83] (by decide +kernel) (by decide +kernel)
set_option maxRecDepth 20000 in
theorem gX3_number_X0_priceOf : GoodIn wsX3_number (wsV RX3 149 RX0 yX0_priceOf wsX0_priceOf) := goodIn_app (goodIn_of _ (by decide +kernel)) ggX3_number_X0_priceOf
set_option maxRecDepth 20000 in
theorem ggX3_number_X3_oneIf : GoodIn wsX3_number wsX3_oneIf := goodIn_r _ [38] (by decide +kernel) (by decide +kernel)
set_option maxRecDepth 20000 in
theorem gX3_number_X3_oneIf : GoodIn wsX3_number (va_wsS RX3 208 yX3_oneIf wsX3_oneIf) := goodIn_app (goodIn_of _ (by decide +kernel)) ggX3_number_X3_oneIf
set_option maxRecDepth 20000 in
theorem ggX3_number_X3_wordsWith : GoodIn wsX3_number wsX3_wordsWith := goodIn_r _ [42, 43, 44, 45, 46, 47, 6, 48, 49, 50, 51, 52, 53, 54, 55, 56, 57, 1, 58, 59, 60, 61, 62, 63, 64, 65, 14, 15, 11, 16, 17, 18, 19, 20, 21, 22, 23, 66, 67, 68, 69, 70, 71, 72, 84, 85, 86, 87, 73, 74, 75, 76, 77, 78, 79, 80, 81, 82, 83] (by decide +kernel) (by decide +kernel)
set_option maxRecDepth 20000 in
theorem gX3_number_X3_wordsWith : GoodIn wsX3_number (wsV RX3 212 RX3 yX3_wordsWith wsX3_wordsWith) := goodIn_app (goodIn_of _ (by decide +kernel)) ggX3_number_X3_wordsWith
theorem dX3_number_0 : decode cX3_number 0 = .ok (.iload_n 1, 1) := by decide +kernel
theorem dX3_number_1 : decode cX3_number 1 = .ok (.invokestatic 107, 3) := by decide +kernel
theorem dX3_number_4 : decode cX3_number 4 = .ok (.ifCond .ne 5, 3) := by decide +kernel
theorem dX3_number_7 : decode cX3_number 7 = .ok (.iconst (-1), 1) := by decide +kernel
theorem dX3_number_8 : decode cX3_number 8 = .ok (.ireturn, 1) := by decide +kernel
theorem dX3_number_9 : decode cX3_number 9 = .ok (.iload_n 2, 1) := by decide +kernel
theorem dX3_number_10 : decode cX3_number 10 = .ok (.tableswitch 84 0 4 #[34, 43, 56, 65, 78], 34) := by decide +kernel
theorem dX3_number_44 : decode cX3_number 44 = .ok (.aload_n 0, 1) := by decide +kernel
theorem dX3_number_45 : decode cX3_number 45 = .ok (.getfield 12, 3) := by decide +kernel
theorem dX3_number_48 : decode cX3_number 48 = .ok (.iload_n 1, 1) := by decide +kernel
theorem dX3_number_49 : decode cX3_number 49 = .ok (.invokevirtual 155, 3) := by decide +kernel
theorem dX3_number_52 : decode cX3_number 52 = .ok (.ireturn, 1) := by decide +kernel
theorem dX3_number_53 : decode cX3_number 53 = .ok (.aload_n 0, 1) := by decide +kernel
theorem dX3_number_54 : decode cX3_number 54 = .ok (.getfield 12, 3) := by decide +kernel
theorem dX3_number_57 : decode cX3_number 57 = .ok (.getfield 121, 3) := by decide +kernel
theorem dX3_number_60 : decode cX3_number 60 = .ok (.iload_n 1, 1) := by decide +kernel
theorem dX3_number_61 : decode cX3_number 61 = .ok (.iaload, 1) := by decide +kernel
theorem dX3_number_62 : decode cX3_number 62 = .ok (.invokestatic 201, 3) := by decide +kernel
theorem dX3_number_65 : decode cX3_number 65 = .ok (.ireturn, 1) := by decide +kernel
theorem dX3_number_66 : decode cX3_number 66 = .ok (.aload_n 0, 1) := by decide +kernel
theorem dX3_number_67 : decode cX3_number 67 = .ok (.getfield 12, 3) := by decide +kernel
theorem dX3_number_70 : decode cX3_number 70 = .ok (.iload_n 1, 1) := by decide +kernel
theorem dX3_number_71 : decode cX3_number 71 = .ok (.invokevirtual 149, 3) := by decide +kernel
theorem dX3_number_74 : decode cX3_number 74 = .ok (.ireturn, 1) := by decide +kernel
theorem dX3_number_75 : decode cX3_number 75 = .ok (.aload_n 0, 1) := by decide +kernel
theorem dX3_number_76 : decode cX3_number 76 = .ok (.getfield 12, 3) := by decide +kernel
theorem dX3_number_79 : decode cX3_number 79 = .ok (.getfield 113, 3) := by decide +kernel
theorem dX3_number_82 : decode cX3_number 82 = .ok (.iload_n 1, 1) := by decide +kernel
theorem dX3_number_83 : decode cX3_number 83 = .ok (.baload, 1) := by decide +kernel
theorem dX3_number_84 : decode cX3_number 84 = .ok (.invokestatic 208, 3) := by decide +kernel
theorem dX3_number_87 : decode cX3_number 87 = .ok (.ireturn, 1) := by decide +kernel
theorem dX3_number_88 : decode cX3_number 88 = .ok (.aload_n 0, 1) := by decide +kernel
theorem dX3_number_89 : decode cX3_number 89 = .ok (.iload_n 1, 1) := by decide +kernel
theorem dX3_number_90 : decode cX3_number 90 = .ok (.invokevirtual 212, 3) := by decide +kernel
theorem dX3_number_93 : decode cX3_number 93 = .ok (.ireturn, 1) := by decide +kernel
theorem dX3_number_94 : decode cX3_number 94 = .ok (.bipush (-2), 2) := by decide +kernel
theorem dX3_number_96 : decode cX3_number 96 = .ok (.ireturn, 1) := by decide +kernel
set_option maxRecDepth 20000 in
theorem ggX3_word_X3_isWord : GoodIn wsX3_word wsX3_isWord := goodIn_r _ [8, 1, 9, 91, 92, 93, 94, 95, 96, 97, 98, 99, 100, 101] (by decide +kernel) (by decide +kernel)
set_option maxRecDepth 20000 in
theorem gX3_word_X3_isWord : GoodIn wsX3_word (wsV RX3 127 RX3 yX3_isWord wsX3_isWord) := goodIn_app (goodIn_of _ (by decide +kernel)) ggX3_word_X3_isWord
set_option maxRecDepth 20000 in
theorem ggX3_word_X2_isDown : GoodIn wsX3_word wsX2_isDown := goodIn_r _ [14, 15, 98, 99, 100, 101] (by decide +kernel) (by decide +kernel)
set_option maxRecDepth 20000 in
theorem gX3_word_X2_isDown : GoodIn wsX3_word (wsV RX3 218 RX2 yX2_isDown wsX2_isDown) := goodIn_app (goodIn_of _ (by decide +kernel)) ggX3_word_X2_isDown
set_option maxRecDepth 20000 in
theorem ggX3_word_X3_oneIf : GoodIn wsX3_word wsX3_oneIf := goodIn_r _ [18] (by decide +kernel) (by decide +kernel)
set_option maxRecDepth 20000 in
theorem gX3_word_X3_oneIf : GoodIn wsX3_word (va_wsS RX3 208 yX3_oneIf wsX3_oneIf) := goodIn_app (goodIn_of _ (by decide +kernel)) ggX3_word_X3_oneIf
set_option maxRecDepth 20000 in
theorem ggX3_word_X3_guessedCellsOf : GoodIn wsX3_word wsX3_guessedCellsOf := goodIn_r _ [22, 1, 3, 23, 24, 25, 26, 13, 27, 28, 15, 29, 30, 31, 32, 33, 34, 35, 36, 37, 38, 39, 40, 41, 42, 43, 44, 45, 46, 7, 47, 91, 92, 93, 94, 95, 96, 97, 98, 99, 100, 101, 102, 103, 104, 105, 106, 107, 108, 109, 110, 111, 112] (by decide +kernel) (by decide +kernel)
set_option maxRecDepth 20000 in
theorem gX3_word_X3_guessedCellsOf : GoodIn wsX3_word (wsV RX3 133 RX3 yX3_guessedCellsOf wsX3_guessedCellsOf) := goodIn_app (goodIn_of _ (by decide +kernel)) ggX3_word_X3_guessedCellsOf
set_option maxRecDepth 20000 in
theorem ggX3_word_X3_listedThatFit : GoodIn wsX3_word wsX3_listedThatFit := goodIn_r _ [51, 23, 52, 53, 54, 55, 7, 56, 1, 3, 57, 58, 59, 60, 32, 61, 62, 63, 64, 65, 66, 24, 25, 26, 13, 27, 28, 15, 67, 36, 37, 38, 39, 40, 41, 42, 43, 44, 45, 68, 69, 70, 71, 72, 73, 74, 75, 34, 76, 77, 78, 79, 80, 81, 46, 47, 82, 83, 84, 85, 86, 91, 92, 93, 94, 95, 96, 97, 102, 103, 104, 105, 106, 107, 108, 109, 110, 111, 112, 98, 99, 100, 101] (by decide +kernel) (by decide +kernel)
set_option maxRecDepth 20000 in
theorem gX3_word_X3_listedThatFit : GoodIn wsX3_word (wsV RX3 221 RX3 yX3_listedThatFit wsX3_listedThatFit) := goodIn_app (goodIn_of _ (by decide +kernel)) ggX3_word_X3_listedThatFit
set_option maxRecDepth 20000 in
theorem ggX3_word_X3_firstListedThatFits : GoodIn wsX3_word wsX3_firstListedThatFits := goodIn_r _ [90, 23, 52, 53, 54, 55, 7, 56, 1, 3, 57, 58, 59, 60, 32, 61, 62, 63, 64, 65, 66, 24, 25, 26, 13, 27, 28, 15, 67, 36, 37, 38, 39, 40, 41, 42, 43, 44, 45, 68, 69, 70, 71, 72, 73, 74, 75, 34, 76, 77, 78, 79, 80, 81, 46, 47, 82, 83, 84, 85, 86, 91, 92, 93, 94, 95, 96, 97, 102, 103, 104, 105, 106, 107, 108, 109, 110, 111, 112, 98, 99, 100, 101] (by decide +kernel) (by decide +kernel)
set_option maxRecDepth 20000 in
theorem gX3_word_X3_firstListedThatFits : GoodIn wsX3_word (wsV RX3 224 RX3 yX3_firstListedThatFits wsX3_firstListedThatFits) := goodIn_app (goodIn_of _ (by decide +kernel)) ggX3_word_X3_firstListedThatFits
theorem dX3_word_0 : decode cX3_word 0 = .ok (.aload_n 0, 1) := by decide +kernel
theorem dX3_word_1 : decode cX3_word 1 = .ok (.iload_n 1, 1) := by decide +kernel
theorem dX3_word_2 : decode cX3_word 2 = .ok (.invokevirtual 127, 3) := by decide +kernel
theorem dX3_word_5 : decode cX3_word 5 = .ok (.ifCond .ne 5, 3) := by decide +kernel
theorem dX3_word_8 : decode cX3_word 8 = .ok (.iconst (-1), 1) := by decide +kernel
theorem dX3_word_9 : decode cX3_word 9 = .ok (.ireturn, 1) := by decide +kernel
theorem dX3_word_10 : decode cX3_word 10 = .ok (.iload_n 2, 1) := by decide +kernel
theorem dX3_word_11 : decode cX3_word 11 = .ok (.tableswitch 107 0 6 #[41, 54, 67, 77, 89, 95, 101], 41) := by decide +kernel
theorem dX3_word_52 : decode cX3_word 52 = .ok (.aload_n 0, 1) := by decide +kernel
theorem dX3_word_53 : decode cX3_word 53 = .ok (.getfield 19, 3) := by decide +kernel
theorem dX3_word_56 : decode cX3_word 56 = .ok (.getfield 215, 3) := by decide +kernel
theorem dX3_word_59 : decode cX3_word 59 = .ok (.iload_n 1, 1) := by decide +kernel
theorem dX3_word_60 : decode cX3_word 60 = .ok (.iaload, 1) := by decide +kernel
theorem dX3_word_61 : decode cX3_word 61 = .ok (.bipush 7, 2) := by decide +kernel
theorem dX3_word_63 : decode cX3_word 63 = .ok (.idiv, 1) := by decide +kernel
theorem dX3_word_64 : decode cX3_word 64 = .ok (.ireturn, 1) := by decide +kernel
theorem dX3_word_65 : decode cX3_word 65 = .ok (.aload_n 0, 1) := by decide +kernel
theorem dX3_word_66 : decode cX3_word 66 = .ok (.getfield 19, 3) := by decide +kernel
theorem dX3_word_69 : decode cX3_word 69 = .ok (.getfield 215, 3) := by decide +kernel
theorem dX3_word_72 : decode cX3_word 72 = .ok (.iload_n 1, 1) := by decide +kernel
theorem dX3_word_73 : decode cX3_word 73 = .ok (.iaload, 1) := by decide +kernel
theorem dX3_word_74 : decode cX3_word 74 = .ok (.bipush 7, 2) := by decide +kernel
theorem dX3_word_76 : decode cX3_word 76 = .ok (.irem, 1) := by decide +kernel
theorem dX3_word_77 : decode cX3_word 77 = .ok (.ireturn, 1) := by decide +kernel
theorem dX3_word_78 : decode cX3_word 78 = .ok (.aload_n 0, 1) := by decide +kernel
theorem dX3_word_79 : decode cX3_word 79 = .ok (.getfield 19, 3) := by decide +kernel
theorem dX3_word_82 : decode cX3_word 82 = .ok (.getfield 136, 3) := by decide +kernel
theorem dX3_word_85 : decode cX3_word 85 = .ok (.iload_n 1, 1) := by decide +kernel
theorem dX3_word_86 : decode cX3_word 86 = .ok (.iaload, 1) := by decide +kernel
theorem dX3_word_87 : decode cX3_word 87 = .ok (.ireturn, 1) := by decide +kernel
theorem dX3_word_88 : decode cX3_word 88 = .ok (.aload_n 0, 1) := by decide +kernel
theorem dX3_word_89 : decode cX3_word 89 = .ok (.getfield 19, 3) := by decide +kernel
theorem dX3_word_92 : decode cX3_word 92 = .ok (.iload_n 1, 1) := by decide +kernel
theorem dX3_word_93 : decode cX3_word 93 = .ok (.invokevirtual 218, 3) := by decide +kernel
theorem dX3_word_96 : decode cX3_word 96 = .ok (.invokestatic 208, 3) := by decide +kernel
theorem dX3_word_99 : decode cX3_word 99 = .ok (.ireturn, 1) := by decide +kernel
theorem dX3_word_100 : decode cX3_word 100 = .ok (.aload_n 0, 1) := by decide +kernel
theorem dX3_word_101 : decode cX3_word 101 = .ok (.iload_n 1, 1) := by decide +kernel
theorem dX3_word_102 : decode cX3_word 102 = .ok (.invokevirtual 133, 3) := by decide +kernel
theorem dX3_word_105 : decode cX3_word 105 = .ok (.ireturn, 1) := by decide +kernel
theorem dX3_word_106 : decode cX3_word 106 = .ok (.aload_n 0, 1) := by decide +kernel
theorem dX3_word_107 : decode cX3_word 107 = .ok (.iload_n 1, 1) := by decide +kernel
theorem dX3_word_108 : decode cX3_word 108 = .ok (.invokevirtual 221, 3) := by decide +kernel
theorem dX3_word_111 : decode cX3_word 111 = .ok (.ireturn, 1) := by decide +kernel
theorem dX3_word_112 : decode cX3_word 112 = .ok (.aload_n 0, 1) := by decide +kernel
theorem dX3_word_113 : decode cX3_word 113 = .ok (.iload_n 1, 1) := by decide +kernel
theorem dX3_word_114 : decode cX3_word 114 = .ok (.invokevirtual 224, 3) := by decide +kernel
theorem dX3_word_117 : decode cX3_word 117 = .ok (.ireturn, 1) := by decide +kernel
theorem dX3_word_118 : decode cX3_word 118 = .ok (.bipush (-2), 2) := by decide +kernel
theorem dX3_word_120 : decode cX3_word 120 = .ok (.ireturn, 1) := by decide +kernel
set_option maxRecDepth 20000 in
theorem ggX3_fits_X3_isWord : GoodIn wsX3_fits wsX3_isWord := goodIn_r _ [5, 6, 7, 73, 74, 75, 76, 77, 78, 79, 80, 81, 82, 83] (by decide +kernel) (by decide +kernel)
set_option maxRecDepth 20000 in
theorem gX3_fits_X3_isWord : GoodIn wsX3_fits (wsV RX3 127 RX3 yX3_isWord wsX3_isWord) := goodIn_app (goodIn_of _ (by decide +kernel)) ggX3_fits_X3_isWord
set_option maxRecDepth 20000 in
theorem ggX3_fits_X3_isInList : GoodIn wsX3_fits wsX3_isInList := goodIn_r _ [11, 12, 13, 73, 74, 75, 76, 77, 78, 79, 84, 85, 86, 87, 88, 89, 90, 91, 92, 93, 94] (by decide +kernel) (by decide +kernel)
set_option maxRecDepth 20000 in
theorem gX3_fits_X3_isInList : GoodIn wsX3_fits (wsV RX3 101 RX3 yX3_isInList wsX3_isInList) := goodIn_app (goodIn_of _ (by decide +kernel)) ggX3_fits_X3_isInList
set_option maxRecDepth 20000 in
theorem ggX3_fits_X3_isFitting : GoodIn wsX3_fits wsX3_isFitting := goodIn_r _ [17, 6, 18, 12, 19, 20, 21, 22, 23, 24, 25, 26, 27, 28, 4, 29, 30, 31, 32, 33, 34, 35, 36, 37, 38, 39, 40, 41, 42, 43, 44, 45, 46, 47, 48, 49, 50, 51, 52, 53, 54, 55, 56, 57, 58, 59, 60, 61, 62, 63, 64, 65, 66, 67, 68, 69, 73, 74, 75, 76, 77, 78, 79, 80, 81, 82, 83, 84, 85, 86, 87, 88, 89, 90, 91, 92, 93, 94] (by decide +kernel) (by decide +kernel)
set_option maxRecDepth 20000 in
theorem gX3_fits_X3_isFitting : GoodIn wsX3_fits (wsV RX3 130 RX3 yX3_isFitting wsX3_isFitting) := goodIn_app (goodIn_of _ (by decide +kernel)) ggX3_fits_X3_isFitting
set_option maxRecDepth 20000 in
theorem ggX3_fits_X3_oneIf : GoodIn wsX3_fits wsX3_oneIf := goodIn_r _ [72] (by decide +kernel) (by decide +kernel)
set_option maxRecDepth 20000 in
theorem gX3_fits_X3_oneIf : GoodIn wsX3_fits (va_wsS RX3 208 yX3_oneIf wsX3_oneIf) := goodIn_app (goodIn_of _ (by decide +kernel)) ggX3_fits_X3_oneIf
theorem dX3_fits_0 : decode cX3_fits 0 = .ok (.aload_n 0, 1) := by decide +kernel
theorem dX3_fits_1 : decode cX3_fits 1 = .ok (.iload_n 1, 1) := by decide +kernel
theorem dX3_fits_2 : decode cX3_fits 2 = .ok (.invokevirtual 127, 3) := by decide +kernel
theorem dX3_fits_5 : decode cX3_fits 5 = .ok (.ifCond .eq 11, 3) := by decide +kernel
theorem dX3_fits_8 : decode cX3_fits 8 = .ok (.aload_n 0, 1) := by decide +kernel
theorem dX3_fits_9 : decode cX3_fits 9 = .ok (.iload_n 2, 1) := by decide +kernel
theorem dX3_fits_10 : decode cX3_fits 10 = .ok (.invokevirtual 101, 3) := by decide +kernel
theorem dX3_fits_13 : decode cX3_fits 13 = .ok (.ifCond .ne 5, 3) := by decide +kernel
theorem dX3_fits_16 : decode cX3_fits 16 = .ok (.iconst (-1), 1) := by decide +kernel
theorem dX3_fits_17 : decode cX3_fits 17 = .ok (.ireturn, 1) := by decide +kernel
theorem dX3_fits_18 : decode cX3_fits 18 = .ok (.aload_n 0, 1) := by decide +kernel
theorem dX3_fits_19 : decode cX3_fits 19 = .ok (.iload_n 1, 1) := by decide +kernel
theorem dX3_fits_20 : decode cX3_fits 20 = .ok (.iload_n 2, 1) := by decide +kernel
theorem dX3_fits_21 : decode cX3_fits 21 = .ok (.invokevirtual 130, 3) := by decide +kernel
theorem dX3_fits_24 : decode cX3_fits 24 = .ok (.invokestatic 208, 3) := by decide +kernel
theorem dX3_fits_27 : decode cX3_fits 27 = .ok (.ireturn, 1) := by decide +kernel
set_option maxRecDepth 20000 in
theorem ggX3_listed_X3_isInList : GoodIn wsX3_listed wsX3_isInList := goodIn_r _ [7, 1, 8, 95, 96, 97, 98, 99, 100, 101, 102, 103, 104, 105, 106, 107, 108, 109, 110, 111, 112] (by decide +kernel) (by decide +kernel)
set_option maxRecDepth 20000 in
theorem gX3_listed_X3_isInList : GoodIn wsX3_listed (wsV RX3 101 RX3 yX3_isInList wsX3_isInList) := goodIn_app (goodIn_of _ (by decide +kernel)) ggX3_listed_X3_isInList
set_option maxRecDepth 20000 in
theorem ggX3_listed_X3_wordsThatFit : GoodIn wsX3_listed wsX3_wordsThatFit := goodIn_r _ [12, 13, 14, 15, 16, 17, 6, 18, 19, 1, 2, 20, 21, 22, 23, 24, 25, 26, 27, 28, 29, 30, 31, 32, 33, 34, 35, 36, 37, 38, 39, 40, 41, 42, 43, 44, 45, 46, 47, 48, 49, 50, 51, 52, 53, 54, 55, 56, 57, 58, 59, 60, 61, 62, 63, 64, 65, 66, 67, 68, 69, 95, 96, 97, 98, 99, 100, 101, 113, 114, 115, 116, 102, 103, 104, 105, 106, 107, 108, 109, 110, 111, 112] (by decide +kernel) (by decide +kernel)
set_option maxRecDepth 20000 in
theorem gX3_listed_X3_wordsThatFit : GoodIn wsX3_listed (wsV RX3 230 RX3 yX3_wordsThatFit wsX3_wordsThatFit) := goodIn_app (goodIn_of _ (by decide +kernel)) ggX3_listed_X3_wordsThatFit
set_option maxRecDepth 20000 in
theorem ggX3_listed_X3_firstWordThatFits : GoodIn wsX3_listed wsX3_firstWordThatFits := goodIn_r _ [73, 13, 14, 15, 16, 17, 6, 18, 19, 1, 2, 20, 21, 22, 23, 24, 25, 26, 27, 28, 29, 30, 31, 32, 33, 34, 35, 36, 37, 38, 39, 40, 41, 42, 43, 44, 45, 46, 47, 48, 49, 50, 51, 52, 53, 54, 55, 56, 57, 58, 59, 60, 61, 62, 63, 64, 65, 66, 67, 68, 69, 95, 96, 97, 98, 99, 100, 101, 113, 114, 115, 116, 102, 103, 104, 105, 106, 107, 108, 109, 110, 111, 112] (by decide +kernel) (by decide +kernel)
set_option maxRecDepth 20000 in
theorem gX3_listed_X3_firstWordThatFits : GoodIn wsX3_listed (wsV RX3 233 RX3 yX3_firstWordThatFits wsX3_firstWordThatFits) := goodIn_app (goodIn_of _ (by decide +kernel)) ggX3_listed_X3_firstWordThatFits
set_option maxRecDepth 20000 in
theorem ggX3_listed_X3_priceOfRest : GoodIn wsX3_listed wsX3_priceOfRest := goodIn_r _ [77, 13, 19, 1, 26, 27, 28, 6, 29, 30, 31, 32, 33, 34, 35, 36, 37, 38, 39, 23, 40, 41, 42, 43, 44, 45, 46, 47, 57, 58, 59, 60, 61, 62, 63, 64, 78, 79, 80, 81, 82, 83, 84, 85, 86, 87, 88, 89, 90, 91, 92, 93, 94, 95, 96, 97, 98, 99, 100, 101, 113, 114, 115, 116, 102, 103, 104, 105, 106, 107, 108, 109, 110, 111, 112] (by decide +kernel) (by decide +kernel)
set_option maxRecDepth 20000 in
theorem gX3_listed_X3_priceOfRest : GoodIn wsX3_listed (wsV RX3 236 RX3 yX3_priceOfRest wsX3_priceOfRest) := goodIn_app (goodIn_of _ (by decide +kernel)) ggX3_listed_X3_priceOfRest
theorem dX3_listed_0 : decode cX3_listed 0 = .ok (.aload_n 0, 1) := by decide +kernel
theorem dX3_listed_1 : decode cX3_listed 1 = .ok (.iload_n 1, 1) := by decide +kernel
theorem dX3_listed_2 : decode cX3_listed 2 = .ok (.invokevirtual 101, 3) := by decide +kernel
theorem dX3_listed_5 : decode cX3_listed 5 = .ok (.ifCond .ne 5, 3) := by decide +kernel
theorem dX3_listed_8 : decode cX3_listed 8 = .ok (.iconst (-1), 1) := by decide +kernel
theorem dX3_listed_9 : decode cX3_listed 9 = .ok (.ireturn, 1) := by decide +kernel
theorem dX3_listed_10 : decode cX3_listed 10 = .ok (.iload_n 2, 1) := by decide +kernel
theorem dX3_listed_11 : decode cX3_listed 11 = .ok (.tableswitch 64 0 2 #[25, 35, 41], 25) := by decide +kernel
theorem dX3_listed_36 : decode cX3_listed 36 = .ok (.aload_n 0, 1) := by decide +kernel
theorem dX3_listed_37 : decode cX3_listed 37 = .ok (.getfield 12, 3) := by decide +kernel
theorem dX3_listed_40 : decode cX3_listed 40 = .ok (.getfield 227, 3) := by decide +kernel
theorem dX3_listed_43 : decode cX3_listed 43 = .ok (.iload_n 1, 1) := by decide +kernel
theorem dX3_listed_44 : decode cX3_listed 44 = .ok (.iaload, 1) := by decide +kernel
theorem dX3_listed_45 : decode cX3_listed 45 = .ok (.ireturn, 1) := by decide +kernel
theorem dX3_listed_46 : decode cX3_listed 46 = .ok (.aload_n 0, 1) := by decide +kernel
theorem dX3_listed_47 : decode cX3_listed 47 = .ok (.iload_n 1, 1) := by decide +kernel
theorem dX3_listed_48 : decode cX3_listed 48 = .ok (.invokevirtual 230, 3) := by decide +kernel
theorem dX3_listed_51 : decode cX3_listed 51 = .ok (.ireturn, 1) := by decide +kernel
theorem dX3_listed_52 : decode cX3_listed 52 = .ok (.aload_n 0, 1) := by decide +kernel
theorem dX3_listed_53 : decode cX3_listed 53 = .ok (.iload_n 1, 1) := by decide +kernel
theorem dX3_listed_54 : decode cX3_listed 54 = .ok (.invokevirtual 233, 3) := by decide +kernel
theorem dX3_listed_57 : decode cX3_listed 57 = .ok (.istore_n 3, 1) := by decide +kernel
theorem dX3_listed_58 : decode cX3_listed 58 = .ok (.iload_n 3, 1) := by decide +kernel
theorem dX3_listed_59 : decode cX3_listed 59 = .ok (.bipush (-5), 2) := by decide +kernel
theorem dX3_listed_61 : decode cX3_listed 61 = .ok (.if_icmp .ne 8, 3) := by decide +kernel
theorem dX3_listed_64 : decode cX3_listed 64 = .ok (.bipush (-5), 2) := by decide +kernel
theorem dX3_listed_66 : decode cX3_listed 66 = .ok (.goto 8, 3) := by decide +kernel
theorem dX3_listed_69 : decode cX3_listed 69 = .ok (.aload_n 0, 1) := by decide +kernel
theorem dX3_listed_70 : decode cX3_listed 70 = .ok (.iload_n 3, 1) := by decide +kernel
theorem dX3_listed_71 : decode cX3_listed 71 = .ok (.invokevirtual 236, 3) := by decide +kernel
theorem dX3_listed_74 : decode cX3_listed 74 = .ok (.ireturn, 1) := by decide +kernel
theorem dX3_listed_75 : decode cX3_listed 75 = .ok (.bipush (-2), 2) := by decide +kernel
theorem dX3_listed_77 : decode cX3_listed 77 = .ok (.ireturn, 1) := by decide +kernel
set_option maxRecDepth 20000 in
theorem ggX3_could_X3_isNumber : GoodIn wsX3_could wsX3_isNumber := goodIn_r _ [6] (by decide +kernel) (by decide +kernel)
set_option maxRecDepth 20000 in
theorem gX3_could_X3_isNumber : GoodIn wsX3_could (va_wsS RX3 107 yX3_isNumber wsX3_isNumber) := goodIn_app (goodIn_of _ (by decide +kernel)) ggX3_could_X3_isNumber
set_option maxRecDepth 20000 in
theorem ggX3_could_X0_cellsWith : GoodIn wsX3_could wsX0_cellsWith := goodIn_r _ [11, 12, 13, 14, 10, 15, 16, 17, 18, 19, 20, 21, 22, 104, 105, 106, 107, 108, 109, 110, 111, 112, 113, 114] (by decide +kernel) (by decide +kernel)
set_option maxRecDepth 20000 in
theorem gX3_could_X0_cellsWith : GoodIn wsX3_could (wsV RX3 155 RX0 yX0_cellsWith wsX0_cellsWith) := goodIn_app (goodIn_of _ (by decide +kernel)) ggX3_could_X0_cellsWith
set_option maxRecDepth 20000 in
theorem ggX3_could_X3_possibleLetters : GoodIn wsX3_could wsX3_possibleLetters := goodIn_r _ [26, 27, 28, 29, 30, 31, 32, 5, 33, 1, 34, 35, 36, 10, 37, 38, 39, 40, 41, 42, 43, 44, 45, 46, 47, 48, 49, 50, 51, 52, 53, 54, 55, 56, 57, 58, 59, 60, 61, 62, 63, 13, 14, 15, 16, 17, 18, 19, 20, 21, 22, 64, 65, 66, 67, 68, 69, 70, 71, 72, 73, 74, 75, 76, 77, 78, 79, 80, 81, 2, 3, 4, 6, 82, 83, 84, 85, 86, 97, 98, 99, 100, 101, 102, 103, 115, 116, 117, 118, 104, 105, 106, 107, 108, 109, 110, 111, 112, 113, 114] (by decide +kernel) (by decide +kernel)
set_option maxRecDepth 20000 in
theorem gX3_could_X3_possibleLetters : GoodIn wsX3_could (wsV RX3 239 RX3 yX3_possibleLetters wsX3_possibleLetters) := goodIn_app (goodIn_of _ (by decide +kernel)) ggX3_could_X3_possibleLetters
set_option maxRecDepth 20000 in
theorem ggX3_could_J6_bitCount_0f7a4 : GoodIn wsX3_could wsJ6_bitCount_0f7a4 := goodIn_r _ [90, 91, 92, 93] (by decide +kernel) (by decide +kernel)
set_option maxRecDepth 20000 in
theorem gX3_could_J6_bitCount_0f7a4 : GoodIn wsX3_could (va_wsS RX3 242 yJ6_bitCount_0f7a4 wsJ6_bitCount_0f7a4) := goodIn_app (goodIn_of _ (by decide +kernel)) ggX3_could_J6_bitCount_0f7a4
set_option maxRecDepth 20000 in
theorem ggX3_could_X3_lowestLetter : GoodIn wsX3_could wsX3_lowestLetter := goodIn_r _ [96, 39, 40, 5, 41] (by decide +kernel) (by decide +kernel)
set_option maxRecDepth 20000 in
theorem gX3_could_X3_lowestLetter : GoodIn wsX3_could (va_wsS RX3 247 yX3_lowestLetter wsX3_lowestLetter) := goodIn_app (goodIn_of _ (by decide +kernel)) ggX3_could_X3_lowestLetter
theorem dX3_could_0 : decode cX3_could 0 = .ok (.iload_n 1, 1) := by decide +kernel
theorem dX3_could_1 : decode cX3_could 1 = .ok (.invokestatic 107, 3) := by decide +kernel
theorem dX3_could_4 : decode cX3_could 4 = .ok (.ifCond .ne 5, 3) := by decide +kernel
theorem dX3_could_7 : decode cX3_could 7 = .ok (.iconst (-1), 1) := by decide +kernel
theorem dX3_could_8 : decode cX3_could 8 = .ok (.ireturn, 1) := by decide +kernel
theorem dX3_could_9 : decode cX3_could 9 = .ok (.iload_n 2, 1) := by decide +kernel
theorem dX3_could_10 : decode cX3_could 10 = .ok (.ifCond .lt 8, 3) := by decide +kernel
theorem dX3_could_13 : decode cX3_could 13 = .ok (.iload_n 2, 1) := by decide +kernel
theorem dX3_could_14 : decode cX3_could 14 = .ok (.iconst 1, 1) := by decide +kernel
theorem dX3_could_15 : decode cX3_could 15 = .ok (.if_icmp .le 6, 3) := by decide +kernel
theorem dX3_could_18 : decode cX3_could 18 = .ok (.bipush (-2), 2) := by decide +kernel
theorem dX3_could_20 : decode cX3_could 20 = .ok (.ireturn, 1) := by decide +kernel
theorem dX3_could_21 : decode cX3_could 21 = .ok (.aload_n 0, 1) := by decide +kernel
theorem dX3_could_22 : decode cX3_could 22 = .ok (.getfield 12, 3) := by decide +kernel
theorem dX3_could_25 : decode cX3_could 25 = .ok (.getfield 121, 3) := by decide +kernel
theorem dX3_could_28 : decode cX3_could 28 = .ok (.iload_n 1, 1) := by decide +kernel
theorem dX3_could_29 : decode cX3_could 29 = .ok (.iaload, 1) := by decide +kernel
theorem dX3_could_30 : decode cX3_could 30 = .ok (.ifCond .ne 14, 3) := by decide +kernel
theorem dX3_could_33 : decode cX3_could 33 = .ok (.aload_n 0, 1) := by decide +kernel
theorem dX3_could_34 : decode cX3_could 34 = .ok (.getfield 12, 3) := by decide +kernel
theorem dX3_could_37 : decode cX3_could 37 = .ok (.iload_n 1, 1) := by decide +kernel
theorem dX3_could_38 : decode cX3_could 38 = .ok (.invokevirtual 155, 3) := by decide +kernel
theorem dX3_could_41 : decode cX3_could 41 = .ok (.ifCond .ne 6, 3) := by decide +kernel
theorem dX3_could_44 : decode cX3_could 44 = .ok (.bipush (-5), 2) := by decide +kernel
theorem dX3_could_46 : decode cX3_could 46 = .ok (.ireturn, 1) := by decide +kernel
theorem dX3_could_47 : decode cX3_could 47 = .ok (.aload_n 0, 1) := by decide +kernel
theorem dX3_could_48 : decode cX3_could 48 = .ok (.iload_n 1, 1) := by decide +kernel
theorem dX3_could_49 : decode cX3_could 49 = .ok (.invokevirtual 239, 3) := by decide +kernel
theorem dX3_could_52 : decode cX3_could 52 = .ok (.istore_n 3, 1) := by decide +kernel
theorem dX3_could_53 : decode cX3_could 53 = .ok (.iload_n 2, 1) := by decide +kernel
theorem dX3_could_54 : decode cX3_could 54 = .ok (.ifCond .ne 10, 3) := by decide +kernel
theorem dX3_could_57 : decode cX3_could 57 = .ok (.iload_n 3, 1) := by decide +kernel
theorem dX3_could_58 : decode cX3_could 58 = .ok (.invokestatic 242, 3) := by decide +kernel
theorem dX3_could_61 : decode cX3_could 61 = .ok (.goto 7, 3) := by decide +kernel
theorem dX3_could_64 : decode cX3_could 64 = .ok (.iload_n 3, 1) := by decide +kernel
theorem dX3_could_65 : decode cX3_could 65 = .ok (.invokestatic 247, 3) := by decide +kernel
theorem dX3_could_68 : decode cX3_could 68 = .ok (.ireturn, 1) := by decide +kernel
set_option maxRecDepth 20000 in
theorem ggX3_count_X0_cellsWithLetters : GoodIn wsX3_count wsX0_cellsWithLetters := goodIn_r _ [17, 18, 19, 20, 16, 21, 22, 23, 24, 25, 26, 27, 28, 29, 30, 31, 32, 72, 73, 74, 75, 76, 77, 78, 79, 80, 81, 82] (by decide +kernel) (by decide +kernel)
set_option maxRecDepth 20000 in
theorem gX3_count_X0_cellsWithLetters : GoodIn wsX3_count (wsV RX3 250 RX0 yX0_cellsWithLetters wsX0_cellsWithLetters) := goodIn_app (goodIn_of _ (by decide +kernel)) ggX3_count_X0_cellsWithLetters
set_option maxRecDepth 20000 in
theorem ggX3_count_X0_numbersInGrid : GoodIn wsX3_count wsX0_numbersInGrid := goodIn_r _ [36, 18, 19, 20, 16, 21, 22, 23, 24, 25, 26, 27, 28, 29, 30, 31, 32, 72, 73, 74, 75, 76, 77, 78, 79, 80, 81, 82] (by decide +kernel) (by decide +kernel)
set_option maxRecDepth 20000 in
theorem gX3_count_X0_numbersInGrid : GoodIn wsX3_count (wsV RX3 253 RX0 yX0_numbersInGrid wsX0_numbersInGrid) := goodIn_app (goodIn_of _ (by decide +kernel)) ggX3_count_X0_numbersInGrid
set_option maxRecDepth 20000 in
theorem ggX3_count_X0_guessedNumbersInGrid : GoodIn wsX3_count wsX0_guessedNumbersInGrid := goodIn_r _ [40, 41, 18, 19, 20, 16, 21, 22, 23, 24, 25, 26, 27, 28, 29, 30, 31, 32, 72, 73, 74, 75, 76, 77, 78, 79, 80, 81, 82] (by decide +kernel) (by decide +kernel)
set_option maxRecDepth 20000 in
theorem gX3_count_X0_guessedNumbersInGrid : GoodIn wsX3_count (wsV RX3 256 RX0 yX0_guessedNumbersInGrid wsX0_guessedNumbersInGrid) := goodIn_app (goodIn_of _ (by decide +kernel)) ggX3_count_X0_guessedNumbersInGrid
set_option maxRecDepth 20000 in
theorem ggX3_count_X0_guessedCells : GoodIn wsX3_count wsX0_guessedCells := goodIn_r _ [45, 46, 47, 48, 16, 49, 41, 22, 23, 24, 25, 26, 27, 28, 29, 30, 31, 32, 50, 51, 52, 72, 73, 74, 75, 76, 77, 78, 79, 80, 81, 82] (by decide +kernel) (by decide +kernel)
set_option maxRecDepth 20000 in
theorem gX3_count_X0_guessedCells : GoodIn wsX3_count (wsV RX3 124 RX0 yX0_guessedCells wsX0_guessedCells) := goodIn_app (goodIn_of _ (by decide +kernel)) ggX3_count_X0_guessedCells
set_option maxRecDepth 20000 in
theorem ggX3_count_X0_isSolved : GoodIn wsX3_count wsX0_isSolved := goodIn_r _ [56, 26, 46, 47, 48, 16, 49, 41, 22, 23, 24, 25, 27, 28, 29, 30, 31, 32, 50, 51, 52, 57, 14, 15, 17, 18, 19, 20, 21, 72, 73, 74, 75, 76, 77, 78, 79, 80, 81, 82] (by decide +kernel) (by decide +kernel)
set_option maxRecDepth 20000 in
theorem gX3_count_X0_isSolved : GoodIn wsX3_count (wsV RX3 259 RX0 yX0_isSolved wsX0_isSolved) := goodIn_app (goodIn_of _ (by decide +kernel)) ggX3_count_X0_isSolved
set_option maxRecDepth 20000 in
theorem ggX3_count_X3_oneIf : GoodIn wsX3_count wsX3_oneIf := goodIn_r _ [60] (by decide +kernel) (by decide +kernel)
set_option maxRecDepth 20000 in
theorem gX3_count_X3_oneIf : GoodIn wsX3_count (va_wsS RX3 208 yX3_oneIf wsX3_oneIf) := goodIn_app (goodIn_of _ (by decide +kernel)) ggX3_count_X3_oneIf
theorem dX3_count_0 : decode cX3_count 0 = .ok (.iload_n 1, 1) := by decide +kernel
theorem dX3_count_1 : decode cX3_count 1 = .ok (.tableswitch 183 0 13 #[71, 79, 87, 95, 103, 111, 119, 127, 138, 146, 154, 162, 170, 175], 71) := by decide +kernel
theorem dX3_count_72 : decode cX3_count 72 = .ok (.aload_n 0, 1) := by decide +kernel
theorem dX3_count_73 : decode cX3_count 73 = .ok (.getfield 12, 3) := by decide +kernel
theorem dX3_count_76 : decode cX3_count 76 = .ok (.invokevirtual 250, 3) := by decide +kernel
theorem dX3_count_79 : decode cX3_count 79 = .ok (.ireturn, 1) := by decide +kernel
theorem dX3_count_80 : decode cX3_count 80 = .ok (.aload_n 0, 1) := by decide +kernel
theorem dX3_count_81 : decode cX3_count 81 = .ok (.getfield 19, 3) := by decide +kernel
theorem dX3_count_84 : decode cX3_count 84 = .ok (.getfield 63, 3) := by decide +kernel
theorem dX3_count_87 : decode cX3_count 87 = .ok (.ireturn, 1) := by decide +kernel
theorem dX3_count_88 : decode cX3_count 88 = .ok (.aload_n 0, 1) := by decide +kernel
theorem dX3_count_89 : decode cX3_count 89 = .ok (.getfield 12, 3) := by decide +kernel
theorem dX3_count_92 : decode cX3_count 92 = .ok (.getfield 85, 3) := by decide +kernel
theorem dX3_count_95 : decode cX3_count 95 = .ok (.ireturn, 1) := by decide +kernel
theorem dX3_count_96 : decode cX3_count 96 = .ok (.aload_n 0, 1) := by decide +kernel
theorem dX3_count_97 : decode cX3_count 97 = .ok (.getfield 12, 3) := by decide +kernel
theorem dX3_count_100 : decode cX3_count 100 = .ok (.getfield 152, 3) := by decide +kernel
theorem dX3_count_103 : decode cX3_count 103 = .ok (.ireturn, 1) := by decide +kernel
theorem dX3_count_104 : decode cX3_count 104 = .ok (.aload_n 0, 1) := by decide +kernel
theorem dX3_count_105 : decode cX3_count 105 = .ok (.getfield 12, 3) := by decide +kernel
theorem dX3_count_108 : decode cX3_count 108 = .ok (.invokevirtual 253, 3) := by decide +kernel
theorem dX3_count_111 : decode cX3_count 111 = .ok (.ireturn, 1) := by decide +kernel
theorem dX3_count_112 : decode cX3_count 112 = .ok (.aload_n 0, 1) := by decide +kernel
theorem dX3_count_113 : decode cX3_count 113 = .ok (.getfield 12, 3) := by decide +kernel
theorem dX3_count_116 : decode cX3_count 116 = .ok (.invokevirtual 256, 3) := by decide +kernel
theorem dX3_count_119 : decode cX3_count 119 = .ok (.ireturn, 1) := by decide +kernel
theorem dX3_count_120 : decode cX3_count 120 = .ok (.aload_n 0, 1) := by decide +kernel
theorem dX3_count_121 : decode cX3_count 121 = .ok (.getfield 12, 3) := by decide +kernel
theorem dX3_count_124 : decode cX3_count 124 = .ok (.invokevirtual 124, 3) := by decide +kernel
theorem dX3_count_127 : decode cX3_count 127 = .ok (.ireturn, 1) := by decide +kernel
theorem dX3_count_128 : decode cX3_count 128 = .ok (.aload_n 0, 1) := by decide +kernel
theorem dX3_count_129 : decode cX3_count 129 = .ok (.getfield 12, 3) := by decide +kernel
theorem dX3_count_132 : decode cX3_count 132 = .ok (.invokevirtual 259, 3) := by decide +kernel
theorem dX3_count_135 : decode cX3_count 135 = .ok (.invokestatic 208, 3) := by decide +kernel
theorem dX3_count_138 : decode cX3_count 138 = .ok (.ireturn, 1) := by decide +kernel
theorem dX3_count_139 : decode cX3_count 139 = .ok (.aload_n 0, 1) := by decide +kernel
theorem dX3_count_140 : decode cX3_count 140 = .ok (.getfield 12, 3) := by decide +kernel
theorem dX3_count_143 : decode cX3_count 143 = .ok (.getfield 164, 3) := by decide +kernel
theorem dX3_count_146 : decode cX3_count 146 = .ok (.ireturn, 1) := by decide +kernel
theorem dX3_count_147 : decode cX3_count 147 = .ok (.aload_n 0, 1) := by decide +kernel
theorem dX3_count_148 : decode cX3_count 148 = .ok (.getfield 12, 3) := by decide +kernel
theorem dX3_count_151 : decode cX3_count 151 = .ok (.getfield 167, 3) := by decide +kernel
theorem dX3_count_154 : decode cX3_count 154 = .ok (.ireturn, 1) := by decide +kernel
theorem dX3_count_155 : decode cX3_count 155 = .ok (.aload_n 0, 1) := by decide +kernel
theorem dX3_count_156 : decode cX3_count 156 = .ok (.getfield 12, 3) := by decide +kernel
theorem dX3_count_159 : decode cX3_count 159 = .ok (.getfield 70, 3) := by decide +kernel
theorem dX3_count_162 : decode cX3_count 162 = .ok (.ireturn, 1) := by decide +kernel
theorem dX3_count_163 : decode cX3_count 163 = .ok (.aload_n 0, 1) := by decide +kernel
theorem dX3_count_164 : decode cX3_count 164 = .ok (.getfield 12, 3) := by decide +kernel
theorem dX3_count_167 : decode cX3_count 167 = .ok (.getfield 73, 3) := by decide +kernel
theorem dX3_count_170 : decode cX3_count 170 = .ok (.ireturn, 1) := by decide +kernel
theorem dX3_count_171 : decode cX3_count 171 = .ok (.aload_n 0, 1) := by decide +kernel
theorem dX3_count_172 : decode cX3_count 172 = .ok (.getfield 184, 3) := by decide +kernel
theorem dX3_count_175 : decode cX3_count 175 = .ok (.ireturn, 1) := by decide +kernel
theorem dX3_count_176 : decode cX3_count 176 = .ok (.aload_n 0, 1) := by decide +kernel
theorem dX3_count_177 : decode cX3_count 177 = .ok (.getfield 26, 3) := by decide +kernel
theorem dX3_count_180 : decode cX3_count 180 = .ok (.getfield 88, 3) := by decide +kernel
theorem dX3_count_183 : decode cX3_count 183 = .ok (.ireturn, 1) := by decide +kernel
theorem dX3_count_184 : decode cX3_count 184 = .ok (.bipush (-2), 2) := by decide +kernel
theorem dX3_count_186 : decode cX3_count 186 = .ok (.ireturn, 1) := by decide +kernel
theorem dX3_isInGrid_0 : decode cX3_isInGrid 0 = .ok (.iload_n 0, 1) := by decide +kernel
theorem dX3_isInGrid_1 : decode cX3_isInGrid 1 = .ok (.ifCond .lt 13, 3) := by decide +kernel
theorem dX3_isInGrid_4 : decode cX3_isInGrid 4 = .ok (.iload_n 0, 1) := by decide +kernel
theorem dX3_isInGrid_5 : decode cX3_isInGrid 5 = .ok (.bipush 7, 2) := by decide +kernel
theorem dX3_isInGrid_7 : decode cX3_isInGrid 7 = .ok (.if_icmp .ge 7, 3) := by decide +kernel
theorem dX3_isInGrid_10 : decode cX3_isInGrid 10 = .ok (.iconst 1, 1) := by decide +kernel
theorem dX3_isInGrid_11 : decode cX3_isInGrid 11 = .ok (.goto 4, 3) := by decide +kernel
theorem dX3_isInGrid_14 : decode cX3_isInGrid 14 = .ok (.iconst 0, 1) := by decide +kernel
theorem dX3_isInGrid_15 : decode cX3_isInGrid 15 = .ok (.ireturn, 1) := by decide +kernel
theorem dX3_isNumber_0 : decode cX3_isNumber 0 = .ok (.iload_n 0, 1) := by decide +kernel
theorem dX3_isNumber_1 : decode cX3_isNumber 1 = .ok (.iconst 1, 1) := by decide +kernel
theorem dX3_isNumber_2 : decode cX3_isNumber 2 = .ok (.if_icmp .lt 13, 3) := by decide +kernel
theorem dX3_isNumber_5 : decode cX3_isNumber 5 = .ok (.iload_n 0, 1) := by decide +kernel
theorem dX3_isNumber_6 : decode cX3_isNumber 6 = .ok (.bipush 26, 2) := by decide +kernel
theorem dX3_isNumber_8 : decode cX3_isNumber 8 = .ok (.if_icmp .gt 7, 3) := by decide +kernel
theorem dX3_isNumber_11 : decode cX3_isNumber 11 = .ok (.iconst 1, 1) := by decide +kernel
theorem dX3_isNumber_12 : decode cX3_isNumber 12 = .ok (.goto 4, 3) := by decide +kernel
theorem dX3_isNumber_15 : decode cX3_isNumber 15 = .ok (.iconst 0, 1) := by decide +kernel
theorem dX3_isNumber_16 : decode cX3_isNumber 16 = .ok (.ireturn, 1) := by decide +kernel
theorem dX3_isLetter_0 : decode cX3_isLetter 0 = .ok (.iload_n 0, 1) := by decide +kernel
theorem dX3_isLetter_1 : decode cX3_isLetter 1 = .ok (.bipush 97, 2) := by decide +kernel
theorem dX3_isLetter_3 : decode cX3_isLetter 3 = .ok (.if_icmp .lt 13, 3) := by decide +kernel
theorem dX3_isLetter_6 : decode cX3_isLetter 6 = .ok (.iload_n 0, 1) := by decide +kernel
theorem dX3_isLetter_7 : decode cX3_isLetter 7 = .ok (.bipush 122, 2) := by decide +kernel
theorem dX3_isLetter_9 : decode cX3_isLetter 9 = .ok (.if_icmp .gt 7, 3) := by decide +kernel
theorem dX3_isLetter_12 : decode cX3_isLetter 12 = .ok (.iconst 1, 1) := by decide +kernel
theorem dX3_isLetter_13 : decode cX3_isLetter 13 = .ok (.goto 4, 3) := by decide +kernel
theorem dX3_isLetter_16 : decode cX3_isLetter 16 = .ok (.iconst 0, 1) := by decide +kernel
theorem dX3_isLetter_17 : decode cX3_isLetter 17 = .ok (.ireturn, 1) := by decide +kernel
theorem dX3_isFactor_0 : decode cX3_isFactor 0 = .ok (.iload_n 0, 1) := by decide +kernel
theorem dX3_isFactor_1 : decode cX3_isFactor 1 = .ok (.iconst 1, 1) := by decide +kernel
theorem dX3_isFactor_2 : decode cX3_isFactor 2 = .ok (.if_icmp .lt 26, 3) := by decide +kernel
theorem dX3_isFactor_5 : decode cX3_isFactor 5 = .ok (.iload_n 0, 1) := by decide +kernel
theorem dX3_isFactor_6 : decode cX3_isFactor 6 = .ok (.bipush 26, 2) := by decide +kernel
theorem dX3_isFactor_8 : decode cX3_isFactor 8 = .ok (.if_icmp .ge 20, 3) := by decide +kernel
theorem dX3_isFactor_11 : decode cX3_isFactor 11 = .ok (.iload_n 0, 1) := by decide +kernel
theorem dX3_isFactor_12 : decode cX3_isFactor 12 = .ok (.iconst 2, 1) := by decide +kernel
theorem dX3_isFactor_13 : decode cX3_isFactor 13 = .ok (.irem, 1) := by decide +kernel
theorem dX3_isFactor_14 : decode cX3_isFactor 14 = .ok (.iconst 1, 1) := by decide +kernel
theorem dX3_isFactor_15 : decode cX3_isFactor 15 = .ok (.if_icmp .ne 13, 3) := by decide +kernel
theorem dX3_isFactor_18 : decode cX3_isFactor 18 = .ok (.iload_n 0, 1) := by decide +kernel
theorem dX3_isFactor_19 : decode cX3_isFactor 19 = .ok (.bipush 13, 2) := by decide +kernel
theorem dX3_isFactor_21 : decode cX3_isFactor 21 = .ok (.if_icmp .eq 7, 3) := by decide +kernel
theorem dX3_isFactor_24 : decode cX3_isFactor 24 = .ok (.iconst 1, 1) := by decide +kernel
theorem dX3_isFactor_25 : decode cX3_isFactor 25 = .ok (.goto 4, 3) := by decide +kernel
theorem dX3_isFactor_28 : decode cX3_isFactor 28 = .ok (.iconst 0, 1) := by decide +kernel
theorem dX3_isFactor_29 : decode cX3_isFactor 29 = .ok (.ireturn, 1) := by decide +kernel
theorem dX3_orNone_0 : decode cX3_orNone 0 = .ok (.iload_n 0, 1) := by decide +kernel
theorem dX3_orNone_1 : decode cX3_orNone 1 = .ok (.ifCond .ne 8, 3) := by decide +kernel
theorem dX3_orNone_4 : decode cX3_orNone 4 = .ok (.bipush (-5), 2) := by decide +kernel
theorem dX3_orNone_6 : decode cX3_orNone 6 = .ok (.goto 4, 3) := by decide +kernel
theorem dX3_orNone_9 : decode cX3_orNone 9 = .ok (.iload_n 0, 1) := by decide +kernel
theorem dX3_orNone_10 : decode cX3_orNone 10 = .ok (.ireturn, 1) := by decide +kernel
theorem dX3_oneIf_0 : decode cX3_oneIf 0 = .ok (.iload_n 0, 1) := by decide +kernel
theorem dX3_oneIf_1 : decode cX3_oneIf 1 = .ok (.ifCond .eq 7, 3) := by decide +kernel
theorem dX3_oneIf_4 : decode cX3_oneIf 4 = .ok (.iconst 1, 1) := by decide +kernel
theorem dX3_oneIf_5 : decode cX3_oneIf 5 = .ok (.goto 4, 3) := by decide +kernel
theorem dX3_oneIf_8 : decode cX3_oneIf 8 = .ok (.iconst 0, 1) := by decide +kernel
theorem dX3_oneIf_9 : decode cX3_oneIf 9 = .ok (.ireturn, 1) := by decide +kernel
theorem dX3_isWord_0 : decode cX3_isWord 0 = .ok (.iload_n 1, 1) := by decide +kernel
theorem dX3_isWord_1 : decode cX3_isWord 1 = .ok (.ifCond .lt 18, 3) := by decide +kernel
theorem dX3_isWord_4 : decode cX3_isWord 4 = .ok (.iload_n 1, 1) := by decide +kernel
theorem dX3_isWord_5 : decode cX3_isWord 5 = .ok (.aload_n 0, 1) := by decide +kernel
theorem dX3_isWord_6 : decode cX3_isWord 6 = .ok (.getfield 19, 3) := by decide +kernel
theorem dX3_isWord_9 : decode cX3_isWord 9 = .ok (.getfield 63, 3) := by decide +kernel
theorem dX3_isWord_12 : decode cX3_isWord 12 = .ok (.if_icmp .ge 7, 3) := by decide +kernel
theorem dX3_isWord_15 : decode cX3_isWord 15 = .ok (.iconst 1, 1) := by decide +kernel
theorem dX3_isWord_16 : decode cX3_isWord 16 = .ok (.goto 4, 3) := by decide +kernel
theorem dX3_isWord_19 : decode cX3_isWord 19 = .ok (.iconst 0, 1) := by decide +kernel
theorem dX3_isWord_20 : decode cX3_isWord 20 = .ok (.ireturn, 1) := by decide +kernel
theorem dX3_isInList_0 : decode cX3_isInList 0 = .ok (.iload_n 1, 1) := by decide +kernel
theorem dX3_isInList_1 : decode cX3_isInList 1 = .ok (.ifCond .lt 18, 3) := by decide +kernel
theorem dX3_isInList_4 : decode cX3_isInList 4 = .ok (.iload_n 1, 1) := by decide +kernel
theorem dX3_isInList_5 : decode cX3_isInList 5 = .ok (.aload_n 0, 1) := by decide +kernel
theorem dX3_isInList_6 : decode cX3_isInList 6 = .ok (.getfield 12, 3) := by decide +kernel
theorem dX3_isInList_9 : decode cX3_isInList 9 = .ok (.getfield 85, 3) := by decide +kernel
theorem dX3_isInList_12 : decode cX3_isInList 12 = .ok (.if_icmp .ge 7, 3) := by decide +kernel
theorem dX3_isInList_15 : decode cX3_isInList 15 = .ok (.iconst 1, 1) := by decide +kernel
theorem dX3_isInList_16 : decode cX3_isInList 16 = .ok (.goto 4, 3) := by decide +kernel
theorem dX3_isInList_19 : decode cX3_isInList 19 = .ok (.iconst 0, 1) := by decide +kernel
theorem dX3_isInList_20 : decode cX3_isInList 20 = .ok (.ireturn, 1) := by decide +kernel
set_option maxRecDepth 20000 in
theorem ggX3_remember_X0_copyFrom : GoodIn wsX3_remember wsX0_copyFrom := goodIn_r _ [8, 9, 10, 11, 12, 13, 14, 15, 16, 17, 18, 19, 20, 21, 22, 23, 31, 32, 33, 34, 35, 36, 37, 38, 39, 40, 41] (by decide +kernel) (by decide +kernel)
set_option maxRecDepth 20000 in
theorem gX3_remember_X0_copyFrom : GoodIn wsX3_remember (wsV RX3 191 RX0 yX0_copyFrom wsX0_copyFrom) := goodIn_app (goodIn_of _ (by decide +kernel)) ggX3_remember_X0_copyFrom
theorem dX3_remember_0 : decode cX3_remember 0 = .ok (.aload_n 0, 1) := by decide +kernel
theorem dX3_remember_1 : decode cX3_remember 1 = .ok (.getfield 184, 3) := by decide +kernel
theorem dX3_remember_4 : decode cX3_remember 4 = .ok (.iconst 4, 1) := by decide +kernel
theorem dX3_remember_5 : decode cX3_remember 5 = .ok (.if_icmp .ne 54, 3) := by decide +kernel
theorem dX3_remember_8 : decode cX3_remember 8 = .ok (.aload_n 0, 1) := by decide +kernel
theorem dX3_remember_9 : decode cX3_remember 9 = .ok (.getfield 30, 3) := by decide +kernel
theorem dX3_remember_12 : decode cX3_remember 12 = .ok (.iconst 0, 1) := by decide +kernel
theorem dX3_remember_13 : decode cX3_remember 13 = .ok (.aaload, 1) := by decide +kernel
theorem dX3_remember_14 : decode cX3_remember 14 = .ok (.astore_n 1, 1) := by decide +kernel
theorem dX3_remember_15 : decode cX3_remember 15 = .ok (.iconst 1, 1) := by decide +kernel
theorem dX3_remember_16 : decode cX3_remember 16 = .ok (.istore_n 2, 1) := by decide +kernel
theorem dX3_remember_17 : decode cX3_remember 17 = .ok (.iload_n 2, 1) := by decide +kernel
theorem dX3_remember_18 : decode cX3_remember 18 = .ok (.iconst 4, 1) := by decide +kernel
theorem dX3_remember_19 : decode cX3_remember 19 = .ok (.if_icmp .ge 23, 3) := by decide +kernel
theorem dX3_remember_22 : decode cX3_remember 22 = .ok (.aload_n 0, 1) := by decide +kernel
theorem dX3_remember_23 : decode cX3_remember 23 = .ok (.getfield 30, 3) := by decide +kernel
theorem dX3_remember_26 : decode cX3_remember 26 = .ok (.iload_n 2, 1) := by decide +kernel
theorem dX3_remember_27 : decode cX3_remember 27 = .ok (.iconst 1, 1) := by decide +kernel
theorem dX3_remember_28 : decode cX3_remember 28 = .ok (.isub, 1) := by decide +kernel
theorem dX3_remember_29 : decode cX3_remember 29 = .ok (.aload_n 0, 1) := by decide +kernel
theorem dX3_remember_30 : decode cX3_remember 30 = .ok (.getfield 30, 3) := by decide +kernel
theorem dX3_remember_33 : decode cX3_remember 33 = .ok (.iload_n 2, 1) := by decide +kernel
theorem dX3_remember_34 : decode cX3_remember 34 = .ok (.aaload, 1) := by decide +kernel
theorem dX3_remember_35 : decode cX3_remember 35 = .ok (.aastore, 1) := by decide +kernel
theorem dX3_remember_36 : decode cX3_remember 36 = .ok (.iinc 2 1, 3) := by decide +kernel
theorem dX3_remember_39 : decode cX3_remember 39 = .ok (.goto (-22), 3) := by decide +kernel
theorem dX3_remember_42 : decode cX3_remember 42 = .ok (.aload_n 0, 1) := by decide +kernel
theorem dX3_remember_43 : decode cX3_remember 43 = .ok (.getfield 30, 3) := by decide +kernel
theorem dX3_remember_46 : decode cX3_remember 46 = .ok (.iconst 3, 1) := by decide +kernel
theorem dX3_remember_47 : decode cX3_remember 47 = .ok (.aload_n 1, 1) := by decide +kernel
theorem dX3_remember_48 : decode cX3_remember 48 = .ok (.aastore, 1) := by decide +kernel
theorem dX3_remember_49 : decode cX3_remember 49 = .ok (.aload_n 0, 1) := by decide +kernel
theorem dX3_remember_50 : decode cX3_remember 50 = .ok (.dup, 1) := by decide +kernel
theorem dX3_remember_51 : decode cX3_remember 51 = .ok (.getfield 184, 3) := by decide +kernel
theorem dX3_remember_54 : decode cX3_remember 54 = .ok (.iconst 1, 1) := by decide +kernel
theorem dX3_remember_55 : decode cX3_remember 55 = .ok (.isub, 1) := by decide +kernel
theorem dX3_remember_56 : decode cX3_remember 56 = .ok (.putfield 184, 3) := by decide +kernel
theorem dX3_remember_59 : decode cX3_remember 59 = .ok (.aload_n 0, 1) := by decide +kernel
theorem dX3_remember_60 : decode cX3_remember 60 = .ok (.getfield 30, 3) := by decide +kernel
theorem dX3_remember_63 : decode cX3_remember 63 = .ok (.aload_n 0, 1) := by decide +kernel
theorem dX3_remember_64 : decode cX3_remember 64 = .ok (.getfield 184, 3) := by decide +kernel
theorem dX3_remember_67 : decode cX3_remember 67 = .ok (.aaload, 1) := by decide +kernel
theorem dX3_remember_68 : decode cX3_remember 68 = .ok (.aload_n 0, 1) := by decide +kernel
theorem dX3_remember_69 : decode cX3_remember 69 = .ok (.getfield 12, 3) := by decide +kernel
theorem dX3_remember_72 : decode cX3_remember 72 = .ok (.invokevirtual 191, 3) := by decide +kernel
theorem dX3_remember_75 : decode cX3_remember 75 = .ok (.aload_n 0, 1) := by decide +kernel
theorem dX3_remember_76 : decode cX3_remember 76 = .ok (.dup, 1) := by decide +kernel
theorem dX3_remember_77 : decode cX3_remember 77 = .ok (.getfield 184, 3) := by decide +kernel
theorem dX3_remember_80 : decode cX3_remember 80 = .ok (.iconst 1, 1) := by decide +kernel
theorem dX3_remember_81 : decode cX3_remember 81 = .ok (.iadd, 1) := by decide +kernel
theorem dX3_remember_82 : decode cX3_remember 82 = .ok (.putfield 184, 3) := by decide +kernel
theorem dX3_remember_85 : decode cX3_remember 85 = .ok (.return_, 1) := by decide +kernel
set_option maxRecDepth 20000 in
theorem ggX3_bringBack_X0_copyFrom : GoodIn wsX3_bringBack wsX0_copyFrom := goodIn_r _ [8, 9, 10, 11, 12, 13, 14, 15, 16, 17, 18, 19, 20, 21, 22, 23, 48, 49, 50, 51, 52, 53, 54, 55, 56, 57, 58] (by decide +kernel) (by decide +kernel)
set_option maxRecDepth 20000 in
theorem gX3_bringBack_X0_copyFrom : GoodIn wsX3_bringBack (wsV RX3 191 RX0 yX0_copyFrom wsX0_copyFrom) := goodIn_app (goodIn_of _ (by decide +kernel)) ggX3_bringBack_X0_copyFrom
set_option maxRecDepth 20000 in
theorem ggX3_bringBack_X2_find : GoodIn wsX3_bringBack wsX2_find := goodIn_r _ [28, 29, 30, 31, 32, 27, 33, 34, 35, 36, 37, 38, 39, 40, 59, 60, 61, 62] (by decide +kernel) (by decide +kernel)
set_option maxRecDepth 20000 in
theorem gX3_bringBack_X2_find : GoodIn wsX3_bringBack (wsV RX3 59 RX2 yX2_find wsX2_find) := goodIn_app (goodIn_of _ (by decide +kernel)) ggX3_bringBack_X2_find
theorem dX3_bringBack_0 : decode cX3_bringBack 0 = .ok (.aload_n 0, 1) := by decide +kernel
theorem dX3_bringBack_1 : decode cX3_bringBack 1 = .ok (.getfield 12, 3) := by decide +kernel
theorem dX3_bringBack_4 : decode cX3_bringBack 4 = .ok (.aload_n 1, 1) := by decide +kernel
theorem dX3_bringBack_5 : decode cX3_bringBack 5 = .ok (.invokevirtual 191, 3) := by decide +kernel
theorem dX3_bringBack_8 : decode cX3_bringBack 8 = .ok (.aload_n 0, 1) := by decide +kernel
theorem dX3_bringBack_9 : decode cX3_bringBack 9 = .ok (.getfield 19, 3) := by decide +kernel
theorem dX3_bringBack_12 : decode cX3_bringBack 12 = .ok (.aload_n 0, 1) := by decide +kernel
theorem dX3_bringBack_13 : decode cX3_bringBack 13 = .ok (.getfield 12, 3) := by decide +kernel
theorem dX3_bringBack_16 : decode cX3_bringBack 16 = .ok (.getfield 48, 3) := by decide +kernel
theorem dX3_bringBack_19 : decode cX3_bringBack 19 = .ok (.invokevirtual 59, 3) := by decide +kernel
theorem dX3_bringBack_22 : decode cX3_bringBack 22 = .ok (.return_, 1) := by decide +kernel
set_option maxRecDepth 20000 in
theorem ggX3_isGuessOfAnother_X0_numberGuessedAs : GoodIn wsX3_isGuessOfAnother wsX0_numberGuessedAs := goodIn_r _ [6, 7, 15, 16, 17, 18, 19, 20, 21, 22, 23, 24, 25] (by decide +kernel) (by decide +kernel)
set_option maxRecDepth 20000 in
theorem gX3_isGuessOfAnother_X0_numberGuessedAs : GoodIn wsX3_isGuessOfAnother (wsV RX3 161 RX0 yX0_numberGuessedAs wsX0_numberGuessedAs) := goodIn_app (goodIn_of _ (by decide +kernel)) ggX3_isGuessOfAnother_X0_numberGuessedAs
theorem dX3_isGuessOfAnother_0 : decode cX3_isGuessOfAnother 0 = .ok (.aload_n 0, 1) := by decide +kernel
theorem dX3_isGuessOfAnother_1 : decode cX3_isGuessOfAnother 1 = .ok (.getfield 12, 3) := by decide +kernel
theorem dX3_isGuessOfAnother_4 : decode cX3_isGuessOfAnother 4 = .ok (.iload_n 1, 1) := by decide +kernel
theorem dX3_isGuessOfAnother_5 : decode cX3_isGuessOfAnother 5 = .ok (.invokevirtual 161, 3) := by decide +kernel
theorem dX3_isGuessOfAnother_8 : decode cX3_isGuessOfAnother 8 = .ok (.istore_n 3, 1) := by decide +kernel
theorem dX3_isGuessOfAnother_9 : decode cX3_isGuessOfAnother 9 = .ok (.iload_n 3, 1) := by decide +kernel
theorem dX3_isGuessOfAnother_10 : decode cX3_isGuessOfAnother 10 = .ok (.ifCond .eq 12, 3) := by decide +kernel
theorem dX3_isGuessOfAnother_13 : decode cX3_isGuessOfAnother 13 = .ok (.iload_n 3, 1) := by decide +kernel
theorem dX3_isGuessOfAnother_14 : decode cX3_isGuessOfAnother 14 = .ok (.iload_n 2, 1) := by decide +kernel
theorem dX3_isGuessOfAnother_15 : decode cX3_isGuessOfAnother 15 = .ok (.if_icmp .eq 7, 3) := by decide +kernel
theorem dX3_isGuessOfAnother_18 : decode cX3_isGuessOfAnother 18 = .ok (.iconst 1, 1) := by decide +kernel
theorem dX3_isGuessOfAnother_19 : decode cX3_isGuessOfAnother 19 = .ok (.goto 4, 3) := by decide +kernel
theorem dX3_isGuessOfAnother_22 : decode cX3_isGuessOfAnother 22 = .ok (.iconst 0, 1) := by decide +kernel
theorem dX3_isGuessOfAnother_23 : decode cX3_isGuessOfAnother 23 = .ok (.ireturn, 1) := by decide +kernel
set_option maxRecDepth 20000 in
theorem ggX3_isUnguessed_X3_isNumber : GoodIn wsX3_isUnguessed wsX3_isNumber := goodIn_r _ [6] (by decide +kernel) (by decide +kernel)
set_option maxRecDepth 20000 in
theorem gX3_isUnguessed_X3_isNumber : GoodIn wsX3_isUnguessed (va_wsS RX3 107 yX3_isNumber wsX3_isNumber) := goodIn_app (goodIn_of _ (by decide +kernel)) ggX3_isUnguessed_X3_isNumber
theorem dX3_isUnguessed_0 : decode cX3_isUnguessed 0 = .ok (.iload_n 1, 1) := by decide +kernel
theorem dX3_isUnguessed_1 : decode cX3_isUnguessed 1 = .ok (.invokestatic 107, 3) := by decide +kernel
theorem dX3_isUnguessed_4 : decode cX3_isUnguessed 4 = .ok (.ifCond .eq 19, 3) := by decide +kernel
theorem dX3_isUnguessed_7 : decode cX3_isUnguessed 7 = .ok (.aload_n 0, 1) := by decide +kernel
theorem dX3_isUnguessed_8 : decode cX3_isUnguessed 8 = .ok (.getfield 12, 3) := by decide +kernel
theorem dX3_isUnguessed_11 : decode cX3_isUnguessed 11 = .ok (.getfield 121, 3) := by decide +kernel
theorem dX3_isUnguessed_14 : decode cX3_isUnguessed 14 = .ok (.iload_n 1, 1) := by decide +kernel
theorem dX3_isUnguessed_15 : decode cX3_isUnguessed 15 = .ok (.iaload, 1) := by decide +kernel
theorem dX3_isUnguessed_16 : decode cX3_isUnguessed 16 = .ok (.ifCond .ne 7, 3) := by decide +kernel
theorem dX3_isUnguessed_19 : decode cX3_isUnguessed 19 = .ok (.iconst 1, 1) := by decide +kernel
theorem dX3_isUnguessed_20 : decode cX3_isUnguessed 20 = .ok (.goto 4, 3) := by decide +kernel
theorem dX3_isUnguessed_23 : decode cX3_isUnguessed 23 = .ok (.iconst 0, 1) := by decide +kernel
theorem dX3_isUnguessed_24 : decode cX3_isUnguessed 24 = .ok (.ireturn, 1) := by decide +kernel
set_option maxRecDepth 20000 in
theorem ggX3_numberIn_X2_cellOf : GoodIn wsX3_numberIn wsX2_cellOf := goodIn_r _ [7, 8, 9, 29, 30, 31, 32] (by decide +kernel) (by decide +kernel)
set_option maxRecDepth 20000 in
theorem gX3_numberIn_X2_cellOf : GoodIn wsX3_numberIn (wsV RX3 170 RX2 yX2_cellOf wsX2_cellOf) := goodIn_app (goodIn_of _ (by decide +kernel)) ggX3_numberIn_X2_cellOf
set_option maxRecDepth 20000 in
theorem ggX3_numberIn_X0_numberAt : GoodIn wsX3_numberIn wsX0_numberAt := goodIn_r _ [14, 15, 16, 17, 18, 13, 19, 20, 21, 33, 34, 35, 36, 37, 38, 39, 40, 41, 42, 43] (by decide +kernel) (by decide +kernel)
set_option maxRecDepth 20000 in
theorem gX3_numberIn_X0_numberAt : GoodIn wsX3_numberIn (wsV RX3 198 RX0 yX0_numberAt wsX0_numberAt) := goodIn_app (goodIn_of _ (by decide +kernel)) ggX3_numberIn_X0_numberAt
theorem dX3_numberIn_0 : decode cX3_numberIn 0 = .ok (.aload_n 0, 1) := by decide +kernel
theorem dX3_numberIn_1 : decode cX3_numberIn 1 = .ok (.getfield 12, 3) := by decide +kernel
theorem dX3_numberIn_4 : decode cX3_numberIn 4 = .ok (.aload_n 0, 1) := by decide +kernel
theorem dX3_numberIn_5 : decode cX3_numberIn 5 = .ok (.getfield 19, 3) := by decide +kernel
theorem dX3_numberIn_8 : decode cX3_numberIn 8 = .ok (.iload_n 1, 1) := by decide +kernel
theorem dX3_numberIn_9 : decode cX3_numberIn 9 = .ok (.iload_n 2, 1) := by decide +kernel
theorem dX3_numberIn_10 : decode cX3_numberIn 10 = .ok (.invokevirtual 170, 3) := by decide +kernel
theorem dX3_numberIn_13 : decode cX3_numberIn 13 = .ok (.invokevirtual 198, 3) := by decide +kernel
theorem dX3_numberIn_16 : decode cX3_numberIn 16 = .ok (.ireturn, 1) := by decide +kernel
set_option maxRecDepth 20000 in
theorem ggX3_hasNumber_X3_firstPlaceOf : GoodIn wsX3_hasNumber wsX3_firstPlaceOf := goodIn_r _ [7, 1, 2, 8, 9, 10, 6, 11, 12, 13, 14, 15, 16, 17, 18, 19, 20, 21, 22, 23, 24, 25, 26, 27, 28, 29, 30, 31, 32, 33, 34, 35, 36, 37, 38, 39, 40, 41, 42, 43, 44, 45, 46, 47, 48, 49, 50, 51, 52, 53] (by decide +kernel) (by decide +kernel)
set_option maxRecDepth 20000 in
theorem gX3_hasNumber_X3_firstPlaceOf : GoodIn wsX3_hasNumber (wsV RX3 263 RX3 yX3_firstPlaceOf wsX3_firstPlaceOf) := goodIn_app (goodIn_of _ (by decide +kernel)) ggX3_hasNumber_X3_firstPlaceOf
theorem dX3_hasNumber_0 : decode cX3_hasNumber 0 = .ok (.aload_n 0, 1) := by decide +kernel
theorem dX3_hasNumber_1 : decode cX3_hasNumber 1 = .ok (.iload_n 2, 1) := by decide +kernel
theorem dX3_hasNumber_2 : decode cX3_hasNumber 2 = .ok (.iload_n 1, 1) := by decide +kernel
theorem dX3_hasNumber_3 : decode cX3_hasNumber 3 = .ok (.invokevirtual 263, 3) := by decide +kernel
theorem dX3_hasNumber_6 : decode cX3_hasNumber 6 = .ok (.aload_n 0, 1) := by decide +kernel
theorem dX3_hasNumber_7 : decode cX3_hasNumber 7 = .ok (.getfield 19, 3) := by decide +kernel
theorem dX3_hasNumber_10 : decode cX3_hasNumber 10 = .ok (.getfield 136, 3) := by decide +kernel
theorem dX3_hasNumber_13 : decode cX3_hasNumber 13 = .ok (.iload_n 1, 1) := by decide +kernel
theorem dX3_hasNumber_14 : decode cX3_hasNumber 14 = .ok (.iaload, 1) := by decide +kernel
theorem dX3_hasNumber_15 : decode cX3_hasNumber 15 = .ok (.if_icmp .ge 7, 3) := by decide +kernel
theorem dX3_hasNumber_18 : decode cX3_hasNumber 18 = .ok (.iconst 1, 1) := by decide +kernel
theorem dX3_hasNumber_19 : decode cX3_hasNumber 19 = .ok (.goto 4, 3) := by decide +kernel
theorem dX3_hasNumber_22 : decode cX3_hasNumber 22 = .ok (.iconst 0, 1) := by decide +kernel
theorem dX3_hasNumber_23 : decode cX3_hasNumber 23 = .ok (.ireturn, 1) := by decide +kernel
set_option maxRecDepth 20000 in
theorem ggX3_firstPlaceOf_X3_numberIn : GoodIn wsX3_firstPlaceOf wsX3_numberIn := goodIn_r _ [7, 8, 1, 9, 10, 11, 12, 13, 14, 15, 16, 17, 18, 19, 20, 21, 22, 23, 24, 25, 26, 27, 28, 29, 30, 31, 32, 33, 34, 35, 36, 37, 38, 39, 40, 41, 42, 43, 44, 45, 46, 47, 48, 49] (by decide +kernel) (by decide +kernel)
set_option maxRecDepth 20000 in
theorem gX3_firstPlaceOf_X3_numberIn : GoodIn wsX3_firstPlaceOf (wsV RX3 139 RX3 yX3_numberIn wsX3_numberIn) := goodIn_app (goodIn_of _ (by decide +kernel)) ggX3_firstPlaceOf_X3_numberIn
theorem dX3_firstPlaceOf_0 : decode cX3_firstPlaceOf 0 = .ok (.iconst 0, 1) := by decide +kernel
theorem dX3_firstPlaceOf_1 : decode cX3_firstPlaceOf 1 = .ok (.istore_n 3, 1) := by decide +kernel
theorem dX3_firstPlaceOf_2 : decode cX3_firstPlaceOf 2 = .ok (.iload_n 3, 1) := by decide +kernel
theorem dX3_firstPlaceOf_3 : decode cX3_firstPlaceOf 3 = .ok (.aload_n 0, 1) := by decide +kernel
theorem dX3_firstPlaceOf_4 : decode cX3_firstPlaceOf 4 = .ok (.getfield 19, 3) := by decide +kernel
theorem dX3_firstPlaceOf_7 : decode cX3_firstPlaceOf 7 = .ok (.getfield 136, 3) := by decide +kernel
theorem dX3_firstPlaceOf_10 : decode cX3_firstPlaceOf 10 = .ok (.iload_n 2, 1) := by decide +kernel
theorem dX3_firstPlaceOf_11 : decode cX3_firstPlaceOf 11 = .ok (.iaload, 1) := by decide +kernel
theorem dX3_firstPlaceOf_12 : decode cX3_firstPlaceOf 12 = .ok (.if_icmp .ge 19, 3) := by decide +kernel
theorem dX3_firstPlaceOf_15 : decode cX3_firstPlaceOf 15 = .ok (.aload_n 0, 1) := by decide +kernel
theorem dX3_firstPlaceOf_16 : decode cX3_firstPlaceOf 16 = .ok (.iload_n 2, 1) := by decide +kernel
theorem dX3_firstPlaceOf_17 : decode cX3_firstPlaceOf 17 = .ok (.iload_n 3, 1) := by decide +kernel
theorem dX3_firstPlaceOf_18 : decode cX3_firstPlaceOf 18 = .ok (.invokevirtual 139, 3) := by decide +kernel
theorem dX3_firstPlaceOf_21 : decode cX3_firstPlaceOf 21 = .ok (.iload_n 1, 1) := by decide +kernel
theorem dX3_firstPlaceOf_22 : decode cX3_firstPlaceOf 22 = .ok (.if_icmp .eq 9, 3) := by decide +kernel
theorem dX3_firstPlaceOf_25 : decode cX3_firstPlaceOf 25 = .ok (.iinc 3 1, 3) := by decide +kernel
theorem dX3_firstPlaceOf_28 : decode cX3_firstPlaceOf 28 = .ok (.goto (-26), 3) := by decide +kernel
theorem dX3_firstPlaceOf_31 : decode cX3_firstPlaceOf 31 = .ok (.iload_n 3, 1) := by decide +kernel
theorem dX3_firstPlaceOf_32 : decode cX3_firstPlaceOf 32 = .ok (.ireturn, 1) := by decide +kernel
set_option maxRecDepth 20000 in
theorem ggX3_wordsWith_X3_hasNumber : GoodIn wsX3_wordsWith wsX3_hasNumber := goodIn_r _ [7, 1, 8, 9, 10, 11, 6, 12, 13, 14, 15, 16, 17, 18, 19, 20, 21, 22, 23, 24, 25, 26, 27, 28, 29, 30, 31, 32, 33, 34, 35, 36, 37, 38, 39, 40, 41, 42, 43, 44, 45, 46, 47, 48, 49, 50, 51, 52, 53, 54, 55, 56, 57, 58] (by decide +kernel) (by decide +kernel)
set_option maxRecDepth 20000 in
theorem gX3_wordsWith_X3_hasNumber : GoodIn wsX3_wordsWith (wsV RX3 266 RX3 yX3_hasNumber wsX3_hasNumber) := goodIn_app (goodIn_of _ (by decide +kernel)) ggX3_wordsWith_X3_hasNumber
theorem dX3_wordsWith_0 : decode cX3_wordsWith 0 = .ok (.iconst 0, 1) := by decide +kernel
theorem dX3_wordsWith_1 : decode cX3_wordsWith 1 = .ok (.istore_n 2, 1) := by decide +kernel
theorem dX3_wordsWith_2 : decode cX3_wordsWith 2 = .ok (.iconst 0, 1) := by decide +kernel
theorem dX3_wordsWith_3 : decode cX3_wordsWith 3 = .ok (.istore_n 3, 1) := by decide +kernel
theorem dX3_wordsWith_4 : decode cX3_wordsWith 4 = .ok (.iload_n 3, 1) := by decide +kernel
theorem dX3_wordsWith_5 : decode cX3_wordsWith 5 = .ok (.aload_n 0, 1) := by decide +kernel
theorem dX3_wordsWith_6 : decode cX3_wordsWith 6 = .ok (.getfield 19, 3) := by decide +kernel
theorem dX3_wordsWith_9 : decode cX3_wordsWith 9 = .ok (.getfield 63, 3) := by decide +kernel
theorem dX3_wordsWith_12 : decode cX3_wordsWith 12 = .ok (.if_icmp .ge 21, 3) := by decide +kernel
theorem dX3_wordsWith_15 : decode cX3_wordsWith 15 = .ok (.aload_n 0, 1) := by decide +kernel
theorem dX3_wordsWith_16 : decode cX3_wordsWith 16 = .ok (.iload_n 3, 1) := by decide +kernel
theorem dX3_wordsWith_17 : decode cX3_wordsWith 17 = .ok (.iload_n 1, 1) := by decide +kernel
theorem dX3_wordsWith_18 : decode cX3_wordsWith 18 = .ok (.invokevirtual 266, 3) := by decide +kernel
theorem dX3_wordsWith_21 : decode cX3_wordsWith 21 = .ok (.ifCond .eq 6, 3) := by decide +kernel
theorem dX3_wordsWith_24 : decode cX3_wordsWith 24 = .ok (.iinc 2 1, 3) := by decide +kernel
theorem dX3_wordsWith_27 : decode cX3_wordsWith 27 = .ok (.iinc 3 1, 3) := by decide +kernel
theorem dX3_wordsWith_30 : decode cX3_wordsWith 30 = .ok (.goto (-26), 3) := by decide +kernel
theorem dX3_wordsWith_33 : decode cX3_wordsWith 33 = .ok (.iload_n 2, 1) := by decide +kernel
theorem dX3_wordsWith_34 : decode cX3_wordsWith 34 = .ok (.ireturn, 1) := by decide +kernel
set_option maxRecDepth 20000 in
theorem ggX3_guessedCellsOf_X2_cellOf : GoodIn wsX3_guessedCellsOf wsX2_cellOf := goodIn_r _ [8, 9, 10, 38, 39, 40, 41] (by decide +kernel) (by decide +kernel)
set_option maxRecDepth 20000 in
theorem gX3_guessedCellsOf_X2_cellOf : GoodIn wsX3_guessedCellsOf (wsV RX3 170 RX2 yX2_cellOf wsX2_cellOf) := goodIn_app (goodIn_of _ (by decide +kernel)) ggX3_guessedCellsOf_X2_cellOf
set_option maxRecDepth 20000 in
theorem ggX3_guessedCellsOf_X0_guessAt : GoodIn wsX3_guessedCellsOf wsX0_guessAt := goodIn_r _ [15, 16, 17, 18, 19, 14, 20, 21, 22, 23, 24, 25, 26, 27, 28, 29, 30, 42, 43, 44, 45, 46, 47, 48, 49, 50, 51, 52] (by decide +kernel) (by decide +kernel)
set_option maxRecDepth 20000 in
theorem gX3_guessedCellsOf_X0_guessAt : GoodIn wsX3_guessedCellsOf (wsV RX3 173 RX0 yX0_guessAt wsX0_guessAt) := goodIn_app (goodIn_of _ (by decide +kernel)) ggX3_guessedCellsOf_X0_guessAt
theorem dX3_guessedCellsOf_0 : decode cX3_guessedCellsOf 0 = .ok (.iconst 0, 1) := by decide +kernel
theorem dX3_guessedCellsOf_1 : decode cX3_guessedCellsOf 1 = .ok (.istore_n 2, 1) := by decide +kernel
theorem dX3_guessedCellsOf_2 : decode cX3_guessedCellsOf 2 = .ok (.iconst 0, 1) := by decide +kernel
theorem dX3_guessedCellsOf_3 : decode cX3_guessedCellsOf 3 = .ok (.istore_n 3, 1) := by decide +kernel
theorem dX3_guessedCellsOf_4 : decode cX3_guessedCellsOf 4 = .ok (.iload_n 3, 1) := by decide +kernel
theorem dX3_guessedCellsOf_5 : decode cX3_guessedCellsOf 5 = .ok (.aload_n 0, 1) := by decide +kernel
theorem dX3_guessedCellsOf_6 : decode cX3_guessedCellsOf 6 = .ok (.getfield 19, 3) := by decide +kernel
theorem dX3_guessedCellsOf_9 : decode cX3_guessedCellsOf 9 = .ok (.getfield 136, 3) := by decide +kernel
theorem dX3_guessedCellsOf_12 : decode cX3_guessedCellsOf 12 = .ok (.iload_n 1, 1) := by decide +kernel
theorem dX3_guessedCellsOf_13 : decode cX3_guessedCellsOf 13 = .ok (.iaload, 1) := by decide +kernel
theorem dX3_guessedCellsOf_14 : decode cX3_guessedCellsOf 14 = .ok (.if_icmp .ge 31, 3) := by decide +kernel
theorem dX3_guessedCellsOf_17 : decode cX3_guessedCellsOf 17 = .ok (.aload_n 0, 1) := by decide +kernel
theorem dX3_guessedCellsOf_18 : decode cX3_guessedCellsOf 18 = .ok (.getfield 12, 3) := by decide +kernel
theorem dX3_guessedCellsOf_21 : decode cX3_guessedCellsOf 21 = .ok (.aload_n 0, 1) := by decide +kernel
theorem dX3_guessedCellsOf_22 : decode cX3_guessedCellsOf 22 = .ok (.getfield 19, 3) := by decide +kernel
theorem dX3_guessedCellsOf_25 : decode cX3_guessedCellsOf 25 = .ok (.iload_n 1, 1) := by decide +kernel
theorem dX3_guessedCellsOf_26 : decode cX3_guessedCellsOf 26 = .ok (.iload_n 3, 1) := by decide +kernel
theorem dX3_guessedCellsOf_27 : decode cX3_guessedCellsOf 27 = .ok (.invokevirtual 170, 3) := by decide +kernel
theorem dX3_guessedCellsOf_30 : decode cX3_guessedCellsOf 30 = .ok (.invokevirtual 173, 3) := by decide +kernel
theorem dX3_guessedCellsOf_33 : decode cX3_guessedCellsOf 33 = .ok (.ifCond .eq 6, 3) := by decide +kernel
theorem dX3_guessedCellsOf_36 : decode cX3_guessedCellsOf 36 = .ok (.iinc 2 1, 3) := by decide +kernel
theorem dX3_guessedCellsOf_39 : decode cX3_guessedCellsOf 39 = .ok (.iinc 3 1, 3) := by decide +kernel
theorem dX3_guessedCellsOf_42 : decode cX3_guessedCellsOf 42 = .ok (.goto (-38), 3) := by decide +kernel
theorem dX3_guessedCellsOf_45 : decode cX3_guessedCellsOf 45 = .ok (.iload_n 2, 1) := by decide +kernel
theorem dX3_guessedCellsOf_46 : decode cX3_guessedCellsOf 46 = .ok (.ireturn, 1) := by decide +kernel
set_option maxRecDepth 20000 in
theorem ggX3_newWordsInText_X1_startsWord : GoodIn wsX3_newWordsInText wsX1_startsWord := goodIn_r _ [7, 8, 50, 51] (by decide +kernel) (by decide +kernel)
set_option maxRecDepth 20000 in
theorem gX3_newWordsInText_X1_startsWord : GoodIn wsX3_newWordsInText (wsV RX3 91 RX1 yX1_startsWord wsX1_startsWord) := goodIn_app (goodIn_of _ (by decide +kernel)) ggX3_newWordsInText_X1_startsWord
set_option maxRecDepth 20000 in
theorem ggX3_newWordsInText_X3_isListed : GoodIn wsX3_newWordsInText wsX3_isListed := goodIn_r _ [13, 14, 15, 16, 17, 18, 12, 19, 1, 20, 21, 22, 23, 24, 6, 25, 26, 8, 27, 28, 29, 30, 31, 32, 43, 44, 45, 46, 47, 48, 49, 52, 53, 54, 55, 56, 57, 58, 59, 60, 61, 62, 50, 51] (by decide +kernel) (by decide +kernel)
set_option maxRecDepth 20000 in
theorem gX3_newWordsInText_X3_isListed : GoodIn wsX3_newWordsInText (wsV RX3 94 RX3 yX3_isListed wsX3_isListed) := goodIn_app (goodIn_of _ (by decide +kernel)) ggX3_newWordsInText_X3_isListed
set_option maxRecDepth 20000 in
theorem ggX3_newWordsInText_X1_isRepeated : GoodIn wsX3_newWordsInText wsX1_isRepeated := goodIn_r _ [36, 37, 4, 5, 6, 7, 8, 38, 39, 40, 41, 42, 23, 24, 25, 26, 50, 51] (by decide +kernel) (by decide +kernel)
set_option maxRecDepth 20000 in
theorem gX3_newWordsInText_X1_isRepeated : GoodIn wsX3_newWordsInText (wsV RX3 269 RX1 yX1_isRepeated wsX1_isRepeated) := goodIn_app (goodIn_of _ (by decide +kernel)) ggX3_newWordsInText_X1_isRepeated
theorem dX3_newWordsInText_0 : decode cX3_newWordsInText 0 = .ok (.iconst 0, 1) := by decide +kernel
theorem dX3_newWordsInText_1 : decode cX3_newWordsInText 1 = .ok (.istore_n 1, 1) := by decide +kernel
theorem dX3_newWordsInText_2 : decode cX3_newWordsInText 2 = .ok (.iconst 0, 1) := by decide +kernel
theorem dX3_newWordsInText_3 : decode cX3_newWordsInText 3 = .ok (.istore_n 2, 1) := by decide +kernel
theorem dX3_newWordsInText_4 : decode cX3_newWordsInText 4 = .ok (.iload_n 2, 1) := by decide +kernel
theorem dX3_newWordsInText_5 : decode cX3_newWordsInText 5 = .ok (.aload_n 0, 1) := by decide +kernel
theorem dX3_newWordsInText_6 : decode cX3_newWordsInText 6 = .ok (.getfield 26, 3) := by decide +kernel
theorem dX3_newWordsInText_9 : decode cX3_newWordsInText 9 = .ok (.getfield 88, 3) := by decide +kernel
theorem dX3_newWordsInText_12 : decode cX3_newWordsInText 12 = .ok (.if_icmp .ge 42, 3) := by decide +kernel
theorem dX3_newWordsInText_15 : decode cX3_newWordsInText 15 = .ok (.aload_n 0, 1) := by decide +kernel
theorem dX3_newWordsInText_16 : decode cX3_newWordsInText 16 = .ok (.getfield 26, 3) := by decide +kernel
theorem dX3_newWordsInText_19 : decode cX3_newWordsInText 19 = .ok (.iload_n 2, 1) := by decide +kernel
theorem dX3_newWordsInText_20 : decode cX3_newWordsInText 20 = .ok (.invokevirtual 91, 3) := by decide +kernel
theorem dX3_newWordsInText_23 : decode cX3_newWordsInText 23 = .ok (.ifCond .eq 25, 3) := by decide +kernel
theorem dX3_newWordsInText_26 : decode cX3_newWordsInText 26 = .ok (.aload_n 0, 1) := by decide +kernel
theorem dX3_newWordsInText_27 : decode cX3_newWordsInText 27 = .ok (.iload_n 2, 1) := by decide +kernel
theorem dX3_newWordsInText_28 : decode cX3_newWordsInText 28 = .ok (.invokevirtual 94, 3) := by decide +kernel
theorem dX3_newWordsInText_31 : decode cX3_newWordsInText 31 = .ok (.ifCond .ne 17, 3) := by decide +kernel
theorem dX3_newWordsInText_34 : decode cX3_newWordsInText 34 = .ok (.aload_n 0, 1) := by decide +kernel
theorem dX3_newWordsInText_35 : decode cX3_newWordsInText 35 = .ok (.getfield 26, 3) := by decide +kernel
theorem dX3_newWordsInText_38 : decode cX3_newWordsInText 38 = .ok (.iload_n 2, 1) := by decide +kernel
theorem dX3_newWordsInText_39 : decode cX3_newWordsInText 39 = .ok (.invokevirtual 269, 3) := by decide +kernel
theorem dX3_newWordsInText_42 : decode cX3_newWordsInText 42 = .ok (.ifCond .ne 6, 3) := by decide +kernel
theorem dX3_newWordsInText_45 : decode cX3_newWordsInText 45 = .ok (.iinc 1 1, 3) := by decide +kernel
theorem dX3_newWordsInText_48 : decode cX3_newWordsInText 48 = .ok (.iinc 2 1, 3) := by decide +kernel
theorem dX3_newWordsInText_51 : decode cX3_newWordsInText 51 = .ok (.goto (-47), 3) := by decide +kernel
theorem dX3_newWordsInText_54 : decode cX3_newWordsInText 54 = .ok (.iload_n 1, 1) := by decide +kernel
theorem dX3_newWordsInText_55 : decode cX3_newWordsInText 55 = .ok (.ireturn, 1) := by decide +kernel
set_option maxRecDepth 20000 in
theorem ggX3_isListed_X3_isSameWord : GoodIn wsX3_isListed wsX3_isSameWord := goodIn_r _ [7, 8, 1, 9, 10, 11, 12, 13, 14, 15, 16, 17, 18, 19, 20, 21, 22, 23, 24, 25, 26, 27, 28, 29, 30, 31, 32, 33, 34, 35, 36, 37, 38, 39, 40, 41, 42, 43] (by decide +kernel) (by decide +kernel)
set_option maxRecDepth 20000 in
theorem gX3_isListed_X3_isSameWord : GoodIn wsX3_isListed (wsV RX3 272 RX3 yX3_isSameWord wsX3_isSameWord) := goodIn_app (goodIn_of _ (by decide +kernel)) ggX3_isListed_X3_isSameWord
theorem dX3_isListed_0 : decode cX3_isListed 0 = .ok (.iconst 0, 1) := by decide +kernel
theorem dX3_isListed_1 : decode cX3_isListed 1 = .ok (.istore_n 2, 1) := by decide +kernel
theorem dX3_isListed_2 : decode cX3_isListed 2 = .ok (.iload_n 2, 1) := by decide +kernel
theorem dX3_isListed_3 : decode cX3_isListed 3 = .ok (.aload_n 0, 1) := by decide +kernel
theorem dX3_isListed_4 : decode cX3_isListed 4 = .ok (.getfield 12, 3) := by decide +kernel
theorem dX3_isListed_7 : decode cX3_isListed 7 = .ok (.getfield 85, 3) := by decide +kernel
theorem dX3_isListed_10 : decode cX3_isListed 10 = .ok (.if_icmp .ge 20, 3) := by decide +kernel
theorem dX3_isListed_13 : decode cX3_isListed 13 = .ok (.aload_n 0, 1) := by decide +kernel
theorem dX3_isListed_14 : decode cX3_isListed 14 = .ok (.iload_n 1, 1) := by decide +kernel
theorem dX3_isListed_15 : decode cX3_isListed 15 = .ok (.iload_n 2, 1) := by decide +kernel
theorem dX3_isListed_16 : decode cX3_isListed 16 = .ok (.invokevirtual 272, 3) := by decide +kernel
theorem dX3_isListed_19 : decode cX3_isListed 19 = .ok (.ifCond .eq 5, 3) := by decide +kernel
theorem dX3_isListed_22 : decode cX3_isListed 22 = .ok (.iconst 1, 1) := by decide +kernel
theorem dX3_isListed_23 : decode cX3_isListed 23 = .ok (.ireturn, 1) := by decide +kernel
theorem dX3_isListed_24 : decode cX3_isListed 24 = .ok (.iinc 2 1, 3) := by decide +kernel
theorem dX3_isListed_27 : decode cX3_isListed 27 = .ok (.goto (-25), 3) := by decide +kernel
theorem dX3_isListed_30 : decode cX3_isListed 30 = .ok (.iconst 0, 1) := by decide +kernel
theorem dX3_isListed_31 : decode cX3_isListed 31 = .ok (.ireturn, 1) := by decide +kernel
set_option maxRecDepth 20000 in
theorem ggX3_isSameWord_X1_wordLength : GoodIn wsX3_isSameWord wsX1_wordLength := goodIn_r _ [9, 10, 11, 36, 37] (by decide +kernel) (by decide +kernel)
set_option maxRecDepth 20000 in
theorem gX3_isSameWord_X1_wordLength : GoodIn wsX3_isSameWord (wsV RX3 275 RX1 yX1_wordLength wsX1_wordLength) := goodIn_app (goodIn_of _ (by decide +kernel)) ggX3_isSameWord_X1_wordLength
set_option maxRecDepth 20000 in
theorem ggX3_isSameWord_X0_listedLetter : GoodIn wsX3_isSameWord wsX0_listedLetter := goodIn_r _ [16, 17, 25, 26, 27, 28, 29, 30, 31, 32, 33, 34, 35] (by decide +kernel) (by decide +kernel)
set_option maxRecDepth 20000 in
theorem gX3_isSameWord_X0_listedLetter : GoodIn wsX3_isSameWord (wsV RX3 146 RX0 yX0_listedLetter wsX0_listedLetter) := goodIn_app (goodIn_of _ (by decide +kernel)) ggX3_isSameWord_X0_listedLetter
theorem dX3_isSameWord_0 : decode cX3_isSameWord 0 = .ok (.aload_n 0, 1) := by decide +kernel
theorem dX3_isSameWord_1 : decode cX3_isSameWord 1 = .ok (.getfield 26, 3) := by decide +kernel
theorem dX3_isSameWord_4 : decode cX3_isSameWord 4 = .ok (.iload_n 1, 1) := by decide +kernel
theorem dX3_isSameWord_5 : decode cX3_isSameWord 5 = .ok (.invokevirtual 275, 3) := by decide +kernel
theorem dX3_isSameWord_8 : decode cX3_isSameWord 8 = .ok (.istore_n 3, 1) := by decide +kernel
theorem dX3_isSameWord_9 : decode cX3_isSameWord 9 = .ok (.iload_n 3, 1) := by decide +kernel
theorem dX3_isSameWord_10 : decode cX3_isSameWord 10 = .ok (.aload_n 0, 1) := by decide +kernel
theorem dX3_isSameWord_11 : decode cX3_isSameWord 11 = .ok (.getfield 12, 3) := by decide +kernel
theorem dX3_isSameWord_14 : decode cX3_isSameWord 14 = .ok (.getfield 227, 3) := by decide +kernel
theorem dX3_isSameWord_17 : decode cX3_isSameWord 17 = .ok (.iload_n 2, 1) := by decide +kernel
theorem dX3_isSameWord_18 : decode cX3_isSameWord 18 = .ok (.iaload, 1) := by decide +kernel
theorem dX3_isSameWord_19 : decode cX3_isSameWord 19 = .ok (.if_icmp .eq 5, 3) := by decide +kernel
theorem dX3_isSameWord_22 : decode cX3_isSameWord 22 = .ok (.iconst 0, 1) := by decide +kernel
theorem dX3_isSameWord_23 : decode cX3_isSameWord 23 = .ok (.ireturn, 1) := by decide +kernel
theorem dX3_isSameWord_24 : decode cX3_isSameWord 24 = .ok (.iconst 0, 1) := by decide +kernel
theorem dX3_isSameWord_25 : decode cX3_isSameWord 25 = .ok (.istore 4, 2) := by decide +kernel
theorem dX3_isSameWord_27 : decode cX3_isSameWord 27 = .ok (.iload 4, 2) := by decide +kernel
theorem dX3_isSameWord_29 : decode cX3_isSameWord 29 = .ok (.iload_n 3, 1) := by decide +kernel
theorem dX3_isSameWord_30 : decode cX3_isSameWord 30 = .ok (.if_icmp .ge 36, 3) := by decide +kernel
theorem dX3_isSameWord_33 : decode cX3_isSameWord 33 = .ok (.aload_n 0, 1) := by decide +kernel
theorem dX3_isSameWord_34 : decode cX3_isSameWord 34 = .ok (.getfield 26, 3) := by decide +kernel
theorem dX3_isSameWord_37 : decode cX3_isSameWord 37 = .ok (.getfield 278, 3) := by decide +kernel
theorem dX3_isSameWord_40 : decode cX3_isSameWord 40 = .ok (.iload_n 1, 1) := by decide +kernel
theorem dX3_isSameWord_41 : decode cX3_isSameWord 41 = .ok (.iload 4, 2) := by decide +kernel
theorem dX3_isSameWord_43 : decode cX3_isSameWord 43 = .ok (.iadd, 1) := by decide +kernel
theorem dX3_isSameWord_44 : decode cX3_isSameWord 44 = .ok (.iaload, 1) := by decide +kernel
theorem dX3_isSameWord_45 : decode cX3_isSameWord 45 = .ok (.aload_n 0, 1) := by decide +kernel
theorem dX3_isSameWord_46 : decode cX3_isSameWord 46 = .ok (.getfield 12, 3) := by decide +kernel
theorem dX3_isSameWord_49 : decode cX3_isSameWord 49 = .ok (.iload_n 2, 1) := by decide +kernel
theorem dX3_isSameWord_50 : decode cX3_isSameWord 50 = .ok (.iload 4, 2) := by decide +kernel
theorem dX3_isSameWord_52 : decode cX3_isSameWord 52 = .ok (.invokevirtual 146, 3) := by decide +kernel
theorem dX3_isSameWord_55 : decode cX3_isSameWord 55 = .ok (.if_icmp .eq 5, 3) := by decide +kernel
theorem dX3_isSameWord_58 : decode cX3_isSameWord 58 = .ok (.iconst 0, 1) := by decide +kernel
theorem dX3_isSameWord_59 : decode cX3_isSameWord 59 = .ok (.ireturn, 1) := by decide +kernel
theorem dX3_isSameWord_60 : decode cX3_isSameWord 60 = .ok (.iinc 4 1, 3) := by decide +kernel
theorem dX3_isSameWord_63 : decode cX3_isSameWord 63 = .ok (.goto (-36), 3) := by decide +kernel
theorem dX3_isSameWord_66 : decode cX3_isSameWord 66 = .ok (.iconst 1, 1) := by decide +kernel
theorem dX3_isSameWord_67 : decode cX3_isSameWord 67 = .ok (.ireturn, 1) := by decide +kernel
set_option maxRecDepth 20000 in
theorem ggX3_appendToList_X1_wordLength : GoodIn wsX3_appendToList wsX1_wordLength := goodIn_r _ [11, 12, 13, 32, 33] (by decide +kernel) (by decide +kernel)
set_option maxRecDepth 20000 in
theorem gX3_appendToList_X1_wordLength : GoodIn wsX3_appendToList (wsV RX3 275 RX1 yX1_wordLength wsX1_wordLength) := goodIn_app (goodIn_of _ (by decide +kernel)) ggX3_appendToList_X1_wordLength
theorem dX3_appendToList_0 : decode cX3_appendToList 0 = .ok (.aload_n 0, 1) := by decide +kernel
theorem dX3_appendToList_1 : decode cX3_appendToList 1 = .ok (.getfield 26, 3) := by decide +kernel
theorem dX3_appendToList_4 : decode cX3_appendToList 4 = .ok (.iload_n 1, 1) := by decide +kernel
theorem dX3_appendToList_5 : decode cX3_appendToList 5 = .ok (.invokevirtual 275, 3) := by decide +kernel
theorem dX3_appendToList_8 : decode cX3_appendToList 8 = .ok (.istore_n 2, 1) := by decide +kernel
theorem dX3_appendToList_9 : decode cX3_appendToList 9 = .ok (.aload_n 0, 1) := by decide +kernel
theorem dX3_appendToList_10 : decode cX3_appendToList 10 = .ok (.getfield 12, 3) := by decide +kernel
theorem dX3_appendToList_13 : decode cX3_appendToList 13 = .ok (.getfield 85, 3) := by decide +kernel
theorem dX3_appendToList_16 : decode cX3_appendToList 16 = .ok (.bipush 12, 2) := by decide +kernel
theorem dX3_appendToList_18 : decode cX3_appendToList 18 = .ok (.if_icmp .ge 9, 3) := by decide +kernel
theorem dX3_appendToList_21 : decode cX3_appendToList 21 = .ok (.iload_n 2, 1) := by decide +kernel
theorem dX3_appendToList_22 : decode cX3_appendToList 22 = .ok (.bipush 7, 2) := by decide +kernel
theorem dX3_appendToList_24 : decode cX3_appendToList 24 = .ok (.if_icmp .le 4, 3) := by decide +kernel
theorem dX3_appendToList_27 : decode cX3_appendToList 27 = .ok (.return_, 1) := by decide +kernel
theorem dX3_appendToList_28 : decode cX3_appendToList 28 = .ok (.iconst 0, 1) := by decide +kernel
theorem dX3_appendToList_29 : decode cX3_appendToList 29 = .ok (.istore_n 3, 1) := by decide +kernel
theorem dX3_appendToList_30 : decode cX3_appendToList 30 = .ok (.iload_n 3, 1) := by decide +kernel
theorem dX3_appendToList_31 : decode cX3_appendToList 31 = .ok (.iload_n 2, 1) := by decide +kernel
theorem dX3_appendToList_32 : decode cX3_appendToList 32 = .ok (.if_icmp .ge 40, 3) := by decide +kernel
theorem dX3_appendToList_35 : decode cX3_appendToList 35 = .ok (.aload_n 0, 1) := by decide +kernel
theorem dX3_appendToList_36 : decode cX3_appendToList 36 = .ok (.getfield 12, 3) := by decide +kernel
theorem dX3_appendToList_39 : decode cX3_appendToList 39 = .ok (.getfield 281, 3) := by decide +kernel
theorem dX3_appendToList_42 : decode cX3_appendToList 42 = .ok (.aload_n 0, 1) := by decide +kernel
theorem dX3_appendToList_43 : decode cX3_appendToList 43 = .ok (.getfield 12, 3) := by decide +kernel
theorem dX3_appendToList_46 : decode cX3_appendToList 46 = .ok (.getfield 85, 3) := by decide +kernel
theorem dX3_appendToList_49 : decode cX3_appendToList 49 = .ok (.bipush 7, 2) := by decide +kernel
theorem dX3_appendToList_51 : decode cX3_appendToList 51 = .ok (.imul, 1) := by decide +kernel
theorem dX3_appendToList_52 : decode cX3_appendToList 52 = .ok (.iload_n 3, 1) := by decide +kernel
theorem dX3_appendToList_53 : decode cX3_appendToList 53 = .ok (.iadd, 1) := by decide +kernel
theorem dX3_appendToList_54 : decode cX3_appendToList 54 = .ok (.aload_n 0, 1) := by decide +kernel
theorem dX3_appendToList_55 : decode cX3_appendToList 55 = .ok (.getfield 26, 3) := by decide +kernel
theorem dX3_appendToList_58 : decode cX3_appendToList 58 = .ok (.getfield 278, 3) := by decide +kernel
theorem dX3_appendToList_61 : decode cX3_appendToList 61 = .ok (.iload_n 1, 1) := by decide +kernel
theorem dX3_appendToList_62 : decode cX3_appendToList 62 = .ok (.iload_n 3, 1) := by decide +kernel
theorem dX3_appendToList_63 : decode cX3_appendToList 63 = .ok (.iadd, 1) := by decide +kernel
theorem dX3_appendToList_64 : decode cX3_appendToList 64 = .ok (.iaload, 1) := by decide +kernel
theorem dX3_appendToList_65 : decode cX3_appendToList 65 = .ok (.iastore, 1) := by decide +kernel
theorem dX3_appendToList_66 : decode cX3_appendToList 66 = .ok (.iinc 3 1, 3) := by decide +kernel
theorem dX3_appendToList_69 : decode cX3_appendToList 69 = .ok (.goto (-39), 3) := by decide +kernel
theorem dX3_appendToList_72 : decode cX3_appendToList 72 = .ok (.aload_n 0, 1) := by decide +kernel
theorem dX3_appendToList_73 : decode cX3_appendToList 73 = .ok (.getfield 12, 3) := by decide +kernel
theorem dX3_appendToList_76 : decode cX3_appendToList 76 = .ok (.getfield 227, 3) := by decide +kernel
theorem dX3_appendToList_79 : decode cX3_appendToList 79 = .ok (.aload_n 0, 1) := by decide +kernel
theorem dX3_appendToList_80 : decode cX3_appendToList 80 = .ok (.getfield 12, 3) := by decide +kernel
theorem dX3_appendToList_83 : decode cX3_appendToList 83 = .ok (.getfield 85, 3) := by decide +kernel
theorem dX3_appendToList_86 : decode cX3_appendToList 86 = .ok (.iload_n 2, 1) := by decide +kernel
theorem dX3_appendToList_87 : decode cX3_appendToList 87 = .ok (.iastore, 1) := by decide +kernel
theorem dX3_appendToList_88 : decode cX3_appendToList 88 = .ok (.aload_n 0, 1) := by decide +kernel
theorem dX3_appendToList_89 : decode cX3_appendToList 89 = .ok (.getfield 12, 3) := by decide +kernel
theorem dX3_appendToList_92 : decode cX3_appendToList 92 = .ok (.dup, 1) := by decide +kernel
theorem dX3_appendToList_93 : decode cX3_appendToList 93 = .ok (.getfield 85, 3) := by decide +kernel
theorem dX3_appendToList_96 : decode cX3_appendToList 96 = .ok (.iconst 1, 1) := by decide +kernel
theorem dX3_appendToList_97 : decode cX3_appendToList 97 = .ok (.iadd, 1) := by decide +kernel
theorem dX3_appendToList_98 : decode cX3_appendToList 98 = .ok (.putfield 85, 3) := by decide +kernel
theorem dX3_appendToList_101 : decode cX3_appendToList 101 = .ok (.return_, 1) := by decide +kernel
set_option maxRecDepth 20000 in
theorem ggX3_isFitting_X0_listedLetter : GoodIn wsX3_isFitting wsX0_listedLetter := goodIn_r _ [9, 10, 67, 68, 69, 70, 71, 72, 73, 74, 75, 76, 77] (by decide +kernel) (by decide +kernel)
set_option maxRecDepth 20000 in
theorem gX3_isFitting_X0_listedLetter : GoodIn wsX3_isFitting (wsV RX3 146 RX0 yX0_listedLetter wsX0_listedLetter) := goodIn_app (goodIn_of _ (by decide +kernel)) ggX3_isFitting_X0_listedLetter
set_option maxRecDepth 20000 in
theorem ggX3_isFitting_X3_numberIn : GoodIn wsX3_isFitting wsX3_numberIn := goodIn_r _ [15, 3, 1, 16, 17, 18, 19, 20, 21, 22, 23, 24, 25, 8, 26, 27, 28, 29, 30, 31, 32, 33, 56, 57, 58, 59, 60, 61, 62, 63, 64, 65, 66, 67, 68, 69, 70, 71, 72, 73, 74, 75, 76, 77] (by decide +kernel) (by decide +kernel)
set_option maxRecDepth 20000 in
theorem gX3_isFitting_X3_numberIn : GoodIn wsX3_isFitting (wsV RX3 139 RX3 yX3_numberIn wsX3_numberIn) := goodIn_app (goodIn_of _ (by decide +kernel)) ggX3_isFitting_X3_numberIn
set_option maxRecDepth 20000 in
theorem ggX3_isFitting_X3_mayStandFor : GoodIn wsX3_isFitting wsX3_mayStandFor := goodIn_r _ [37, 3, 38, 39, 40, 8, 41, 42, 43, 44, 45, 14, 46, 47, 48, 49, 50, 56, 57, 58, 59, 60, 61, 62, 67, 68, 69, 70, 71, 72, 73, 74, 75, 76, 77] (by decide +kernel) (by decide +kernel)
set_option maxRecDepth 20000 in
theorem gX3_isFitting_X3_mayStandFor : GoodIn wsX3_isFitting (wsV RX3 284 RX3 yX3_mayStandFor wsX3_mayStandFor) := goodIn_app (goodIn_of _ (by decide +kernel)) ggX3_isFitting_X3_mayStandFor
set_option maxRecDepth 20000 in
theorem ggX3_isFitting_X3_agreesWithEarlier : GoodIn wsX3_isFitting wsX3_agreesWithEarlier := goodIn_r _ [54, 3, 55, 1, 16, 17, 18, 19, 20, 21, 22, 5, 6, 7, 8, 9, 10, 56, 57, 58, 59, 60, 61, 62, 67, 68, 69, 70, 71, 72, 73, 74, 75, 76, 77, 63, 64, 65, 66] (by decide +kernel) (by decide +kernel)
set_option maxRecDepth 20000 in
theorem gX3_isFitting_X3_agreesWithEarlier : GoodIn wsX3_isFitting (wsV RX3 287 RX3 yX3_agreesWithEarlier wsX3_agreesWithEarlier) := goodIn_app (goodIn_of _ (by decide +kernel)) ggX3_isFitting_X3_agreesWithEarlier
theorem dX3_isFitting_0 : decode cX3_isFitting 0 = .ok (.aload_n 0, 1) := by decide +kernel
theorem dX3_isFitting_1 : decode cX3_isFitting 1 = .ok (.getfield 19, 3) := by decide +kernel
theorem dX3_isFitting_4 : decode cX3_isFitting 4 = .ok (.getfield 136, 3) := by decide +kernel
theorem dX3_isFitting_7 : decode cX3_isFitting 7 = .ok (.iload_n 1, 1) := by decide +kernel
theorem dX3_isFitting_8 : decode cX3_isFitting 8 = .ok (.iaload, 1) := by decide +kernel
theorem dX3_isFitting_9 : decode cX3_isFitting 9 = .ok (.istore_n 3, 1) := by decide +kernel
theorem dX3_isFitting_10 : decode cX3_isFitting 10 = .ok (.iload_n 3, 1) := by decide +kernel
theorem dX3_isFitting_11 : decode cX3_isFitting 11 = .ok (.aload_n 0, 1) := by decide +kernel
theorem dX3_isFitting_12 : decode cX3_isFitting 12 = .ok (.getfield 12, 3) := by decide +kernel
theorem dX3_isFitting_15 : decode cX3_isFitting 15 = .ok (.getfield 227, 3) := by decide +kernel
theorem dX3_isFitting_18 : decode cX3_isFitting 18 = .ok (.iload_n 2, 1) := by decide +kernel
theorem dX3_isFitting_19 : decode cX3_isFitting 19 = .ok (.iaload, 1) := by decide +kernel
theorem dX3_isFitting_20 : decode cX3_isFitting 20 = .ok (.if_icmp .eq 5, 3) := by decide +kernel
theorem dX3_isFitting_23 : decode cX3_isFitting 23 = .ok (.iconst 0, 1) := by decide +kernel
theorem dX3_isFitting_24 : decode cX3_isFitting 24 = .ok (.ireturn, 1) := by decide +kernel
theorem dX3_isFitting_25 : decode cX3_isFitting 25 = .ok (.iconst 0, 1) := by decide +kernel
theorem dX3_isFitting_26 : decode cX3_isFitting 26 = .ok (.istore 4, 2) := by decide +kernel
theorem dX3_isFitting_28 : decode cX3_isFitting 28 = .ok (.iload 4, 2) := by decide +kernel
theorem dX3_isFitting_30 : decode cX3_isFitting 30 = .ok (.iload_n 3, 1) := by decide +kernel
theorem dX3_isFitting_31 : decode cX3_isFitting 31 = .ok (.if_icmp .ge 50, 3) := by decide +kernel
theorem dX3_isFitting_34 : decode cX3_isFitting 34 = .ok (.aload_n 0, 1) := by decide +kernel
theorem dX3_isFitting_35 : decode cX3_isFitting 35 = .ok (.getfield 12, 3) := by decide +kernel
theorem dX3_isFitting_38 : decode cX3_isFitting 38 = .ok (.iload_n 2, 1) := by decide +kernel
theorem dX3_isFitting_39 : decode cX3_isFitting 39 = .ok (.iload 4, 2) := by decide +kernel
theorem dX3_isFitting_41 : decode cX3_isFitting 41 = .ok (.invokevirtual 146, 3) := by decide +kernel
theorem dX3_isFitting_44 : decode cX3_isFitting 44 = .ok (.istore 5, 2) := by decide +kernel
theorem dX3_isFitting_46 : decode cX3_isFitting 46 = .ok (.aload_n 0, 1) := by decide +kernel
theorem dX3_isFitting_47 : decode cX3_isFitting 47 = .ok (.iload 5, 2) := by decide +kernel
theorem dX3_isFitting_49 : decode cX3_isFitting 49 = .ok (.aload_n 0, 1) := by decide +kernel
theorem dX3_isFitting_50 : decode cX3_isFitting 50 = .ok (.iload_n 1, 1) := by decide +kernel
theorem dX3_isFitting_51 : decode cX3_isFitting 51 = .ok (.iload 4, 2) := by decide +kernel
theorem dX3_isFitting_53 : decode cX3_isFitting 53 = .ok (.invokevirtual 139, 3) := by decide +kernel
theorem dX3_isFitting_56 : decode cX3_isFitting 56 = .ok (.invokevirtual 284, 3) := by decide +kernel
theorem dX3_isFitting_59 : decode cX3_isFitting 59 = .ok (.ifCond .eq 14, 3) := by decide +kernel
theorem dX3_isFitting_62 : decode cX3_isFitting 62 = .ok (.aload_n 0, 1) := by decide +kernel
theorem dX3_isFitting_63 : decode cX3_isFitting 63 = .ok (.iload_n 1, 1) := by decide +kernel
theorem dX3_isFitting_64 : decode cX3_isFitting 64 = .ok (.iload_n 2, 1) := by decide +kernel
theorem dX3_isFitting_65 : decode cX3_isFitting 65 = .ok (.iload 4, 2) := by decide +kernel
theorem dX3_isFitting_67 : decode cX3_isFitting 67 = .ok (.invokevirtual 287, 3) := by decide +kernel
theorem dX3_isFitting_70 : decode cX3_isFitting 70 = .ok (.ifCond .ne 5, 3) := by decide +kernel
theorem dX3_isFitting_73 : decode cX3_isFitting 73 = .ok (.iconst 0, 1) := by decide +kernel
theorem dX3_isFitting_74 : decode cX3_isFitting 74 = .ok (.ireturn, 1) := by decide +kernel
theorem dX3_isFitting_75 : decode cX3_isFitting 75 = .ok (.iinc 4 1, 3) := by decide +kernel
theorem dX3_isFitting_78 : decode cX3_isFitting 78 = .ok (.goto (-50), 3) := by decide +kernel
theorem dX3_isFitting_81 : decode cX3_isFitting 81 = .ok (.iconst 1, 1) := by decide +kernel
theorem dX3_isFitting_82 : decode cX3_isFitting 82 = .ok (.ireturn, 1) := by decide +kernel
set_option maxRecDepth 20000 in
theorem ggX3_mayStandFor_X0_numberGuessedAs : GoodIn wsX3_mayStandFor wsX0_numberGuessedAs := goodIn_r _ [6, 7, 24, 25, 26, 27, 28, 29, 30, 31, 32, 33, 34] (by decide +kernel) (by decide +kernel)
set_option maxRecDepth 20000 in
theorem gX3_mayStandFor_X0_numberGuessedAs : GoodIn wsX3_mayStandFor (wsV RX3 161 RX0 yX0_numberGuessedAs wsX0_numberGuessedAs) := goodIn_app (goodIn_of _ (by decide +kernel)) ggX3_mayStandFor_X0_numberGuessedAs
set_option maxRecDepth 20000 in
theorem ggX3_mayStandFor_X3_isUnguessed : GoodIn wsX3_mayStandFor wsX3_isUnguessed := goodIn_r _ [12, 1, 13, 14, 15, 11, 16, 17, 18, 19, 20, 21, 22, 23, 24, 25, 26, 27, 28, 29, 30, 31, 32, 33, 34] (by decide +kernel) (by decide +kernel)
set_option maxRecDepth 20000 in
theorem gX3_mayStandFor_X3_isUnguessed : GoodIn wsX3_mayStandFor (wsV RX3 143 RX3 yX3_isUnguessed wsX3_isUnguessed) := goodIn_app (goodIn_of _ (by decide +kernel)) ggX3_mayStandFor_X3_isUnguessed
theorem dX3_mayStandFor_0 : decode cX3_mayStandFor 0 = .ok (.aload_n 0, 1) := by decide +kernel
theorem dX3_mayStandFor_1 : decode cX3_mayStandFor 1 = .ok (.getfield 12, 3) := by decide +kernel
theorem dX3_mayStandFor_4 : decode cX3_mayStandFor 4 = .ok (.iload_n 1, 1) := by decide +kernel
theorem dX3_mayStandFor_5 : decode cX3_mayStandFor 5 = .ok (.invokevirtual 161, 3) := by decide +kernel
theorem dX3_mayStandFor_8 : decode cX3_mayStandFor 8 = .ok (.aload_n 0, 1) := by decide +kernel
theorem dX3_mayStandFor_9 : decode cX3_mayStandFor 9 = .ok (.iload_n 2, 1) := by decide +kernel
theorem dX3_mayStandFor_10 : decode cX3_mayStandFor 10 = .ok (.invokevirtual 143, 3) := by decide +kernel
theorem dX3_mayStandFor_13 : decode cX3_mayStandFor 13 = .ok (.ifCond .eq 7, 3) := by decide +kernel
theorem dX3_mayStandFor_16 : decode cX3_mayStandFor 16 = .ok (.iconst 0, 1) := by decide +kernel
theorem dX3_mayStandFor_17 : decode cX3_mayStandFor 17 = .ok (.goto 4, 3) := by decide +kernel
theorem dX3_mayStandFor_20 : decode cX3_mayStandFor 20 = .ok (.iload_n 2, 1) := by decide +kernel
theorem dX3_mayStandFor_21 : decode cX3_mayStandFor 21 = .ok (.if_icmp .ne 7, 3) := by decide +kernel
theorem dX3_mayStandFor_24 : decode cX3_mayStandFor 24 = .ok (.iconst 1, 1) := by decide +kernel
theorem dX3_mayStandFor_25 : decode cX3_mayStandFor 25 = .ok (.goto 4, 3) := by decide +kernel
theorem dX3_mayStandFor_28 : decode cX3_mayStandFor 28 = .ok (.iconst 0, 1) := by decide +kernel
theorem dX3_mayStandFor_29 : decode cX3_mayStandFor 29 = .ok (.ireturn, 1) := by decide +kernel
set_option maxRecDepth 20000 in
theorem ggX3_agreesWithEarlier_X2_cellOf : GoodIn wsX3_agreesWithEarlier wsX2_cellOf := goodIn_r _ [8, 9, 10, 35, 36, 37, 38] (by decide +kernel) (by decide +kernel)
set_option maxRecDepth 20000 in
theorem gX3_agreesWithEarlier_X2_cellOf : GoodIn wsX3_agreesWithEarlier (wsV RX3 170 RX2 yX2_cellOf wsX2_cellOf) := goodIn_app (goodIn_of _ (by decide +kernel)) ggX3_agreesWithEarlier_X2_cellOf
set_option maxRecDepth 20000 in
theorem ggX3_agreesWithEarlier_X0_listedLetter : GoodIn wsX3_agreesWithEarlier wsX0_listedLetter := goodIn_r _ [15, 16, 24, 25, 26, 27, 28, 29, 30, 31, 32, 33, 34] (by decide +kernel) (by decide +kernel)
set_option maxRecDepth 20000 in
theorem gX3_agreesWithEarlier_X0_listedLetter : GoodIn wsX3_agreesWithEarlier (wsV RX3 146 RX0 yX0_listedLetter wsX0_listedLetter) := goodIn_app (goodIn_of _ (by decide +kernel)) ggX3_agreesWithEarlier_X0_listedLetter
theorem dX3_agreesWithEarlier_0 : decode cX3_agreesWithEarlier 0 = .ok (.aload_n 0, 1) := by decide +kernel
theorem dX3_agreesWithEarlier_1 : decode cX3_agreesWithEarlier 1 = .ok (.getfield 12, 3) := by decide +kernel
theorem dX3_agreesWithEarlier_4 : decode cX3_agreesWithEarlier 4 = .ok (.getfield 48, 3) := by decide +kernel
theorem dX3_agreesWithEarlier_7 : decode cX3_agreesWithEarlier 7 = .ok (.aload_n 0, 1) := by decide +kernel
theorem dX3_agreesWithEarlier_8 : decode cX3_agreesWithEarlier 8 = .ok (.getfield 19, 3) := by decide +kernel
theorem dX3_agreesWithEarlier_11 : decode cX3_agreesWithEarlier 11 = .ok (.iload_n 1, 1) := by decide +kernel
theorem dX3_agreesWithEarlier_12 : decode cX3_agreesWithEarlier 12 = .ok (.iload_n 3, 1) := by decide +kernel
theorem dX3_agreesWithEarlier_13 : decode cX3_agreesWithEarlier 13 = .ok (.invokevirtual 170, 3) := by decide +kernel
theorem dX3_agreesWithEarlier_16 : decode cX3_agreesWithEarlier 16 = .ok (.iaload, 1) := by decide +kernel
theorem dX3_agreesWithEarlier_17 : decode cX3_agreesWithEarlier 17 = .ok (.istore 4, 2) := by decide +kernel
theorem dX3_agreesWithEarlier_19 : decode cX3_agreesWithEarlier 19 = .ok (.iconst 0, 1) := by decide +kernel
theorem dX3_agreesWithEarlier_20 : decode cX3_agreesWithEarlier 20 = .ok (.istore 5, 2) := by decide +kernel
theorem dX3_agreesWithEarlier_22 : decode cX3_agreesWithEarlier 22 = .ok (.iload 5, 2) := by decide +kernel
theorem dX3_agreesWithEarlier_24 : decode cX3_agreesWithEarlier 24 = .ok (.iload_n 3, 1) := by decide +kernel
theorem dX3_agreesWithEarlier_25 : decode cX3_agreesWithEarlier 25 = .ok (.if_icmp .ge 77, 3) := by decide +kernel
theorem dX3_agreesWithEarlier_28 : decode cX3_agreesWithEarlier 28 = .ok (.aload_n 0, 1) := by decide +kernel
theorem dX3_agreesWithEarlier_29 : decode cX3_agreesWithEarlier 29 = .ok (.getfield 12, 3) := by decide +kernel
theorem dX3_agreesWithEarlier_32 : decode cX3_agreesWithEarlier 32 = .ok (.getfield 48, 3) := by decide +kernel
theorem dX3_agreesWithEarlier_35 : decode cX3_agreesWithEarlier 35 = .ok (.aload_n 0, 1) := by decide +kernel
theorem dX3_agreesWithEarlier_36 : decode cX3_agreesWithEarlier 36 = .ok (.getfield 19, 3) := by decide +kernel
theorem dX3_agreesWithEarlier_39 : decode cX3_agreesWithEarlier 39 = .ok (.iload_n 1, 1) := by decide +kernel
theorem dX3_agreesWithEarlier_40 : decode cX3_agreesWithEarlier 40 = .ok (.iload 5, 2) := by decide +kernel
theorem dX3_agreesWithEarlier_42 : decode cX3_agreesWithEarlier 42 = .ok (.invokevirtual 170, 3) := by decide +kernel
theorem dX3_agreesWithEarlier_45 : decode cX3_agreesWithEarlier 45 = .ok (.iaload, 1) := by decide +kernel
theorem dX3_agreesWithEarlier_46 : decode cX3_agreesWithEarlier 46 = .ok (.iload 4, 2) := by decide +kernel
theorem dX3_agreesWithEarlier_48 : decode cX3_agreesWithEarlier 48 = .ok (.if_icmp .ne 7, 3) := by decide +kernel
theorem dX3_agreesWithEarlier_51 : decode cX3_agreesWithEarlier 51 = .ok (.iconst 1, 1) := by decide +kernel
theorem dX3_agreesWithEarlier_52 : decode cX3_agreesWithEarlier 52 = .ok (.goto 4, 3) := by decide +kernel
