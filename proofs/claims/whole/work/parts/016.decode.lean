theorem dX4_setKey_9 : decode cX4_setKey 9 = .ok (.ifCond .eq 27, 3) := by decide +kernel
theorem dX4_setKey_12 : decode cX4_setKey 12 = .ok (.iload_n 1, 1) := by decide +kernel
theorem dX4_setKey_13 : decode cX4_setKey 13 = .ok (.iconst 2, 1) := by decide +kernel
theorem dX4_setKey_14 : decode cX4_setKey 14 = .ok (.irem, 1) := by decide +kernel
theorem dX4_setKey_15 : decode cX4_setKey 15 = .ok (.ifCond .eq 21, 3) := by decide +kernel
theorem dX4_setKey_18 : decode cX4_setKey 18 = .ok (.iload_n 1, 1) := by decide +kernel
theorem dX4_setKey_19 : decode cX4_setKey 19 = .ok (.bipush 13, 2) := by decide +kernel
theorem dX4_setKey_21 : decode cX4_setKey 21 = .ok (.if_icmp .eq 15, 3) := by decide +kernel
theorem dX4_setKey_24 : decode cX4_setKey 24 = .ok (.iload_n 2, 1) := by decide +kernel
theorem dX4_setKey_25 : decode cX4_setKey 25 = .ok (.i2l, 1) := by decide +kernel
theorem dX4_setKey_26 : decode cX4_setKey 26 = .ok (.lconst 0, 1) := by decide +kernel
theorem dX4_setKey_27 : decode cX4_setKey 27 = .ok (.ldc2_w 111, 3) := by decide +kernel
theorem dX4_setKey_30 : decode cX4_setKey 30 = .ok (.invokestatic 43, 3) := by decide +kernel
theorem dX4_setKey_33 : decode cX4_setKey 33 = .ok (.ifCond .ne 6, 3) := by decide +kernel
theorem dX4_setKey_36 : decode cX4_setKey 36 = .ok (.bipush (-2), 2) := by decide +kernel
theorem dX4_setKey_38 : decode cX4_setKey 38 = .ok (.ireturn, 1) := by decide +kernel
theorem dX4_setKey_39 : decode cX4_setKey 39 = .ok (.aload_n 0, 1) := by decide +kernel
theorem dX4_setKey_40 : decode cX4_setKey 40 = .ok (.getfield 7, 3) := by decide +kernel
theorem dX4_setKey_43 : decode cX4_setKey 43 = .ok (.bipush 49, 2) := by decide +kernel
theorem dX4_setKey_45 : decode cX4_setKey 45 = .ok (.iaload, 1) := by decide +kernel
theorem dX4_setKey_46 : decode cX4_setKey 46 = .ok (.iload_n 1, 1) := by decide +kernel
theorem dX4_setKey_47 : decode cX4_setKey 47 = .ok (.if_icmp .ne 17, 3) := by decide +kernel
theorem dX4_setKey_50 : decode cX4_setKey 50 = .ok (.aload_n 0, 1) := by decide +kernel
theorem dX4_setKey_51 : decode cX4_setKey 51 = .ok (.getfield 7, 3) := by decide +kernel
theorem dX4_setKey_54 : decode cX4_setKey 54 = .ok (.bipush 50, 2) := by decide +kernel
theorem dX4_setKey_56 : decode cX4_setKey 56 = .ok (.iaload, 1) := by decide +kernel
theorem dX4_setKey_57 : decode cX4_setKey 57 = .ok (.iload_n 2, 1) := by decide +kernel
theorem dX4_setKey_58 : decode cX4_setKey 58 = .ok (.if_icmp .ne 6, 3) := by decide +kernel
theorem dX4_setKey_61 : decode cX4_setKey 61 = .ok (.bipush (-5), 2) := by decide +kernel
theorem dX4_setKey_63 : decode cX4_setKey 63 = .ok (.ireturn, 1) := by decide +kernel
theorem dX4_setKey_64 : decode cX4_setKey 64 = .ok (.aload_n 0, 1) := by decide +kernel
theorem dX4_setKey_65 : decode cX4_setKey 65 = .ok (.invokevirtual 105, 3) := by decide +kernel
theorem dX4_setKey_68 : decode cX4_setKey 68 = .ok (.aload_n 0, 1) := by decide +kernel
theorem dX4_setKey_69 : decode cX4_setKey 69 = .ok (.getfield 7, 3) := by decide +kernel
theorem dX4_setKey_72 : decode cX4_setKey 72 = .ok (.bipush 49, 2) := by decide +kernel
theorem dX4_setKey_74 : decode cX4_setKey 74 = .ok (.iload_n 1, 1) := by decide +kernel
theorem dX4_setKey_75 : decode cX4_setKey 75 = .ok (.iastore, 1) := by decide +kernel
theorem dX4_setKey_76 : decode cX4_setKey 76 = .ok (.aload_n 0, 1) := by decide +kernel
theorem dX4_setKey_77 : decode cX4_setKey 77 = .ok (.getfield 7, 3) := by decide +kernel
theorem dX4_setKey_80 : decode cX4_setKey 80 = .ok (.bipush 50, 2) := by decide +kernel
theorem dX4_setKey_82 : decode cX4_setKey 82 = .ok (.iload_n 2, 1) := by decide +kernel
theorem dX4_setKey_83 : decode cX4_setKey 83 = .ok (.iastore, 1) := by decide +kernel
theorem dX4_setKey_84 : decode cX4_setKey 84 = .ok (.aload_n 0, 1) := by decide +kernel
theorem dX4_setKey_85 : decode cX4_setKey 85 = .ok (.invokevirtual 34, 3) := by decide +kernel
theorem dX4_setKey_88 : decode cX4_setKey 88 = .ok (.aload_n 0, 1) := by decide +kernel
theorem dX4_setKey_89 : decode cX4_setKey 89 = .ok (.aload_n 0, 1) := by decide +kernel
theorem dX4_setKey_90 : decode cX4_setKey 90 = .ok (.iconst 0, 1) := by decide +kernel
theorem dX4_setKey_91 : decode cX4_setKey 91 = .ok (.invokevirtual 47, 3) := by decide +kernel
theorem dX4_setKey_94 : decode cX4_setKey 94 = .ok (.invokevirtual 108, 3) := by decide +kernel
theorem dX4_setKey_97 : decode cX4_setKey 97 = .ok (.ireturn, 1) := by decide +kernel
set_option maxRecDepth 20000 in
theorem ggX4_isOnList_X4_sizeOf : GoodIn wsX4_isOnList wsX4_sizeOf := goodIn_r _ [7, 1, 12, 13, 14, 15, 16, 17, 18, 19, 20, 21, 22, 23] (by decide +kernel) (by decide +kernel)
set_option maxRecDepth 20000 in
theorem gX4_isOnList_X4_sizeOf : GoodIn wsX4_isOnList (wsV RX4 81 RX4 yX4_sizeOf wsX4_sizeOf) := goodIn_app (goodIn_of _ (by decide +kernel)) ggX4_isOnList_X4_sizeOf
set_option maxRecDepth 20000 in
theorem ggX4_isOnList_X4_letterOfListed : GoodIn wsX4_isOnList wsX4_letterOfListed := goodIn_r _ [11, 1, 12, 13, 14, 15, 16, 17, 18, 19, 20, 21, 22, 23] (by decide +kernel) (by decide +kernel)
set_option maxRecDepth 20000 in
theorem gX4_isOnList_X4_letterOfListed : GoodIn wsX4_isOnList (wsV RX4 75 RX4 yX4_letterOfListed wsX4_letterOfListed) := goodIn_app (goodIn_of _ (by decide +kernel)) ggX4_isOnList_X4_letterOfListed
theorem dX4_isOnList_0 : decode cX4_isOnList 0 = .ok (.iconst 0, 1) := by decide +kernel
theorem dX4_isOnList_1 : decode cX4_isOnList 1 = .ok (.istore_n 3, 1) := by decide +kernel
theorem dX4_isOnList_2 : decode cX4_isOnList 2 = .ok (.iconst 0, 1) := by decide +kernel
theorem dX4_isOnList_3 : decode cX4_isOnList 3 = .ok (.istore 4, 2) := by decide +kernel
theorem dX4_isOnList_5 : decode cX4_isOnList 5 = .ok (.iload 4, 2) := by decide +kernel
theorem dX4_isOnList_7 : decode cX4_isOnList 7 = .ok (.aload_n 0, 1) := by decide +kernel
theorem dX4_isOnList_8 : decode cX4_isOnList 8 = .ok (.getfield 7, 3) := by decide +kernel
theorem dX4_isOnList_11 : decode cX4_isOnList 11 = .ok (.bipush 106, 2) := by decide +kernel
theorem dX4_isOnList_13 : decode cX4_isOnList 13 = .ok (.iaload, 1) := by decide +kernel
theorem dX4_isOnList_14 : decode cX4_isOnList 14 = .ok (.if_icmp .ge 91, 3) := by decide +kernel
theorem dX4_isOnList_17 : decode cX4_isOnList 17 = .ok (.aload_n 0, 1) := by decide +kernel
theorem dX4_isOnList_18 : decode cX4_isOnList 18 = .ok (.iload 4, 2) := by decide +kernel
theorem dX4_isOnList_20 : decode cX4_isOnList 20 = .ok (.invokevirtual 81, 3) := by decide +kernel
theorem dX4_isOnList_23 : decode cX4_isOnList 23 = .ok (.iload_n 2, 1) := by decide +kernel
theorem dX4_isOnList_24 : decode cX4_isOnList 24 = .ok (.if_icmp .ne 7, 3) := by decide +kernel
theorem dX4_isOnList_27 : decode cX4_isOnList 27 = .ok (.iconst 1, 1) := by decide +kernel
theorem dX4_isOnList_28 : decode cX4_isOnList 28 = .ok (.goto 4, 3) := by decide +kernel
theorem dX4_isOnList_31 : decode cX4_isOnList 31 = .ok (.iconst 0, 1) := by decide +kernel
theorem dX4_isOnList_32 : decode cX4_isOnList 32 = .ok (.istore 5, 2) := by decide +kernel
theorem dX4_isOnList_34 : decode cX4_isOnList 34 = .ok (.iconst 0, 1) := by decide +kernel
theorem dX4_isOnList_35 : decode cX4_isOnList 35 = .ok (.istore 6, 2) := by decide +kernel
theorem dX4_isOnList_37 : decode cX4_isOnList 37 = .ok (.iload 6, 2) := by decide +kernel
theorem dX4_isOnList_39 : decode cX4_isOnList 39 = .ok (.iload_n 2, 1) := by decide +kernel
theorem dX4_isOnList_40 : decode cX4_isOnList 40 = .ok (.if_icmp .ge 44, 3) := by decide +kernel
theorem dX4_isOnList_43 : decode cX4_isOnList 43 = .ok (.iload 5, 2) := by decide +kernel
theorem dX4_isOnList_45 : decode cX4_isOnList 45 = .ok (.ifCond .eq 39, 3) := by decide +kernel
theorem dX4_isOnList_48 : decode cX4_isOnList 48 = .ok (.aload_n 0, 1) := by decide +kernel
theorem dX4_isOnList_49 : decode cX4_isOnList 49 = .ok (.iload 4, 2) := by decide +kernel
theorem dX4_isOnList_51 : decode cX4_isOnList 51 = .ok (.iload 6, 2) := by decide +kernel
theorem dX4_isOnList_53 : decode cX4_isOnList 53 = .ok (.invokevirtual 75, 3) := by decide +kernel
theorem dX4_isOnList_56 : decode cX4_isOnList 56 = .ok (.aload_n 0, 1) := by decide +kernel
theorem dX4_isOnList_57 : decode cX4_isOnList 57 = .ok (.getfield 31, 3) := by decide +kernel
theorem dX4_isOnList_60 : decode cX4_isOnList 60 = .ok (.iload_n 1, 1) := by decide +kernel
theorem dX4_isOnList_61 : decode cX4_isOnList 61 = .ok (.iload 6, 2) := by decide +kernel
theorem dX4_isOnList_63 : decode cX4_isOnList 63 = .ok (.iadd, 1) := by decide +kernel
theorem dX4_isOnList_64 : decode cX4_isOnList 64 = .ok (.iaload, 1) := by decide +kernel
theorem dX4_isOnList_65 : decode cX4_isOnList 65 = .ok (.bipush 97, 2) := by decide +kernel
theorem dX4_isOnList_67 : decode cX4_isOnList 67 = .ok (.isub, 1) := by decide +kernel
theorem dX4_isOnList_68 : decode cX4_isOnList 68 = .ok (.if_icmp .ne 7, 3) := by decide +kernel
theorem dX4_isOnList_71 : decode cX4_isOnList 71 = .ok (.iconst 1, 1) := by decide +kernel
theorem dX4_isOnList_72 : decode cX4_isOnList 72 = .ok (.goto 4, 3) := by decide +kernel
theorem dX4_isOnList_75 : decode cX4_isOnList 75 = .ok (.iconst 0, 1) := by decide +kernel
theorem dX4_isOnList_76 : decode cX4_isOnList 76 = .ok (.istore 5, 2) := by decide +kernel
theorem dX4_isOnList_78 : decode cX4_isOnList 78 = .ok (.iinc 6 1, 3) := by decide +kernel
theorem dX4_isOnList_81 : decode cX4_isOnList 81 = .ok (.goto (-44), 3) := by decide +kernel
theorem dX4_isOnList_84 : decode cX4_isOnList 84 = .ok (.iload_n 3, 1) := by decide +kernel
theorem dX4_isOnList_85 : decode cX4_isOnList 85 = .ok (.ifCond .ne 8, 3) := by decide +kernel
theorem dX4_isOnList_88 : decode cX4_isOnList 88 = .ok (.iload 5, 2) := by decide +kernel
theorem dX4_isOnList_90 : decode cX4_isOnList 90 = .ok (.ifCond .eq 7, 3) := by decide +kernel
theorem dX4_isOnList_93 : decode cX4_isOnList 93 = .ok (.iconst 1, 1) := by decide +kernel
theorem dX4_isOnList_94 : decode cX4_isOnList 94 = .ok (.goto 4, 3) := by decide +kernel
theorem dX4_isOnList_97 : decode cX4_isOnList 97 = .ok (.iconst 0, 1) := by decide +kernel
theorem dX4_isOnList_98 : decode cX4_isOnList 98 = .ok (.istore_n 3, 1) := by decide +kernel
theorem dX4_isOnList_99 : decode cX4_isOnList 99 = .ok (.iinc 4 1, 3) := by decide +kernel
theorem dX4_isOnList_102 : decode cX4_isOnList 102 = .ok (.goto (-97), 3) := by decide +kernel
theorem dX4_isOnList_105 : decode cX4_isOnList 105 = .ok (.iload_n 3, 1) := by decide +kernel
theorem dX4_isOnList_106 : decode cX4_isOnList 106 = .ok (.ireturn, 1) := by decide +kernel
set_option maxRecDepth 20000 in
theorem ggX4_addsAll_X4_isOnList : GoodIn wsX4_addsAll wsX4_isOnList := goodIn_r _ [8, 3, 2, 9, 10, 11, 7, 12, 13, 14, 15, 16, 17, 18, 19, 20, 21, 22, 23, 24, 25, 26, 27, 28] (by decide +kernel) (by decide +kernel)
set_option maxRecDepth 20000 in
theorem gX4_addsAll_X4_isOnList : GoodIn wsX4_addsAll (wsV RX4 113 RX4 yX4_isOnList wsX4_isOnList) := goodIn_app (goodIn_of _ (by decide +kernel)) ggX4_addsAll_X4_isOnList
theorem dX4_addsAll_0 : decode cX4_addsAll 0 = .ok (.iconst 0, 1) := by decide +kernel
theorem dX4_addsAll_1 : decode cX4_addsAll 1 = .ok (.istore_n 1, 1) := by decide +kernel
theorem dX4_addsAll_2 : decode cX4_addsAll 2 = .ok (.iload_n 1, 1) := by decide +kernel
theorem dX4_addsAll_3 : decode cX4_addsAll 3 = .ok (.aload_n 0, 1) := by decide +kernel
theorem dX4_addsAll_4 : decode cX4_addsAll 4 = .ok (.getfield 88, 3) := by decide +kernel
theorem dX4_addsAll_7 : decode cX4_addsAll 7 = .ok (.if_icmp .ge 136, 3) := by decide +kernel
theorem dX4_addsAll_10 : decode cX4_addsAll 10 = .ok (.iconst 0, 1) := by decide +kernel
theorem dX4_addsAll_11 : decode cX4_addsAll 11 = .ok (.istore_n 2, 1) := by decide +kernel
theorem dX4_addsAll_12 : decode cX4_addsAll 12 = .ok (.iload_n 1, 1) := by decide +kernel
theorem dX4_addsAll_13 : decode cX4_addsAll 13 = .ok (.iload_n 2, 1) := by decide +kernel
theorem dX4_addsAll_14 : decode cX4_addsAll 14 = .ok (.iadd, 1) := by decide +kernel
theorem dX4_addsAll_15 : decode cX4_addsAll 15 = .ok (.aload_n 0, 1) := by decide +kernel
theorem dX4_addsAll_16 : decode cX4_addsAll 16 = .ok (.getfield 88, 3) := by decide +kernel
theorem dX4_addsAll_19 : decode cX4_addsAll 19 = .ok (.if_icmp .ge 22, 3) := by decide +kernel
theorem dX4_addsAll_22 : decode cX4_addsAll 22 = .ok (.aload_n 0, 1) := by decide +kernel
theorem dX4_addsAll_23 : decode cX4_addsAll 23 = .ok (.getfield 31, 3) := by decide +kernel
theorem dX4_addsAll_26 : decode cX4_addsAll 26 = .ok (.iload_n 1, 1) := by decide +kernel
theorem dX4_addsAll_27 : decode cX4_addsAll 27 = .ok (.iload_n 2, 1) := by decide +kernel
theorem dX4_addsAll_28 : decode cX4_addsAll 28 = .ok (.iadd, 1) := by decide +kernel
theorem dX4_addsAll_29 : decode cX4_addsAll 29 = .ok (.iaload, 1) := by decide +kernel
theorem dX4_addsAll_30 : decode cX4_addsAll 30 = .ok (.bipush 44, 2) := by decide +kernel
theorem dX4_addsAll_32 : decode cX4_addsAll 32 = .ok (.if_icmp .eq 9, 3) := by decide +kernel
theorem dX4_addsAll_35 : decode cX4_addsAll 35 = .ok (.iinc 2 1, 3) := by decide +kernel
theorem dX4_addsAll_38 : decode cX4_addsAll 38 = .ok (.goto (-26), 3) := by decide +kernel
theorem dX4_addsAll_41 : decode cX4_addsAll 41 = .ok (.aload_n 0, 1) := by decide +kernel
theorem dX4_addsAll_42 : decode cX4_addsAll 42 = .ok (.iload_n 1, 1) := by decide +kernel
theorem dX4_addsAll_43 : decode cX4_addsAll 43 = .ok (.iload_n 2, 1) := by decide +kernel
theorem dX4_addsAll_44 : decode cX4_addsAll 44 = .ok (.invokevirtual 113, 3) := by decide +kernel
theorem dX4_addsAll_47 : decode cX4_addsAll 47 = .ok (.ifCond .ne 87, 3) := by decide +kernel
theorem dX4_addsAll_50 : decode cX4_addsAll 50 = .ok (.aload_n 0, 1) := by decide +kernel
theorem dX4_addsAll_51 : decode cX4_addsAll 51 = .ok (.getfield 7, 3) := by decide +kernel
theorem dX4_addsAll_54 : decode cX4_addsAll 54 = .ok (.bipush 106, 2) := by decide +kernel
theorem dX4_addsAll_56 : decode cX4_addsAll 56 = .ok (.iaload, 1) := by decide +kernel
theorem dX4_addsAll_57 : decode cX4_addsAll 57 = .ok (.bipush 12, 2) := by decide +kernel
theorem dX4_addsAll_59 : decode cX4_addsAll 59 = .ok (.if_icmp .ne 5, 3) := by decide +kernel
theorem dX4_addsAll_62 : decode cX4_addsAll 62 = .ok (.iconst 0, 1) := by decide +kernel
theorem dX4_addsAll_63 : decode cX4_addsAll 63 = .ok (.ireturn, 1) := by decide +kernel
theorem dX4_addsAll_64 : decode cX4_addsAll 64 = .ok (.bipush 109, 2) := by decide +kernel
theorem dX4_addsAll_66 : decode cX4_addsAll 66 = .ok (.bipush 8, 2) := by decide +kernel
theorem dX4_addsAll_68 : decode cX4_addsAll 68 = .ok (.aload_n 0, 1) := by decide +kernel
theorem dX4_addsAll_69 : decode cX4_addsAll 69 = .ok (.getfield 7, 3) := by decide +kernel
theorem dX4_addsAll_72 : decode cX4_addsAll 72 = .ok (.bipush 106, 2) := by decide +kernel
theorem dX4_addsAll_74 : decode cX4_addsAll 74 = .ok (.iaload, 1) := by decide +kernel
theorem dX4_addsAll_75 : decode cX4_addsAll 75 = .ok (.imul, 1) := by decide +kernel
theorem dX4_addsAll_76 : decode cX4_addsAll 76 = .ok (.iadd, 1) := by decide +kernel
theorem dX4_addsAll_77 : decode cX4_addsAll 77 = .ok (.istore_n 3, 1) := by decide +kernel
theorem dX4_addsAll_78 : decode cX4_addsAll 78 = .ok (.aload_n 0, 1) := by decide +kernel
theorem dX4_addsAll_79 : decode cX4_addsAll 79 = .ok (.getfield 7, 3) := by decide +kernel
theorem dX4_addsAll_82 : decode cX4_addsAll 82 = .ok (.iload_n 3, 1) := by decide +kernel
theorem dX4_addsAll_83 : decode cX4_addsAll 83 = .ok (.iload_n 2, 1) := by decide +kernel
theorem dX4_addsAll_84 : decode cX4_addsAll 84 = .ok (.iastore, 1) := by decide +kernel
theorem dX4_addsAll_85 : decode cX4_addsAll 85 = .ok (.iconst 0, 1) := by decide +kernel
theorem dX4_addsAll_86 : decode cX4_addsAll 86 = .ok (.istore 4, 2) := by decide +kernel
theorem dX4_addsAll_88 : decode cX4_addsAll 88 = .ok (.iload 4, 2) := by decide +kernel
theorem dX4_addsAll_90 : decode cX4_addsAll 90 = .ok (.iload_n 2, 1) := by decide +kernel
theorem dX4_addsAll_91 : decode cX4_addsAll 91 = .ok (.if_icmp .ge 32, 3) := by decide +kernel
theorem dX4_addsAll_94 : decode cX4_addsAll 94 = .ok (.aload_n 0, 1) := by decide +kernel
theorem dX4_addsAll_95 : decode cX4_addsAll 95 = .ok (.getfield 7, 3) := by decide +kernel
theorem dX4_addsAll_98 : decode cX4_addsAll 98 = .ok (.iload_n 3, 1) := by decide +kernel
theorem dX4_addsAll_99 : decode cX4_addsAll 99 = .ok (.iconst 1, 1) := by decide +kernel
theorem dX4_addsAll_100 : decode cX4_addsAll 100 = .ok (.iadd, 1) := by decide +kernel
theorem dX4_addsAll_101 : decode cX4_addsAll 101 = .ok (.iload 4, 2) := by decide +kernel
theorem dX4_addsAll_103 : decode cX4_addsAll 103 = .ok (.iadd, 1) := by decide +kernel
theorem dX4_addsAll_104 : decode cX4_addsAll 104 = .ok (.aload_n 0, 1) := by decide +kernel
theorem dX4_addsAll_105 : decode cX4_addsAll 105 = .ok (.getfield 31, 3) := by decide +kernel
theorem dX4_addsAll_108 : decode cX4_addsAll 108 = .ok (.iload_n 1, 1) := by decide +kernel
theorem dX4_addsAll_109 : decode cX4_addsAll 109 = .ok (.iload 4, 2) := by decide +kernel
theorem dX4_addsAll_111 : decode cX4_addsAll 111 = .ok (.iadd, 1) := by decide +kernel
theorem dX4_addsAll_112 : decode cX4_addsAll 112 = .ok (.iaload, 1) := by decide +kernel
theorem dX4_addsAll_113 : decode cX4_addsAll 113 = .ok (.bipush 97, 2) := by decide +kernel
theorem dX4_addsAll_115 : decode cX4_addsAll 115 = .ok (.isub, 1) := by decide +kernel
theorem dX4_addsAll_116 : decode cX4_addsAll 116 = .ok (.iastore, 1) := by decide +kernel
theorem dX4_addsAll_117 : decode cX4_addsAll 117 = .ok (.iinc 4 1, 3) := by decide +kernel
theorem dX4_addsAll_120 : decode cX4_addsAll 120 = .ok (.goto (-32), 3) := by decide +kernel
theorem dX4_addsAll_123 : decode cX4_addsAll 123 = .ok (.aload_n 0, 1) := by decide +kernel
theorem dX4_addsAll_124 : decode cX4_addsAll 124 = .ok (.getfield 7, 3) := by decide +kernel
theorem dX4_addsAll_127 : decode cX4_addsAll 127 = .ok (.bipush 106, 2) := by decide +kernel
theorem dX4_addsAll_129 : decode cX4_addsAll 129 = .ok (.dup2, 1) := by decide +kernel
theorem dX4_addsAll_130 : decode cX4_addsAll 130 = .ok (.iaload, 1) := by decide +kernel
theorem dX4_addsAll_131 : decode cX4_addsAll 131 = .ok (.iconst 1, 1) := by decide +kernel
theorem dX4_addsAll_132 : decode cX4_addsAll 132 = .ok (.iadd, 1) := by decide +kernel
theorem dX4_addsAll_133 : decode cX4_addsAll 133 = .ok (.iastore, 1) := by decide +kernel
theorem dX4_addsAll_134 : decode cX4_addsAll 134 = .ok (.iload_n 1, 1) := by decide +kernel
theorem dX4_addsAll_135 : decode cX4_addsAll 135 = .ok (.iload_n 2, 1) := by decide +kernel
theorem dX4_addsAll_136 : decode cX4_addsAll 136 = .ok (.iconst 1, 1) := by decide +kernel
theorem dX4_addsAll_137 : decode cX4_addsAll 137 = .ok (.iadd, 1) := by decide +kernel
theorem dX4_addsAll_138 : decode cX4_addsAll 138 = .ok (.iadd, 1) := by decide +kernel
theorem dX4_addsAll_139 : decode cX4_addsAll 139 = .ok (.istore_n 1, 1) := by decide +kernel
theorem dX4_addsAll_140 : decode cX4_addsAll 140 = .ok (.goto (-138), 3) := by decide +kernel
theorem dX4_addsAll_143 : decode cX4_addsAll 143 = .ok (.iconst 1, 1) := by decide +kernel
theorem dX4_addsAll_144 : decode cX4_addsAll 144 = .ok (.ireturn, 1) := by decide +kernel
set_option maxRecDepth 20000 in
theorem ggX4_addWords_X4_faultOfWords : GoodIn wsX4_addWords wsX4_faultOfWords := goodIn_r _ [7, 8, 9, 10, 11, 12, 6, 13, 14, 15, 16, 17, 18, 45, 46, 47, 48, 49, 50, 51, 52, 53, 54, 55, 56] (by decide +kernel) (by decide +kernel)
set_option maxRecDepth 20000 in
theorem gX4_addWords_X4_faultOfWords : GoodIn wsX4_addWords (wsV RX4 116 RX4 yX4_faultOfWords wsX4_faultOfWords) := goodIn_app (goodIn_of _ (by decide +kernel)) ggX4_addWords_X4_faultOfWords
set_option maxRecDepth 20000 in
theorem ggX4_addWords_X4_remember : GoodIn wsX4_addWords wsX4_remember := goodIn_r _ [22, 2, 1, 45, 46, 47, 48, 49, 50, 51, 52, 53, 54, 55, 56] (by decide +kernel) (by decide +kernel)
set_option maxRecDepth 20000 in
theorem gX4_addWords_X4_remember : GoodIn wsX4_addWords (wsV RX4 105 RX4 yX4_remember wsX4_remember) := goodIn_app (goodIn_of _ (by decide +kernel)) ggX4_addWords_X4_remember
set_option maxRecDepth 20000 in
theorem ggX4_addWords_X4_addsAll : GoodIn wsX4_addWords wsX4_addsAll := goodIn_r _ [26, 8, 9, 1, 27, 28, 29, 6, 30, 31, 32, 33, 34, 35, 36, 37, 38, 45, 46, 47, 48, 49, 50, 51, 52, 53, 54, 55, 56] (by decide +kernel) (by decide +kernel)
set_option maxRecDepth 20000 in
theorem gX4_addWords_X4_addsAll : GoodIn wsX4_addWords (wsV RX4 119 RX4 yX4_addsAll wsX4_addsAll) := goodIn_app (goodIn_of _ (by decide +kernel)) ggX4_addWords_X4_addsAll
set_option maxRecDepth 20000 in
theorem ggX4_addWords_X4_acted : GoodIn wsX4_addWords wsX4_acted := goodIn_r _ [42, 43, 44, 2, 45, 46, 47, 48, 49, 50, 51, 52, 53, 54, 55, 56] (by decide +kernel) (by decide +kernel)
set_option maxRecDepth 20000 in
theorem gX4_addWords_X4_acted : GoodIn wsX4_addWords (wsV RX4 108 RX4 yX4_acted wsX4_acted) := goodIn_app (goodIn_of _ (by decide +kernel)) ggX4_addWords_X4_acted
theorem dX4_addWords_0 : decode cX4_addWords 0 = .ok (.aload_n 0, 1) := by decide +kernel
theorem dX4_addWords_1 : decode cX4_addWords 1 = .ok (.invokevirtual 116, 3) := by decide +kernel
theorem dX4_addWords_4 : decode cX4_addWords 4 = .ok (.istore_n 1, 1) := by decide +kernel
theorem dX4_addWords_5 : decode cX4_addWords 5 = .ok (.iload_n 1, 1) := by decide +kernel
theorem dX4_addWords_6 : decode cX4_addWords 6 = .ok (.bipush (-5), 2) := by decide +kernel
theorem dX4_addWords_8 : decode cX4_addWords 8 = .ok (.if_icmp .eq 8, 3) := by decide +kernel
theorem dX4_addWords_11 : decode cX4_addWords 11 = .ok (.bipush (-100), 2) := by decide +kernel
theorem dX4_addWords_13 : decode cX4_addWords 13 = .ok (.iload_n 1, 1) := by decide +kernel
theorem dX4_addWords_14 : decode cX4_addWords 14 = .ok (.isub, 1) := by decide +kernel
theorem dX4_addWords_15 : decode cX4_addWords 15 = .ok (.ireturn, 1) := by decide +kernel
theorem dX4_addWords_16 : decode cX4_addWords 16 = .ok (.aload_n 0, 1) := by decide +kernel
theorem dX4_addWords_17 : decode cX4_addWords 17 = .ok (.invokevirtual 105, 3) := by decide +kernel
theorem dX4_addWords_20 : decode cX4_addWords 20 = .ok (.aload_n 0, 1) := by decide +kernel
theorem dX4_addWords_21 : decode cX4_addWords 21 = .ok (.invokevirtual 119, 3) := by decide +kernel
theorem dX4_addWords_24 : decode cX4_addWords 24 = .ok (.ifCond .ne 33, 3) := by decide +kernel
theorem dX4_addWords_27 : decode cX4_addWords 27 = .ok (.iconst 0, 1) := by decide +kernel
theorem dX4_addWords_28 : decode cX4_addWords 28 = .ok (.istore_n 2, 1) := by decide +kernel
theorem dX4_addWords_29 : decode cX4_addWords 29 = .ok (.iload_n 2, 1) := by decide +kernel
theorem dX4_addWords_30 : decode cX4_addWords 30 = .ok (.sipush 205, 3) := by decide +kernel
theorem dX4_addWords_33 : decode cX4_addWords 33 = .ok (.if_icmp .ge 21, 3) := by decide +kernel
theorem dX4_addWords_36 : decode cX4_addWords 36 = .ok (.aload_n 0, 1) := by decide +kernel
theorem dX4_addWords_37 : decode cX4_addWords 37 = .ok (.getfield 7, 3) := by decide +kernel
theorem dX4_addWords_40 : decode cX4_addWords 40 = .ok (.iload_n 2, 1) := by decide +kernel
theorem dX4_addWords_41 : decode cX4_addWords 41 = .ok (.aload_n 0, 1) := by decide +kernel
theorem dX4_addWords_42 : decode cX4_addWords 42 = .ok (.getfield 13, 3) := by decide +kernel
theorem dX4_addWords_45 : decode cX4_addWords 45 = .ok (.iload_n 2, 1) := by decide +kernel
theorem dX4_addWords_46 : decode cX4_addWords 46 = .ok (.iaload, 1) := by decide +kernel
theorem dX4_addWords_47 : decode cX4_addWords 47 = .ok (.iastore, 1) := by decide +kernel
theorem dX4_addWords_48 : decode cX4_addWords 48 = .ok (.iinc 2 1, 3) := by decide +kernel
theorem dX4_addWords_51 : decode cX4_addWords 51 = .ok (.goto (-22), 3) := by decide +kernel
theorem dX4_addWords_54 : decode cX4_addWords 54 = .ok (.bipush (-3), 2) := by decide +kernel
theorem dX4_addWords_56 : decode cX4_addWords 56 = .ok (.ireturn, 1) := by decide +kernel
theorem dX4_addWords_57 : decode cX4_addWords 57 = .ok (.aload_n 0, 1) := by decide +kernel
theorem dX4_addWords_58 : decode cX4_addWords 58 = .ok (.getfield 7, 3) := by decide +kernel
theorem dX4_addWords_61 : decode cX4_addWords 61 = .ok (.bipush 106, 2) := by decide +kernel
theorem dX4_addWords_63 : decode cX4_addWords 63 = .ok (.iaload, 1) := by decide +kernel
theorem dX4_addWords_64 : decode cX4_addWords 64 = .ok (.aload_n 0, 1) := by decide +kernel
theorem dX4_addWords_65 : decode cX4_addWords 65 = .ok (.getfield 13, 3) := by decide +kernel
theorem dX4_addWords_68 : decode cX4_addWords 68 = .ok (.bipush 106, 2) := by decide +kernel
theorem dX4_addWords_70 : decode cX4_addWords 70 = .ok (.iaload, 1) := by decide +kernel
theorem dX4_addWords_71 : decode cX4_addWords 71 = .ok (.isub, 1) := by decide +kernel
theorem dX4_addWords_72 : decode cX4_addWords 72 = .ok (.istore_n 2, 1) := by decide +kernel
theorem dX4_addWords_73 : decode cX4_addWords 73 = .ok (.iload_n 2, 1) := by decide +kernel
theorem dX4_addWords_74 : decode cX4_addWords 74 = .ok (.ifCond .ne 8, 3) := by decide +kernel
theorem dX4_addWords_77 : decode cX4_addWords 77 = .ok (.bipush (-5), 2) := by decide +kernel
theorem dX4_addWords_79 : decode cX4_addWords 79 = .ok (.goto 8, 3) := by decide +kernel
theorem dX4_addWords_82 : decode cX4_addWords 82 = .ok (.aload_n 0, 1) := by decide +kernel
theorem dX4_addWords_83 : decode cX4_addWords 83 = .ok (.iload_n 2, 1) := by decide +kernel
theorem dX4_addWords_84 : decode cX4_addWords 84 = .ok (.invokevirtual 108, 3) := by decide +kernel
theorem dX4_addWords_87 : decode cX4_addWords 87 = .ok (.ireturn, 1) := by decide +kernel
set_option maxRecDepth 20000 in
theorem ggX4_dropWord_X4_isListed : GoodIn wsX4_dropWord wsX4_isListed := goodIn_r _ [6, 1, 7, 8, 5, 9, 21, 22, 23, 24, 25, 26, 27, 28, 29, 30, 31, 32] (by decide +kernel) (by decide +kernel)
set_option maxRecDepth 20000 in
theorem gX4_dropWord_X4_isListed : GoodIn wsX4_dropWord (wsV RX4 123 RX4 yX4_isListed wsX4_isListed) := goodIn_app (goodIn_of _ (by decide +kernel)) ggX4_dropWord_X4_isListed
set_option maxRecDepth 20000 in
theorem ggX4_dropWord_X4_remember : GoodIn wsX4_dropWord wsX4_remember := goodIn_r _ [13, 14, 1, 21, 22, 23, 24, 25, 26, 27, 28, 29, 30, 31, 32] (by decide +kernel) (by decide +kernel)
set_option maxRecDepth 20000 in
theorem gX4_dropWord_X4_remember : GoodIn wsX4_dropWord (wsV RX4 105 RX4 yX4_remember wsX4_remember) := goodIn_app (goodIn_of _ (by decide +kernel)) ggX4_dropWord_X4_remember
set_option maxRecDepth 20000 in
theorem ggX4_dropWord_X4_acted : GoodIn wsX4_dropWord wsX4_acted := goodIn_r _ [18, 19, 20, 14, 21, 22, 23, 24, 25, 26, 27, 28, 29, 30, 31, 32] (by decide +kernel) (by decide +kernel)
set_option maxRecDepth 20000 in
theorem gX4_dropWord_X4_acted : GoodIn wsX4_dropWord (wsV RX4 108 RX4 yX4_acted wsX4_acted) := goodIn_app (goodIn_of _ (by decide +kernel)) ggX4_dropWord_X4_acted
theorem dX4_dropWord_0 : decode cX4_dropWord 0 = .ok (.aload_n 0, 1) := by decide +kernel
theorem dX4_dropWord_1 : decode cX4_dropWord 1 = .ok (.iload_n 1, 1) := by decide +kernel
theorem dX4_dropWord_2 : decode cX4_dropWord 2 = .ok (.invokevirtual 123, 3) := by decide +kernel
theorem dX4_dropWord_5 : decode cX4_dropWord 5 = .ok (.ifCond .ne 5, 3) := by decide +kernel
theorem dX4_dropWord_8 : decode cX4_dropWord 8 = .ok (.iconst (-1), 1) := by decide +kernel
theorem dX4_dropWord_9 : decode cX4_dropWord 9 = .ok (.ireturn, 1) := by decide +kernel
theorem dX4_dropWord_10 : decode cX4_dropWord 10 = .ok (.aload_n 0, 1) := by decide +kernel
theorem dX4_dropWord_11 : decode cX4_dropWord 11 = .ok (.invokevirtual 105, 3) := by decide +kernel
theorem dX4_dropWord_14 : decode cX4_dropWord 14 = .ok (.aload_n 0, 1) := by decide +kernel
theorem dX4_dropWord_15 : decode cX4_dropWord 15 = .ok (.getfield 7, 3) := by decide +kernel
theorem dX4_dropWord_18 : decode cX4_dropWord 18 = .ok (.bipush 106, 2) := by decide +kernel
theorem dX4_dropWord_20 : decode cX4_dropWord 20 = .ok (.dup2, 1) := by decide +kernel
theorem dX4_dropWord_21 : decode cX4_dropWord 21 = .ok (.iaload, 1) := by decide +kernel
theorem dX4_dropWord_22 : decode cX4_dropWord 22 = .ok (.iconst 1, 1) := by decide +kernel
theorem dX4_dropWord_23 : decode cX4_dropWord 23 = .ok (.isub, 1) := by decide +kernel
theorem dX4_dropWord_24 : decode cX4_dropWord 24 = .ok (.iastore, 1) := by decide +kernel
theorem dX4_dropWord_25 : decode cX4_dropWord 25 = .ok (.bipush 109, 2) := by decide +kernel
theorem dX4_dropWord_27 : decode cX4_dropWord 27 = .ok (.bipush 8, 2) := by decide +kernel
theorem dX4_dropWord_29 : decode cX4_dropWord 29 = .ok (.iload_n 1, 1) := by decide +kernel
theorem dX4_dropWord_30 : decode cX4_dropWord 30 = .ok (.imul, 1) := by decide +kernel
theorem dX4_dropWord_31 : decode cX4_dropWord 31 = .ok (.iadd, 1) := by decide +kernel
theorem dX4_dropWord_32 : decode cX4_dropWord 32 = .ok (.istore_n 2, 1) := by decide +kernel
theorem dX4_dropWord_33 : decode cX4_dropWord 33 = .ok (.iload_n 2, 1) := by decide +kernel
theorem dX4_dropWord_34 : decode cX4_dropWord 34 = .ok (.bipush 109, 2) := by decide +kernel
theorem dX4_dropWord_36 : decode cX4_dropWord 36 = .ok (.bipush 8, 2) := by decide +kernel
theorem dX4_dropWord_38 : decode cX4_dropWord 38 = .ok (.aload_n 0, 1) := by decide +kernel
theorem dX4_dropWord_39 : decode cX4_dropWord 39 = .ok (.getfield 7, 3) := by decide +kernel
theorem dX4_dropWord_42 : decode cX4_dropWord 42 = .ok (.bipush 106, 2) := by decide +kernel
theorem dX4_dropWord_44 : decode cX4_dropWord 44 = .ok (.iaload, 1) := by decide +kernel
theorem dX4_dropWord_45 : decode cX4_dropWord 45 = .ok (.imul, 1) := by decide +kernel
theorem dX4_dropWord_46 : decode cX4_dropWord 46 = .ok (.iadd, 1) := by decide +kernel
theorem dX4_dropWord_47 : decode cX4_dropWord 47 = .ok (.if_icmp .ge 24, 3) := by decide +kernel
theorem dX4_dropWord_50 : decode cX4_dropWord 50 = .ok (.aload_n 0, 1) := by decide +kernel
theorem dX4_dropWord_51 : decode cX4_dropWord 51 = .ok (.getfield 7, 3) := by decide +kernel
theorem dX4_dropWord_54 : decode cX4_dropWord 54 = .ok (.iload_n 2, 1) := by decide +kernel
theorem dX4_dropWord_55 : decode cX4_dropWord 55 = .ok (.aload_n 0, 1) := by decide +kernel
theorem dX4_dropWord_56 : decode cX4_dropWord 56 = .ok (.getfield 7, 3) := by decide +kernel
theorem dX4_dropWord_59 : decode cX4_dropWord 59 = .ok (.iload_n 2, 1) := by decide +kernel
theorem dX4_dropWord_60 : decode cX4_dropWord 60 = .ok (.bipush 8, 2) := by decide +kernel
theorem dX4_dropWord_62 : decode cX4_dropWord 62 = .ok (.iadd, 1) := by decide +kernel
theorem dX4_dropWord_63 : decode cX4_dropWord 63 = .ok (.iaload, 1) := by decide +kernel
theorem dX4_dropWord_64 : decode cX4_dropWord 64 = .ok (.iastore, 1) := by decide +kernel
theorem dX4_dropWord_65 : decode cX4_dropWord 65 = .ok (.iinc 2 1, 3) := by decide +kernel
theorem dX4_dropWord_68 : decode cX4_dropWord 68 = .ok (.goto (-35), 3) := by decide +kernel
theorem dX4_dropWord_71 : decode cX4_dropWord 71 = .ok (.aload_n 0, 1) := by decide +kernel
theorem dX4_dropWord_72 : decode cX4_dropWord 72 = .ok (.aload_n 0, 1) := by decide +kernel
theorem dX4_dropWord_73 : decode cX4_dropWord 73 = .ok (.getfield 7, 3) := by decide +kernel
theorem dX4_dropWord_76 : decode cX4_dropWord 76 = .ok (.bipush 106, 2) := by decide +kernel
theorem dX4_dropWord_78 : decode cX4_dropWord 78 = .ok (.iaload, 1) := by decide +kernel
theorem dX4_dropWord_79 : decode cX4_dropWord 79 = .ok (.invokevirtual 108, 3) := by decide +kernel
theorem dX4_dropWord_82 : decode cX4_dropWord 82 = .ok (.ireturn, 1) := by decide +kernel
set_option maxRecDepth 20000 in
theorem ggX4_guessedCells_X4_guessAt : GoodIn wsX4_guessedCells wsX4_guessAt := goodIn_r _ [5, 6, 7, 8, 9, 4, 10, 11, 12, 13, 14, 15, 16, 17, 18, 19, 20, 21, 22, 23, 24, 25, 26] (by decide +kernel) (by decide +kernel)
set_option maxRecDepth 20000 in
theorem gX4_guessedCells_X4_guessAt : GoodIn wsX4_guessedCells (wsV RX4 126 RX4 yX4_guessAt wsX4_guessAt) := goodIn_app (goodIn_of _ (by decide +kernel)) ggX4_guessedCells_X4_guessAt
theorem dX4_guessedCells_0 : decode cX4_guessedCells 0 = .ok (.iconst 0, 1) := by decide +kernel
theorem dX4_guessedCells_1 : decode cX4_guessedCells 1 = .ok (.istore_n 1, 1) := by decide +kernel
theorem dX4_guessedCells_2 : decode cX4_guessedCells 2 = .ok (.iconst 0, 1) := by decide +kernel
theorem dX4_guessedCells_3 : decode cX4_guessedCells 3 = .ok (.istore_n 2, 1) := by decide +kernel
theorem dX4_guessedCells_4 : decode cX4_guessedCells 4 = .ok (.iload_n 2, 1) := by decide +kernel
theorem dX4_guessedCells_5 : decode cX4_guessedCells 5 = .ok (.bipush 49, 2) := by decide +kernel
theorem dX4_guessedCells_7 : decode cX4_guessedCells 7 = .ok (.if_icmp .ge 26, 3) := by decide +kernel
theorem dX4_guessedCells_10 : decode cX4_guessedCells 10 = .ok (.iload_n 1, 1) := by decide +kernel
theorem dX4_guessedCells_11 : decode cX4_guessedCells 11 = .ok (.aload_n 0, 1) := by decide +kernel
theorem dX4_guessedCells_12 : decode cX4_guessedCells 12 = .ok (.iload_n 2, 1) := by decide +kernel
theorem dX4_guessedCells_13 : decode cX4_guessedCells 13 = .ok (.invokevirtual 126, 3) := by decide +kernel
theorem dX4_guessedCells_16 : decode cX4_guessedCells 16 = .ok (.iconst (-1), 1) := by decide +kernel
theorem dX4_guessedCells_17 : decode cX4_guessedCells 17 = .ok (.if_icmp .eq 7, 3) := by decide +kernel
theorem dX4_guessedCells_20 : decode cX4_guessedCells 20 = .ok (.iconst 1, 1) := by decide +kernel
theorem dX4_guessedCells_21 : decode cX4_guessedCells 21 = .ok (.goto 4, 3) := by decide +kernel
theorem dX4_guessedCells_24 : decode cX4_guessedCells 24 = .ok (.iconst 0, 1) := by decide +kernel
theorem dX4_guessedCells_25 : decode cX4_guessedCells 25 = .ok (.iadd, 1) := by decide +kernel
theorem dX4_guessedCells_26 : decode cX4_guessedCells 26 = .ok (.istore_n 1, 1) := by decide +kernel
theorem dX4_guessedCells_27 : decode cX4_guessedCells 27 = .ok (.iinc 2 1, 3) := by decide +kernel
theorem dX4_guessedCells_30 : decode cX4_guessedCells 30 = .ok (.goto (-26), 3) := by decide +kernel
theorem dX4_guessedCells_33 : decode cX4_guessedCells 33 = .ok (.iload_n 1, 1) := by decide +kernel
theorem dX4_guessedCells_34 : decode cX4_guessedCells 34 = .ok (.ireturn, 1) := by decide +kernel
set_option maxRecDepth 20000 in
theorem ggX4_guess_X4_isNumber : GoodIn wsX4_guess wsX4_isNumber := goodIn_r _ [7, 8, 9, 10, 6, 11] (by decide +kernel) (by decide +kernel)
set_option maxRecDepth 20000 in
theorem gX4_guess_X4_isNumber : GoodIn wsX4_guess (va_wsS RX4 129 yX4_isNumber wsX4_isNumber) := goodIn_app (goodIn_of _ (by decide +kernel)) ggX4_guess_X4_isNumber
set_option maxRecDepth 20000 in
theorem ggX4_guess_X4_in : GoodIn wsX4_guess wsX4_in := goodIn_r _ [11] (by decide +kernel) (by decide +kernel)
set_option maxRecDepth 20000 in
theorem gX4_guess_X4_in : GoodIn wsX4_guess (va_wsS RX4 43 yX4_in wsX4_in) := goodIn_app (goodIn_of _ (by decide +kernel)) ggX4_guess_X4_in
set_option maxRecDepth 20000 in
theorem ggX4_guess_X4_isGuessOfAnother : GoodIn wsX4_guess wsX4_isGuessOfAnother := goodIn_r _ [15, 3, 43, 44, 45, 46, 47, 48, 49, 50, 51, 52, 53, 54] (by decide +kernel) (by decide +kernel)
set_option maxRecDepth 20000 in
theorem gX4_guess_X4_isGuessOfAnother : GoodIn wsX4_guess (wsV RX4 78 RX4 yX4_isGuessOfAnother wsX4_isGuessOfAnother) := goodIn_app (goodIn_of _ (by decide +kernel)) ggX4_guess_X4_isGuessOfAnother
set_option maxRecDepth 20000 in
theorem ggX4_guess_X4_remember : GoodIn wsX4_guess wsX4_remember := goodIn_r _ [19, 20, 3, 43, 44, 45, 46, 47, 48, 49, 50, 51, 52, 53, 54] (by decide +kernel) (by decide +kernel)
set_option maxRecDepth 20000 in
theorem gX4_guess_X4_remember : GoodIn wsX4_guess (wsV RX4 105 RX4 yX4_remember wsX4_remember) := goodIn_app (goodIn_of _ (by decide +kernel)) ggX4_guess_X4_remember
set_option maxRecDepth 20000 in
theorem ggX4_guess_X4_guessedCells : GoodIn wsX4_guess wsX4_guessedCells := goodIn_r _ [24, 25, 26, 27, 6, 28, 3, 29, 30, 31, 32, 33, 34, 35, 36, 43, 44, 45, 46, 47, 48, 49, 50, 51, 52, 53, 54] (by decide +kernel) (by decide +kernel)
set_option maxRecDepth 20000 in
theorem gX4_guess_X4_guessedCells : GoodIn wsX4_guess (wsV RX4 132 RX4 yX4_guessedCells wsX4_guessedCells) := goodIn_app (goodIn_of _ (by decide +kernel)) ggX4_guess_X4_guessedCells
set_option maxRecDepth 20000 in
theorem ggX4_guess_X4_acted : GoodIn wsX4_guess wsX4_acted := goodIn_r _ [40, 41, 42, 20, 43, 44, 45, 46, 47, 48, 49, 50, 51, 52, 53, 54] (by decide +kernel) (by decide +kernel)
set_option maxRecDepth 20000 in
theorem gX4_guess_X4_acted : GoodIn wsX4_guess (wsV RX4 108 RX4 yX4_acted wsX4_acted) := goodIn_app (goodIn_of _ (by decide +kernel)) ggX4_guess_X4_acted
theorem dX4_guess_0 : decode cX4_guess 0 = .ok (.iload_n 1, 1) := by decide +kernel
theorem dX4_guess_1 : decode cX4_guess 1 = .ok (.invokestatic 129, 3) := by decide +kernel
theorem dX4_guess_4 : decode cX4_guess 4 = .ok (.ifCond .ne 5, 3) := by decide +kernel
theorem dX4_guess_7 : decode cX4_guess 7 = .ok (.iconst (-1), 1) := by decide +kernel
theorem dX4_guess_8 : decode cX4_guess 8 = .ok (.ireturn, 1) := by decide +kernel
theorem dX4_guess_9 : decode cX4_guess 9 = .ok (.iload_n 2, 1) := by decide +kernel
theorem dX4_guess_10 : decode cX4_guess 10 = .ok (.bipush 46, 2) := by decide +kernel
theorem dX4_guess_12 : decode cX4_guess 12 = .ok (.if_icmp .eq 20, 3) := by decide +kernel
theorem dX4_guess_15 : decode cX4_guess 15 = .ok (.iload_n 2, 1) := by decide +kernel
theorem dX4_guess_16 : decode cX4_guess 16 = .ok (.i2l, 1) := by decide +kernel
theorem dX4_guess_17 : decode cX4_guess 17 = .ok (.ldc2_w 91, 3) := by decide +kernel
theorem dX4_guess_20 : decode cX4_guess 20 = .ok (.ldc2_w 93, 3) := by decide +kernel
theorem dX4_guess_23 : decode cX4_guess 23 = .ok (.invokestatic 43, 3) := by decide +kernel
theorem dX4_guess_26 : decode cX4_guess 26 = .ok (.ifCond .ne 6, 3) := by decide +kernel
theorem dX4_guess_29 : decode cX4_guess 29 = .ok (.bipush (-2), 2) := by decide +kernel
theorem dX4_guess_31 : decode cX4_guess 31 = .ok (.ireturn, 1) := by decide +kernel
theorem dX4_guess_32 : decode cX4_guess 32 = .ok (.iload_n 2, 1) := by decide +kernel
theorem dX4_guess_33 : decode cX4_guess 33 = .ok (.bipush 46, 2) := by decide +kernel
theorem dX4_guess_35 : decode cX4_guess 35 = .ok (.if_icmp .ne 7, 3) := by decide +kernel
theorem dX4_guess_38 : decode cX4_guess 38 = .ok (.iconst (-1), 1) := by decide +kernel
theorem dX4_guess_39 : decode cX4_guess 39 = .ok (.goto 7, 3) := by decide +kernel
theorem dX4_guess_42 : decode cX4_guess 42 = .ok (.iload_n 2, 1) := by decide +kernel
theorem dX4_guess_43 : decode cX4_guess 43 = .ok (.bipush 97, 2) := by decide +kernel
theorem dX4_guess_45 : decode cX4_guess 45 = .ok (.isub, 1) := by decide +kernel
theorem dX4_guess_46 : decode cX4_guess 46 = .ok (.istore_n 3, 1) := by decide +kernel
theorem dX4_guess_47 : decode cX4_guess 47 = .ok (.aload_n 0, 1) := by decide +kernel
theorem dX4_guess_48 : decode cX4_guess 48 = .ok (.getfield 7, 3) := by decide +kernel
theorem dX4_guess_51 : decode cX4_guess 51 = .ok (.bipush 78, 2) := by decide +kernel
theorem dX4_guess_53 : decode cX4_guess 53 = .ok (.iload_n 1, 1) := by decide +kernel
theorem dX4_guess_54 : decode cX4_guess 54 = .ok (.iadd, 1) := by decide +kernel
theorem dX4_guess_55 : decode cX4_guess 55 = .ok (.iaload, 1) := by decide +kernel
theorem dX4_guess_56 : decode cX4_guess 56 = .ok (.iconst 1, 1) := by decide +kernel
theorem dX4_guess_57 : decode cX4_guess 57 = .ok (.if_icmp .eq 17, 3) := by decide +kernel
theorem dX4_guess_60 : decode cX4_guess 60 = .ok (.iload_n 3, 1) := by decide +kernel
theorem dX4_guess_61 : decode cX4_guess 61 = .ok (.iconst (-1), 1) := by decide +kernel
theorem dX4_guess_62 : decode cX4_guess 62 = .ok (.if_icmp .eq 15, 3) := by decide +kernel
theorem dX4_guess_65 : decode cX4_guess 65 = .ok (.aload_n 0, 1) := by decide +kernel
theorem dX4_guess_66 : decode cX4_guess 66 = .ok (.iload_n 3, 1) := by decide +kernel
theorem dX4_guess_67 : decode cX4_guess 67 = .ok (.iload_n 1, 1) := by decide +kernel
theorem dX4_guess_68 : decode cX4_guess 68 = .ok (.invokevirtual 78, 3) := by decide +kernel
theorem dX4_guess_71 : decode cX4_guess 71 = .ok (.ifCond .eq 6, 3) := by decide +kernel
theorem dX4_guess_74 : decode cX4_guess 74 = .ok (.bipush (-4), 2) := by decide +kernel
theorem dX4_guess_76 : decode cX4_guess 76 = .ok (.ireturn, 1) := by decide +kernel
theorem dX4_guess_77 : decode cX4_guess 77 = .ok (.aload_n 0, 1) := by decide +kernel
theorem dX4_guess_78 : decode cX4_guess 78 = .ok (.getfield 7, 3) := by decide +kernel
theorem dX4_guess_81 : decode cX4_guess 81 = .ok (.bipush 51, 2) := by decide +kernel
theorem dX4_guess_83 : decode cX4_guess 83 = .ok (.iload_n 1, 1) := by decide +kernel
theorem dX4_guess_84 : decode cX4_guess 84 = .ok (.iadd, 1) := by decide +kernel
theorem dX4_guess_85 : decode cX4_guess 85 = .ok (.iaload, 1) := by decide +kernel
theorem dX4_guess_86 : decode cX4_guess 86 = .ok (.iload_n 3, 1) := by decide +kernel
theorem dX4_guess_87 : decode cX4_guess 87 = .ok (.if_icmp .ne 6, 3) := by decide +kernel
theorem dX4_guess_90 : decode cX4_guess 90 = .ok (.bipush (-5), 2) := by decide +kernel
theorem dX4_guess_92 : decode cX4_guess 92 = .ok (.ireturn, 1) := by decide +kernel
theorem dX4_guess_93 : decode cX4_guess 93 = .ok (.aload_n 0, 1) := by decide +kernel
theorem dX4_guess_94 : decode cX4_guess 94 = .ok (.invokevirtual 105, 3) := by decide +kernel
theorem dX4_guess_97 : decode cX4_guess 97 = .ok (.aload_n 0, 1) := by decide +kernel
theorem dX4_guess_98 : decode cX4_guess 98 = .ok (.getfield 7, 3) := by decide +kernel
theorem dX4_guess_101 : decode cX4_guess 101 = .ok (.bipush 51, 2) := by decide +kernel
theorem dX4_guess_103 : decode cX4_guess 103 = .ok (.iload_n 1, 1) := by decide +kernel
theorem dX4_guess_104 : decode cX4_guess 104 = .ok (.iadd, 1) := by decide +kernel
theorem dX4_guess_105 : decode cX4_guess 105 = .ok (.iload_n 3, 1) := by decide +kernel
theorem dX4_guess_106 : decode cX4_guess 106 = .ok (.iastore, 1) := by decide +kernel
theorem dX4_guess_107 : decode cX4_guess 107 = .ok (.aload_n 0, 1) := by decide +kernel
theorem dX4_guess_108 : decode cX4_guess 108 = .ok (.aload_n 0, 1) := by decide +kernel
theorem dX4_guess_109 : decode cX4_guess 109 = .ok (.invokevirtual 132, 3) := by decide +kernel
theorem dX4_guess_112 : decode cX4_guess 112 = .ok (.invokevirtual 108, 3) := by decide +kernel
theorem dX4_guess_115 : decode cX4_guess 115 = .ok (.ireturn, 1) := by decide +kernel
set_option maxRecDepth 20000 in
theorem ggX4_guessWord_X4_isWord : GoodIn wsX4_guessWord wsX4_isWord := goodIn_r _ [7, 8, 9, 10, 11, 6, 12, 13, 14, 15, 16, 2, 17, 1, 18, 19, 20, 21, 69, 70, 71, 72, 73, 74, 75, 76, 77, 78, 79, 80] (by decide +kernel) (by decide +kernel)
set_option maxRecDepth 20000 in
theorem gX4_guessWord_X4_isWord : GoodIn wsX4_guessWord (wsV RX4 135 RX4 yX4_isWord wsX4_isWord) := goodIn_app (goodIn_of _ (by decide +kernel)) ggX4_guessWord_X4_isWord
set_option maxRecDepth 20000 in
theorem ggX4_guessWord_X4_isListed : GoodIn wsX4_guessWord wsX4_isListed := goodIn_r _ [25, 2, 19, 20, 6, 21, 69, 70, 71, 72, 73, 74, 75, 76, 77, 78, 79, 80] (by decide +kernel) (by decide +kernel)
set_option maxRecDepth 20000 in
theorem gX4_guessWord_X4_isListed : GoodIn wsX4_guessWord (wsV RX4 123 RX4 yX4_isListed wsX4_isListed) := goodIn_app (goodIn_of _ (by decide +kernel)) ggX4_guessWord_X4_isListed
set_option maxRecDepth 20000 in
theorem ggX4_guessWord_X4_isFit : GoodIn wsX4_guessWord wsX4_isFit := goodIn_r _ [29, 1, 30, 31, 32, 6, 33, 2, 34, 35, 36, 37, 38, 39, 40, 41, 17, 18, 42, 43, 44, 45, 46, 47, 48, 49, 50, 51, 52, 53, 54, 55, 56, 57, 69, 70, 71, 72, 73, 74, 75, 76, 77, 78, 79, 80] (by decide +kernel) (by decide +kernel)
set_option maxRecDepth 20000 in
theorem gX4_guessWord_X4_isFit : GoodIn wsX4_guessWord (wsV RX4 138 RX4 yX4_isFit wsX4_isFit) := goodIn_app (goodIn_of _ (by decide +kernel)) ggX4_guessWord_X4_isFit
set_option maxRecDepth 20000 in
theorem ggX4_guessWord_X4_remember : GoodIn wsX4_guessWord wsX4_remember := goodIn_r _ [61, 62, 2, 69, 70, 71, 72, 73, 74, 75, 76, 77, 78, 79, 80] (by decide +kernel) (by decide +kernel)
set_option maxRecDepth 20000 in
theorem gX4_guessWord_X4_remember : GoodIn wsX4_guessWord (wsV RX4 105 RX4 yX4_remember wsX4_remember) := goodIn_app (goodIn_of _ (by decide +kernel)) ggX4_guessWord_X4_remember
set_option maxRecDepth 20000 in
theorem ggX4_guessWord_X4_cellOf : GoodIn wsX4_guessWord wsX4_cellOf := goodIn_r _ [41, 17, 18, 69, 70, 71, 72, 73, 74, 75, 76, 77, 78, 79, 80] (by decide +kernel) (by decide +kernel)
set_option maxRecDepth 20000 in
theorem gX4_guessWord_X4_cellOf : GoodIn wsX4_guessWord (wsV RX4 67 RX4 yX4_cellOf wsX4_cellOf) := goodIn_app (goodIn_of _ (by decide +kernel)) ggX4_guessWord_X4_cellOf
set_option maxRecDepth 20000 in
theorem ggX4_guessWord_X4_numberAt : GoodIn wsX4_guessWord wsX4_numberAt := goodIn_r _ [45, 2, 46, 47, 48, 6, 49, 69, 70, 71, 72, 73, 74, 75, 76, 77, 78, 79, 80] (by decide +kernel) (by decide +kernel)
set_option maxRecDepth 20000 in
theorem gX4_guessWord_X4_numberAt : GoodIn wsX4_guessWord (wsV RX4 51 RX4 yX4_numberAt wsX4_numberAt) := goodIn_app (goodIn_of _ (by decide +kernel)) ggX4_guessWord_X4_numberAt
set_option maxRecDepth 20000 in
theorem ggX4_guessWord_X4_letterOfListed : GoodIn wsX4_guessWord wsX4_letterOfListed := goodIn_r _ [53, 2, 69, 70, 71, 72, 73, 74, 75, 76, 77, 78, 79, 80] (by decide +kernel) (by decide +kernel)
set_option maxRecDepth 20000 in
theorem gX4_guessWord_X4_letterOfListed : GoodIn wsX4_guessWord (wsV RX4 75 RX4 yX4_letterOfListed wsX4_letterOfListed) := goodIn_app (goodIn_of _ (by decide +kernel)) ggX4_guessWord_X4_letterOfListed
set_option maxRecDepth 20000 in
theorem ggX4_guessWord_X4_acted : GoodIn wsX4_guessWord wsX4_acted := goodIn_r _ [66, 67, 68, 62, 69, 70, 71, 72, 73, 74, 75, 76, 77, 78, 79, 80] (by decide +kernel) (by decide +kernel)
set_option maxRecDepth 20000 in
theorem gX4_guessWord_X4_acted : GoodIn wsX4_guessWord (wsV RX4 108 RX4 yX4_acted wsX4_acted) := goodIn_app (goodIn_of _ (by decide +kernel)) ggX4_guessWord_X4_acted
theorem dX4_guessWord_0 : decode cX4_guessWord 0 = .ok (.aload_n 0, 1) := by decide +kernel
theorem dX4_guessWord_1 : decode cX4_guessWord 1 = .ok (.iload_n 1, 1) := by decide +kernel
theorem dX4_guessWord_2 : decode cX4_guessWord 2 = .ok (.invokevirtual 135, 3) := by decide +kernel
theorem dX4_guessWord_5 : decode cX4_guessWord 5 = .ok (.ifCond .eq 11, 3) := by decide +kernel
theorem dX4_guessWord_8 : decode cX4_guessWord 8 = .ok (.aload_n 0, 1) := by decide +kernel
theorem dX4_guessWord_9 : decode cX4_guessWord 9 = .ok (.iload_n 2, 1) := by decide +kernel
theorem dX4_guessWord_10 : decode cX4_guessWord 10 = .ok (.invokevirtual 123, 3) := by decide +kernel
theorem dX4_guessWord_13 : decode cX4_guessWord 13 = .ok (.ifCond .ne 5, 3) := by decide +kernel
theorem dX4_guessWord_16 : decode cX4_guessWord 16 = .ok (.iconst (-1), 1) := by decide +kernel
theorem dX4_guessWord_17 : decode cX4_guessWord 17 = .ok (.ireturn, 1) := by decide +kernel
theorem dX4_guessWord_18 : decode cX4_guessWord 18 = .ok (.aload_n 0, 1) := by decide +kernel
theorem dX4_guessWord_19 : decode cX4_guessWord 19 = .ok (.iload_n 1, 1) := by decide +kernel
theorem dX4_guessWord_20 : decode cX4_guessWord 20 = .ok (.iload_n 2, 1) := by decide +kernel
theorem dX4_guessWord_21 : decode cX4_guessWord 21 = .ok (.invokevirtual 138, 3) := by decide +kernel
theorem dX4_guessWord_24 : decode cX4_guessWord 24 = .ok (.ifCond .ne 6, 3) := by decide +kernel
theorem dX4_guessWord_27 : decode cX4_guessWord 27 = .ok (.bipush (-4), 2) := by decide +kernel
theorem dX4_guessWord_29 : decode cX4_guessWord 29 = .ok (.ireturn, 1) := by decide +kernel
theorem dX4_guessWord_30 : decode cX4_guessWord 30 = .ok (.aload_n 0, 1) := by decide +kernel
theorem dX4_guessWord_31 : decode cX4_guessWord 31 = .ok (.invokevirtual 105, 3) := by decide +kernel
theorem dX4_guessWord_34 : decode cX4_guessWord 34 = .ok (.iconst 0, 1) := by decide +kernel
theorem dX4_guessWord_35 : decode cX4_guessWord 35 = .ok (.istore_n 3, 1) := by decide +kernel
theorem dX4_guessWord_36 : decode cX4_guessWord 36 = .ok (.iconst 0, 1) := by decide +kernel
theorem dX4_guessWord_37 : decode cX4_guessWord 37 = .ok (.istore 4, 2) := by decide +kernel
theorem dX4_guessWord_39 : decode cX4_guessWord 39 = .ok (.iload 4, 2) := by decide +kernel
theorem dX4_guessWord_41 : decode cX4_guessWord 41 = .ok (.aload_n 0, 1) := by decide +kernel
theorem dX4_guessWord_42 : decode cX4_guessWord 42 = .ok (.getfield 25, 3) := by decide +kernel
theorem dX4_guessWord_45 : decode cX4_guessWord 45 = .ok (.iload_n 1, 1) := by decide +kernel
theorem dX4_guessWord_46 : decode cX4_guessWord 46 = .ok (.iaload, 1) := by decide +kernel
theorem dX4_guessWord_47 : decode cX4_guessWord 47 = .ok (.if_icmp .ge 61, 3) := by decide +kernel
theorem dX4_guessWord_50 : decode cX4_guessWord 50 = .ok (.aload_n 0, 1) := by decide +kernel
theorem dX4_guessWord_51 : decode cX4_guessWord 51 = .ok (.aload_n 0, 1) := by decide +kernel
theorem dX4_guessWord_52 : decode cX4_guessWord 52 = .ok (.iload_n 1, 1) := by decide +kernel
theorem dX4_guessWord_53 : decode cX4_guessWord 53 = .ok (.iload 4, 2) := by decide +kernel
theorem dX4_guessWord_55 : decode cX4_guessWord 55 = .ok (.invokevirtual 67, 3) := by decide +kernel
theorem dX4_guessWord_58 : decode cX4_guessWord 58 = .ok (.invokevirtual 51, 3) := by decide +kernel
theorem dX4_guessWord_61 : decode cX4_guessWord 61 = .ok (.istore 5, 2) := by decide +kernel
theorem dX4_guessWord_63 : decode cX4_guessWord 63 = .ok (.iload_n 3, 1) := by decide +kernel
theorem dX4_guessWord_64 : decode cX4_guessWord 64 = .ok (.aload_n 0, 1) := by decide +kernel
theorem dX4_guessWord_65 : decode cX4_guessWord 65 = .ok (.getfield 7, 3) := by decide +kernel
theorem dX4_guessWord_68 : decode cX4_guessWord 68 = .ok (.bipush 51, 2) := by decide +kernel
theorem dX4_guessWord_70 : decode cX4_guessWord 70 = .ok (.iload 5, 2) := by decide +kernel
theorem dX4_guessWord_72 : decode cX4_guessWord 72 = .ok (.iadd, 1) := by decide +kernel
theorem dX4_guessWord_73 : decode cX4_guessWord 73 = .ok (.iaload, 1) := by decide +kernel
theorem dX4_guessWord_74 : decode cX4_guessWord 74 = .ok (.iconst (-1), 1) := by decide +kernel
theorem dX4_guessWord_75 : decode cX4_guessWord 75 = .ok (.if_icmp .ne 7, 3) := by decide +kernel
theorem dX4_guessWord_78 : decode cX4_guessWord 78 = .ok (.iconst 1, 1) := by decide +kernel
theorem dX4_guessWord_79 : decode cX4_guessWord 79 = .ok (.goto 4, 3) := by decide +kernel
theorem dX4_guessWord_82 : decode cX4_guessWord 82 = .ok (.iconst 0, 1) := by decide +kernel
theorem dX4_guessWord_83 : decode cX4_guessWord 83 = .ok (.iadd, 1) := by decide +kernel
theorem dX4_guessWord_84 : decode cX4_guessWord 84 = .ok (.istore_n 3, 1) := by decide +kernel
theorem dX4_guessWord_85 : decode cX4_guessWord 85 = .ok (.aload_n 0, 1) := by decide +kernel
theorem dX4_guessWord_86 : decode cX4_guessWord 86 = .ok (.getfield 7, 3) := by decide +kernel
theorem dX4_guessWord_89 : decode cX4_guessWord 89 = .ok (.bipush 51, 2) := by decide +kernel
theorem dX4_guessWord_91 : decode cX4_guessWord 91 = .ok (.iload 5, 2) := by decide +kernel
theorem dX4_guessWord_93 : decode cX4_guessWord 93 = .ok (.iadd, 1) := by decide +kernel
theorem dX4_guessWord_94 : decode cX4_guessWord 94 = .ok (.aload_n 0, 1) := by decide +kernel
theorem dX4_guessWord_95 : decode cX4_guessWord 95 = .ok (.iload_n 2, 1) := by decide +kernel
theorem dX4_guessWord_96 : decode cX4_guessWord 96 = .ok (.iload 4, 2) := by decide +kernel
theorem dX4_guessWord_98 : decode cX4_guessWord 98 = .ok (.invokevirtual 75, 3) := by decide +kernel
theorem dX4_guessWord_101 : decode cX4_guessWord 101 = .ok (.iastore, 1) := by decide +kernel
theorem dX4_guessWord_102 : decode cX4_guessWord 102 = .ok (.iinc 4 1, 3) := by decide +kernel
theorem dX4_guessWord_105 : decode cX4_guessWord 105 = .ok (.goto (-66), 3) := by decide +kernel
theorem dX4_guessWord_108 : decode cX4_guessWord 108 = .ok (.iload_n 3, 1) := by decide +kernel
theorem dX4_guessWord_109 : decode cX4_guessWord 109 = .ok (.ifCond .ne 8, 3) := by decide +kernel
theorem dX4_guessWord_112 : decode cX4_guessWord 112 = .ok (.bipush (-5), 2) := by decide +kernel
theorem dX4_guessWord_114 : decode cX4_guessWord 114 = .ok (.goto 8, 3) := by decide +kernel
theorem dX4_guessWord_117 : decode cX4_guessWord 117 = .ok (.aload_n 0, 1) := by decide +kernel
theorem dX4_guessWord_118 : decode cX4_guessWord 118 = .ok (.iload_n 3, 1) := by decide +kernel
theorem dX4_guessWord_119 : decode cX4_guessWord 119 = .ok (.invokevirtual 108, 3) := by decide +kernel
theorem dX4_guessWord_122 : decode cX4_guessWord 122 = .ok (.ireturn, 1) := by decide +kernel
set_option maxRecDepth 20000 in
theorem ggX4_buy_X4_isNumber : GoodIn wsX4_buy wsX4_isNumber := goodIn_r _ [5, 6, 7, 8, 4, 9] (by decide +kernel) (by decide +kernel)
set_option maxRecDepth 20000 in
theorem gX4_buy_X4_isNumber : GoodIn wsX4_buy (va_wsS RX4 129 yX4_isNumber wsX4_isNumber) := goodIn_app (goodIn_of _ (by decide +kernel)) ggX4_buy_X4_isNumber
set_option maxRecDepth 20000 in
theorem ggX4_buy_X4_priceOf : GoodIn wsX4_buy wsX4_priceOf := goodIn_r _ [13, 14, 15, 16, 4, 17, 18, 19, 20, 21, 1, 22, 23, 24, 25, 41, 42, 43, 44, 45, 46, 47, 48, 49, 50, 51, 52] (by decide +kernel) (by decide +kernel)
set_option maxRecDepth 20000 in
theorem gX4_buy_X4_priceOf : GoodIn wsX4_buy (wsV RX4 141 RX4 yX4_priceOf wsX4_priceOf) := goodIn_app (goodIn_of _ (by decide +kernel)) ggX4_buy_X4_priceOf
set_option maxRecDepth 20000 in
theorem ggX4_buy_X4_cellsWith : GoodIn wsX4_buy wsX4_cellsWith := goodIn_r _ [17, 18, 19, 20, 4, 21, 1, 22, 23, 24, 25, 41, 42, 43, 44, 45, 46, 47, 48, 49, 50, 51, 52] (by decide +kernel) (by decide +kernel)
set_option maxRecDepth 20000 in
theorem gX4_buy_X4_cellsWith : GoodIn wsX4_buy (wsV RX4 54 RX4 yX4_cellsWith wsX4_cellsWith) := goodIn_app (goodIn_of _ (by decide +kernel)) ggX4_buy_X4_cellsWith
set_option maxRecDepth 20000 in
theorem ggX4_buy_X4_remember : GoodIn wsX4_buy wsX4_remember := goodIn_r _ [29, 30, 1, 41, 42, 43, 44, 45, 46, 47, 48, 49, 50, 51, 52] (by decide +kernel) (by decide +kernel)
set_option maxRecDepth 20000 in
theorem gX4_buy_X4_remember : GoodIn wsX4_buy (wsV RX4 105 RX4 yX4_remember wsX4_remember) := goodIn_app (goodIn_of _ (by decide +kernel)) ggX4_buy_X4_remember
set_option maxRecDepth 20000 in
theorem ggX4_buy_X4_letterOf : GoodIn wsX4_buy wsX4_letterOf := goodIn_r _ [34, 22, 23, 24, 4, 25, 1, 41, 42, 43, 44, 45, 46, 47, 48, 49, 50, 51, 52] (by decide +kernel) (by decide +kernel)
set_option maxRecDepth 20000 in
theorem gX4_buy_X4_letterOf : GoodIn wsX4_buy (wsV RX4 144 RX4 yX4_letterOf wsX4_letterOf) := goodIn_app (goodIn_of _ (by decide +kernel)) ggX4_buy_X4_letterOf
set_option maxRecDepth 20000 in
theorem ggX4_buy_X4_acted : GoodIn wsX4_buy wsX4_acted := goodIn_r _ [38, 39, 40, 30, 41, 42, 43, 44, 45, 46, 47, 48, 49, 50, 51, 52] (by decide +kernel) (by decide +kernel)
set_option maxRecDepth 20000 in
theorem gX4_buy_X4_acted : GoodIn wsX4_buy (wsV RX4 108 RX4 yX4_acted wsX4_acted) := goodIn_app (goodIn_of _ (by decide +kernel)) ggX4_buy_X4_acted
theorem dX4_buy_0 : decode cX4_buy 0 = .ok (.iload_n 1, 1) := by decide +kernel
theorem dX4_buy_1 : decode cX4_buy 1 = .ok (.invokestatic 129, 3) := by decide +kernel
theorem dX4_buy_4 : decode cX4_buy 4 = .ok (.ifCond .ne 5, 3) := by decide +kernel
theorem dX4_buy_7 : decode cX4_buy 7 = .ok (.iconst (-1), 1) := by decide +kernel
theorem dX4_buy_8 : decode cX4_buy 8 = .ok (.ireturn, 1) := by decide +kernel
theorem dX4_buy_9 : decode cX4_buy 9 = .ok (.aload_n 0, 1) := by decide +kernel
theorem dX4_buy_10 : decode cX4_buy 10 = .ok (.iload_n 1, 1) := by decide +kernel
theorem dX4_buy_11 : decode cX4_buy 11 = .ok (.invokevirtual 141, 3) := by decide +kernel
theorem dX4_buy_14 : decode cX4_buy 14 = .ok (.istore_n 2, 1) := by decide +kernel
theorem dX4_buy_15 : decode cX4_buy 15 = .ok (.aload_n 0, 1) := by decide +kernel
theorem dX4_buy_16 : decode cX4_buy 16 = .ok (.getfield 7, 3) := by decide +kernel
theorem dX4_buy_19 : decode cX4_buy 19 = .ok (.bipush 78, 2) := by decide +kernel
theorem dX4_buy_21 : decode cX4_buy 21 = .ok (.iload_n 1, 1) := by decide +kernel
theorem dX4_buy_22 : decode cX4_buy 22 = .ok (.iadd, 1) := by decide +kernel
theorem dX4_buy_23 : decode cX4_buy 23 = .ok (.iaload, 1) := by decide +kernel
theorem dX4_buy_24 : decode cX4_buy 24 = .ok (.iconst 1, 1) := by decide +kernel
theorem dX4_buy_25 : decode cX4_buy 25 = .ok (.if_icmp .eq 14, 3) := by decide +kernel
theorem dX4_buy_28 : decode cX4_buy 28 = .ok (.aload_n 0, 1) := by decide +kernel
theorem dX4_buy_29 : decode cX4_buy 29 = .ok (.getfield 7, 3) := by decide +kernel
theorem dX4_buy_32 : decode cX4_buy 32 = .ok (.bipush 105, 2) := by decide +kernel
theorem dX4_buy_34 : decode cX4_buy 34 = .ok (.iaload, 1) := by decide +kernel
theorem dX4_buy_35 : decode cX4_buy 35 = .ok (.iload_n 2, 1) := by decide +kernel
theorem dX4_buy_36 : decode cX4_buy 36 = .ok (.if_icmp .ge 6, 3) := by decide +kernel
theorem dX4_buy_39 : decode cX4_buy 39 = .ok (.bipush (-4), 2) := by decide +kernel
theorem dX4_buy_41 : decode cX4_buy 41 = .ok (.ireturn, 1) := by decide +kernel
theorem dX4_buy_42 : decode cX4_buy 42 = .ok (.aload_n 0, 1) := by decide +kernel
theorem dX4_buy_43 : decode cX4_buy 43 = .ok (.iload_n 1, 1) := by decide +kernel
theorem dX4_buy_44 : decode cX4_buy 44 = .ok (.invokevirtual 54, 3) := by decide +kernel
theorem dX4_buy_47 : decode cX4_buy 47 = .ok (.ifCond .ne 6, 3) := by decide +kernel
theorem dX4_buy_50 : decode cX4_buy 50 = .ok (.bipush (-5), 2) := by decide +kernel
theorem dX4_buy_52 : decode cX4_buy 52 = .ok (.ireturn, 1) := by decide +kernel
theorem dX4_buy_53 : decode cX4_buy 53 = .ok (.aload_n 0, 1) := by decide +kernel
theorem dX4_buy_54 : decode cX4_buy 54 = .ok (.invokevirtual 105, 3) := by decide +kernel
theorem dX4_buy_57 : decode cX4_buy 57 = .ok (.aload_n 0, 1) := by decide +kernel
theorem dX4_buy_58 : decode cX4_buy 58 = .ok (.iload_n 1, 1) := by decide +kernel
theorem dX4_buy_59 : decode cX4_buy 59 = .ok (.invokevirtual 144, 3) := by decide +kernel
theorem dX4_buy_62 : decode cX4_buy 62 = .ok (.istore_n 3, 1) := by decide +kernel
theorem dX4_buy_63 : decode cX4_buy 63 = .ok (.iconst 1, 1) := by decide +kernel
theorem dX4_buy_64 : decode cX4_buy 64 = .ok (.istore 4, 2) := by decide +kernel
theorem dX4_buy_66 : decode cX4_buy 66 = .ok (.iload 4, 2) := by decide +kernel
theorem dX4_buy_68 : decode cX4_buy 68 = .ok (.bipush 26, 2) := by decide +kernel
theorem dX4_buy_70 : decode cX4_buy 70 = .ok (.if_icmp .gt 47, 3) := by decide +kernel
theorem dX4_buy_73 : decode cX4_buy 73 = .ok (.aload_n 0, 1) := by decide +kernel
theorem dX4_buy_74 : decode cX4_buy 74 = .ok (.getfield 7, 3) := by decide +kernel
theorem dX4_buy_77 : decode cX4_buy 77 = .ok (.bipush 51, 2) := by decide +kernel
theorem dX4_buy_79 : decode cX4_buy 79 = .ok (.iload 4, 2) := by decide +kernel
theorem dX4_buy_81 : decode cX4_buy 81 = .ok (.iadd, 1) := by decide +kernel
theorem dX4_buy_82 : decode cX4_buy 82 = .ok (.aload_n 0, 1) := by decide +kernel
theorem dX4_buy_83 : decode cX4_buy 83 = .ok (.getfield 7, 3) := by decide +kernel
theorem dX4_buy_86 : decode cX4_buy 86 = .ok (.bipush 51, 2) := by decide +kernel
theorem dX4_buy_88 : decode cX4_buy 88 = .ok (.iload 4, 2) := by decide +kernel
theorem dX4_buy_90 : decode cX4_buy 90 = .ok (.iadd, 1) := by decide +kernel
theorem dX4_buy_91 : decode cX4_buy 91 = .ok (.iaload, 1) := by decide +kernel
theorem dX4_buy_92 : decode cX4_buy 92 = .ok (.iload_n 3, 1) := by decide +kernel
theorem dX4_buy_93 : decode cX4_buy 93 = .ok (.if_icmp .ne 7, 3) := by decide +kernel
theorem dX4_buy_96 : decode cX4_buy 96 = .ok (.iconst (-1), 1) := by decide +kernel
theorem dX4_buy_97 : decode cX4_buy 97 = .ok (.goto 13, 3) := by decide +kernel
theorem dX4_buy_100 : decode cX4_buy 100 = .ok (.aload_n 0, 1) := by decide +kernel
theorem dX4_buy_101 : decode cX4_buy 101 = .ok (.getfield 7, 3) := by decide +kernel
theorem dX4_buy_104 : decode cX4_buy 104 = .ok (.bipush 51, 2) := by decide +kernel
theorem dX4_buy_106 : decode cX4_buy 106 = .ok (.iload 4, 2) := by decide +kernel
theorem dX4_buy_108 : decode cX4_buy 108 = .ok (.iadd, 1) := by decide +kernel
theorem dX4_buy_109 : decode cX4_buy 109 = .ok (.iaload, 1) := by decide +kernel
theorem dX4_buy_110 : decode cX4_buy 110 = .ok (.iastore, 1) := by decide +kernel
theorem dX4_buy_111 : decode cX4_buy 111 = .ok (.iinc 4 1, 3) := by decide +kernel
theorem dX4_buy_114 : decode cX4_buy 114 = .ok (.goto (-48), 3) := by decide +kernel
theorem dX4_buy_117 : decode cX4_buy 117 = .ok (.aload_n 0, 1) := by decide +kernel
theorem dX4_buy_118 : decode cX4_buy 118 = .ok (.getfield 7, 3) := by decide +kernel
theorem dX4_buy_121 : decode cX4_buy 121 = .ok (.bipush 51, 2) := by decide +kernel
theorem dX4_buy_123 : decode cX4_buy 123 = .ok (.iload_n 1, 1) := by decide +kernel
theorem dX4_buy_124 : decode cX4_buy 124 = .ok (.iadd, 1) := by decide +kernel
theorem dX4_buy_125 : decode cX4_buy 125 = .ok (.iload_n 3, 1) := by decide +kernel
theorem dX4_buy_126 : decode cX4_buy 126 = .ok (.iastore, 1) := by decide +kernel
theorem dX4_buy_127 : decode cX4_buy 127 = .ok (.aload_n 0, 1) := by decide +kernel
theorem dX4_buy_128 : decode cX4_buy 128 = .ok (.getfield 7, 3) := by decide +kernel
theorem dX4_buy_131 : decode cX4_buy 131 = .ok (.bipush 78, 2) := by decide +kernel
theorem dX4_buy_133 : decode cX4_buy 133 = .ok (.iload_n 1, 1) := by decide +kernel
theorem dX4_buy_134 : decode cX4_buy 134 = .ok (.iadd, 1) := by decide +kernel
theorem dX4_buy_135 : decode cX4_buy 135 = .ok (.iconst 1, 1) := by decide +kernel
theorem dX4_buy_136 : decode cX4_buy 136 = .ok (.iastore, 1) := by decide +kernel
theorem dX4_buy_137 : decode cX4_buy 137 = .ok (.aload_n 0, 1) := by decide +kernel
theorem dX4_buy_138 : decode cX4_buy 138 = .ok (.getfield 7, 3) := by decide +kernel
theorem dX4_buy_141 : decode cX4_buy 141 = .ok (.bipush 105, 2) := by decide +kernel
theorem dX4_buy_143 : decode cX4_buy 143 = .ok (.dup2, 1) := by decide +kernel
theorem dX4_buy_144 : decode cX4_buy 144 = .ok (.iaload, 1) := by decide +kernel
theorem dX4_buy_145 : decode cX4_buy 145 = .ok (.iload_n 2, 1) := by decide +kernel
theorem dX4_buy_146 : decode cX4_buy 146 = .ok (.isub, 1) := by decide +kernel
theorem dX4_buy_147 : decode cX4_buy 147 = .ok (.iastore, 1) := by decide +kernel
theorem dX4_buy_148 : decode cX4_buy 148 = .ok (.aload_n 0, 1) := by decide +kernel
theorem dX4_buy_149 : decode cX4_buy 149 = .ok (.getfield 7, 3) := by decide +kernel
theorem dX4_buy_152 : decode cX4_buy 152 = .ok (.bipush 107, 2) := by decide +kernel
theorem dX4_buy_154 : decode cX4_buy 154 = .ok (.dup2, 1) := by decide +kernel
theorem dX4_buy_155 : decode cX4_buy 155 = .ok (.iaload, 1) := by decide +kernel
theorem dX4_buy_156 : decode cX4_buy 156 = .ok (.iconst 1, 1) := by decide +kernel
theorem dX4_buy_157 : decode cX4_buy 157 = .ok (.iadd, 1) := by decide +kernel
theorem dX4_buy_158 : decode cX4_buy 158 = .ok (.iastore, 1) := by decide +kernel
theorem dX4_buy_159 : decode cX4_buy 159 = .ok (.aload_n 0, 1) := by decide +kernel
theorem dX4_buy_160 : decode cX4_buy 160 = .ok (.bipush 97, 2) := by decide +kernel
theorem dX4_buy_162 : decode cX4_buy 162 = .ok (.iload_n 3, 1) := by decide +kernel
theorem dX4_buy_163 : decode cX4_buy 163 = .ok (.iadd, 1) := by decide +kernel
theorem dX4_buy_164 : decode cX4_buy 164 = .ok (.invokevirtual 108, 3) := by decide +kernel
theorem dX4_buy_167 : decode cX4_buy 167 = .ok (.ireturn, 1) := by decide +kernel
set_option maxRecDepth 20000 in
theorem ggX4_check_X4_isWord : GoodIn wsX4_check wsX4_isWord := goodIn_r _ [7, 8, 9, 10, 11, 6, 12, 13, 14, 15, 16, 1, 17, 2, 18, 19, 20, 21, 49, 50, 51, 52, 53, 54, 55, 56, 57, 58, 59, 60] (by decide +kernel) (by decide +kernel)
set_option maxRecDepth 20000 in
theorem gX4_check_X4_isWord : GoodIn wsX4_check (wsV RX4 135 RX4 yX4_isWord wsX4_isWord) := goodIn_app (goodIn_of _ (by decide +kernel)) ggX4_check_X4_isWord
set_option maxRecDepth 20000 in
theorem ggX4_check_X4_remember : GoodIn wsX4_check wsX4_remember := goodIn_r _ [25, 26, 1, 49, 50, 51, 52, 53, 54, 55, 56, 57, 58, 59, 60] (by decide +kernel) (by decide +kernel)
set_option maxRecDepth 20000 in
theorem gX4_check_X4_remember : GoodIn wsX4_check (wsV RX4 105 RX4 yX4_remember wsX4_remember) := goodIn_app (goodIn_of _ (by decide +kernel)) ggX4_check_X4_remember
set_option maxRecDepth 20000 in
theorem ggX4_check_X4_cellOf : GoodIn wsX4_check wsX4_cellOf := goodIn_r _ [30, 17, 18, 49, 50, 51, 52, 53, 54, 55, 56, 57, 58, 59, 60] (by decide +kernel) (by decide +kernel)
set_option maxRecDepth 20000 in
theorem gX4_check_X4_cellOf : GoodIn wsX4_check (wsV RX4 67 RX4 yX4_cellOf wsX4_cellOf) := goodIn_app (goodIn_of _ (by decide +kernel)) ggX4_check_X4_cellOf
set_option maxRecDepth 20000 in
theorem ggX4_check_X4_guessAt : GoodIn wsX4_check wsX4_guessAt := goodIn_r _ [34, 1, 35, 36, 37, 6, 38, 39, 40, 41, 42, 49, 50, 51, 52, 53, 54, 55, 56, 57, 58, 59, 60] (by decide +kernel) (by decide +kernel)
set_option maxRecDepth 20000 in
theorem gX4_check_X4_guessAt : GoodIn wsX4_check (wsV RX4 126 RX4 yX4_guessAt wsX4_guessAt) := goodIn_app (goodIn_of _ (by decide +kernel)) ggX4_check_X4_guessAt
set_option maxRecDepth 20000 in
theorem ggX4_check_X4_acted : GoodIn wsX4_check wsX4_acted := goodIn_r _ [46, 47, 48, 26, 49, 50, 51, 52, 53, 54, 55, 56, 57, 58, 59, 60] (by decide +kernel) (by decide +kernel)
set_option maxRecDepth 20000 in
theorem gX4_check_X4_acted : GoodIn wsX4_check (wsV RX4 108 RX4 yX4_acted wsX4_acted) := goodIn_app (goodIn_of _ (by decide +kernel)) ggX4_check_X4_acted
theorem dX4_check_0 : decode cX4_check 0 = .ok (.aload_n 0, 1) := by decide +kernel
theorem dX4_check_1 : decode cX4_check 1 = .ok (.iload_n 1, 1) := by decide +kernel
theorem dX4_check_2 : decode cX4_check 2 = .ok (.invokevirtual 135, 3) := by decide +kernel
theorem dX4_check_5 : decode cX4_check 5 = .ok (.ifCond .ne 5, 3) := by decide +kernel
theorem dX4_check_8 : decode cX4_check 8 = .ok (.iconst (-1), 1) := by decide +kernel
theorem dX4_check_9 : decode cX4_check 9 = .ok (.ireturn, 1) := by decide +kernel
theorem dX4_check_10 : decode cX4_check 10 = .ok (.aload_n 0, 1) := by decide +kernel
theorem dX4_check_11 : decode cX4_check 11 = .ok (.getfield 7, 3) := by decide +kernel
theorem dX4_check_14 : decode cX4_check 14 = .ok (.bipush 105, 2) := by decide +kernel
theorem dX4_check_16 : decode cX4_check 16 = .ok (.iaload, 1) := by decide +kernel
theorem dX4_check_17 : decode cX4_check 17 = .ok (.ifCond .ne 6, 3) := by decide +kernel
theorem dX4_check_20 : decode cX4_check 20 = .ok (.bipush (-4), 2) := by decide +kernel
theorem dX4_check_22 : decode cX4_check 22 = .ok (.ireturn, 1) := by decide +kernel
theorem dX4_check_23 : decode cX4_check 23 = .ok (.aload_n 0, 1) := by decide +kernel
theorem dX4_check_24 : decode cX4_check 24 = .ok (.invokevirtual 105, 3) := by decide +kernel
theorem dX4_check_27 : decode cX4_check 27 = .ok (.aload_n 0, 1) := by decide +kernel
theorem dX4_check_28 : decode cX4_check 28 = .ok (.getfield 7, 3) := by decide +kernel
theorem dX4_check_31 : decode cX4_check 31 = .ok (.bipush 105, 2) := by decide +kernel
theorem dX4_check_33 : decode cX4_check 33 = .ok (.dup2, 1) := by decide +kernel
theorem dX4_check_34 : decode cX4_check 34 = .ok (.iaload, 1) := by decide +kernel
theorem dX4_check_35 : decode cX4_check 35 = .ok (.iconst 1, 1) := by decide +kernel
theorem dX4_check_36 : decode cX4_check 36 = .ok (.isub, 1) := by decide +kernel
theorem dX4_check_37 : decode cX4_check 37 = .ok (.iastore, 1) := by decide +kernel
theorem dX4_check_38 : decode cX4_check 38 = .ok (.aload_n 0, 1) := by decide +kernel
theorem dX4_check_39 : decode cX4_check 39 = .ok (.getfield 7, 3) := by decide +kernel
theorem dX4_check_42 : decode cX4_check 42 = .ok (.bipush 108, 2) := by decide +kernel
theorem dX4_check_44 : decode cX4_check 44 = .ok (.dup2, 1) := by decide +kernel
theorem dX4_check_45 : decode cX4_check 45 = .ok (.iaload, 1) := by decide +kernel
theorem dX4_check_46 : decode cX4_check 46 = .ok (.iconst 1, 1) := by decide +kernel
theorem dX4_check_47 : decode cX4_check 47 = .ok (.iadd, 1) := by decide +kernel
theorem dX4_check_48 : decode cX4_check 48 = .ok (.iastore, 1) := by decide +kernel
theorem dX4_check_49 : decode cX4_check 49 = .ok (.iconst 0, 1) := by decide +kernel
theorem dX4_check_50 : decode cX4_check 50 = .ok (.istore_n 2, 1) := by decide +kernel
theorem dX4_check_51 : decode cX4_check 51 = .ok (.iconst 0, 1) := by decide +kernel
theorem dX4_check_52 : decode cX4_check 52 = .ok (.istore_n 3, 1) := by decide +kernel
theorem dX4_check_53 : decode cX4_check 53 = .ok (.iload_n 3, 1) := by decide +kernel
theorem dX4_check_54 : decode cX4_check 54 = .ok (.aload_n 0, 1) := by decide +kernel
theorem dX4_check_55 : decode cX4_check 55 = .ok (.getfield 25, 3) := by decide +kernel
theorem dX4_check_58 : decode cX4_check 58 = .ok (.iload_n 1, 1) := by decide +kernel
theorem dX4_check_59 : decode cX4_check 59 = .ok (.iaload, 1) := by decide +kernel
theorem dX4_check_60 : decode cX4_check 60 = .ok (.if_icmp .ge 53, 3) := by decide +kernel
theorem dX4_check_63 : decode cX4_check 63 = .ok (.aload_n 0, 1) := by decide +kernel
theorem dX4_check_64 : decode cX4_check 64 = .ok (.iload_n 1, 1) := by decide +kernel
theorem dX4_check_65 : decode cX4_check 65 = .ok (.iload_n 3, 1) := by decide +kernel
theorem dX4_check_66 : decode cX4_check 66 = .ok (.invokevirtual 67, 3) := by decide +kernel
theorem dX4_check_69 : decode cX4_check 69 = .ok (.istore 4, 2) := by decide +kernel
theorem dX4_check_71 : decode cX4_check 71 = .ok (.iload_n 2, 1) := by decide +kernel
theorem dX4_check_72 : decode cX4_check 72 = .ok (.aload_n 0, 1) := by decide +kernel
theorem dX4_check_73 : decode cX4_check 73 = .ok (.iload 4, 2) := by decide +kernel
theorem dX4_check_75 : decode cX4_check 75 = .ok (.invokevirtual 126, 3) := by decide +kernel
theorem dX4_check_78 : decode cX4_check 78 = .ok (.iconst (-1), 1) := by decide +kernel
theorem dX4_check_79 : decode cX4_check 79 = .ok (.if_icmp .eq 25, 3) := by decide +kernel
theorem dX4_check_82 : decode cX4_check 82 = .ok (.aload_n 0, 1) := by decide +kernel
theorem dX4_check_83 : decode cX4_check 83 = .ok (.iload 4, 2) := by decide +kernel
theorem dX4_check_85 : decode cX4_check 85 = .ok (.invokevirtual 126, 3) := by decide +kernel
theorem dX4_check_88 : decode cX4_check 88 = .ok (.aload_n 0, 1) := by decide +kernel
theorem dX4_check_89 : decode cX4_check 89 = .ok (.getfield 7, 3) := by decide +kernel
theorem dX4_check_92 : decode cX4_check 92 = .ok (.iconst 0, 1) := by decide +kernel
theorem dX4_check_93 : decode cX4_check 93 = .ok (.iload 4, 2) := by decide +kernel
theorem dX4_check_95 : decode cX4_check 95 = .ok (.iadd, 1) := by decide +kernel
theorem dX4_check_96 : decode cX4_check 96 = .ok (.iaload, 1) := by decide +kernel
theorem dX4_check_97 : decode cX4_check 97 = .ok (.if_icmp .eq 7, 3) := by decide +kernel
theorem dX4_check_100 : decode cX4_check 100 = .ok (.iconst 1, 1) := by decide +kernel
theorem dX4_check_101 : decode cX4_check 101 = .ok (.goto 4, 3) := by decide +kernel
theorem dX4_check_104 : decode cX4_check 104 = .ok (.iconst 0, 1) := by decide +kernel
theorem dX4_check_105 : decode cX4_check 105 = .ok (.iadd, 1) := by decide +kernel
theorem dX4_check_106 : decode cX4_check 106 = .ok (.istore_n 2, 1) := by decide +kernel
theorem dX4_check_107 : decode cX4_check 107 = .ok (.iinc 3 1, 3) := by decide +kernel
theorem dX4_check_110 : decode cX4_check 110 = .ok (.goto (-57), 3) := by decide +kernel
theorem dX4_check_113 : decode cX4_check 113 = .ok (.aload_n 0, 1) := by decide +kernel
theorem dX4_check_114 : decode cX4_check 114 = .ok (.iload_n 2, 1) := by decide +kernel
theorem dX4_check_115 : decode cX4_check 115 = .ok (.invokevirtual 108, 3) := by decide +kernel
theorem dX4_check_118 : decode cX4_check 118 = .ok (.ireturn, 1) := by decide +kernel
set_option maxRecDepth 20000 in
theorem ggX4_give_X4_in : GoodIn wsX4_give wsX4_in := goodIn_r _ [6] (by decide +kernel) (by decide +kernel)
set_option maxRecDepth 20000 in
theorem gX4_give_X4_in : GoodIn wsX4_give (va_wsS RX4 43 yX4_in wsX4_in) := goodIn_app (goodIn_of _ (by decide +kernel)) ggX4_give_X4_in
set_option maxRecDepth 20000 in
theorem ggX4_give_X4_remember : GoodIn wsX4_give wsX4_remember := goodIn_r _ [10, 11, 2, 18, 19, 20, 21, 22, 23, 24, 25, 26, 27, 28, 29] (by decide +kernel) (by decide +kernel)
set_option maxRecDepth 20000 in
theorem gX4_give_X4_remember : GoodIn wsX4_give (wsV RX4 105 RX4 yX4_remember wsX4_remember) := goodIn_app (goodIn_of _ (by decide +kernel)) ggX4_give_X4_remember
set_option maxRecDepth 20000 in
theorem ggX4_give_X4_acted : GoodIn wsX4_give wsX4_acted := goodIn_r _ [15, 16, 17, 11, 18, 19, 20, 21, 22, 23, 24, 25, 26, 27, 28, 29] (by decide +kernel) (by decide +kernel)
set_option maxRecDepth 20000 in
theorem gX4_give_X4_acted : GoodIn wsX4_give (wsV RX4 108 RX4 yX4_acted wsX4_acted) := goodIn_app (goodIn_of _ (by decide +kernel)) ggX4_give_X4_acted
theorem dX4_give_0 : decode cX4_give 0 = .ok (.iload_n 1, 1) := by decide +kernel
theorem dX4_give_1 : decode cX4_give 1 = .ok (.i2l, 1) := by decide +kernel
theorem dX4_give_2 : decode cX4_give 2 = .ok (.lconst 1, 1) := by decide +kernel
theorem dX4_give_3 : decode cX4_give 3 = .ok (.ldc2_w 147, 3) := by decide +kernel
theorem dX4_give_6 : decode cX4_give 6 = .ok (.invokestatic 43, 3) := by decide +kernel
theorem dX4_give_9 : decode cX4_give 9 = .ok (.ifCond .ne 6, 3) := by decide +kernel
theorem dX4_give_12 : decode cX4_give 12 = .ok (.bipush (-2), 2) := by decide +kernel
theorem dX4_give_14 : decode cX4_give 14 = .ok (.ireturn, 1) := by decide +kernel
theorem dX4_give_15 : decode cX4_give 15 = .ok (.aload_n 0, 1) := by decide +kernel
theorem dX4_give_16 : decode cX4_give 16 = .ok (.getfield 7, 3) := by decide +kernel
theorem dX4_give_19 : decode cX4_give 19 = .ok (.bipush 105, 2) := by decide +kernel
theorem dX4_give_21 : decode cX4_give 21 = .ok (.iaload, 1) := by decide +kernel
theorem dX4_give_22 : decode cX4_give 22 = .ok (.sipush 999, 3) := by decide +kernel
theorem dX4_give_25 : decode cX4_give 25 = .ok (.if_icmp .ne 6, 3) := by decide +kernel
theorem dX4_give_28 : decode cX4_give 28 = .ok (.bipush (-5), 2) := by decide +kernel
theorem dX4_give_30 : decode cX4_give 30 = .ok (.ireturn, 1) := by decide +kernel
theorem dX4_give_31 : decode cX4_give 31 = .ok (.aload_n 0, 1) := by decide +kernel
theorem dX4_give_32 : decode cX4_give 32 = .ok (.invokevirtual 105, 3) := by decide +kernel
theorem dX4_give_35 : decode cX4_give 35 = .ok (.aload_n 0, 1) := by decide +kernel
theorem dX4_give_36 : decode cX4_give 36 = .ok (.getfield 7, 3) := by decide +kernel
theorem dX4_give_39 : decode cX4_give 39 = .ok (.bipush 105, 2) := by decide +kernel
theorem dX4_give_41 : decode cX4_give 41 = .ok (.iaload, 1) := by decide +kernel
theorem dX4_give_42 : decode cX4_give 42 = .ok (.iload_n 1, 1) := by decide +kernel
theorem dX4_give_43 : decode cX4_give 43 = .ok (.iadd, 1) := by decide +kernel
theorem dX4_give_44 : decode cX4_give 44 = .ok (.istore_n 2, 1) := by decide +kernel
theorem dX4_give_45 : decode cX4_give 45 = .ok (.aload_n 0, 1) := by decide +kernel
theorem dX4_give_46 : decode cX4_give 46 = .ok (.getfield 7, 3) := by decide +kernel
theorem dX4_give_49 : decode cX4_give 49 = .ok (.bipush 105, 2) := by decide +kernel
theorem dX4_give_51 : decode cX4_give 51 = .ok (.iload_n 2, 1) := by decide +kernel
theorem dX4_give_52 : decode cX4_give 52 = .ok (.sipush 999, 3) := by decide +kernel
theorem dX4_give_55 : decode cX4_give 55 = .ok (.if_icmp .ge 7, 3) := by decide +kernel
theorem dX4_give_58 : decode cX4_give 58 = .ok (.iload_n 2, 1) := by decide +kernel
theorem dX4_give_59 : decode cX4_give 59 = .ok (.goto 6, 3) := by decide +kernel
theorem dX4_give_62 : decode cX4_give 62 = .ok (.sipush 999, 3) := by decide +kernel
theorem dX4_give_65 : decode cX4_give 65 = .ok (.iastore, 1) := by decide +kernel
theorem dX4_give_66 : decode cX4_give 66 = .ok (.aload_n 0, 1) := by decide +kernel
theorem dX4_give_67 : decode cX4_give 67 = .ok (.aload_n 0, 1) := by decide +kernel
theorem dX4_give_68 : decode cX4_give 68 = .ok (.getfield 7, 3) := by decide +kernel
theorem dX4_give_71 : decode cX4_give 71 = .ok (.bipush 105, 2) := by decide +kernel
theorem dX4_give_73 : decode cX4_give 73 = .ok (.iaload, 1) := by decide +kernel
theorem dX4_give_74 : decode cX4_give 74 = .ok (.invokevirtual 108, 3) := by decide +kernel
theorem dX4_give_77 : decode cX4_give 77 = .ok (.ireturn, 1) := by decide +kernel
theorem dX4_undo_0 : decode cX4_undo 0 = .ok (.aload_n 0, 1) := by decide +kernel
theorem dX4_undo_1 : decode cX4_undo 1 = .ok (.getfield 37, 3) := by decide +kernel
theorem dX4_undo_4 : decode cX4_undo 4 = .ok (.ifCond .ne 6, 3) := by decide +kernel
theorem dX4_undo_7 : decode cX4_undo 7 = .ok (.bipush (-5), 2) := by decide +kernel
theorem dX4_undo_9 : decode cX4_undo 9 = .ok (.ireturn, 1) := by decide +kernel
theorem dX4_undo_10 : decode cX4_undo 10 = .ok (.aload_n 0, 1) := by decide +kernel
theorem dX4_undo_11 : decode cX4_undo 11 = .ok (.dup, 1) := by decide +kernel
theorem dX4_undo_12 : decode cX4_undo 12 = .ok (.getfield 37, 3) := by decide +kernel
theorem dX4_undo_15 : decode cX4_undo 15 = .ok (.iconst 1, 1) := by decide +kernel
theorem dX4_undo_16 : decode cX4_undo 16 = .ok (.isub, 1) := by decide +kernel
theorem dX4_undo_17 : decode cX4_undo 17 = .ok (.putfield 37, 3) := by decide +kernel
theorem dX4_undo_20 : decode cX4_undo 20 = .ok (.iconst 0, 1) := by decide +kernel
theorem dX4_undo_21 : decode cX4_undo 21 = .ok (.istore_n 1, 1) := by decide +kernel
theorem dX4_undo_22 : decode cX4_undo 22 = .ok (.iload_n 1, 1) := by decide +kernel
theorem dX4_undo_23 : decode cX4_undo 23 = .ok (.sipush 205, 3) := by decide +kernel
theorem dX4_undo_26 : decode cX4_undo 26 = .ok (.if_icmp .ge 30, 3) := by decide +kernel
theorem dX4_undo_29 : decode cX4_undo 29 = .ok (.aload_n 0, 1) := by decide +kernel
theorem dX4_undo_30 : decode cX4_undo 30 = .ok (.getfield 7, 3) := by decide +kernel
theorem dX4_undo_33 : decode cX4_undo 33 = .ok (.iload_n 1, 1) := by decide +kernel
theorem dX4_undo_34 : decode cX4_undo 34 = .ok (.aload_n 0, 1) := by decide +kernel
theorem dX4_undo_35 : decode cX4_undo 35 = .ok (.getfield 16, 3) := by decide +kernel
theorem dX4_undo_38 : decode cX4_undo 38 = .ok (.sipush 205, 3) := by decide +kernel
theorem dX4_undo_41 : decode cX4_undo 41 = .ok (.aload_n 0, 1) := by decide +kernel
theorem dX4_undo_42 : decode cX4_undo 42 = .ok (.getfield 37, 3) := by decide +kernel
theorem dX4_undo_45 : decode cX4_undo 45 = .ok (.imul, 1) := by decide +kernel
theorem dX4_undo_46 : decode cX4_undo 46 = .ok (.iload_n 1, 1) := by decide +kernel
theorem dX4_undo_47 : decode cX4_undo 47 = .ok (.iadd, 1) := by decide +kernel
theorem dX4_undo_48 : decode cX4_undo 48 = .ok (.iaload, 1) := by decide +kernel
theorem dX4_undo_49 : decode cX4_undo 49 = .ok (.iastore, 1) := by decide +kernel
theorem dX4_undo_50 : decode cX4_undo 50 = .ok (.iinc 1 1, 3) := by decide +kernel
theorem dX4_undo_53 : decode cX4_undo 53 = .ok (.goto (-31), 3) := by decide +kernel
theorem dX4_undo_56 : decode cX4_undo 56 = .ok (.aload_n 0, 1) := by decide +kernel
theorem dX4_undo_57 : decode cX4_undo 57 = .ok (.getfield 37, 3) := by decide +kernel
theorem dX4_undo_60 : decode cX4_undo 60 = .ok (.ireturn, 1) := by decide +kernel
theorem dX4_keep_0 : decode cX4_keep 0 = .ok (.iconst 0, 1) := by decide +kernel
theorem dX4_keep_1 : decode cX4_keep 1 = .ok (.istore_n 1, 1) := by decide +kernel
theorem dX4_keep_2 : decode cX4_keep 2 = .ok (.iload_n 1, 1) := by decide +kernel
theorem dX4_keep_3 : decode cX4_keep 3 = .ok (.sipush 205, 3) := by decide +kernel
theorem dX4_keep_6 : decode cX4_keep 6 = .ok (.if_icmp .ge 21, 3) := by decide +kernel
theorem dX4_keep_9 : decode cX4_keep 9 = .ok (.aload_n 0, 1) := by decide +kernel
theorem dX4_keep_10 : decode cX4_keep 10 = .ok (.getfield 19, 3) := by decide +kernel
theorem dX4_keep_13 : decode cX4_keep 13 = .ok (.iload_n 1, 1) := by decide +kernel
theorem dX4_keep_14 : decode cX4_keep 14 = .ok (.aload_n 0, 1) := by decide +kernel
theorem dX4_keep_15 : decode cX4_keep 15 = .ok (.getfield 7, 3) := by decide +kernel
theorem dX4_keep_18 : decode cX4_keep 18 = .ok (.iload_n 1, 1) := by decide +kernel
theorem dX4_keep_19 : decode cX4_keep 19 = .ok (.iaload, 1) := by decide +kernel
theorem dX4_keep_20 : decode cX4_keep 20 = .ok (.iastore, 1) := by decide +kernel
theorem dX4_keep_21 : decode cX4_keep 21 = .ok (.iinc 1 1, 3) := by decide +kernel
theorem dX4_keep_24 : decode cX4_keep 24 = .ok (.goto (-22), 3) := by decide +kernel
theorem dX4_keep_27 : decode cX4_keep 27 = .ok (.aload_n 0, 1) := by decide +kernel
theorem dX4_keep_28 : decode cX4_keep 28 = .ok (.iconst 1, 1) := by decide +kernel
theorem dX4_keep_29 : decode cX4_keep 29 = .ok (.putfield 149, 3) := by decide +kernel
theorem dX4_keep_32 : decode cX4_keep 32 = .ok (.aload_n 0, 1) := by decide +kernel
theorem dX4_keep_33 : decode cX4_keep 33 = .ok (.getfield 7, 3) := by decide +kernel
theorem dX4_keep_36 : decode cX4_keep 36 = .ok (.bipush 105, 2) := by decide +kernel
theorem dX4_keep_38 : decode cX4_keep 38 = .ok (.iaload, 1) := by decide +kernel
theorem dX4_keep_39 : decode cX4_keep 39 = .ok (.ireturn, 1) := by decide +kernel
set_option maxRecDepth 20000 in
theorem ggX4_restore_X4_remember : GoodIn wsX4_restore wsX4_remember := goodIn_r _ [8, 9, 2, 16, 17, 18, 19, 20, 21, 22, 23, 24, 25, 26, 27] (by decide +kernel) (by decide +kernel)
set_option maxRecDepth 20000 in
theorem gX4_restore_X4_remember : GoodIn wsX4_restore (wsV RX4 105 RX4 yX4_remember wsX4_remember) := goodIn_app (goodIn_of _ (by decide +kernel)) ggX4_restore_X4_remember
set_option maxRecDepth 20000 in
theorem ggX4_restore_X4_acted : GoodIn wsX4_restore wsX4_acted := goodIn_r _ [13, 14, 15, 9, 16, 17, 18, 19, 20, 21, 22, 23, 24, 25, 26, 27] (by decide +kernel) (by decide +kernel)
set_option maxRecDepth 20000 in
theorem gX4_restore_X4_acted : GoodIn wsX4_restore (wsV RX4 108 RX4 yX4_acted wsX4_acted) := goodIn_app (goodIn_of _ (by decide +kernel)) ggX4_restore_X4_acted
theorem dX4_restore_0 : decode cX4_restore 0 = .ok (.aload_n 0, 1) := by decide +kernel
theorem dX4_restore_1 : decode cX4_restore 1 = .ok (.getfield 149, 3) := by decide +kernel
theorem dX4_restore_4 : decode cX4_restore 4 = .ok (.ifCond .ne 6, 3) := by decide +kernel
theorem dX4_restore_7 : decode cX4_restore 7 = .ok (.bipush (-5), 2) := by decide +kernel
theorem dX4_restore_9 : decode cX4_restore 9 = .ok (.ireturn, 1) := by decide +kernel
theorem dX4_restore_10 : decode cX4_restore 10 = .ok (.aload_n 0, 1) := by decide +kernel
theorem dX4_restore_11 : decode cX4_restore 11 = .ok (.invokevirtual 105, 3) := by decide +kernel
theorem dX4_restore_14 : decode cX4_restore 14 = .ok (.iconst 0, 1) := by decide +kernel
theorem dX4_restore_15 : decode cX4_restore 15 = .ok (.istore_n 1, 1) := by decide +kernel
theorem dX4_restore_16 : decode cX4_restore 16 = .ok (.iload_n 1, 1) := by decide +kernel
theorem dX4_restore_17 : decode cX4_restore 17 = .ok (.sipush 205, 3) := by decide +kernel
theorem dX4_restore_20 : decode cX4_restore 20 = .ok (.if_icmp .ge 21, 3) := by decide +kernel
theorem dX4_restore_23 : decode cX4_restore 23 = .ok (.aload_n 0, 1) := by decide +kernel
theorem dX4_restore_24 : decode cX4_restore 24 = .ok (.getfield 7, 3) := by decide +kernel
theorem dX4_restore_27 : decode cX4_restore 27 = .ok (.iload_n 1, 1) := by decide +kernel
theorem dX4_restore_28 : decode cX4_restore 28 = .ok (.aload_n 0, 1) := by decide +kernel
theorem dX4_restore_29 : decode cX4_restore 29 = .ok (.getfield 19, 3) := by decide +kernel
theorem dX4_restore_32 : decode cX4_restore 32 = .ok (.iload_n 1, 1) := by decide +kernel
theorem dX4_restore_33 : decode cX4_restore 33 = .ok (.iaload, 1) := by decide +kernel
theorem dX4_restore_34 : decode cX4_restore 34 = .ok (.iastore, 1) := by decide +kernel
theorem dX4_restore_35 : decode cX4_restore 35 = .ok (.iinc 1 1, 3) := by decide +kernel
theorem dX4_restore_38 : decode cX4_restore 38 = .ok (.goto (-22), 3) := by decide +kernel
theorem dX4_restore_41 : decode cX4_restore 41 = .ok (.aload_n 0, 1) := by decide +kernel
theorem dX4_restore_42 : decode cX4_restore 42 = .ok (.aload_n 0, 1) := by decide +kernel
theorem dX4_restore_43 : decode cX4_restore 43 = .ok (.getfield 7, 3) := by decide +kernel
theorem dX4_restore_46 : decode cX4_restore 46 = .ok (.bipush 105, 2) := by decide +kernel
theorem dX4_restore_48 : decode cX4_restore 48 = .ok (.iaload, 1) := by decide +kernel
theorem dX4_restore_49 : decode cX4_restore 49 = .ok (.invokevirtual 108, 3) := by decide +kernel
theorem dX4_restore_52 : decode cX4_restore 52 = .ok (.ireturn, 1) := by decide +kernel
set_option maxRecDepth 20000 in
theorem ggX4_cell_X4_in : GoodIn wsX4_cell wsX4_in := goodIn_r _ [5] (by decide +kernel) (by decide +kernel)
set_option maxRecDepth 20000 in
theorem gX4_cell_X4_in : GoodIn wsX4_cell (va_wsS RX4 43 yX4_in wsX4_in) := goodIn_app (goodIn_of _ (by decide +kernel)) ggX4_cell_X4_in
set_option maxRecDepth 20000 in
theorem ggX4_cell_X4_numberAt : GoodIn wsX4_cell wsX4_numberAt := goodIn_r _ [9, 10, 11, 12, 13, 4, 14, 42, 43, 44, 45, 46, 47, 48, 49, 50, 51, 52, 53] (by decide +kernel) (by decide +kernel)
set_option maxRecDepth 20000 in
theorem gX4_cell_X4_numberAt : GoodIn wsX4_cell (wsV RX4 51 RX4 yX4_numberAt wsX4_numberAt) := goodIn_app (goodIn_of _ (by decide +kernel)) ggX4_cell_X4_numberAt
set_option maxRecDepth 20000 in
theorem ggX4_cell_X4_guessAt : GoodIn wsX4_cell wsX4_guessAt := goodIn_r _ [18, 10, 6, 7, 8, 4, 9, 11, 12, 13, 14, 42, 43, 44, 45, 46, 47, 48, 49, 50, 51, 52, 53] (by decide +kernel) (by decide +kernel)
set_option maxRecDepth 20000 in
theorem gX4_cell_X4_guessAt : GoodIn wsX4_cell (wsV RX4 126 RX4 yX4_guessAt wsX4_guessAt) := goodIn_app (goodIn_of _ (by decide +kernel)) ggX4_cell_X4_guessAt
set_option maxRecDepth 20000 in
theorem ggX4_cell_X4_coded : GoodIn wsX4_cell wsX4_coded := goodIn_r _ [21] (by decide +kernel) (by decide +kernel)
set_option maxRecDepth 20000 in
theorem gX4_cell_X4_coded : GoodIn wsX4_cell (va_wsS RX4 152 yX4_coded wsX4_coded) := goodIn_app (goodIn_of _ (by decide +kernel)) ggX4_cell_X4_coded
set_option maxRecDepth 20000 in
theorem ggX4_cell_X4_wordAt : GoodIn wsX4_cell wsX4_wordAt := goodIn_r _ [25, 26, 27, 28, 29, 30, 31, 4, 32, 33, 34, 35, 36, 10, 37, 38, 39, 40, 41, 42, 43, 44, 45, 46, 47, 48, 49, 50, 51, 52, 53] (by decide +kernel) (by decide +kernel)
set_option maxRecDepth 20000 in
theorem gX4_cell_X4_wordAt : GoodIn wsX4_cell (wsV RX4 155 RX4 yX4_wordAt wsX4_wordAt) := goodIn_app (goodIn_of _ (by decide +kernel)) ggX4_cell_X4_wordAt
theorem dX4_cell_0 : decode cX4_cell 0 = .ok (.iload_n 1, 1) := by decide +kernel
theorem dX4_cell_1 : decode cX4_cell 1 = .ok (.i2l, 1) := by decide +kernel
theorem dX4_cell_2 : decode cX4_cell 2 = .ok (.lconst 0, 1) := by decide +kernel
theorem dX4_cell_3 : decode cX4_cell 3 = .ok (.ldc2_w 99, 3) := by decide +kernel
theorem dX4_cell_6 : decode cX4_cell 6 = .ok (.invokestatic 43, 3) := by decide +kernel
theorem dX4_cell_9 : decode cX4_cell 9 = .ok (.ifCond .eq 15, 3) := by decide +kernel
theorem dX4_cell_12 : decode cX4_cell 12 = .ok (.iload_n 2, 1) := by decide +kernel
theorem dX4_cell_13 : decode cX4_cell 13 = .ok (.i2l, 1) := by decide +kernel
theorem dX4_cell_14 : decode cX4_cell 14 = .ok (.lconst 0, 1) := by decide +kernel
theorem dX4_cell_15 : decode cX4_cell 15 = .ok (.ldc2_w 99, 3) := by decide +kernel
theorem dX4_cell_18 : decode cX4_cell 18 = .ok (.invokestatic 43, 3) := by decide +kernel
theorem dX4_cell_21 : decode cX4_cell 21 = .ok (.ifCond .ne 5, 3) := by decide +kernel
theorem dX4_cell_24 : decode cX4_cell 24 = .ok (.iconst (-1), 1) := by decide +kernel
theorem dX4_cell_25 : decode cX4_cell 25 = .ok (.ireturn, 1) := by decide +kernel
theorem dX4_cell_26 : decode cX4_cell 26 = .ok (.bipush 7, 2) := by decide +kernel
theorem dX4_cell_28 : decode cX4_cell 28 = .ok (.iload_n 1, 1) := by decide +kernel
theorem dX4_cell_29 : decode cX4_cell 29 = .ok (.imul, 1) := by decide +kernel
theorem dX4_cell_30 : decode cX4_cell 30 = .ok (.iload_n 2, 1) := by decide +kernel
theorem dX4_cell_31 : decode cX4_cell 31 = .ok (.iadd, 1) := by decide +kernel
theorem dX4_cell_32 : decode cX4_cell 32 = .ok (.istore 4, 2) := by decide +kernel
theorem dX4_cell_34 : decode cX4_cell 34 = .ok (.iload_n 3, 1) := by decide +kernel
theorem dX4_cell_35 : decode cX4_cell 35 = .ok (.tableswitch 63 0 3 #[29, 36, 46, 54], 29) := by decide +kernel
theorem dX4_cell_64 : decode cX4_cell 64 = .ok (.aload_n 0, 1) := by decide +kernel
theorem dX4_cell_65 : decode cX4_cell 65 = .ok (.iload 4, 2) := by decide +kernel
theorem dX4_cell_67 : decode cX4_cell 67 = .ok (.invokevirtual 51, 3) := by decide +kernel
theorem dX4_cell_70 : decode cX4_cell 70 = .ok (.ireturn, 1) := by decide +kernel
theorem dX4_cell_71 : decode cX4_cell 71 = .ok (.aload_n 0, 1) := by decide +kernel
theorem dX4_cell_72 : decode cX4_cell 72 = .ok (.iload 4, 2) := by decide +kernel
theorem dX4_cell_74 : decode cX4_cell 74 = .ok (.invokevirtual 126, 3) := by decide +kernel
theorem dX4_cell_77 : decode cX4_cell 77 = .ok (.invokestatic 152, 3) := by decide +kernel
theorem dX4_cell_80 : decode cX4_cell 80 = .ok (.ireturn, 1) := by decide +kernel
theorem dX4_cell_81 : decode cX4_cell 81 = .ok (.aload_n 0, 1) := by decide +kernel
theorem dX4_cell_82 : decode cX4_cell 82 = .ok (.iload 4, 2) := by decide +kernel
theorem dX4_cell_84 : decode cX4_cell 84 = .ok (.iconst 1, 1) := by decide +kernel
theorem dX4_cell_85 : decode cX4_cell 85 = .ok (.invokevirtual 155, 3) := by decide +kernel
theorem dX4_cell_88 : decode cX4_cell 88 = .ok (.ireturn, 1) := by decide +kernel
theorem dX4_cell_89 : decode cX4_cell 89 = .ok (.aload_n 0, 1) := by decide +kernel
theorem dX4_cell_90 : decode cX4_cell 90 = .ok (.iload 4, 2) := by decide +kernel
theorem dX4_cell_92 : decode cX4_cell 92 = .ok (.bipush 7, 2) := by decide +kernel
theorem dX4_cell_94 : decode cX4_cell 94 = .ok (.invokevirtual 155, 3) := by decide +kernel
theorem dX4_cell_97 : decode cX4_cell 97 = .ok (.ireturn, 1) := by decide +kernel
theorem dX4_cell_98 : decode cX4_cell 98 = .ok (.bipush (-2), 2) := by decide +kernel
theorem dX4_cell_100 : decode cX4_cell 100 = .ok (.ireturn, 1) := by decide +kernel
set_option maxRecDepth 20000 in
theorem ggX4_number_X4_isNumber : GoodIn wsX4_number wsX4_isNumber := goodIn_r _ [5, 6, 7, 8, 4, 9] (by decide +kernel) (by decide +kernel)
set_option maxRecDepth 20000 in
theorem gX4_number_X4_isNumber : GoodIn wsX4_number (va_wsS RX4 129 yX4_isNumber wsX4_isNumber) := goodIn_app (goodIn_of _ (by decide +kernel)) ggX4_number_X4_isNumber
set_option maxRecDepth 20000 in
theorem ggX4_number_X4_cellsWith : GoodIn wsX4_number wsX4_cellsWith := goodIn_r _ [13, 14, 15, 16, 4, 17, 1, 18, 19, 20, 21, 53, 54, 55, 56, 57, 58, 59, 60, 61, 62, 63, 64] (by decide +kernel) (by decide +kernel)
set_option maxRecDepth 20000 in
theorem gX4_number_X4_cellsWith : GoodIn wsX4_number (wsV RX4 54 RX4 yX4_cellsWith wsX4_cellsWith) := goodIn_app (goodIn_of _ (by decide +kernel)) ggX4_number_X4_cellsWith
set_option maxRecDepth 20000 in
theorem ggX4_number_X4_coded : GoodIn wsX4_number wsX4_coded := goodIn_r _ [24] (by decide +kernel) (by decide +kernel)
set_option maxRecDepth 20000 in
theorem gX4_number_X4_coded : GoodIn wsX4_number (va_wsS RX4 152 yX4_coded wsX4_coded) := goodIn_app (goodIn_of _ (by decide +kernel)) ggX4_number_X4_coded
set_option maxRecDepth 20000 in
theorem ggX4_number_X4_priceOf : GoodIn wsX4_number wsX4_priceOf := goodIn_r _ [28, 10, 11, 12, 4, 13, 14, 15, 16, 17, 1, 18, 19, 20, 21, 53, 54, 55, 56, 57, 58, 59, 60, 61, 62, 63, 64] (by decide +kernel) (by decide +kernel)
set_option maxRecDepth 20000 in
theorem gX4_number_X4_priceOf : GoodIn wsX4_number (wsV RX4 141 RX4 yX4_priceOf wsX4_priceOf) := goodIn_app (goodIn_of _ (by decide +kernel)) ggX4_number_X4_priceOf
set_option maxRecDepth 20000 in
theorem ggX4_number_X4_wordsWith : GoodIn wsX4_number wsX4_wordsWith := goodIn_r _ [32, 33, 34, 35, 36, 4, 37, 38, 39, 40, 41, 1, 42, 43, 44, 45, 46, 47, 48, 49, 50, 51, 52, 14, 15, 16, 17, 18, 19, 20, 21, 53, 54, 55, 56, 57, 58, 59, 60, 61, 62, 63, 64] (by decide +kernel) (by decide +kernel)
set_option maxRecDepth 20000 in
theorem gX4_number_X4_wordsWith : GoodIn wsX4_number (wsV RX4 158 RX4 yX4_wordsWith wsX4_wordsWith) := goodIn_app (goodIn_of _ (by decide +kernel)) ggX4_number_X4_wordsWith
theorem dX4_number_0 : decode cX4_number 0 = .ok (.iload_n 1, 1) := by decide +kernel
theorem dX4_number_1 : decode cX4_number 1 = .ok (.invokestatic 129, 3) := by decide +kernel
theorem dX4_number_4 : decode cX4_number 4 = .ok (.ifCond .ne 5, 3) := by decide +kernel
theorem dX4_number_7 : decode cX4_number 7 = .ok (.iconst (-1), 1) := by decide +kernel
theorem dX4_number_8 : decode cX4_number 8 = .ok (.ireturn, 1) := by decide +kernel
theorem dX4_number_9 : decode cX4_number 9 = .ok (.iload_n 2, 1) := by decide +kernel
theorem dX4_number_10 : decode cX4_number 10 = .ok (.tableswitch 75 0 4 #[34, 40, 53, 59, 69], 34) := by decide +kernel
theorem dX4_number_44 : decode cX4_number 44 = .ok (.aload_n 0, 1) := by decide +kernel
theorem dX4_number_45 : decode cX4_number 45 = .ok (.iload_n 1, 1) := by decide +kernel
theorem dX4_number_46 : decode cX4_number 46 = .ok (.invokevirtual 54, 3) := by decide +kernel
theorem dX4_number_49 : decode cX4_number 49 = .ok (.ireturn, 1) := by decide +kernel
theorem dX4_number_50 : decode cX4_number 50 = .ok (.aload_n 0, 1) := by decide +kernel
theorem dX4_number_51 : decode cX4_number 51 = .ok (.getfield 7, 3) := by decide +kernel
theorem dX4_number_54 : decode cX4_number 54 = .ok (.bipush 51, 2) := by decide +kernel
theorem dX4_number_56 : decode cX4_number 56 = .ok (.iload_n 1, 1) := by decide +kernel
theorem dX4_number_57 : decode cX4_number 57 = .ok (.iadd, 1) := by decide +kernel
theorem dX4_number_58 : decode cX4_number 58 = .ok (.iaload, 1) := by decide +kernel
theorem dX4_number_59 : decode cX4_number 59 = .ok (.invokestatic 152, 3) := by decide +kernel
theorem dX4_number_62 : decode cX4_number 62 = .ok (.ireturn, 1) := by decide +kernel
theorem dX4_number_63 : decode cX4_number 63 = .ok (.aload_n 0, 1) := by decide +kernel
theorem dX4_number_64 : decode cX4_number 64 = .ok (.iload_n 1, 1) := by decide +kernel
theorem dX4_number_65 : decode cX4_number 65 = .ok (.invokevirtual 141, 3) := by decide +kernel
theorem dX4_number_68 : decode cX4_number 68 = .ok (.ireturn, 1) := by decide +kernel
theorem dX4_number_69 : decode cX4_number 69 = .ok (.aload_n 0, 1) := by decide +kernel
theorem dX4_number_70 : decode cX4_number 70 = .ok (.getfield 7, 3) := by decide +kernel
theorem dX4_number_73 : decode cX4_number 73 = .ok (.bipush 78, 2) := by decide +kernel
theorem dX4_number_75 : decode cX4_number 75 = .ok (.iload_n 1, 1) := by decide +kernel
theorem dX4_number_76 : decode cX4_number 76 = .ok (.iadd, 1) := by decide +kernel
theorem dX4_number_77 : decode cX4_number 77 = .ok (.iaload, 1) := by decide +kernel
theorem dX4_number_78 : decode cX4_number 78 = .ok (.ireturn, 1) := by decide +kernel
theorem dX4_number_79 : decode cX4_number 79 = .ok (.aload_n 0, 1) := by decide +kernel
theorem dX4_number_80 : decode cX4_number 80 = .ok (.iload_n 1, 1) := by decide +kernel
theorem dX4_number_81 : decode cX4_number 81 = .ok (.invokevirtual 158, 3) := by decide +kernel
theorem dX4_number_84 : decode cX4_number 84 = .ok (.ireturn, 1) := by decide +kernel
theorem dX4_number_85 : decode cX4_number 85 = .ok (.bipush (-2), 2) := by decide +kernel
theorem dX4_number_87 : decode cX4_number 87 = .ok (.ireturn, 1) := by decide +kernel
set_option maxRecDepth 20000 in
theorem ggX4_guessedOf_X4_cellOf : GoodIn wsX4_guessedOf wsX4_cellOf := goodIn_r _ [6, 7, 8, 22, 23, 24, 25, 26, 27, 28, 29, 30, 31, 32, 33] (by decide +kernel) (by decide +kernel)
set_option maxRecDepth 20000 in
theorem gX4_guessedOf_X4_cellOf : GoodIn wsX4_guessedOf (wsV RX4 67 RX4 yX4_cellOf wsX4_cellOf) := goodIn_app (goodIn_of _ (by decide +kernel)) ggX4_guessedOf_X4_cellOf
set_option maxRecDepth 20000 in
theorem ggX4_guessedOf_X4_guessAt : GoodIn wsX4_guessedOf wsX4_guessAt := goodIn_r _ [12, 13, 14, 15, 16, 5, 17, 18, 19, 20, 21, 22, 23, 24, 25, 26, 27, 28, 29, 30, 31, 32, 33] (by decide +kernel) (by decide +kernel)
set_option maxRecDepth 20000 in
theorem gX4_guessedOf_X4_guessAt : GoodIn wsX4_guessedOf (wsV RX4 126 RX4 yX4_guessAt wsX4_guessAt) := goodIn_app (goodIn_of _ (by decide +kernel)) ggX4_guessedOf_X4_guessAt
theorem dX4_guessedOf_0 : decode cX4_guessedOf 0 = .ok (.iconst 0, 1) := by decide +kernel
theorem dX4_guessedOf_1 : decode cX4_guessedOf 1 = .ok (.istore_n 2, 1) := by decide +kernel
theorem dX4_guessedOf_2 : decode cX4_guessedOf 2 = .ok (.iconst 0, 1) := by decide +kernel
theorem dX4_guessedOf_3 : decode cX4_guessedOf 3 = .ok (.istore_n 3, 1) := by decide +kernel
theorem dX4_guessedOf_4 : decode cX4_guessedOf 4 = .ok (.iload_n 3, 1) := by decide +kernel
theorem dX4_guessedOf_5 : decode cX4_guessedOf 5 = .ok (.aload_n 0, 1) := by decide +kernel
theorem dX4_guessedOf_6 : decode cX4_guessedOf 6 = .ok (.getfield 25, 3) := by decide +kernel
theorem dX4_guessedOf_9 : decode cX4_guessedOf 9 = .ok (.iload_n 1, 1) := by decide +kernel
theorem dX4_guessedOf_10 : decode cX4_guessedOf 10 = .ok (.iaload, 1) := by decide +kernel
theorem dX4_guessedOf_11 : decode cX4_guessedOf 11 = .ok (.if_icmp .ge 31, 3) := by decide +kernel
theorem dX4_guessedOf_14 : decode cX4_guessedOf 14 = .ok (.iload_n 2, 1) := by decide +kernel
theorem dX4_guessedOf_15 : decode cX4_guessedOf 15 = .ok (.aload_n 0, 1) := by decide +kernel
theorem dX4_guessedOf_16 : decode cX4_guessedOf 16 = .ok (.aload_n 0, 1) := by decide +kernel
theorem dX4_guessedOf_17 : decode cX4_guessedOf 17 = .ok (.iload_n 1, 1) := by decide +kernel
theorem dX4_guessedOf_18 : decode cX4_guessedOf 18 = .ok (.iload_n 3, 1) := by decide +kernel
theorem dX4_guessedOf_19 : decode cX4_guessedOf 19 = .ok (.invokevirtual 67, 3) := by decide +kernel
theorem dX4_guessedOf_22 : decode cX4_guessedOf 22 = .ok (.invokevirtual 126, 3) := by decide +kernel
theorem dX4_guessedOf_25 : decode cX4_guessedOf 25 = .ok (.iconst (-1), 1) := by decide +kernel
theorem dX4_guessedOf_26 : decode cX4_guessedOf 26 = .ok (.if_icmp .eq 7, 3) := by decide +kernel
theorem dX4_guessedOf_29 : decode cX4_guessedOf 29 = .ok (.iconst 1, 1) := by decide +kernel
theorem dX4_guessedOf_30 : decode cX4_guessedOf 30 = .ok (.goto 4, 3) := by decide +kernel
theorem dX4_guessedOf_33 : decode cX4_guessedOf 33 = .ok (.iconst 0, 1) := by decide +kernel
theorem dX4_guessedOf_34 : decode cX4_guessedOf 34 = .ok (.iadd, 1) := by decide +kernel
theorem dX4_guessedOf_35 : decode cX4_guessedOf 35 = .ok (.istore_n 2, 1) := by decide +kernel
theorem dX4_guessedOf_36 : decode cX4_guessedOf 36 = .ok (.iinc 3 1, 3) := by decide +kernel
theorem dX4_guessedOf_39 : decode cX4_guessedOf 39 = .ok (.goto (-35), 3) := by decide +kernel
theorem dX4_guessedOf_42 : decode cX4_guessedOf 42 = .ok (.iload_n 2, 1) := by decide +kernel
theorem dX4_guessedOf_43 : decode cX4_guessedOf 43 = .ok (.ireturn, 1) := by decide +kernel
set_option maxRecDepth 20000 in
theorem ggX4_fitting_X4_isFit : GoodIn wsX4_fitting wsX4_isFit := goodIn_r _ [6, 7, 8, 9, 10, 5, 11, 1, 12, 13, 14, 15, 16, 17, 18, 19, 20, 21, 22, 23, 24, 25, 26, 27, 28, 29, 30, 31, 32, 33, 34, 35, 36, 37, 38, 39, 40, 41, 42, 43, 44, 45, 46, 47, 48, 49] (by decide +kernel) (by decide +kernel)
set_option maxRecDepth 20000 in
theorem gX4_fitting_X4_isFit : GoodIn wsX4_fitting (wsV RX4 138 RX4 yX4_isFit wsX4_isFit) := goodIn_app (goodIn_of _ (by decide +kernel)) ggX4_fitting_X4_isFit
theorem dX4_fitting_0 : decode cX4_fitting 0 = .ok (.iconst 0, 1) := by decide +kernel
theorem dX4_fitting_1 : decode cX4_fitting 1 = .ok (.istore_n 2, 1) := by decide +kernel
theorem dX4_fitting_2 : decode cX4_fitting 2 = .ok (.iconst 0, 1) := by decide +kernel
theorem dX4_fitting_3 : decode cX4_fitting 3 = .ok (.istore_n 3, 1) := by decide +kernel
theorem dX4_fitting_4 : decode cX4_fitting 4 = .ok (.iload_n 3, 1) := by decide +kernel
theorem dX4_fitting_5 : decode cX4_fitting 5 = .ok (.aload_n 0, 1) := by decide +kernel
theorem dX4_fitting_6 : decode cX4_fitting 6 = .ok (.getfield 7, 3) := by decide +kernel
theorem dX4_fitting_9 : decode cX4_fitting 9 = .ok (.bipush 106, 2) := by decide +kernel
theorem dX4_fitting_11 : decode cX4_fitting 11 = .ok (.iaload, 1) := by decide +kernel
theorem dX4_fitting_12 : decode cX4_fitting 12 = .ok (.if_icmp .ge 26, 3) := by decide +kernel
theorem dX4_fitting_15 : decode cX4_fitting 15 = .ok (.iload_n 2, 1) := by decide +kernel
theorem dX4_fitting_16 : decode cX4_fitting 16 = .ok (.aload_n 0, 1) := by decide +kernel
theorem dX4_fitting_17 : decode cX4_fitting 17 = .ok (.iload_n 1, 1) := by decide +kernel
theorem dX4_fitting_18 : decode cX4_fitting 18 = .ok (.iload_n 3, 1) := by decide +kernel
theorem dX4_fitting_19 : decode cX4_fitting 19 = .ok (.invokevirtual 138, 3) := by decide +kernel
theorem dX4_fitting_22 : decode cX4_fitting 22 = .ok (.ifCond .eq 7, 3) := by decide +kernel
theorem dX4_fitting_25 : decode cX4_fitting 25 = .ok (.iconst 1, 1) := by decide +kernel
theorem dX4_fitting_26 : decode cX4_fitting 26 = .ok (.goto 4, 3) := by decide +kernel
theorem dX4_fitting_29 : decode cX4_fitting 29 = .ok (.iconst 0, 1) := by decide +kernel
theorem dX4_fitting_30 : decode cX4_fitting 30 = .ok (.iadd, 1) := by decide +kernel
theorem dX4_fitting_31 : decode cX4_fitting 31 = .ok (.istore_n 2, 1) := by decide +kernel
theorem dX4_fitting_32 : decode cX4_fitting 32 = .ok (.iinc 3 1, 3) := by decide +kernel
theorem dX4_fitting_35 : decode cX4_fitting 35 = .ok (.goto (-31), 3) := by decide +kernel
theorem dX4_fitting_38 : decode cX4_fitting 38 = .ok (.iload_n 2, 1) := by decide +kernel
theorem dX4_fitting_39 : decode cX4_fitting 39 = .ok (.ireturn, 1) := by decide +kernel
set_option maxRecDepth 20000 in
theorem ggX4_firstFitting_X4_isFit : GoodIn wsX4_firstFitting wsX4_isFit := goodIn_r _ [6, 7, 8, 9, 10, 5, 11, 1, 12, 13, 14, 15, 16, 17, 18, 19, 20, 21, 22, 23, 24, 25, 26, 27, 28, 29, 30, 31, 32, 33, 34, 35, 36, 37, 38, 39, 40, 41, 42, 43, 44, 45, 46, 47, 48, 49] (by decide +kernel) (by decide +kernel)
set_option maxRecDepth 20000 in
theorem gX4_firstFitting_X4_isFit : GoodIn wsX4_firstFitting (wsV RX4 138 RX4 yX4_isFit wsX4_isFit) := goodIn_app (goodIn_of _ (by decide +kernel)) ggX4_firstFitting_X4_isFit
theorem dX4_firstFitting_0 : decode cX4_firstFitting 0 = .ok (.iconst 0, 1) := by decide +kernel
theorem dX4_firstFitting_1 : decode cX4_firstFitting 1 = .ok (.istore_n 2, 1) := by decide +kernel
theorem dX4_firstFitting_2 : decode cX4_firstFitting 2 = .ok (.iload_n 2, 1) := by decide +kernel
theorem dX4_firstFitting_3 : decode cX4_firstFitting 3 = .ok (.aload_n 0, 1) := by decide +kernel
theorem dX4_firstFitting_4 : decode cX4_firstFitting 4 = .ok (.getfield 7, 3) := by decide +kernel
theorem dX4_firstFitting_7 : decode cX4_firstFitting 7 = .ok (.bipush 106, 2) := by decide +kernel
theorem dX4_firstFitting_9 : decode cX4_firstFitting 9 = .ok (.iaload, 1) := by decide +kernel
theorem dX4_firstFitting_10 : decode cX4_firstFitting 10 = .ok (.if_icmp .ge 20, 3) := by decide +kernel
theorem dX4_firstFitting_13 : decode cX4_firstFitting 13 = .ok (.aload_n 0, 1) := by decide +kernel
theorem dX4_firstFitting_14 : decode cX4_firstFitting 14 = .ok (.iload_n 1, 1) := by decide +kernel
theorem dX4_firstFitting_15 : decode cX4_firstFitting 15 = .ok (.iload_n 2, 1) := by decide +kernel
theorem dX4_firstFitting_16 : decode cX4_firstFitting 16 = .ok (.invokevirtual 138, 3) := by decide +kernel
theorem dX4_firstFitting_19 : decode cX4_firstFitting 19 = .ok (.ifCond .eq 5, 3) := by decide +kernel
theorem dX4_firstFitting_22 : decode cX4_firstFitting 22 = .ok (.iload_n 2, 1) := by decide +kernel
theorem dX4_firstFitting_23 : decode cX4_firstFitting 23 = .ok (.ireturn, 1) := by decide +kernel
theorem dX4_firstFitting_24 : decode cX4_firstFitting 24 = .ok (.iinc 2 1, 3) := by decide +kernel
theorem dX4_firstFitting_27 : decode cX4_firstFitting 27 = .ok (.goto (-25), 3) := by decide +kernel
theorem dX4_firstFitting_30 : decode cX4_firstFitting 30 = .ok (.bipush (-5), 2) := by decide +kernel
theorem dX4_firstFitting_32 : decode cX4_firstFitting 32 = .ok (.ireturn, 1) := by decide +kernel
set_option maxRecDepth 20000 in
theorem ggX4_word_X4_isWord : GoodIn wsX4_word wsX4_isWord := goodIn_r _ [8, 9, 10, 11, 12, 7, 13, 14, 15, 16, 17, 18, 1, 2, 3, 19, 20, 21, 70, 71, 72, 73, 74, 75, 76, 77, 78, 79, 80, 81] (by decide +kernel) (by decide +kernel)
set_option maxRecDepth 20000 in
theorem gX4_word_X4_isWord : GoodIn wsX4_word (wsV RX4 135 RX4 yX4_isWord wsX4_isWord) := goodIn_app (goodIn_of _ (by decide +kernel)) ggX4_word_X4_isWord
set_option maxRecDepth 20000 in
theorem ggX4_word_X4_guessedOf : GoodIn wsX4_word wsX4_guessedOf := goodIn_r _ [25, 2, 26, 27, 28, 7, 29, 1, 3, 30, 31, 32, 33, 18, 34, 35, 36, 37, 38, 39, 40, 41, 70, 71, 72, 73, 74, 75, 76, 77, 78, 79, 80, 81] (by decide +kernel) (by decide +kernel)
set_option maxRecDepth 20000 in
theorem gX4_word_X4_guessedOf : GoodIn wsX4_word (wsV RX4 161 RX4 yX4_guessedOf wsX4_guessedOf) := goodIn_app (goodIn_of _ (by decide +kernel)) ggX4_word_X4_guessedOf
set_option maxRecDepth 20000 in
theorem ggX4_word_X4_fitting : GoodIn wsX4_word wsX4_fitting := goodIn_r _ [45, 18, 46, 47, 48, 7, 49, 2, 50, 51, 52, 53, 54, 55, 56, 57, 26, 27, 28, 29, 1, 3, 34, 35, 36, 37, 38, 39, 40, 41, 58, 59, 60, 61, 62, 63, 64, 65, 70, 71, 72, 73, 74, 75, 76, 77, 78, 79, 80, 81] (by decide +kernel) (by decide +kernel)
set_option maxRecDepth 20000 in
theorem gX4_word_X4_fitting : GoodIn wsX4_word (wsV RX4 164 RX4 yX4_fitting wsX4_fitting) := goodIn_app (goodIn_of _ (by decide +kernel)) ggX4_word_X4_fitting
set_option maxRecDepth 20000 in
theorem ggX4_word_X4_firstFitting : GoodIn wsX4_word wsX4_firstFitting := goodIn_r _ [69, 18, 46, 47, 48, 7, 49, 2, 50, 51, 52, 53, 54, 55, 56, 57, 26, 27, 28, 29, 1, 3, 34, 35, 36, 37, 38, 39, 40, 41, 58, 59, 60, 61, 62, 63, 64, 65, 70, 71, 72, 73, 74, 75, 76, 77, 78, 79, 80, 81] (by decide +kernel) (by decide +kernel)
set_option maxRecDepth 20000 in
theorem gX4_word_X4_firstFitting : GoodIn wsX4_word (wsV RX4 167 RX4 yX4_firstFitting wsX4_firstFitting) := goodIn_app (goodIn_of _ (by decide +kernel)) ggX4_word_X4_firstFitting
theorem dX4_word_0 : decode cX4_word 0 = .ok (.aload_n 0, 1) := by decide +kernel
theorem dX4_word_1 : decode cX4_word 1 = .ok (.iload_n 1, 1) := by decide +kernel
theorem dX4_word_2 : decode cX4_word 2 = .ok (.invokevirtual 135, 3) := by decide +kernel
theorem dX4_word_5 : decode cX4_word 5 = .ok (.ifCond .ne 5, 3) := by decide +kernel
theorem dX4_word_8 : decode cX4_word 8 = .ok (.iconst (-1), 1) := by decide +kernel
theorem dX4_word_9 : decode cX4_word 9 = .ok (.ireturn, 1) := by decide +kernel
theorem dX4_word_10 : decode cX4_word 10 = .ok (.iload_n 2, 1) := by decide +kernel
theorem dX4_word_11 : decode cX4_word 11 = .ok (.tableswitch 103 0 6 #[41, 51, 61, 68, 85, 91, 97], 41) := by decide +kernel
theorem dX4_word_52 : decode cX4_word 52 = .ok (.aload_n 0, 1) := by decide +kernel
theorem dX4_word_53 : decode cX4_word 53 = .ok (.getfield 22, 3) := by decide +kernel
theorem dX4_word_56 : decode cX4_word 56 = .ok (.iload_n 1, 1) := by decide +kernel
theorem dX4_word_57 : decode cX4_word 57 = .ok (.iaload, 1) := by decide +kernel
theorem dX4_word_58 : decode cX4_word 58 = .ok (.bipush 7, 2) := by decide +kernel
theorem dX4_word_60 : decode cX4_word 60 = .ok (.idiv, 1) := by decide +kernel
theorem dX4_word_61 : decode cX4_word 61 = .ok (.ireturn, 1) := by decide +kernel
theorem dX4_word_62 : decode cX4_word 62 = .ok (.aload_n 0, 1) := by decide +kernel
theorem dX4_word_63 : decode cX4_word 63 = .ok (.getfield 22, 3) := by decide +kernel
theorem dX4_word_66 : decode cX4_word 66 = .ok (.iload_n 1, 1) := by decide +kernel
theorem dX4_word_67 : decode cX4_word 67 = .ok (.iaload, 1) := by decide +kernel
theorem dX4_word_68 : decode cX4_word 68 = .ok (.bipush 7, 2) := by decide +kernel
theorem dX4_word_70 : decode cX4_word 70 = .ok (.irem, 1) := by decide +kernel
theorem dX4_word_71 : decode cX4_word 71 = .ok (.ireturn, 1) := by decide +kernel
theorem dX4_word_72 : decode cX4_word 72 = .ok (.aload_n 0, 1) := by decide +kernel
theorem dX4_word_73 : decode cX4_word 73 = .ok (.getfield 25, 3) := by decide +kernel
theorem dX4_word_76 : decode cX4_word 76 = .ok (.iload_n 1, 1) := by decide +kernel
theorem dX4_word_77 : decode cX4_word 77 = .ok (.iaload, 1) := by decide +kernel
theorem dX4_word_78 : decode cX4_word 78 = .ok (.ireturn, 1) := by decide +kernel
theorem dX4_word_79 : decode cX4_word 79 = .ok (.aload_n 0, 1) := by decide +kernel
theorem dX4_word_80 : decode cX4_word 80 = .ok (.getfield 28, 3) := by decide +kernel
theorem dX4_word_83 : decode cX4_word 83 = .ok (.iload_n 1, 1) := by decide +kernel
theorem dX4_word_84 : decode cX4_word 84 = .ok (.iaload, 1) := by decide +kernel
theorem dX4_word_85 : decode cX4_word 85 = .ok (.bipush 7, 2) := by decide +kernel
theorem dX4_word_87 : decode cX4_word 87 = .ok (.if_icmp .ne 7, 3) := by decide +kernel
theorem dX4_word_90 : decode cX4_word 90 = .ok (.iconst 1, 1) := by decide +kernel
theorem dX4_word_91 : decode cX4_word 91 = .ok (.goto 4, 3) := by decide +kernel
theorem dX4_word_94 : decode cX4_word 94 = .ok (.iconst 0, 1) := by decide +kernel
theorem dX4_word_95 : decode cX4_word 95 = .ok (.ireturn, 1) := by decide +kernel
theorem dX4_word_96 : decode cX4_word 96 = .ok (.aload_n 0, 1) := by decide +kernel
theorem dX4_word_97 : decode cX4_word 97 = .ok (.iload_n 1, 1) := by decide +kernel
theorem dX4_word_98 : decode cX4_word 98 = .ok (.invokevirtual 161, 3) := by decide +kernel
theorem dX4_word_101 : decode cX4_word 101 = .ok (.ireturn, 1) := by decide +kernel
theorem dX4_word_102 : decode cX4_word 102 = .ok (.aload_n 0, 1) := by decide +kernel
theorem dX4_word_103 : decode cX4_word 103 = .ok (.iload_n 1, 1) := by decide +kernel
theorem dX4_word_104 : decode cX4_word 104 = .ok (.invokevirtual 164, 3) := by decide +kernel
theorem dX4_word_107 : decode cX4_word 107 = .ok (.ireturn, 1) := by decide +kernel
theorem dX4_word_108 : decode cX4_word 108 = .ok (.aload_n 0, 1) := by decide +kernel
theorem dX4_word_109 : decode cX4_word 109 = .ok (.iload_n 1, 1) := by decide +kernel
theorem dX4_word_110 : decode cX4_word 110 = .ok (.invokevirtual 167, 3) := by decide +kernel
theorem dX4_word_113 : decode cX4_word 113 = .ok (.ireturn, 1) := by decide +kernel
theorem dX4_word_114 : decode cX4_word 114 = .ok (.bipush (-2), 2) := by decide +kernel
theorem dX4_word_116 : decode cX4_word 116 = .ok (.ireturn, 1) := by decide +kernel
set_option maxRecDepth 20000 in
theorem ggX4_fits_X4_isWord : GoodIn wsX4_fits wsX4_isWord := goodIn_r _ [5, 6, 7, 8, 9, 4, 10, 11, 12, 13, 14, 15, 16, 17, 18, 19, 20, 21, 58, 59, 60, 61, 62, 63, 64, 65, 66, 67, 68, 69] (by decide +kernel) (by decide +kernel)
set_option maxRecDepth 20000 in
theorem gX4_fits_X4_isWord : GoodIn wsX4_fits (wsV RX4 135 RX4 yX4_isWord wsX4_isWord) := goodIn_app (goodIn_of _ (by decide +kernel)) ggX4_fits_X4_isWord
set_option maxRecDepth 20000 in
theorem ggX4_fits_X4_isListed : GoodIn wsX4_fits wsX4_isListed := goodIn_r _ [25, 15, 19, 20, 4, 21, 58, 59, 60, 61, 62, 63, 64, 65, 66, 67, 68, 69] (by decide +kernel) (by decide +kernel)
set_option maxRecDepth 20000 in
theorem gX4_fits_X4_isListed : GoodIn wsX4_fits (wsV RX4 123 RX4 yX4_isListed wsX4_isListed) := goodIn_app (goodIn_of _ (by decide +kernel)) ggX4_fits_X4_isListed
set_option maxRecDepth 20000 in
theorem ggX4_fits_X4_isFit : GoodIn wsX4_fits wsX4_isFit := goodIn_r _ [29, 17, 30, 31, 32, 4, 33, 15, 34, 35, 36, 37, 38, 39, 40, 41, 16, 18, 42, 43, 44, 45, 46, 47, 48, 49, 50, 51, 52, 53, 54, 55, 56, 57, 58, 59, 60, 61, 62, 63, 64, 65, 66, 67, 68, 69] (by decide +kernel) (by decide +kernel)
set_option maxRecDepth 20000 in
theorem gX4_fits_X4_isFit : GoodIn wsX4_fits (wsV RX4 138 RX4 yX4_isFit wsX4_isFit) := goodIn_app (goodIn_of _ (by decide +kernel)) ggX4_fits_X4_isFit
theorem dX4_fits_0 : decode cX4_fits 0 = .ok (.aload_n 0, 1) := by decide +kernel
theorem dX4_fits_1 : decode cX4_fits 1 = .ok (.iload_n 1, 1) := by decide +kernel
theorem dX4_fits_2 : decode cX4_fits 2 = .ok (.invokevirtual 135, 3) := by decide +kernel
theorem dX4_fits_5 : decode cX4_fits 5 = .ok (.ifCond .eq 11, 3) := by decide +kernel
theorem dX4_fits_8 : decode cX4_fits 8 = .ok (.aload_n 0, 1) := by decide +kernel
theorem dX4_fits_9 : decode cX4_fits 9 = .ok (.iload_n 2, 1) := by decide +kernel
theorem dX4_fits_10 : decode cX4_fits 10 = .ok (.invokevirtual 123, 3) := by decide +kernel
theorem dX4_fits_13 : decode cX4_fits 13 = .ok (.ifCond .ne 5, 3) := by decide +kernel
theorem dX4_fits_16 : decode cX4_fits 16 = .ok (.iconst (-1), 1) := by decide +kernel
theorem dX4_fits_17 : decode cX4_fits 17 = .ok (.ireturn, 1) := by decide +kernel
theorem dX4_fits_18 : decode cX4_fits 18 = .ok (.aload_n 0, 1) := by decide +kernel
theorem dX4_fits_19 : decode cX4_fits 19 = .ok (.iload_n 1, 1) := by decide +kernel
theorem dX4_fits_20 : decode cX4_fits 20 = .ok (.iload_n 2, 1) := by decide +kernel
theorem dX4_fits_21 : decode cX4_fits 21 = .ok (.invokevirtual 138, 3) := by decide +kernel
theorem dX4_fits_24 : decode cX4_fits 24 = .ok (.ifCond .eq 7, 3) := by decide +kernel
theorem dX4_fits_27 : decode cX4_fits 27 = .ok (.iconst 1, 1) := by decide +kernel
theorem dX4_fits_28 : decode cX4_fits 28 = .ok (.goto 4, 3) := by decide +kernel
theorem dX4_fits_31 : decode cX4_fits 31 = .ok (.iconst 0, 1) := by decide +kernel
theorem dX4_fits_32 : decode cX4_fits 32 = .ok (.ireturn, 1) := by decide +kernel
set_option maxRecDepth 20000 in
theorem ggX4_firstFitted_X4_isFit : GoodIn wsX4_firstFitted wsX4_isFit := goodIn_r _ [6, 7, 8, 9, 10, 5, 11, 12, 13, 14, 15, 16, 17, 18, 19, 20, 21, 22, 23, 24, 25, 26, 27, 28, 29, 30, 31, 32, 33, 34, 35, 36, 37, 38, 39, 40, 41, 42, 43, 44, 45, 46, 47, 48, 49, 50] (by decide +kernel) (by decide +kernel)
set_option maxRecDepth 20000 in
theorem gX4_firstFitted_X4_isFit : GoodIn wsX4_firstFitted (wsV RX4 138 RX4 yX4_isFit wsX4_isFit) := goodIn_app (goodIn_of _ (by decide +kernel)) ggX4_firstFitted_X4_isFit
theorem dX4_firstFitted_0 : decode cX4_firstFitted 0 = .ok (.iconst 0, 1) := by decide +kernel
theorem dX4_firstFitted_1 : decode cX4_firstFitted 1 = .ok (.istore_n 2, 1) := by decide +kernel
theorem dX4_firstFitted_2 : decode cX4_firstFitted 2 = .ok (.iload_n 2, 1) := by decide +kernel
theorem dX4_firstFitted_3 : decode cX4_firstFitted 3 = .ok (.aload_n 0, 1) := by decide +kernel
theorem dX4_firstFitted_4 : decode cX4_firstFitted 4 = .ok (.getfield 57, 3) := by decide +kernel
theorem dX4_firstFitted_7 : decode cX4_firstFitted 7 = .ok (.if_icmp .ge 20, 3) := by decide +kernel
theorem dX4_firstFitted_10 : decode cX4_firstFitted 10 = .ok (.aload_n 0, 1) := by decide +kernel
theorem dX4_firstFitted_11 : decode cX4_firstFitted 11 = .ok (.iload_n 2, 1) := by decide +kernel
theorem dX4_firstFitted_12 : decode cX4_firstFitted 12 = .ok (.iload_n 1, 1) := by decide +kernel
theorem dX4_firstFitted_13 : decode cX4_firstFitted 13 = .ok (.invokevirtual 138, 3) := by decide +kernel
theorem dX4_firstFitted_16 : decode cX4_firstFitted 16 = .ok (.ifCond .eq 5, 3) := by decide +kernel
theorem dX4_firstFitted_19 : decode cX4_firstFitted 19 = .ok (.iload_n 2, 1) := by decide +kernel
theorem dX4_firstFitted_20 : decode cX4_firstFitted 20 = .ok (.ireturn, 1) := by decide +kernel
theorem dX4_firstFitted_21 : decode cX4_firstFitted 21 = .ok (.iinc 2 1, 3) := by decide +kernel
theorem dX4_firstFitted_24 : decode cX4_firstFitted 24 = .ok (.goto (-22), 3) := by decide +kernel
theorem dX4_firstFitted_27 : decode cX4_firstFitted 27 = .ok (.bipush (-5), 2) := by decide +kernel
theorem dX4_firstFitted_29 : decode cX4_firstFitted 29 = .ok (.ireturn, 1) := by decide +kernel
set_option maxRecDepth 20000 in
theorem ggX4_fitted_X4_isFit : GoodIn wsX4_fitted wsX4_isFit := goodIn_r _ [6, 7, 8, 9, 10, 5, 11, 12, 13, 14, 15, 16, 17, 18, 19, 20, 21, 22, 23, 24, 25, 26, 27, 28, 29, 30, 31, 32, 33, 34, 35, 36, 37, 38, 39, 40, 41, 42, 43, 44, 45, 46, 47, 48, 49, 50] (by decide +kernel) (by decide +kernel)
set_option maxRecDepth 20000 in
theorem gX4_fitted_X4_isFit : GoodIn wsX4_fitted (wsV RX4 138 RX4 yX4_isFit wsX4_isFit) := goodIn_app (goodIn_of _ (by decide +kernel)) ggX4_fitted_X4_isFit
theorem dX4_fitted_0 : decode cX4_fitted 0 = .ok (.iconst 0, 1) := by decide +kernel
theorem dX4_fitted_1 : decode cX4_fitted 1 = .ok (.istore_n 2, 1) := by decide +kernel
theorem dX4_fitted_2 : decode cX4_fitted 2 = .ok (.iconst 0, 1) := by decide +kernel
theorem dX4_fitted_3 : decode cX4_fitted 3 = .ok (.istore_n 3, 1) := by decide +kernel
theorem dX4_fitted_4 : decode cX4_fitted 4 = .ok (.iload_n 3, 1) := by decide +kernel
theorem dX4_fitted_5 : decode cX4_fitted 5 = .ok (.aload_n 0, 1) := by decide +kernel
theorem dX4_fitted_6 : decode cX4_fitted 6 = .ok (.getfield 57, 3) := by decide +kernel
theorem dX4_fitted_9 : decode cX4_fitted 9 = .ok (.if_icmp .ge 26, 3) := by decide +kernel
theorem dX4_fitted_12 : decode cX4_fitted 12 = .ok (.iload_n 2, 1) := by decide +kernel
theorem dX4_fitted_13 : decode cX4_fitted 13 = .ok (.aload_n 0, 1) := by decide +kernel
theorem dX4_fitted_14 : decode cX4_fitted 14 = .ok (.iload_n 3, 1) := by decide +kernel
theorem dX4_fitted_15 : decode cX4_fitted 15 = .ok (.iload_n 1, 1) := by decide +kernel
theorem dX4_fitted_16 : decode cX4_fitted 16 = .ok (.invokevirtual 138, 3) := by decide +kernel
theorem dX4_fitted_19 : decode cX4_fitted 19 = .ok (.ifCond .eq 7, 3) := by decide +kernel
theorem dX4_fitted_22 : decode cX4_fitted 22 = .ok (.iconst 1, 1) := by decide +kernel
theorem dX4_fitted_23 : decode cX4_fitted 23 = .ok (.goto 4, 3) := by decide +kernel
theorem dX4_fitted_26 : decode cX4_fitted 26 = .ok (.iconst 0, 1) := by decide +kernel
theorem dX4_fitted_27 : decode cX4_fitted 27 = .ok (.iadd, 1) := by decide +kernel
theorem dX4_fitted_28 : decode cX4_fitted 28 = .ok (.istore_n 2, 1) := by decide +kernel
theorem dX4_fitted_29 : decode cX4_fitted 29 = .ok (.iinc 3 1, 3) := by decide +kernel
theorem dX4_fitted_32 : decode cX4_fitted 32 = .ok (.goto (-28), 3) := by decide +kernel
theorem dX4_fitted_35 : decode cX4_fitted 35 = .ok (.iload_n 2, 1) := by decide +kernel
theorem dX4_fitted_36 : decode cX4_fitted 36 = .ok (.ireturn, 1) := by decide +kernel
set_option maxRecDepth 20000 in
theorem ggX4_worth_X4_hasNumber : GoodIn wsX4_worth wsX4_hasNumber := goodIn_r _ [6, 7, 8, 9, 10, 5, 11, 12, 13, 14, 15, 16, 17, 1, 18, 19, 20, 21, 30, 31, 32, 33, 34, 35, 36, 37, 38, 39, 40, 41] (by decide +kernel) (by decide +kernel)
set_option maxRecDepth 20000 in
theorem gX4_worth_X4_hasNumber : GoodIn wsX4_worth (wsV RX4 71 RX4 yX4_hasNumber wsX4_hasNumber) := goodIn_app (goodIn_of _ (by decide +kernel)) ggX4_worth_X4_hasNumber
set_option maxRecDepth 20000 in
theorem ggX4_worth_X4_priceOf : GoodIn wsX4_worth wsX4_priceOf := goodIn_r _ [25, 26, 27, 28, 5, 29, 14, 15, 16, 17, 1, 18, 19, 20, 21, 30, 31, 32, 33, 34, 35, 36, 37, 38, 39, 40, 41] (by decide +kernel) (by decide +kernel)
set_option maxRecDepth 20000 in
theorem gX4_worth_X4_priceOf : GoodIn wsX4_worth (wsV RX4 141 RX4 yX4_priceOf wsX4_priceOf) := goodIn_app (goodIn_of _ (by decide +kernel)) ggX4_worth_X4_priceOf
theorem dX4_worth_0 : decode cX4_worth 0 = .ok (.iconst 0, 1) := by decide +kernel
theorem dX4_worth_1 : decode cX4_worth 1 = .ok (.istore_n 2, 1) := by decide +kernel
theorem dX4_worth_2 : decode cX4_worth 2 = .ok (.iconst 1, 1) := by decide +kernel
theorem dX4_worth_3 : decode cX4_worth 3 = .ok (.istore_n 3, 1) := by decide +kernel
theorem dX4_worth_4 : decode cX4_worth 4 = .ok (.iload_n 3, 1) := by decide +kernel
theorem dX4_worth_5 : decode cX4_worth 5 = .ok (.bipush 26, 2) := by decide +kernel
theorem dX4_worth_7 : decode cX4_worth 7 = .ok (.if_icmp .gt 43, 3) := by decide +kernel
theorem dX4_worth_10 : decode cX4_worth 10 = .ok (.iload_n 2, 1) := by decide +kernel
theorem dX4_worth_11 : decode cX4_worth 11 = .ok (.aload_n 0, 1) := by decide +kernel
theorem dX4_worth_12 : decode cX4_worth 12 = .ok (.getfield 7, 3) := by decide +kernel
theorem dX4_worth_15 : decode cX4_worth 15 = .ok (.bipush 51, 2) := by decide +kernel
theorem dX4_worth_17 : decode cX4_worth 17 = .ok (.iload_n 3, 1) := by decide +kernel
theorem dX4_worth_18 : decode cX4_worth 18 = .ok (.iadd, 1) := by decide +kernel
theorem dX4_worth_19 : decode cX4_worth 19 = .ok (.iaload, 1) := by decide +kernel
