theorem dX3_agreesWithEarlier_55 : decode cX3_agreesWithEarlier 55 = .ok (.iconst 0, 1) := by decide +kernel
theorem dX3_agreesWithEarlier_56 : decode cX3_agreesWithEarlier 56 = .ok (.istore 6, 2) := by decide +kernel
theorem dX3_agreesWithEarlier_58 : decode cX3_agreesWithEarlier 58 = .ok (.aload_n 0, 1) := by decide +kernel
theorem dX3_agreesWithEarlier_59 : decode cX3_agreesWithEarlier 59 = .ok (.getfield 12, 3) := by decide +kernel
theorem dX3_agreesWithEarlier_62 : decode cX3_agreesWithEarlier 62 = .ok (.iload_n 2, 1) := by decide +kernel
theorem dX3_agreesWithEarlier_63 : decode cX3_agreesWithEarlier 63 = .ok (.iload 5, 2) := by decide +kernel
theorem dX3_agreesWithEarlier_65 : decode cX3_agreesWithEarlier 65 = .ok (.invokevirtual 146, 3) := by decide +kernel
theorem dX3_agreesWithEarlier_68 : decode cX3_agreesWithEarlier 68 = .ok (.aload_n 0, 1) := by decide +kernel
theorem dX3_agreesWithEarlier_69 : decode cX3_agreesWithEarlier 69 = .ok (.getfield 12, 3) := by decide +kernel
theorem dX3_agreesWithEarlier_72 : decode cX3_agreesWithEarlier 72 = .ok (.iload_n 2, 1) := by decide +kernel
theorem dX3_agreesWithEarlier_73 : decode cX3_agreesWithEarlier 73 = .ok (.iload_n 3, 1) := by decide +kernel
theorem dX3_agreesWithEarlier_74 : decode cX3_agreesWithEarlier 74 = .ok (.invokevirtual 146, 3) := by decide +kernel
theorem dX3_agreesWithEarlier_77 : decode cX3_agreesWithEarlier 77 = .ok (.if_icmp .ne 7, 3) := by decide +kernel
theorem dX3_agreesWithEarlier_80 : decode cX3_agreesWithEarlier 80 = .ok (.iconst 1, 1) := by decide +kernel
theorem dX3_agreesWithEarlier_81 : decode cX3_agreesWithEarlier 81 = .ok (.goto 4, 3) := by decide +kernel
theorem dX3_agreesWithEarlier_84 : decode cX3_agreesWithEarlier 84 = .ok (.iconst 0, 1) := by decide +kernel
theorem dX3_agreesWithEarlier_85 : decode cX3_agreesWithEarlier 85 = .ok (.istore 7, 2) := by decide +kernel
theorem dX3_agreesWithEarlier_87 : decode cX3_agreesWithEarlier 87 = .ok (.iload 6, 2) := by decide +kernel
theorem dX3_agreesWithEarlier_89 : decode cX3_agreesWithEarlier 89 = .ok (.iload 7, 2) := by decide +kernel
theorem dX3_agreesWithEarlier_91 : decode cX3_agreesWithEarlier 91 = .ok (.if_icmp .eq 5, 3) := by decide +kernel
theorem dX3_agreesWithEarlier_94 : decode cX3_agreesWithEarlier 94 = .ok (.iconst 0, 1) := by decide +kernel
theorem dX3_agreesWithEarlier_95 : decode cX3_agreesWithEarlier 95 = .ok (.ireturn, 1) := by decide +kernel
theorem dX3_agreesWithEarlier_96 : decode cX3_agreesWithEarlier 96 = .ok (.iinc 5 1, 3) := by decide +kernel
theorem dX3_agreesWithEarlier_99 : decode cX3_agreesWithEarlier 99 = .ok (.goto (-77), 3) := by decide +kernel
theorem dX3_agreesWithEarlier_102 : decode cX3_agreesWithEarlier 102 = .ok (.iconst 1, 1) := by decide +kernel
theorem dX3_agreesWithEarlier_103 : decode cX3_agreesWithEarlier 103 = .ok (.ireturn, 1) := by decide +kernel
set_option maxRecDepth 20000 in
theorem ggX3_listedThatFit_X3_isFitting : GoodIn wsX3_listedThatFit wsX3_isFitting := goodIn_r _ [7, 8, 9, 1, 10, 11, 12, 13, 14, 15, 16, 17, 18, 19, 6, 20, 21, 22, 23, 24, 25, 26, 27, 28, 29, 30, 31, 32, 33, 34, 35, 36, 37, 38, 39, 40, 41, 42, 43, 44, 45, 46, 47, 48, 49, 50, 51, 52, 53, 54, 55, 56, 57, 58, 59, 60, 61, 62, 63, 64, 65, 66, 67, 79, 80, 81, 82, 68, 69, 70, 71, 72, 73, 74, 75, 76, 77, 78] (by decide +kernel) (by decide +kernel)
set_option maxRecDepth 20000 in
theorem gX3_listedThatFit_X3_isFitting : GoodIn wsX3_listedThatFit (wsV RX3 130 RX3 yX3_isFitting wsX3_isFitting) := goodIn_app (goodIn_of _ (by decide +kernel)) ggX3_listedThatFit_X3_isFitting
theorem dX3_listedThatFit_0 : decode cX3_listedThatFit 0 = .ok (.iconst 0, 1) := by decide +kernel
theorem dX3_listedThatFit_1 : decode cX3_listedThatFit 1 = .ok (.istore_n 2, 1) := by decide +kernel
theorem dX3_listedThatFit_2 : decode cX3_listedThatFit 2 = .ok (.iconst 0, 1) := by decide +kernel
theorem dX3_listedThatFit_3 : decode cX3_listedThatFit 3 = .ok (.istore_n 3, 1) := by decide +kernel
theorem dX3_listedThatFit_4 : decode cX3_listedThatFit 4 = .ok (.iload_n 3, 1) := by decide +kernel
theorem dX3_listedThatFit_5 : decode cX3_listedThatFit 5 = .ok (.aload_n 0, 1) := by decide +kernel
theorem dX3_listedThatFit_6 : decode cX3_listedThatFit 6 = .ok (.getfield 12, 3) := by decide +kernel
theorem dX3_listedThatFit_9 : decode cX3_listedThatFit 9 = .ok (.getfield 85, 3) := by decide +kernel
theorem dX3_listedThatFit_12 : decode cX3_listedThatFit 12 = .ok (.if_icmp .ge 21, 3) := by decide +kernel
theorem dX3_listedThatFit_15 : decode cX3_listedThatFit 15 = .ok (.aload_n 0, 1) := by decide +kernel
theorem dX3_listedThatFit_16 : decode cX3_listedThatFit 16 = .ok (.iload_n 1, 1) := by decide +kernel
theorem dX3_listedThatFit_17 : decode cX3_listedThatFit 17 = .ok (.iload_n 3, 1) := by decide +kernel
theorem dX3_listedThatFit_18 : decode cX3_listedThatFit 18 = .ok (.invokevirtual 130, 3) := by decide +kernel
theorem dX3_listedThatFit_21 : decode cX3_listedThatFit 21 = .ok (.ifCond .eq 6, 3) := by decide +kernel
theorem dX3_listedThatFit_24 : decode cX3_listedThatFit 24 = .ok (.iinc 2 1, 3) := by decide +kernel
theorem dX3_listedThatFit_27 : decode cX3_listedThatFit 27 = .ok (.iinc 3 1, 3) := by decide +kernel
theorem dX3_listedThatFit_30 : decode cX3_listedThatFit 30 = .ok (.goto (-26), 3) := by decide +kernel
theorem dX3_listedThatFit_33 : decode cX3_listedThatFit 33 = .ok (.iload_n 2, 1) := by decide +kernel
theorem dX3_listedThatFit_34 : decode cX3_listedThatFit 34 = .ok (.ireturn, 1) := by decide +kernel
set_option maxRecDepth 20000 in
theorem ggX3_firstListedThatFits_X3_isFitting : GoodIn wsX3_firstListedThatFits wsX3_isFitting := goodIn_r _ [7, 8, 9, 1, 10, 11, 12, 13, 14, 15, 16, 17, 18, 19, 6, 20, 21, 22, 23, 24, 25, 26, 27, 28, 29, 30, 31, 32, 33, 34, 35, 36, 37, 38, 39, 40, 41, 42, 43, 44, 45, 46, 47, 48, 49, 50, 51, 52, 53, 54, 55, 56, 57, 58, 59, 60, 61, 62, 63, 64, 65, 66, 67, 79, 80, 81, 82, 68, 69, 70, 71, 72, 73, 74, 75, 76, 77, 78] (by decide +kernel) (by decide +kernel)
set_option maxRecDepth 20000 in
theorem gX3_firstListedThatFits_X3_isFitting : GoodIn wsX3_firstListedThatFits (wsV RX3 130 RX3 yX3_isFitting wsX3_isFitting) := goodIn_app (goodIn_of _ (by decide +kernel)) ggX3_firstListedThatFits_X3_isFitting
theorem dX3_firstListedThatFits_0 : decode cX3_firstListedThatFits 0 = .ok (.iconst 0, 1) := by decide +kernel
theorem dX3_firstListedThatFits_1 : decode cX3_firstListedThatFits 1 = .ok (.istore_n 2, 1) := by decide +kernel
theorem dX3_firstListedThatFits_2 : decode cX3_firstListedThatFits 2 = .ok (.iload_n 2, 1) := by decide +kernel
theorem dX3_firstListedThatFits_3 : decode cX3_firstListedThatFits 3 = .ok (.aload_n 0, 1) := by decide +kernel
theorem dX3_firstListedThatFits_4 : decode cX3_firstListedThatFits 4 = .ok (.getfield 12, 3) := by decide +kernel
theorem dX3_firstListedThatFits_7 : decode cX3_firstListedThatFits 7 = .ok (.getfield 85, 3) := by decide +kernel
theorem dX3_firstListedThatFits_10 : decode cX3_firstListedThatFits 10 = .ok (.if_icmp .ge 20, 3) := by decide +kernel
theorem dX3_firstListedThatFits_13 : decode cX3_firstListedThatFits 13 = .ok (.aload_n 0, 1) := by decide +kernel
theorem dX3_firstListedThatFits_14 : decode cX3_firstListedThatFits 14 = .ok (.iload_n 1, 1) := by decide +kernel
theorem dX3_firstListedThatFits_15 : decode cX3_firstListedThatFits 15 = .ok (.iload_n 2, 1) := by decide +kernel
theorem dX3_firstListedThatFits_16 : decode cX3_firstListedThatFits 16 = .ok (.invokevirtual 130, 3) := by decide +kernel
theorem dX3_firstListedThatFits_19 : decode cX3_firstListedThatFits 19 = .ok (.ifCond .eq 5, 3) := by decide +kernel
theorem dX3_firstListedThatFits_22 : decode cX3_firstListedThatFits 22 = .ok (.iload_n 2, 1) := by decide +kernel
theorem dX3_firstListedThatFits_23 : decode cX3_firstListedThatFits 23 = .ok (.ireturn, 1) := by decide +kernel
theorem dX3_firstListedThatFits_24 : decode cX3_firstListedThatFits 24 = .ok (.iinc 2 1, 3) := by decide +kernel
theorem dX3_firstListedThatFits_27 : decode cX3_firstListedThatFits 27 = .ok (.goto (-25), 3) := by decide +kernel
theorem dX3_firstListedThatFits_30 : decode cX3_firstListedThatFits 30 = .ok (.bipush (-5), 2) := by decide +kernel
theorem dX3_firstListedThatFits_32 : decode cX3_firstListedThatFits 32 = .ok (.ireturn, 1) := by decide +kernel
set_option maxRecDepth 20000 in
theorem ggX3_wordsThatFit_X3_isFitting : GoodIn wsX3_wordsThatFit wsX3_isFitting := goodIn_r _ [7, 1, 8, 9, 10, 11, 12, 13, 14, 15, 16, 17, 18, 19, 6, 20, 21, 22, 23, 24, 25, 26, 27, 28, 29, 30, 31, 32, 33, 34, 35, 36, 37, 38, 39, 40, 41, 42, 43, 44, 45, 46, 47, 48, 49, 50, 51, 52, 53, 54, 55, 56, 57, 58, 59, 60, 61, 62, 63, 64, 65, 66, 67, 68, 69, 70, 71, 72, 73, 74, 75, 76, 77, 78, 79, 80, 81, 82] (by decide +kernel) (by decide +kernel)
set_option maxRecDepth 20000 in
theorem gX3_wordsThatFit_X3_isFitting : GoodIn wsX3_wordsThatFit (wsV RX3 130 RX3 yX3_isFitting wsX3_isFitting) := goodIn_app (goodIn_of _ (by decide +kernel)) ggX3_wordsThatFit_X3_isFitting
theorem dX3_wordsThatFit_0 : decode cX3_wordsThatFit 0 = .ok (.iconst 0, 1) := by decide +kernel
theorem dX3_wordsThatFit_1 : decode cX3_wordsThatFit 1 = .ok (.istore_n 2, 1) := by decide +kernel
theorem dX3_wordsThatFit_2 : decode cX3_wordsThatFit 2 = .ok (.iconst 0, 1) := by decide +kernel
theorem dX3_wordsThatFit_3 : decode cX3_wordsThatFit 3 = .ok (.istore_n 3, 1) := by decide +kernel
theorem dX3_wordsThatFit_4 : decode cX3_wordsThatFit 4 = .ok (.iload_n 3, 1) := by decide +kernel
theorem dX3_wordsThatFit_5 : decode cX3_wordsThatFit 5 = .ok (.aload_n 0, 1) := by decide +kernel
theorem dX3_wordsThatFit_6 : decode cX3_wordsThatFit 6 = .ok (.getfield 19, 3) := by decide +kernel
theorem dX3_wordsThatFit_9 : decode cX3_wordsThatFit 9 = .ok (.getfield 63, 3) := by decide +kernel
theorem dX3_wordsThatFit_12 : decode cX3_wordsThatFit 12 = .ok (.if_icmp .ge 21, 3) := by decide +kernel
theorem dX3_wordsThatFit_15 : decode cX3_wordsThatFit 15 = .ok (.aload_n 0, 1) := by decide +kernel
theorem dX3_wordsThatFit_16 : decode cX3_wordsThatFit 16 = .ok (.iload_n 3, 1) := by decide +kernel
theorem dX3_wordsThatFit_17 : decode cX3_wordsThatFit 17 = .ok (.iload_n 1, 1) := by decide +kernel
theorem dX3_wordsThatFit_18 : decode cX3_wordsThatFit 18 = .ok (.invokevirtual 130, 3) := by decide +kernel
theorem dX3_wordsThatFit_21 : decode cX3_wordsThatFit 21 = .ok (.ifCond .eq 6, 3) := by decide +kernel
theorem dX3_wordsThatFit_24 : decode cX3_wordsThatFit 24 = .ok (.iinc 2 1, 3) := by decide +kernel
theorem dX3_wordsThatFit_27 : decode cX3_wordsThatFit 27 = .ok (.iinc 3 1, 3) := by decide +kernel
theorem dX3_wordsThatFit_30 : decode cX3_wordsThatFit 30 = .ok (.goto (-26), 3) := by decide +kernel
theorem dX3_wordsThatFit_33 : decode cX3_wordsThatFit 33 = .ok (.iload_n 2, 1) := by decide +kernel
theorem dX3_wordsThatFit_34 : decode cX3_wordsThatFit 34 = .ok (.ireturn, 1) := by decide +kernel
set_option maxRecDepth 20000 in
theorem ggX3_firstWordThatFits_X3_isFitting : GoodIn wsX3_firstWordThatFits wsX3_isFitting := goodIn_r _ [7, 1, 8, 9, 10, 11, 12, 13, 14, 15, 16, 17, 18, 19, 6, 20, 21, 22, 23, 24, 25, 26, 27, 28, 29, 30, 31, 32, 33, 34, 35, 36, 37, 38, 39, 40, 41, 42, 43, 44, 45, 46, 47, 48, 49, 50, 51, 52, 53, 54, 55, 56, 57, 58, 59, 60, 61, 62, 63, 64, 65, 66, 67, 68, 69, 70, 71, 72, 73, 74, 75, 76, 77, 78, 79, 80, 81, 82] (by decide +kernel) (by decide +kernel)
set_option maxRecDepth 20000 in
theorem gX3_firstWordThatFits_X3_isFitting : GoodIn wsX3_firstWordThatFits (wsV RX3 130 RX3 yX3_isFitting wsX3_isFitting) := goodIn_app (goodIn_of _ (by decide +kernel)) ggX3_firstWordThatFits_X3_isFitting
theorem dX3_firstWordThatFits_0 : decode cX3_firstWordThatFits 0 = .ok (.iconst 0, 1) := by decide +kernel
theorem dX3_firstWordThatFits_1 : decode cX3_firstWordThatFits 1 = .ok (.istore_n 2, 1) := by decide +kernel
theorem dX3_firstWordThatFits_2 : decode cX3_firstWordThatFits 2 = .ok (.iload_n 2, 1) := by decide +kernel
theorem dX3_firstWordThatFits_3 : decode cX3_firstWordThatFits 3 = .ok (.aload_n 0, 1) := by decide +kernel
theorem dX3_firstWordThatFits_4 : decode cX3_firstWordThatFits 4 = .ok (.getfield 19, 3) := by decide +kernel
theorem dX3_firstWordThatFits_7 : decode cX3_firstWordThatFits 7 = .ok (.getfield 63, 3) := by decide +kernel
theorem dX3_firstWordThatFits_10 : decode cX3_firstWordThatFits 10 = .ok (.if_icmp .ge 20, 3) := by decide +kernel
theorem dX3_firstWordThatFits_13 : decode cX3_firstWordThatFits 13 = .ok (.aload_n 0, 1) := by decide +kernel
theorem dX3_firstWordThatFits_14 : decode cX3_firstWordThatFits 14 = .ok (.iload_n 2, 1) := by decide +kernel
theorem dX3_firstWordThatFits_15 : decode cX3_firstWordThatFits 15 = .ok (.iload_n 1, 1) := by decide +kernel
theorem dX3_firstWordThatFits_16 : decode cX3_firstWordThatFits 16 = .ok (.invokevirtual 130, 3) := by decide +kernel
theorem dX3_firstWordThatFits_19 : decode cX3_firstWordThatFits 19 = .ok (.ifCond .eq 5, 3) := by decide +kernel
theorem dX3_firstWordThatFits_22 : decode cX3_firstWordThatFits 22 = .ok (.iload_n 2, 1) := by decide +kernel
theorem dX3_firstWordThatFits_23 : decode cX3_firstWordThatFits 23 = .ok (.ireturn, 1) := by decide +kernel
theorem dX3_firstWordThatFits_24 : decode cX3_firstWordThatFits 24 = .ok (.iinc 2 1, 3) := by decide +kernel
theorem dX3_firstWordThatFits_27 : decode cX3_firstWordThatFits 27 = .ok (.goto (-25), 3) := by decide +kernel
theorem dX3_firstWordThatFits_30 : decode cX3_firstWordThatFits 30 = .ok (.bipush (-5), 2) := by decide +kernel
theorem dX3_firstWordThatFits_32 : decode cX3_firstWordThatFits 32 = .ok (.ireturn, 1) := by decide +kernel
set_option maxRecDepth 20000 in
theorem ggX3_priceOfRest_X3_numberIn : GoodIn wsX3_priceOfRest wsX3_numberIn := goodIn_r _ [8, 3, 1, 9, 10, 11, 12, 13, 14, 15, 16, 17, 18, 19, 20, 21, 22, 23, 24, 25, 26, 27, 53, 54, 55, 56, 57, 58, 59, 60, 61, 62, 63, 64, 65, 66, 67, 68, 69, 70, 71, 72, 73, 74] (by decide +kernel) (by decide +kernel)
set_option maxRecDepth 20000 in
theorem gX3_priceOfRest_X3_numberIn : GoodIn wsX3_priceOfRest (wsV RX3 139 RX3 yX3_numberIn wsX3_numberIn) := goodIn_app (goodIn_of _ (by decide +kernel)) ggX3_priceOfRest_X3_numberIn
set_option maxRecDepth 20000 in
theorem ggX3_priceOfRest_X3_isUnguessed : GoodIn wsX3_priceOfRest wsX3_isUnguessed := goodIn_r _ [31, 3, 32, 33, 34, 7, 35, 53, 54, 55, 56, 57, 58, 59, 64, 65, 66, 67, 68, 69, 70, 71, 72, 73, 74] (by decide +kernel) (by decide +kernel)
set_option maxRecDepth 20000 in
theorem gX3_priceOfRest_X3_isUnguessed : GoodIn wsX3_priceOfRest (wsV RX3 143 RX3 yX3_isUnguessed wsX3_isUnguessed) := goodIn_app (goodIn_of _ (by decide +kernel)) ggX3_priceOfRest_X3_isUnguessed
set_option maxRecDepth 20000 in
theorem ggX3_priceOfRest_X3_firstPlaceOf : GoodIn wsX3_priceOfRest wsX3_firstPlaceOf := goodIn_r _ [39, 1, 2, 4, 5, 6, 7, 8, 3, 9, 10, 11, 12, 13, 14, 15, 16, 17, 18, 19, 20, 21, 22, 23, 24, 25, 26, 27, 53, 54, 55, 56, 57, 58, 59, 60, 61, 62, 63, 64, 65, 66, 67, 68, 69, 70, 71, 72, 73, 74] (by decide +kernel) (by decide +kernel)
set_option maxRecDepth 20000 in
theorem gX3_priceOfRest_X3_firstPlaceOf : GoodIn wsX3_priceOfRest (wsV RX3 263 RX3 yX3_firstPlaceOf wsX3_firstPlaceOf) := goodIn_app (goodIn_of _ (by decide +kernel)) ggX3_priceOfRest_X3_firstPlaceOf
set_option maxRecDepth 20000 in
theorem ggX3_priceOfRest_X0_priceOf : GoodIn wsX3_priceOfRest wsX0_priceOf := goodIn_r _ [43, 44, 45, 46, 47, 48, 49, 50, 19, 51, 52, 17, 18, 20, 21, 22, 23, 24, 25, 26, 27, 64, 65, 66, 67, 68, 69, 70, 71, 72, 73, 74] (by decide +kernel) (by decide +kernel)
set_option maxRecDepth 20000 in
theorem gX3_priceOfRest_X0_priceOf : GoodIn wsX3_priceOfRest (wsV RX3 149 RX0 yX0_priceOf wsX0_priceOf) := goodIn_app (goodIn_of _ (by decide +kernel)) ggX3_priceOfRest_X0_priceOf
theorem dX3_priceOfRest_0 : decode cX3_priceOfRest 0 = .ok (.iconst 0, 1) := by decide +kernel
theorem dX3_priceOfRest_1 : decode cX3_priceOfRest 1 = .ok (.istore_n 2, 1) := by decide +kernel
theorem dX3_priceOfRest_2 : decode cX3_priceOfRest 2 = .ok (.iconst 0, 1) := by decide +kernel
theorem dX3_priceOfRest_3 : decode cX3_priceOfRest 3 = .ok (.istore_n 3, 1) := by decide +kernel
theorem dX3_priceOfRest_4 : decode cX3_priceOfRest 4 = .ok (.iload_n 3, 1) := by decide +kernel
theorem dX3_priceOfRest_5 : decode cX3_priceOfRest 5 = .ok (.aload_n 0, 1) := by decide +kernel
theorem dX3_priceOfRest_6 : decode cX3_priceOfRest 6 = .ok (.getfield 19, 3) := by decide +kernel
theorem dX3_priceOfRest_9 : decode cX3_priceOfRest 9 = .ok (.getfield 136, 3) := by decide +kernel
theorem dX3_priceOfRest_12 : decode cX3_priceOfRest 12 = .ok (.iload_n 1, 1) := by decide +kernel
theorem dX3_priceOfRest_13 : decode cX3_priceOfRest 13 = .ok (.iaload, 1) := by decide +kernel
theorem dX3_priceOfRest_14 : decode cX3_priceOfRest 14 = .ok (.if_icmp .ge 49, 3) := by decide +kernel
theorem dX3_priceOfRest_17 : decode cX3_priceOfRest 17 = .ok (.aload_n 0, 1) := by decide +kernel
theorem dX3_priceOfRest_18 : decode cX3_priceOfRest 18 = .ok (.iload_n 1, 1) := by decide +kernel
theorem dX3_priceOfRest_19 : decode cX3_priceOfRest 19 = .ok (.iload_n 3, 1) := by decide +kernel
theorem dX3_priceOfRest_20 : decode cX3_priceOfRest 20 = .ok (.invokevirtual 139, 3) := by decide +kernel
theorem dX3_priceOfRest_23 : decode cX3_priceOfRest 23 = .ok (.istore 4, 2) := by decide +kernel
theorem dX3_priceOfRest_25 : decode cX3_priceOfRest 25 = .ok (.aload_n 0, 1) := by decide +kernel
theorem dX3_priceOfRest_26 : decode cX3_priceOfRest 26 = .ok (.iload 4, 2) := by decide +kernel
theorem dX3_priceOfRest_28 : decode cX3_priceOfRest 28 = .ok (.invokevirtual 143, 3) := by decide +kernel
theorem dX3_priceOfRest_31 : decode cX3_priceOfRest 31 = .ok (.ifCond .eq 26, 3) := by decide +kernel
theorem dX3_priceOfRest_34 : decode cX3_priceOfRest 34 = .ok (.aload_n 0, 1) := by decide +kernel
theorem dX3_priceOfRest_35 : decode cX3_priceOfRest 35 = .ok (.iload 4, 2) := by decide +kernel
theorem dX3_priceOfRest_37 : decode cX3_priceOfRest 37 = .ok (.iload_n 1, 1) := by decide +kernel
theorem dX3_priceOfRest_38 : decode cX3_priceOfRest 38 = .ok (.invokevirtual 263, 3) := by decide +kernel
theorem dX3_priceOfRest_41 : decode cX3_priceOfRest 41 = .ok (.iload_n 3, 1) := by decide +kernel
theorem dX3_priceOfRest_42 : decode cX3_priceOfRest 42 = .ok (.if_icmp .ne 15, 3) := by decide +kernel
theorem dX3_priceOfRest_45 : decode cX3_priceOfRest 45 = .ok (.iload_n 2, 1) := by decide +kernel
theorem dX3_priceOfRest_46 : decode cX3_priceOfRest 46 = .ok (.aload_n 0, 1) := by decide +kernel
theorem dX3_priceOfRest_47 : decode cX3_priceOfRest 47 = .ok (.getfield 12, 3) := by decide +kernel
theorem dX3_priceOfRest_50 : decode cX3_priceOfRest 50 = .ok (.iload 4, 2) := by decide +kernel
theorem dX3_priceOfRest_52 : decode cX3_priceOfRest 52 = .ok (.invokevirtual 149, 3) := by decide +kernel
theorem dX3_priceOfRest_55 : decode cX3_priceOfRest 55 = .ok (.iadd, 1) := by decide +kernel
theorem dX3_priceOfRest_56 : decode cX3_priceOfRest 56 = .ok (.istore_n 2, 1) := by decide +kernel
theorem dX3_priceOfRest_57 : decode cX3_priceOfRest 57 = .ok (.iinc 3 1, 3) := by decide +kernel
theorem dX3_priceOfRest_60 : decode cX3_priceOfRest 60 = .ok (.goto (-56), 3) := by decide +kernel
theorem dX3_priceOfRest_63 : decode cX3_priceOfRest 63 = .ok (.iload_n 2, 1) := by decide +kernel
theorem dX3_priceOfRest_64 : decode cX3_priceOfRest 64 = .ok (.ireturn, 1) := by decide +kernel
set_option maxRecDepth 20000 in
theorem ggX3_possibleLetters_X3_isGuessOfAnother : GoodIn wsX3_possibleLetters wsX3_isGuessOfAnother := goodIn_r _ [8, 9, 10, 11, 12, 13, 14, 15, 78, 79, 80, 81, 82, 83, 84, 89, 90, 91, 92, 93, 94, 95, 96, 97, 98, 99] (by decide +kernel) (by decide +kernel)
set_option maxRecDepth 20000 in
theorem gX3_possibleLetters_X3_isGuessOfAnother : GoodIn wsX3_possibleLetters (wsV RX3 117 RX3 yX3_isGuessOfAnother wsX3_isGuessOfAnother) := goodIn_app (goodIn_of _ (by decide +kernel)) ggX3_possibleLetters_X3_isGuessOfAnother
set_option maxRecDepth 20000 in
theorem ggX3_possibleLetters_X3_bitOf : GoodIn wsX3_possibleLetters wsX3_bitOf := goodIn_r _ [18] (by decide +kernel) (by decide +kernel)
set_option maxRecDepth 20000 in
theorem gX3_possibleLetters_X3_bitOf : GoodIn wsX3_possibleLetters (va_wsS RX3 292 yX3_bitOf wsX3_bitOf) := goodIn_app (goodIn_of _ (by decide +kernel)) ggX3_possibleLetters_X3_bitOf
set_option maxRecDepth 20000 in
theorem ggX3_possibleLetters_X3_offeredLetters : GoodIn wsX3_possibleLetters wsX3_offeredLetters := goodIn_r _ [22, 2, 23, 9, 24, 25, 26, 27, 7, 28, 29, 30, 31, 32, 33, 34, 35, 36, 37, 38, 39, 40, 41, 42, 13, 43, 44, 45, 46, 47, 48, 49, 50, 51, 52, 53, 54, 55, 56, 57, 58, 59, 60, 61, 62, 63, 64, 10, 11, 12, 14, 15, 65, 66, 67, 68, 69, 70, 71, 72, 73, 74, 75, 76, 77, 16, 17, 18, 78, 79, 80, 81, 82, 83, 84, 85, 86, 87, 88, 89, 90, 91, 92, 93, 94, 95, 96, 97, 98, 99] (by decide +kernel) (by decide +kernel)
set_option maxRecDepth 20000 in
theorem gX3_possibleLetters_X3_offeredLetters : GoodIn wsX3_possibleLetters (wsV RX3 295 RX3 yX3_offeredLetters wsX3_offeredLetters) := goodIn_app (goodIn_of _ (by decide +kernel)) ggX3_possibleLetters_X3_offeredLetters
theorem dX3_possibleLetters_0 : decode cX3_possibleLetters 0 = .ok (.ldc_w 291, 3) := by decide +kernel
theorem dX3_possibleLetters_3 : decode cX3_possibleLetters 3 = .ok (.istore_n 2, 1) := by decide +kernel
theorem dX3_possibleLetters_4 : decode cX3_possibleLetters 4 = .ok (.bipush 97, 2) := by decide +kernel
theorem dX3_possibleLetters_6 : decode cX3_possibleLetters 6 = .ok (.istore_n 3, 1) := by decide +kernel
theorem dX3_possibleLetters_7 : decode cX3_possibleLetters 7 = .ok (.iload_n 3, 1) := by decide +kernel
theorem dX3_possibleLetters_8 : decode cX3_possibleLetters 8 = .ok (.bipush 122, 2) := by decide +kernel
theorem dX3_possibleLetters_10 : decode cX3_possibleLetters 10 = .ok (.if_icmp .gt 27, 3) := by decide +kernel
theorem dX3_possibleLetters_13 : decode cX3_possibleLetters 13 = .ok (.aload_n 0, 1) := by decide +kernel
theorem dX3_possibleLetters_14 : decode cX3_possibleLetters 14 = .ok (.iload_n 3, 1) := by decide +kernel
theorem dX3_possibleLetters_15 : decode cX3_possibleLetters 15 = .ok (.iload_n 1, 1) := by decide +kernel
theorem dX3_possibleLetters_16 : decode cX3_possibleLetters 16 = .ok (.invokevirtual 117, 3) := by decide +kernel
theorem dX3_possibleLetters_19 : decode cX3_possibleLetters 19 = .ok (.ifCond .eq 12, 3) := by decide +kernel
theorem dX3_possibleLetters_22 : decode cX3_possibleLetters 22 = .ok (.iload_n 2, 1) := by decide +kernel
theorem dX3_possibleLetters_23 : decode cX3_possibleLetters 23 = .ok (.iload_n 3, 1) := by decide +kernel
theorem dX3_possibleLetters_24 : decode cX3_possibleLetters 24 = .ok (.invokestatic 292, 3) := by decide +kernel
theorem dX3_possibleLetters_27 : decode cX3_possibleLetters 27 = .ok (.iconst (-1), 1) := by decide +kernel
theorem dX3_possibleLetters_28 : decode cX3_possibleLetters 28 = .ok (.ixor, 1) := by decide +kernel
theorem dX3_possibleLetters_29 : decode cX3_possibleLetters 29 = .ok (.iand, 1) := by decide +kernel
theorem dX3_possibleLetters_30 : decode cX3_possibleLetters 30 = .ok (.istore_n 2, 1) := by decide +kernel
theorem dX3_possibleLetters_31 : decode cX3_possibleLetters 31 = .ok (.iinc 3 1, 3) := by decide +kernel
theorem dX3_possibleLetters_34 : decode cX3_possibleLetters 34 = .ok (.goto (-27), 3) := by decide +kernel
theorem dX3_possibleLetters_37 : decode cX3_possibleLetters 37 = .ok (.iconst 0, 1) := by decide +kernel
theorem dX3_possibleLetters_38 : decode cX3_possibleLetters 38 = .ok (.istore_n 3, 1) := by decide +kernel
theorem dX3_possibleLetters_39 : decode cX3_possibleLetters 39 = .ok (.iload_n 3, 1) := by decide +kernel
theorem dX3_possibleLetters_40 : decode cX3_possibleLetters 40 = .ok (.aload_n 0, 1) := by decide +kernel
theorem dX3_possibleLetters_41 : decode cX3_possibleLetters 41 = .ok (.getfield 19, 3) := by decide +kernel
theorem dX3_possibleLetters_44 : decode cX3_possibleLetters 44 = .ok (.getfield 63, 3) := by decide +kernel
theorem dX3_possibleLetters_47 : decode cX3_possibleLetters 47 = .ok (.if_icmp .ge 27, 3) := by decide +kernel
theorem dX3_possibleLetters_50 : decode cX3_possibleLetters 50 = .ok (.aload_n 0, 1) := by decide +kernel
theorem dX3_possibleLetters_51 : decode cX3_possibleLetters 51 = .ok (.iload_n 3, 1) := by decide +kernel
theorem dX3_possibleLetters_52 : decode cX3_possibleLetters 52 = .ok (.iload_n 1, 1) := by decide +kernel
theorem dX3_possibleLetters_53 : decode cX3_possibleLetters 53 = .ok (.invokevirtual 295, 3) := by decide +kernel
theorem dX3_possibleLetters_56 : decode cX3_possibleLetters 56 = .ok (.istore 4, 2) := by decide +kernel
theorem dX3_possibleLetters_58 : decode cX3_possibleLetters 58 = .ok (.iload 4, 2) := by decide +kernel
theorem dX3_possibleLetters_60 : decode cX3_possibleLetters 60 = .ok (.ifCond .eq 8, 3) := by decide +kernel
theorem dX3_possibleLetters_63 : decode cX3_possibleLetters 63 = .ok (.iload_n 2, 1) := by decide +kernel
theorem dX3_possibleLetters_64 : decode cX3_possibleLetters 64 = .ok (.iload 4, 2) := by decide +kernel
theorem dX3_possibleLetters_66 : decode cX3_possibleLetters 66 = .ok (.iand, 1) := by decide +kernel
theorem dX3_possibleLetters_67 : decode cX3_possibleLetters 67 = .ok (.istore_n 2, 1) := by decide +kernel
theorem dX3_possibleLetters_68 : decode cX3_possibleLetters 68 = .ok (.iinc 3 1, 3) := by decide +kernel
theorem dX3_possibleLetters_71 : decode cX3_possibleLetters 71 = .ok (.goto (-32), 3) := by decide +kernel
theorem dX3_possibleLetters_74 : decode cX3_possibleLetters 74 = .ok (.iload_n 2, 1) := by decide +kernel
theorem dX3_possibleLetters_75 : decode cX3_possibleLetters 75 = .ok (.ireturn, 1) := by decide +kernel
set_option maxRecDepth 20000 in
theorem ggX3_offeredLetters_X3_firstPlaceOf : GoodIn wsX3_offeredLetters wsX3_firstPlaceOf := goodIn_r _ [9, 1, 2, 10, 11, 12, 8, 13, 3, 14, 15, 16, 17, 18, 19, 20, 21, 22, 23, 24, 25, 26, 27, 28, 29, 30, 31, 32, 68, 69, 70, 71, 72, 73, 74, 75, 76, 77, 78, 79, 80, 81, 82, 83, 84, 85, 86, 87, 88, 89] (by decide +kernel) (by decide +kernel)
set_option maxRecDepth 20000 in
theorem gX3_offeredLetters_X3_firstPlaceOf : GoodIn wsX3_offeredLetters (wsV RX3 263 RX3 yX3_firstPlaceOf wsX3_firstPlaceOf) := goodIn_app (goodIn_of _ (by decide +kernel)) ggX3_offeredLetters_X3_firstPlaceOf
set_option maxRecDepth 20000 in
theorem ggX3_offeredLetters_X3_isFitting : GoodIn wsX3_offeredLetters wsX3_isFitting := goodIn_r _ [36, 1, 2, 3, 37, 38, 39, 40, 24, 41, 42, 10, 11, 12, 8, 13, 14, 15, 16, 17, 18, 19, 20, 21, 22, 23, 25, 26, 27, 28, 29, 30, 31, 32, 43, 44, 45, 46, 47, 48, 49, 50, 51, 52, 53, 54, 55, 56, 57, 58, 59, 60, 61, 62, 63, 64, 68, 69, 70, 71, 72, 73, 74, 75, 76, 77, 78, 79, 80, 81, 82, 83, 84, 85, 86, 87, 88, 89] (by decide +kernel) (by decide +kernel)
set_option maxRecDepth 20000 in
theorem gX3_offeredLetters_X3_isFitting : GoodIn wsX3_offeredLetters (wsV RX3 130 RX3 yX3_isFitting wsX3_isFitting) := goodIn_app (goodIn_of _ (by decide +kernel)) ggX3_offeredLetters_X3_isFitting
set_option maxRecDepth 20000 in
theorem ggX3_offeredLetters_X0_listedLetter : GoodIn wsX3_offeredLetters wsX0_listedLetter := goodIn_r _ [41, 42, 79, 80, 81, 82, 83, 84, 85, 86, 87, 88, 89] (by decide +kernel) (by decide +kernel)
set_option maxRecDepth 20000 in
theorem gX3_offeredLetters_X0_listedLetter : GoodIn wsX3_offeredLetters (wsV RX3 146 RX0 yX0_listedLetter wsX0_listedLetter) := goodIn_app (goodIn_of _ (by decide +kernel)) ggX3_offeredLetters_X0_listedLetter
set_option maxRecDepth 20000 in
theorem ggX3_offeredLetters_X3_bitOf : GoodIn wsX3_offeredLetters wsX3_bitOf := goodIn_r _ [67] (by decide +kernel) (by decide +kernel)
set_option maxRecDepth 20000 in
theorem gX3_offeredLetters_X3_bitOf : GoodIn wsX3_offeredLetters (va_wsS RX3 292 yX3_bitOf wsX3_bitOf) := goodIn_app (goodIn_of _ (by decide +kernel)) ggX3_offeredLetters_X3_bitOf
theorem dX3_offeredLetters_0 : decode cX3_offeredLetters 0 = .ok (.aload_n 0, 1) := by decide +kernel
theorem dX3_offeredLetters_1 : decode cX3_offeredLetters 1 = .ok (.iload_n 2, 1) := by decide +kernel
theorem dX3_offeredLetters_2 : decode cX3_offeredLetters 2 = .ok (.iload_n 1, 1) := by decide +kernel
theorem dX3_offeredLetters_3 : decode cX3_offeredLetters 3 = .ok (.invokevirtual 263, 3) := by decide +kernel
theorem dX3_offeredLetters_6 : decode cX3_offeredLetters 6 = .ok (.istore_n 3, 1) := by decide +kernel
theorem dX3_offeredLetters_7 : decode cX3_offeredLetters 7 = .ok (.iload_n 3, 1) := by decide +kernel
theorem dX3_offeredLetters_8 : decode cX3_offeredLetters 8 = .ok (.aload_n 0, 1) := by decide +kernel
theorem dX3_offeredLetters_9 : decode cX3_offeredLetters 9 = .ok (.getfield 19, 3) := by decide +kernel
theorem dX3_offeredLetters_12 : decode cX3_offeredLetters 12 = .ok (.getfield 136, 3) := by decide +kernel
theorem dX3_offeredLetters_15 : decode cX3_offeredLetters 15 = .ok (.iload_n 1, 1) := by decide +kernel
theorem dX3_offeredLetters_16 : decode cX3_offeredLetters 16 = .ok (.iaload, 1) := by decide +kernel
theorem dX3_offeredLetters_17 : decode cX3_offeredLetters 17 = .ok (.if_icmp .lt 5, 3) := by decide +kernel
theorem dX3_offeredLetters_20 : decode cX3_offeredLetters 20 = .ok (.iconst 0, 1) := by decide +kernel
theorem dX3_offeredLetters_21 : decode cX3_offeredLetters 21 = .ok (.ireturn, 1) := by decide +kernel
theorem dX3_offeredLetters_22 : decode cX3_offeredLetters 22 = .ok (.iconst 0, 1) := by decide +kernel
theorem dX3_offeredLetters_23 : decode cX3_offeredLetters 23 = .ok (.istore 4, 2) := by decide +kernel
theorem dX3_offeredLetters_25 : decode cX3_offeredLetters 25 = .ok (.iconst 0, 1) := by decide +kernel
theorem dX3_offeredLetters_26 : decode cX3_offeredLetters 26 = .ok (.istore 5, 2) := by decide +kernel
theorem dX3_offeredLetters_28 : decode cX3_offeredLetters 28 = .ok (.iload 5, 2) := by decide +kernel
theorem dX3_offeredLetters_30 : decode cX3_offeredLetters 30 = .ok (.aload_n 0, 1) := by decide +kernel
theorem dX3_offeredLetters_31 : decode cX3_offeredLetters 31 = .ok (.getfield 12, 3) := by decide +kernel
theorem dX3_offeredLetters_34 : decode cX3_offeredLetters 34 = .ok (.getfield 85, 3) := by decide +kernel
theorem dX3_offeredLetters_37 : decode cX3_offeredLetters 37 = .ok (.if_icmp .ge 37, 3) := by decide +kernel
theorem dX3_offeredLetters_40 : decode cX3_offeredLetters 40 = .ok (.aload_n 0, 1) := by decide +kernel
theorem dX3_offeredLetters_41 : decode cX3_offeredLetters 41 = .ok (.iload_n 1, 1) := by decide +kernel
theorem dX3_offeredLetters_42 : decode cX3_offeredLetters 42 = .ok (.iload 5, 2) := by decide +kernel
theorem dX3_offeredLetters_44 : decode cX3_offeredLetters 44 = .ok (.invokevirtual 130, 3) := by decide +kernel
theorem dX3_offeredLetters_47 : decode cX3_offeredLetters 47 = .ok (.ifCond .eq 21, 3) := by decide +kernel
theorem dX3_offeredLetters_50 : decode cX3_offeredLetters 50 = .ok (.iload 4, 2) := by decide +kernel
theorem dX3_offeredLetters_52 : decode cX3_offeredLetters 52 = .ok (.aload_n 0, 1) := by decide +kernel
theorem dX3_offeredLetters_53 : decode cX3_offeredLetters 53 = .ok (.getfield 12, 3) := by decide +kernel
theorem dX3_offeredLetters_56 : decode cX3_offeredLetters 56 = .ok (.iload 5, 2) := by decide +kernel
theorem dX3_offeredLetters_58 : decode cX3_offeredLetters 58 = .ok (.iload_n 3, 1) := by decide +kernel
theorem dX3_offeredLetters_59 : decode cX3_offeredLetters 59 = .ok (.invokevirtual 146, 3) := by decide +kernel
theorem dX3_offeredLetters_62 : decode cX3_offeredLetters 62 = .ok (.invokestatic 292, 3) := by decide +kernel
theorem dX3_offeredLetters_65 : decode cX3_offeredLetters 65 = .ok (.ior, 1) := by decide +kernel
theorem dX3_offeredLetters_66 : decode cX3_offeredLetters 66 = .ok (.istore 4, 2) := by decide +kernel
theorem dX3_offeredLetters_68 : decode cX3_offeredLetters 68 = .ok (.iinc 5 1, 3) := by decide +kernel
theorem dX3_offeredLetters_71 : decode cX3_offeredLetters 71 = .ok (.goto (-43), 3) := by decide +kernel
theorem dX3_offeredLetters_74 : decode cX3_offeredLetters 74 = .ok (.iload 4, 2) := by decide +kernel
theorem dX3_offeredLetters_76 : decode cX3_offeredLetters 76 = .ok (.ireturn, 1) := by decide +kernel
theorem dX3_bitOf_0 : decode cX3_bitOf 0 = .ok (.iconst 1, 1) := by decide +kernel
theorem dX3_bitOf_1 : decode cX3_bitOf 1 = .ok (.iload_n 0, 1) := by decide +kernel
theorem dX3_bitOf_2 : decode cX3_bitOf 2 = .ok (.bipush 97, 2) := by decide +kernel
theorem dX3_bitOf_4 : decode cX3_bitOf 4 = .ok (.isub, 1) := by decide +kernel
theorem dX3_bitOf_5 : decode cX3_bitOf 5 = .ok (.ishl, 1) := by decide +kernel
theorem dX3_bitOf_6 : decode cX3_bitOf 6 = .ok (.ireturn, 1) := by decide +kernel
set_option maxRecDepth 20000 in
theorem ggX3_lowestLetter_X3_bitOf : GoodIn wsX3_lowestLetter wsX3_bitOf := goodIn_r _ [4] (by decide +kernel) (by decide +kernel)
set_option maxRecDepth 20000 in
theorem gX3_lowestLetter_X3_bitOf : GoodIn wsX3_lowestLetter (va_wsS RX3 292 yX3_bitOf wsX3_bitOf) := goodIn_app (goodIn_of _ (by decide +kernel)) ggX3_lowestLetter_X3_bitOf
theorem dX3_lowestLetter_0 : decode cX3_lowestLetter 0 = .ok (.bipush 97, 2) := by decide +kernel
theorem dX3_lowestLetter_2 : decode cX3_lowestLetter 2 = .ok (.istore_n 1, 1) := by decide +kernel
theorem dX3_lowestLetter_3 : decode cX3_lowestLetter 3 = .ok (.iload_n 1, 1) := by decide +kernel
theorem dX3_lowestLetter_4 : decode cX3_lowestLetter 4 = .ok (.bipush 122, 2) := by decide +kernel
theorem dX3_lowestLetter_6 : decode cX3_lowestLetter 6 = .ok (.if_icmp .gt 20, 3) := by decide +kernel
theorem dX3_lowestLetter_9 : decode cX3_lowestLetter 9 = .ok (.iload_n 0, 1) := by decide +kernel
theorem dX3_lowestLetter_10 : decode cX3_lowestLetter 10 = .ok (.iload_n 1, 1) := by decide +kernel
theorem dX3_lowestLetter_11 : decode cX3_lowestLetter 11 = .ok (.invokestatic 292, 3) := by decide +kernel
theorem dX3_lowestLetter_14 : decode cX3_lowestLetter 14 = .ok (.iand, 1) := by decide +kernel
theorem dX3_lowestLetter_15 : decode cX3_lowestLetter 15 = .ok (.ifCond .eq 5, 3) := by decide +kernel
theorem dX3_lowestLetter_18 : decode cX3_lowestLetter 18 = .ok (.iload_n 1, 1) := by decide +kernel
theorem dX3_lowestLetter_19 : decode cX3_lowestLetter 19 = .ok (.ireturn, 1) := by decide +kernel
theorem dX3_lowestLetter_20 : decode cX3_lowestLetter 20 = .ok (.iinc 1 1, 3) := by decide +kernel
theorem dX3_lowestLetter_23 : decode cX3_lowestLetter 23 = .ok (.goto (-20), 3) := by decide +kernel
theorem dX3_lowestLetter_26 : decode cX3_lowestLetter 26 = .ok (.bipush (-5), 2) := by decide +kernel
theorem dX3_lowestLetter_28 : decode cX3_lowestLetter 28 = .ok (.ireturn, 1) := by decide +kernel
set_option maxRecDepth 20000 in
theorem ggX4_init_X4_forgets : GoodIn wsX4_init wsX4_forgets := goodIn_r _ [17, 5, 18, 19, 20, 21, 22, 23, 24, 25, 26, 27, 28, 29] (by decide +kernel) (by decide +kernel)
set_option maxRecDepth 20000 in
theorem gX4_init_X4_forgets : GoodIn wsX4_init (wsV RX4 34 RX4 yX4_forgets wsX4_forgets) := goodIn_app (goodIn_of _ (by decide +kernel)) ggX4_init_X4_forgets
theorem dX4_init_0 : decode cX4_init 0 = .ok (.aload_n 0, 1) := by decide +kernel
theorem dX4_init_1 : decode cX4_init 1 = .ok (.invokespecial 1, 3) := by decide +kernel
theorem dX4_init_4 : decode cX4_init 4 = .ok (.aload_n 0, 1) := by decide +kernel
theorem dX4_init_5 : decode cX4_init 5 = .ok (.sipush 205, 3) := by decide +kernel
theorem dX4_init_8 : decode cX4_init 8 = .ok (.newarray .int, 2) := by decide +kernel
theorem dX4_init_10 : decode cX4_init 10 = .ok (.putfield 7, 3) := by decide +kernel
theorem dX4_init_13 : decode cX4_init 13 = .ok (.aload_n 0, 1) := by decide +kernel
theorem dX4_init_14 : decode cX4_init 14 = .ok (.sipush 205, 3) := by decide +kernel
theorem dX4_init_17 : decode cX4_init 17 = .ok (.newarray .int, 2) := by decide +kernel
theorem dX4_init_19 : decode cX4_init 19 = .ok (.putfield 13, 3) := by decide +kernel
theorem dX4_init_22 : decode cX4_init 22 = .ok (.aload_n 0, 1) := by decide +kernel
theorem dX4_init_23 : decode cX4_init 23 = .ok (.sipush 820, 3) := by decide +kernel
theorem dX4_init_26 : decode cX4_init 26 = .ok (.newarray .int, 2) := by decide +kernel
theorem dX4_init_28 : decode cX4_init 28 = .ok (.putfield 16, 3) := by decide +kernel
theorem dX4_init_31 : decode cX4_init 31 = .ok (.aload_n 0, 1) := by decide +kernel
theorem dX4_init_32 : decode cX4_init 32 = .ok (.sipush 205, 3) := by decide +kernel
theorem dX4_init_35 : decode cX4_init 35 = .ok (.newarray .int, 2) := by decide +kernel
theorem dX4_init_37 : decode cX4_init 37 = .ok (.putfield 19, 3) := by decide +kernel
theorem dX4_init_40 : decode cX4_init 40 = .ok (.aload_n 0, 1) := by decide +kernel
theorem dX4_init_41 : decode cX4_init 41 = .ok (.bipush 42, 2) := by decide +kernel
theorem dX4_init_43 : decode cX4_init 43 = .ok (.newarray .int, 2) := by decide +kernel
theorem dX4_init_45 : decode cX4_init 45 = .ok (.putfield 22, 3) := by decide +kernel
theorem dX4_init_48 : decode cX4_init 48 = .ok (.aload_n 0, 1) := by decide +kernel
theorem dX4_init_49 : decode cX4_init 49 = .ok (.bipush 42, 2) := by decide +kernel
theorem dX4_init_51 : decode cX4_init 51 = .ok (.newarray .int, 2) := by decide +kernel
theorem dX4_init_53 : decode cX4_init 53 = .ok (.putfield 25, 3) := by decide +kernel
theorem dX4_init_56 : decode cX4_init 56 = .ok (.aload_n 0, 1) := by decide +kernel
theorem dX4_init_57 : decode cX4_init 57 = .ok (.bipush 42, 2) := by decide +kernel
theorem dX4_init_59 : decode cX4_init 59 = .ok (.newarray .int, 2) := by decide +kernel
theorem dX4_init_61 : decode cX4_init 61 = .ok (.putfield 28, 3) := by decide +kernel
theorem dX4_init_64 : decode cX4_init 64 = .ok (.aload_n 0, 1) := by decide +kernel
theorem dX4_init_65 : decode cX4_init 65 = .ok (.bipush 60, 2) := by decide +kernel
theorem dX4_init_67 : decode cX4_init 67 = .ok (.newarray .int, 2) := by decide +kernel
theorem dX4_init_69 : decode cX4_init 69 = .ok (.putfield 31, 3) := by decide +kernel
theorem dX4_init_72 : decode cX4_init 72 = .ok (.iconst 0, 1) := by decide +kernel
theorem dX4_init_73 : decode cX4_init 73 = .ok (.istore_n 1, 1) := by decide +kernel
theorem dX4_init_74 : decode cX4_init 74 = .ok (.iload_n 1, 1) := by decide +kernel
theorem dX4_init_75 : decode cX4_init 75 = .ok (.bipush 49, 2) := by decide +kernel
theorem dX4_init_77 : decode cX4_init 77 = .ok (.if_icmp .ge 18, 3) := by decide +kernel
theorem dX4_init_80 : decode cX4_init 80 = .ok (.aload_n 0, 1) := by decide +kernel
theorem dX4_init_81 : decode cX4_init 81 = .ok (.getfield 7, 3) := by decide +kernel
theorem dX4_init_84 : decode cX4_init 84 = .ok (.iconst 0, 1) := by decide +kernel
theorem dX4_init_85 : decode cX4_init 85 = .ok (.iload_n 1, 1) := by decide +kernel
theorem dX4_init_86 : decode cX4_init 86 = .ok (.iadd, 1) := by decide +kernel
theorem dX4_init_87 : decode cX4_init 87 = .ok (.iconst (-1), 1) := by decide +kernel
theorem dX4_init_88 : decode cX4_init 88 = .ok (.iastore, 1) := by decide +kernel
theorem dX4_init_89 : decode cX4_init 89 = .ok (.iinc 1 1, 3) := by decide +kernel
theorem dX4_init_92 : decode cX4_init 92 = .ok (.goto (-18), 3) := by decide +kernel
theorem dX4_init_95 : decode cX4_init 95 = .ok (.aload_n 0, 1) := by decide +kernel
theorem dX4_init_96 : decode cX4_init 96 = .ok (.getfield 7, 3) := by decide +kernel
theorem dX4_init_99 : decode cX4_init 99 = .ok (.bipush 49, 2) := by decide +kernel
theorem dX4_init_101 : decode cX4_init 101 = .ok (.bipush 7, 2) := by decide +kernel
theorem dX4_init_103 : decode cX4_init 103 = .ok (.iastore, 1) := by decide +kernel
theorem dX4_init_104 : decode cX4_init 104 = .ok (.aload_n 0, 1) := by decide +kernel
theorem dX4_init_105 : decode cX4_init 105 = .ok (.getfield 7, 3) := by decide +kernel
theorem dX4_init_108 : decode cX4_init 108 = .ok (.bipush 50, 2) := by decide +kernel
theorem dX4_init_110 : decode cX4_init 110 = .ok (.iconst 3, 1) := by decide +kernel
theorem dX4_init_111 : decode cX4_init 111 = .ok (.iastore, 1) := by decide +kernel
theorem dX4_init_112 : decode cX4_init 112 = .ok (.aload_n 0, 1) := by decide +kernel
theorem dX4_init_113 : decode cX4_init 113 = .ok (.getfield 7, 3) := by decide +kernel
theorem dX4_init_116 : decode cX4_init 116 = .ok (.bipush 105, 2) := by decide +kernel
theorem dX4_init_118 : decode cX4_init 118 = .ok (.bipush 30, 2) := by decide +kernel
theorem dX4_init_120 : decode cX4_init 120 = .ok (.iastore, 1) := by decide +kernel
theorem dX4_init_121 : decode cX4_init 121 = .ok (.aload_n 0, 1) := by decide +kernel
theorem dX4_init_122 : decode cX4_init 122 = .ok (.invokevirtual 34, 3) := by decide +kernel
theorem dX4_init_125 : decode cX4_init 125 = .ok (.return_, 1) := by decide +kernel
theorem dX4_in_0 : decode cX4_in 0 = .ok (.lload_n 0, 1) := by decide +kernel
theorem dX4_in_1 : decode cX4_in 1 = .ok (.lload_n 2, 1) := by decide +kernel
theorem dX4_in_2 : decode cX4_in 2 = .ok (.lcmp, 1) := by decide +kernel
theorem dX4_in_3 : decode cX4_in 3 = .ok (.ifCond .lt 14, 3) := by decide +kernel
theorem dX4_in_6 : decode cX4_in 6 = .ok (.lload_n 0, 1) := by decide +kernel
theorem dX4_in_7 : decode cX4_in 7 = .ok (.lload 4, 2) := by decide +kernel
theorem dX4_in_9 : decode cX4_in 9 = .ok (.lcmp, 1) := by decide +kernel
theorem dX4_in_10 : decode cX4_in 10 = .ok (.ifCond .gt 7, 3) := by decide +kernel
theorem dX4_in_13 : decode cX4_in 13 = .ok (.iconst 1, 1) := by decide +kernel
theorem dX4_in_14 : decode cX4_in 14 = .ok (.goto 4, 3) := by decide +kernel
theorem dX4_in_17 : decode cX4_in 17 = .ok (.iconst 0, 1) := by decide +kernel
theorem dX4_in_18 : decode cX4_in 18 = .ok (.ireturn, 1) := by decide +kernel
theorem dX4_forgets_0 : decode cX4_forgets 0 = .ok (.iconst 0, 1) := by decide +kernel
theorem dX4_forgets_1 : decode cX4_forgets 1 = .ok (.istore_n 1, 1) := by decide +kernel
theorem dX4_forgets_2 : decode cX4_forgets 2 = .ok (.iload_n 1, 1) := by decide +kernel
theorem dX4_forgets_3 : decode cX4_forgets 3 = .ok (.bipush 26, 2) := by decide +kernel
theorem dX4_forgets_5 : decode cX4_forgets 5 = .ok (.if_icmp .gt 29, 3) := by decide +kernel
theorem dX4_forgets_8 : decode cX4_forgets 8 = .ok (.aload_n 0, 1) := by decide +kernel
theorem dX4_forgets_9 : decode cX4_forgets 9 = .ok (.getfield 7, 3) := by decide +kernel
theorem dX4_forgets_12 : decode cX4_forgets 12 = .ok (.bipush 51, 2) := by decide +kernel
theorem dX4_forgets_14 : decode cX4_forgets 14 = .ok (.iload_n 1, 1) := by decide +kernel
theorem dX4_forgets_15 : decode cX4_forgets 15 = .ok (.iadd, 1) := by decide +kernel
theorem dX4_forgets_16 : decode cX4_forgets 16 = .ok (.iconst (-1), 1) := by decide +kernel
theorem dX4_forgets_17 : decode cX4_forgets 17 = .ok (.iastore, 1) := by decide +kernel
theorem dX4_forgets_18 : decode cX4_forgets 18 = .ok (.aload_n 0, 1) := by decide +kernel
theorem dX4_forgets_19 : decode cX4_forgets 19 = .ok (.getfield 7, 3) := by decide +kernel
theorem dX4_forgets_22 : decode cX4_forgets 22 = .ok (.bipush 78, 2) := by decide +kernel
theorem dX4_forgets_24 : decode cX4_forgets 24 = .ok (.iload_n 1, 1) := by decide +kernel
theorem dX4_forgets_25 : decode cX4_forgets 25 = .ok (.iadd, 1) := by decide +kernel
theorem dX4_forgets_26 : decode cX4_forgets 26 = .ok (.iconst 0, 1) := by decide +kernel
theorem dX4_forgets_27 : decode cX4_forgets 27 = .ok (.iastore, 1) := by decide +kernel
theorem dX4_forgets_28 : decode cX4_forgets 28 = .ok (.iinc 1 1, 3) := by decide +kernel
theorem dX4_forgets_31 : decode cX4_forgets 31 = .ok (.goto (-29), 3) := by decide +kernel
theorem dX4_forgets_34 : decode cX4_forgets 34 = .ok (.return_, 1) := by decide +kernel
theorem dX4_remember_0 : decode cX4_remember 0 = .ok (.iconst 0, 1) := by decide +kernel
theorem dX4_remember_1 : decode cX4_remember 1 = .ok (.istore_n 1, 1) := by decide +kernel
theorem dX4_remember_2 : decode cX4_remember 2 = .ok (.iload_n 1, 1) := by decide +kernel
theorem dX4_remember_3 : decode cX4_remember 3 = .ok (.sipush 205, 3) := by decide +kernel
theorem dX4_remember_6 : decode cX4_remember 6 = .ok (.if_icmp .ge 21, 3) := by decide +kernel
theorem dX4_remember_9 : decode cX4_remember 9 = .ok (.aload_n 0, 1) := by decide +kernel
theorem dX4_remember_10 : decode cX4_remember 10 = .ok (.getfield 13, 3) := by decide +kernel
theorem dX4_remember_13 : decode cX4_remember 13 = .ok (.iload_n 1, 1) := by decide +kernel
theorem dX4_remember_14 : decode cX4_remember 14 = .ok (.aload_n 0, 1) := by decide +kernel
theorem dX4_remember_15 : decode cX4_remember 15 = .ok (.getfield 7, 3) := by decide +kernel
theorem dX4_remember_18 : decode cX4_remember 18 = .ok (.iload_n 1, 1) := by decide +kernel
theorem dX4_remember_19 : decode cX4_remember 19 = .ok (.iaload, 1) := by decide +kernel
theorem dX4_remember_20 : decode cX4_remember 20 = .ok (.iastore, 1) := by decide +kernel
theorem dX4_remember_21 : decode cX4_remember 21 = .ok (.iinc 1 1, 3) := by decide +kernel
theorem dX4_remember_24 : decode cX4_remember 24 = .ok (.goto (-22), 3) := by decide +kernel
theorem dX4_remember_27 : decode cX4_remember 27 = .ok (.return_, 1) := by decide +kernel
theorem dX4_acted_0 : decode cX4_acted 0 = .ok (.aload_n 0, 1) := by decide +kernel
theorem dX4_acted_1 : decode cX4_acted 1 = .ok (.getfield 37, 3) := by decide +kernel
theorem dX4_acted_4 : decode cX4_acted 4 = .ok (.iconst 4, 1) := by decide +kernel
theorem dX4_acted_5 : decode cX4_acted 5 = .ok (.if_icmp .ne 44, 3) := by decide +kernel
theorem dX4_acted_8 : decode cX4_acted 8 = .ok (.iconst 0, 1) := by decide +kernel
theorem dX4_acted_9 : decode cX4_acted 9 = .ok (.istore_n 2, 1) := by decide +kernel
theorem dX4_acted_10 : decode cX4_acted 10 = .ok (.iload_n 2, 1) := by decide +kernel
theorem dX4_acted_11 : decode cX4_acted 11 = .ok (.sipush 615, 3) := by decide +kernel
theorem dX4_acted_14 : decode cX4_acted 14 = .ok (.if_icmp .ge 25, 3) := by decide +kernel
theorem dX4_acted_17 : decode cX4_acted 17 = .ok (.aload_n 0, 1) := by decide +kernel
theorem dX4_acted_18 : decode cX4_acted 18 = .ok (.getfield 16, 3) := by decide +kernel
theorem dX4_acted_21 : decode cX4_acted 21 = .ok (.iload_n 2, 1) := by decide +kernel
theorem dX4_acted_22 : decode cX4_acted 22 = .ok (.aload_n 0, 1) := by decide +kernel
theorem dX4_acted_23 : decode cX4_acted 23 = .ok (.getfield 16, 3) := by decide +kernel
theorem dX4_acted_26 : decode cX4_acted 26 = .ok (.iload_n 2, 1) := by decide +kernel
theorem dX4_acted_27 : decode cX4_acted 27 = .ok (.sipush 205, 3) := by decide +kernel
theorem dX4_acted_30 : decode cX4_acted 30 = .ok (.iadd, 1) := by decide +kernel
theorem dX4_acted_31 : decode cX4_acted 31 = .ok (.iaload, 1) := by decide +kernel
theorem dX4_acted_32 : decode cX4_acted 32 = .ok (.iastore, 1) := by decide +kernel
theorem dX4_acted_33 : decode cX4_acted 33 = .ok (.iinc 2 1, 3) := by decide +kernel
theorem dX4_acted_36 : decode cX4_acted 36 = .ok (.goto (-26), 3) := by decide +kernel
theorem dX4_acted_39 : decode cX4_acted 39 = .ok (.aload_n 0, 1) := by decide +kernel
theorem dX4_acted_40 : decode cX4_acted 40 = .ok (.dup, 1) := by decide +kernel
theorem dX4_acted_41 : decode cX4_acted 41 = .ok (.getfield 37, 3) := by decide +kernel
theorem dX4_acted_44 : decode cX4_acted 44 = .ok (.iconst 1, 1) := by decide +kernel
theorem dX4_acted_45 : decode cX4_acted 45 = .ok (.isub, 1) := by decide +kernel
theorem dX4_acted_46 : decode cX4_acted 46 = .ok (.putfield 37, 3) := by decide +kernel
theorem dX4_acted_49 : decode cX4_acted 49 = .ok (.iconst 0, 1) := by decide +kernel
theorem dX4_acted_50 : decode cX4_acted 50 = .ok (.istore_n 2, 1) := by decide +kernel
theorem dX4_acted_51 : decode cX4_acted 51 = .ok (.iload_n 2, 1) := by decide +kernel
theorem dX4_acted_52 : decode cX4_acted 52 = .ok (.sipush 205, 3) := by decide +kernel
theorem dX4_acted_55 : decode cX4_acted 55 = .ok (.if_icmp .ge 30, 3) := by decide +kernel
theorem dX4_acted_58 : decode cX4_acted 58 = .ok (.aload_n 0, 1) := by decide +kernel
theorem dX4_acted_59 : decode cX4_acted 59 = .ok (.getfield 16, 3) := by decide +kernel
theorem dX4_acted_62 : decode cX4_acted 62 = .ok (.sipush 205, 3) := by decide +kernel
theorem dX4_acted_65 : decode cX4_acted 65 = .ok (.aload_n 0, 1) := by decide +kernel
theorem dX4_acted_66 : decode cX4_acted 66 = .ok (.getfield 37, 3) := by decide +kernel
theorem dX4_acted_69 : decode cX4_acted 69 = .ok (.imul, 1) := by decide +kernel
theorem dX4_acted_70 : decode cX4_acted 70 = .ok (.iload_n 2, 1) := by decide +kernel
theorem dX4_acted_71 : decode cX4_acted 71 = .ok (.iadd, 1) := by decide +kernel
theorem dX4_acted_72 : decode cX4_acted 72 = .ok (.aload_n 0, 1) := by decide +kernel
theorem dX4_acted_73 : decode cX4_acted 73 = .ok (.getfield 13, 3) := by decide +kernel
theorem dX4_acted_76 : decode cX4_acted 76 = .ok (.iload_n 2, 1) := by decide +kernel
theorem dX4_acted_77 : decode cX4_acted 77 = .ok (.iaload, 1) := by decide +kernel
theorem dX4_acted_78 : decode cX4_acted 78 = .ok (.iastore, 1) := by decide +kernel
theorem dX4_acted_79 : decode cX4_acted 79 = .ok (.iinc 2 1, 3) := by decide +kernel
theorem dX4_acted_82 : decode cX4_acted 82 = .ok (.goto (-31), 3) := by decide +kernel
theorem dX4_acted_85 : decode cX4_acted 85 = .ok (.aload_n 0, 1) := by decide +kernel
theorem dX4_acted_86 : decode cX4_acted 86 = .ok (.dup, 1) := by decide +kernel
theorem dX4_acted_87 : decode cX4_acted 87 = .ok (.getfield 37, 3) := by decide +kernel
theorem dX4_acted_90 : decode cX4_acted 90 = .ok (.iconst 1, 1) := by decide +kernel
theorem dX4_acted_91 : decode cX4_acted 91 = .ok (.iadd, 1) := by decide +kernel
theorem dX4_acted_92 : decode cX4_acted 92 = .ok (.putfield 37, 3) := by decide +kernel
theorem dX4_acted_95 : decode cX4_acted 95 = .ok (.iload_n 1, 1) := by decide +kernel
theorem dX4_acted_96 : decode cX4_acted 96 = .ok (.ireturn, 1) := by decide +kernel
set_option maxRecDepth 20000 in
theorem ggX4_isNumber_X4_in : GoodIn wsX4_isNumber wsX4_in := goodIn_r _ [5] (by decide +kernel) (by decide +kernel)
set_option maxRecDepth 20000 in
theorem gX4_isNumber_X4_in : GoodIn wsX4_isNumber (va_wsS RX4 43 yX4_in wsX4_in) := goodIn_app (goodIn_of _ (by decide +kernel)) ggX4_isNumber_X4_in
theorem dX4_isNumber_0 : decode cX4_isNumber 0 = .ok (.iload_n 0, 1) := by decide +kernel
theorem dX4_isNumber_1 : decode cX4_isNumber 1 = .ok (.i2l, 1) := by decide +kernel
theorem dX4_isNumber_2 : decode cX4_isNumber 2 = .ok (.lconst 1, 1) := by decide +kernel
theorem dX4_isNumber_3 : decode cX4_isNumber 3 = .ok (.ldc2_w 41, 3) := by decide +kernel
theorem dX4_isNumber_6 : decode cX4_isNumber 6 = .ok (.invokestatic 43, 3) := by decide +kernel
theorem dX4_isNumber_9 : decode cX4_isNumber 9 = .ok (.ireturn, 1) := by decide +kernel
theorem dX4_numberOf_0 : decode cX4_numberOf 0 = .ok (.aload_n 0, 1) := by decide +kernel
theorem dX4_numberOf_1 : decode cX4_numberOf 1 = .ok (.getfield 7, 3) := by decide +kernel
theorem dX4_numberOf_4 : decode cX4_numberOf 4 = .ok (.bipush 49, 2) := by decide +kernel
theorem dX4_numberOf_6 : decode cX4_numberOf 6 = .ok (.iaload, 1) := by decide +kernel
theorem dX4_numberOf_7 : decode cX4_numberOf 7 = .ok (.iload_n 1, 1) := by decide +kernel
theorem dX4_numberOf_8 : decode cX4_numberOf 8 = .ok (.imul, 1) := by decide +kernel
theorem dX4_numberOf_9 : decode cX4_numberOf 9 = .ok (.aload_n 0, 1) := by decide +kernel
theorem dX4_numberOf_10 : decode cX4_numberOf 10 = .ok (.getfield 7, 3) := by decide +kernel
theorem dX4_numberOf_13 : decode cX4_numberOf 13 = .ok (.bipush 50, 2) := by decide +kernel
theorem dX4_numberOf_15 : decode cX4_numberOf 15 = .ok (.iaload, 1) := by decide +kernel
theorem dX4_numberOf_16 : decode cX4_numberOf 16 = .ok (.iadd, 1) := by decide +kernel
theorem dX4_numberOf_17 : decode cX4_numberOf 17 = .ok (.bipush 26, 2) := by decide +kernel
theorem dX4_numberOf_19 : decode cX4_numberOf 19 = .ok (.irem, 1) := by decide +kernel
theorem dX4_numberOf_20 : decode cX4_numberOf 20 = .ok (.iconst 1, 1) := by decide +kernel
theorem dX4_numberOf_21 : decode cX4_numberOf 21 = .ok (.iadd, 1) := by decide +kernel
theorem dX4_numberOf_22 : decode cX4_numberOf 22 = .ok (.ireturn, 1) := by decide +kernel
set_option maxRecDepth 20000 in
theorem ggX4_letterOf_X4_numberOf : GoodIn wsX4_letterOf wsX4_numberOf := goodIn_r _ [5, 6, 7, 8, 9, 10, 11, 12, 13, 14, 15, 16, 17, 18] (by decide +kernel) (by decide +kernel)
set_option maxRecDepth 20000 in
theorem gX4_letterOf_X4_numberOf : GoodIn wsX4_letterOf (wsV RX4 47 RX4 yX4_numberOf wsX4_numberOf) := goodIn_app (goodIn_of _ (by decide +kernel)) ggX4_letterOf_X4_numberOf
theorem dX4_letterOf_0 : decode cX4_letterOf 0 = .ok (.iconst 0, 1) := by decide +kernel
theorem dX4_letterOf_1 : decode cX4_letterOf 1 = .ok (.istore_n 2, 1) := by decide +kernel
theorem dX4_letterOf_2 : decode cX4_letterOf 2 = .ok (.aload_n 0, 1) := by decide +kernel
theorem dX4_letterOf_3 : decode cX4_letterOf 3 = .ok (.iload_n 2, 1) := by decide +kernel
theorem dX4_letterOf_4 : decode cX4_letterOf 4 = .ok (.invokevirtual 47, 3) := by decide +kernel
theorem dX4_letterOf_7 : decode cX4_letterOf 7 = .ok (.iload_n 1, 1) := by decide +kernel
theorem dX4_letterOf_8 : decode cX4_letterOf 8 = .ok (.if_icmp .eq 9, 3) := by decide +kernel
theorem dX4_letterOf_11 : decode cX4_letterOf 11 = .ok (.iinc 2 1, 3) := by decide +kernel
theorem dX4_letterOf_14 : decode cX4_letterOf 14 = .ok (.goto (-12), 3) := by decide +kernel
theorem dX4_letterOf_17 : decode cX4_letterOf 17 = .ok (.iload_n 2, 1) := by decide +kernel
theorem dX4_letterOf_18 : decode cX4_letterOf 18 = .ok (.ireturn, 1) := by decide +kernel
set_option maxRecDepth 20000 in
theorem ggX4_numberAt_X4_numberOf : GoodIn wsX4_numberAt wsX4_numberOf := goodIn_r _ [6, 1, 7, 8, 9, 10, 11, 12, 13, 14, 15, 16, 17, 18] (by decide +kernel) (by decide +kernel)
set_option maxRecDepth 20000 in
theorem gX4_numberAt_X4_numberOf : GoodIn wsX4_numberAt (wsV RX4 47 RX4 yX4_numberOf wsX4_numberOf) := goodIn_app (goodIn_of _ (by decide +kernel)) ggX4_numberAt_X4_numberOf
theorem dX4_numberAt_0 : decode cX4_numberAt 0 = .ok (.aload_n 0, 1) := by decide +kernel
theorem dX4_numberAt_1 : decode cX4_numberAt 1 = .ok (.getfield 7, 3) := by decide +kernel
theorem dX4_numberAt_4 : decode cX4_numberAt 4 = .ok (.iconst 0, 1) := by decide +kernel
theorem dX4_numberAt_5 : decode cX4_numberAt 5 = .ok (.iload_n 1, 1) := by decide +kernel
theorem dX4_numberAt_6 : decode cX4_numberAt 6 = .ok (.iadd, 1) := by decide +kernel
theorem dX4_numberAt_7 : decode cX4_numberAt 7 = .ok (.iaload, 1) := by decide +kernel
theorem dX4_numberAt_8 : decode cX4_numberAt 8 = .ok (.iconst (-1), 1) := by decide +kernel
theorem dX4_numberAt_9 : decode cX4_numberAt 9 = .ok (.if_icmp .ne 8, 3) := by decide +kernel
theorem dX4_numberAt_12 : decode cX4_numberAt 12 = .ok (.bipush (-5), 2) := by decide +kernel
theorem dX4_numberAt_14 : decode cX4_numberAt 14 = .ok (.goto 15, 3) := by decide +kernel
theorem dX4_numberAt_17 : decode cX4_numberAt 17 = .ok (.aload_n 0, 1) := by decide +kernel
theorem dX4_numberAt_18 : decode cX4_numberAt 18 = .ok (.aload_n 0, 1) := by decide +kernel
theorem dX4_numberAt_19 : decode cX4_numberAt 19 = .ok (.getfield 7, 3) := by decide +kernel
theorem dX4_numberAt_22 : decode cX4_numberAt 22 = .ok (.iconst 0, 1) := by decide +kernel
theorem dX4_numberAt_23 : decode cX4_numberAt 23 = .ok (.iload_n 1, 1) := by decide +kernel
theorem dX4_numberAt_24 : decode cX4_numberAt 24 = .ok (.iadd, 1) := by decide +kernel
theorem dX4_numberAt_25 : decode cX4_numberAt 25 = .ok (.iaload, 1) := by decide +kernel
theorem dX4_numberAt_26 : decode cX4_numberAt 26 = .ok (.invokevirtual 47, 3) := by decide +kernel
theorem dX4_numberAt_29 : decode cX4_numberAt 29 = .ok (.ireturn, 1) := by decide +kernel
set_option maxRecDepth 20000 in
theorem ggX4_guessAt_X4_numberAt : GoodIn wsX4_guessAt wsX4_numberAt := goodIn_r _ [6, 1, 7, 8, 9, 5, 10, 11, 12, 13, 14, 15, 16, 17, 18, 19, 20, 21, 22] (by decide +kernel) (by decide +kernel)
set_option maxRecDepth 20000 in
theorem gX4_guessAt_X4_numberAt : GoodIn wsX4_guessAt (wsV RX4 51 RX4 yX4_numberAt wsX4_numberAt) := goodIn_app (goodIn_of _ (by decide +kernel)) ggX4_guessAt_X4_numberAt
theorem dX4_guessAt_0 : decode cX4_guessAt 0 = .ok (.aload_n 0, 1) := by decide +kernel
theorem dX4_guessAt_1 : decode cX4_guessAt 1 = .ok (.getfield 7, 3) := by decide +kernel
theorem dX4_guessAt_4 : decode cX4_guessAt 4 = .ok (.iconst 0, 1) := by decide +kernel
theorem dX4_guessAt_5 : decode cX4_guessAt 5 = .ok (.iload_n 1, 1) := by decide +kernel
theorem dX4_guessAt_6 : decode cX4_guessAt 6 = .ok (.iadd, 1) := by decide +kernel
theorem dX4_guessAt_7 : decode cX4_guessAt 7 = .ok (.iaload, 1) := by decide +kernel
theorem dX4_guessAt_8 : decode cX4_guessAt 8 = .ok (.iconst (-1), 1) := by decide +kernel
theorem dX4_guessAt_9 : decode cX4_guessAt 9 = .ok (.if_icmp .ne 7, 3) := by decide +kernel
theorem dX4_guessAt_12 : decode cX4_guessAt 12 = .ok (.iconst (-1), 1) := by decide +kernel
theorem dX4_guessAt_13 : decode cX4_guessAt 13 = .ok (.goto 16, 3) := by decide +kernel
theorem dX4_guessAt_16 : decode cX4_guessAt 16 = .ok (.aload_n 0, 1) := by decide +kernel
theorem dX4_guessAt_17 : decode cX4_guessAt 17 = .ok (.getfield 7, 3) := by decide +kernel
theorem dX4_guessAt_20 : decode cX4_guessAt 20 = .ok (.bipush 51, 2) := by decide +kernel
theorem dX4_guessAt_22 : decode cX4_guessAt 22 = .ok (.aload_n 0, 1) := by decide +kernel
theorem dX4_guessAt_23 : decode cX4_guessAt 23 = .ok (.iload_n 1, 1) := by decide +kernel
theorem dX4_guessAt_24 : decode cX4_guessAt 24 = .ok (.invokevirtual 51, 3) := by decide +kernel
theorem dX4_guessAt_27 : decode cX4_guessAt 27 = .ok (.iadd, 1) := by decide +kernel
theorem dX4_guessAt_28 : decode cX4_guessAt 28 = .ok (.iaload, 1) := by decide +kernel
theorem dX4_guessAt_29 : decode cX4_guessAt 29 = .ok (.ireturn, 1) := by decide +kernel
set_option maxRecDepth 20000 in
theorem ggX4_cellsWith_X4_numberAt : GoodIn wsX4_cellsWith wsX4_numberAt := goodIn_r _ [5, 6, 7, 8, 9, 4, 10, 11, 12, 13, 14, 15, 16, 17, 18, 19, 20, 21, 22] (by decide +kernel) (by decide +kernel)
set_option maxRecDepth 20000 in
theorem gX4_cellsWith_X4_numberAt : GoodIn wsX4_cellsWith (wsV RX4 51 RX4 yX4_numberAt wsX4_numberAt) := goodIn_app (goodIn_of _ (by decide +kernel)) ggX4_cellsWith_X4_numberAt
theorem dX4_cellsWith_0 : decode cX4_cellsWith 0 = .ok (.iconst 0, 1) := by decide +kernel
theorem dX4_cellsWith_1 : decode cX4_cellsWith 1 = .ok (.istore_n 2, 1) := by decide +kernel
theorem dX4_cellsWith_2 : decode cX4_cellsWith 2 = .ok (.iconst 0, 1) := by decide +kernel
theorem dX4_cellsWith_3 : decode cX4_cellsWith 3 = .ok (.istore_n 3, 1) := by decide +kernel
theorem dX4_cellsWith_4 : decode cX4_cellsWith 4 = .ok (.iload_n 3, 1) := by decide +kernel
theorem dX4_cellsWith_5 : decode cX4_cellsWith 5 = .ok (.bipush 49, 2) := by decide +kernel
theorem dX4_cellsWith_7 : decode cX4_cellsWith 7 = .ok (.if_icmp .ge 26, 3) := by decide +kernel
theorem dX4_cellsWith_10 : decode cX4_cellsWith 10 = .ok (.iload_n 2, 1) := by decide +kernel
theorem dX4_cellsWith_11 : decode cX4_cellsWith 11 = .ok (.aload_n 0, 1) := by decide +kernel
theorem dX4_cellsWith_12 : decode cX4_cellsWith 12 = .ok (.iload_n 3, 1) := by decide +kernel
theorem dX4_cellsWith_13 : decode cX4_cellsWith 13 = .ok (.invokevirtual 51, 3) := by decide +kernel
theorem dX4_cellsWith_16 : decode cX4_cellsWith 16 = .ok (.iload_n 1, 1) := by decide +kernel
theorem dX4_cellsWith_17 : decode cX4_cellsWith 17 = .ok (.if_icmp .ne 7, 3) := by decide +kernel
theorem dX4_cellsWith_20 : decode cX4_cellsWith 20 = .ok (.iconst 1, 1) := by decide +kernel
theorem dX4_cellsWith_21 : decode cX4_cellsWith 21 = .ok (.goto 4, 3) := by decide +kernel
theorem dX4_cellsWith_24 : decode cX4_cellsWith 24 = .ok (.iconst 0, 1) := by decide +kernel
theorem dX4_cellsWith_25 : decode cX4_cellsWith 25 = .ok (.iadd, 1) := by decide +kernel
theorem dX4_cellsWith_26 : decode cX4_cellsWith 26 = .ok (.istore_n 2, 1) := by decide +kernel
theorem dX4_cellsWith_27 : decode cX4_cellsWith 27 = .ok (.iinc 3 1, 3) := by decide +kernel
theorem dX4_cellsWith_30 : decode cX4_cellsWith 30 = .ok (.goto (-26), 3) := by decide +kernel
theorem dX4_cellsWith_33 : decode cX4_cellsWith 33 = .ok (.iload_n 2, 1) := by decide +kernel
theorem dX4_cellsWith_34 : decode cX4_cellsWith 34 = .ok (.ireturn, 1) := by decide +kernel
set_option maxRecDepth 20000 in
theorem ggX4_priceOf_X4_cellsWith : GoodIn wsX4_priceOf wsX4_cellsWith := goodIn_r _ [5, 6, 7, 8, 4, 9, 10, 11, 12, 13, 14, 15, 16, 17, 18, 19, 20, 21, 22, 23, 24, 25, 26] (by decide +kernel) (by decide +kernel)
set_option maxRecDepth 20000 in
theorem gX4_priceOf_X4_cellsWith : GoodIn wsX4_priceOf (wsV RX4 54 RX4 yX4_cellsWith wsX4_cellsWith) := goodIn_app (goodIn_of _ (by decide +kernel)) ggX4_priceOf_X4_cellsWith
theorem dX4_priceOf_0 : decode cX4_priceOf 0 = .ok (.iconst 1, 1) := by decide +kernel
theorem dX4_priceOf_1 : decode cX4_priceOf 1 = .ok (.aload_n 0, 1) := by decide +kernel
theorem dX4_priceOf_2 : decode cX4_priceOf 2 = .ok (.iload_n 1, 1) := by decide +kernel
theorem dX4_priceOf_3 : decode cX4_priceOf 3 = .ok (.invokevirtual 54, 3) := by decide +kernel
theorem dX4_priceOf_6 : decode cX4_priceOf 6 = .ok (.iadd, 1) := by decide +kernel
theorem dX4_priceOf_7 : decode cX4_priceOf 7 = .ok (.istore_n 2, 1) := by decide +kernel
theorem dX4_priceOf_8 : decode cX4_priceOf 8 = .ok (.iload_n 2, 1) := by decide +kernel
theorem dX4_priceOf_9 : decode cX4_priceOf 9 = .ok (.bipush 9, 2) := by decide +kernel
theorem dX4_priceOf_11 : decode cX4_priceOf 11 = .ok (.if_icmp .ge 7, 3) := by decide +kernel
theorem dX4_priceOf_14 : decode cX4_priceOf 14 = .ok (.iload_n 2, 1) := by decide +kernel
theorem dX4_priceOf_15 : decode cX4_priceOf 15 = .ok (.goto 5, 3) := by decide +kernel
theorem dX4_priceOf_18 : decode cX4_priceOf 18 = .ok (.bipush 9, 2) := by decide +kernel
theorem dX4_priceOf_20 : decode cX4_priceOf 20 = .ok (.ireturn, 1) := by decide +kernel
theorem dX4_isGuessOfAnother_0 : decode cX4_isGuessOfAnother 0 = .ok (.iconst 0, 1) := by decide +kernel
theorem dX4_isGuessOfAnother_1 : decode cX4_isGuessOfAnother 1 = .ok (.istore_n 3, 1) := by decide +kernel
theorem dX4_isGuessOfAnother_2 : decode cX4_isGuessOfAnother 2 = .ok (.iconst 1, 1) := by decide +kernel
theorem dX4_isGuessOfAnother_3 : decode cX4_isGuessOfAnother 3 = .ok (.istore 4, 2) := by decide +kernel
theorem dX4_isGuessOfAnother_5 : decode cX4_isGuessOfAnother 5 = .ok (.iload 4, 2) := by decide +kernel
theorem dX4_isGuessOfAnother_7 : decode cX4_isGuessOfAnother 7 = .ok (.bipush 26, 2) := by decide +kernel
theorem dX4_isGuessOfAnother_9 : decode cX4_isGuessOfAnother 9 = .ok (.if_icmp .gt 39, 3) := by decide +kernel
theorem dX4_isGuessOfAnother_12 : decode cX4_isGuessOfAnother 12 = .ok (.iload_n 3, 1) := by decide +kernel
theorem dX4_isGuessOfAnother_13 : decode cX4_isGuessOfAnother 13 = .ok (.ifCond .ne 23, 3) := by decide +kernel
theorem dX4_isGuessOfAnother_16 : decode cX4_isGuessOfAnother 16 = .ok (.iload 4, 2) := by decide +kernel
theorem dX4_isGuessOfAnother_18 : decode cX4_isGuessOfAnother 18 = .ok (.iload_n 2, 1) := by decide +kernel
theorem dX4_isGuessOfAnother_19 : decode cX4_isGuessOfAnother 19 = .ok (.if_icmp .eq 21, 3) := by decide +kernel
theorem dX4_isGuessOfAnother_22 : decode cX4_isGuessOfAnother 22 = .ok (.aload_n 0, 1) := by decide +kernel
theorem dX4_isGuessOfAnother_23 : decode cX4_isGuessOfAnother 23 = .ok (.getfield 7, 3) := by decide +kernel
theorem dX4_isGuessOfAnother_26 : decode cX4_isGuessOfAnother 26 = .ok (.bipush 51, 2) := by decide +kernel
theorem dX4_isGuessOfAnother_28 : decode cX4_isGuessOfAnother 28 = .ok (.iload 4, 2) := by decide +kernel
theorem dX4_isGuessOfAnother_30 : decode cX4_isGuessOfAnother 30 = .ok (.iadd, 1) := by decide +kernel
theorem dX4_isGuessOfAnother_31 : decode cX4_isGuessOfAnother 31 = .ok (.iaload, 1) := by decide +kernel
theorem dX4_isGuessOfAnother_32 : decode cX4_isGuessOfAnother 32 = .ok (.iload_n 1, 1) := by decide +kernel
theorem dX4_isGuessOfAnother_33 : decode cX4_isGuessOfAnother 33 = .ok (.if_icmp .ne 7, 3) := by decide +kernel
theorem dX4_isGuessOfAnother_36 : decode cX4_isGuessOfAnother 36 = .ok (.iconst 1, 1) := by decide +kernel
theorem dX4_isGuessOfAnother_37 : decode cX4_isGuessOfAnother 37 = .ok (.goto 4, 3) := by decide +kernel
theorem dX4_isGuessOfAnother_40 : decode cX4_isGuessOfAnother 40 = .ok (.iconst 0, 1) := by decide +kernel
theorem dX4_isGuessOfAnother_41 : decode cX4_isGuessOfAnother 41 = .ok (.istore_n 3, 1) := by decide +kernel
theorem dX4_isGuessOfAnother_42 : decode cX4_isGuessOfAnother 42 = .ok (.iinc 4 1, 3) := by decide +kernel
theorem dX4_isGuessOfAnother_45 : decode cX4_isGuessOfAnother 45 = .ok (.goto (-40), 3) := by decide +kernel
theorem dX4_isGuessOfAnother_48 : decode cX4_isGuessOfAnother 48 = .ok (.iload_n 3, 1) := by decide +kernel
theorem dX4_isGuessOfAnother_49 : decode cX4_isGuessOfAnother 49 = .ok (.ireturn, 1) := by decide +kernel
theorem dX4_coded_0 : decode cX4_coded 0 = .ok (.iload_n 0, 1) := by decide +kernel
theorem dX4_coded_1 : decode cX4_coded 1 = .ok (.iconst (-1), 1) := by decide +kernel
theorem dX4_coded_2 : decode cX4_coded 2 = .ok (.if_icmp .ne 8, 3) := by decide +kernel
theorem dX4_coded_5 : decode cX4_coded 5 = .ok (.bipush (-5), 2) := by decide +kernel
theorem dX4_coded_7 : decode cX4_coded 7 = .ok (.goto 7, 3) := by decide +kernel
theorem dX4_coded_10 : decode cX4_coded 10 = .ok (.bipush 97, 2) := by decide +kernel
theorem dX4_coded_12 : decode cX4_coded 12 = .ok (.iload_n 0, 1) := by decide +kernel
theorem dX4_coded_13 : decode cX4_coded 13 = .ok (.iadd, 1) := by decide +kernel
theorem dX4_coded_14 : decode cX4_coded 14 = .ok (.ireturn, 1) := by decide +kernel
theorem dX4_findsInLine_0 : decode cX4_findsInLine 0 = .ok (.iconst 0, 1) := by decide +kernel
theorem dX4_findsInLine_1 : decode cX4_findsInLine 1 = .ok (.istore_n 3, 1) := by decide +kernel
theorem dX4_findsInLine_2 : decode cX4_findsInLine 2 = .ok (.iconst 0, 1) := by decide +kernel
theorem dX4_findsInLine_3 : decode cX4_findsInLine 3 = .ok (.istore 4, 2) := by decide +kernel
theorem dX4_findsInLine_5 : decode cX4_findsInLine 5 = .ok (.iload 4, 2) := by decide +kernel
theorem dX4_findsInLine_7 : decode cX4_findsInLine 7 = .ok (.bipush 7, 2) := by decide +kernel
theorem dX4_findsInLine_9 : decode cX4_findsInLine 9 = .ok (.if_icmp .gt 93, 3) := by decide +kernel
theorem dX4_findsInLine_12 : decode cX4_findsInLine 12 = .ok (.iload 4, 2) := by decide +kernel
theorem dX4_findsInLine_14 : decode cX4_findsInLine 14 = .ok (.bipush 7, 2) := by decide +kernel
theorem dX4_findsInLine_16 : decode cX4_findsInLine 16 = .ok (.if_icmp .ge 26, 3) := by decide +kernel
theorem dX4_findsInLine_19 : decode cX4_findsInLine 19 = .ok (.aload_n 0, 1) := by decide +kernel
theorem dX4_findsInLine_20 : decode cX4_findsInLine 20 = .ok (.getfield 7, 3) := by decide +kernel
theorem dX4_findsInLine_23 : decode cX4_findsInLine 23 = .ok (.iconst 0, 1) := by decide +kernel
theorem dX4_findsInLine_24 : decode cX4_findsInLine 24 = .ok (.iload_n 1, 1) := by decide +kernel
theorem dX4_findsInLine_25 : decode cX4_findsInLine 25 = .ok (.iadd, 1) := by decide +kernel
theorem dX4_findsInLine_26 : decode cX4_findsInLine 26 = .ok (.iload_n 2, 1) := by decide +kernel
theorem dX4_findsInLine_27 : decode cX4_findsInLine 27 = .ok (.iload 4, 2) := by decide +kernel
theorem dX4_findsInLine_29 : decode cX4_findsInLine 29 = .ok (.imul, 1) := by decide +kernel
theorem dX4_findsInLine_30 : decode cX4_findsInLine 30 = .ok (.iadd, 1) := by decide +kernel
theorem dX4_findsInLine_31 : decode cX4_findsInLine 31 = .ok (.iaload, 1) := by decide +kernel
theorem dX4_findsInLine_32 : decode cX4_findsInLine 32 = .ok (.iconst (-1), 1) := by decide +kernel
theorem dX4_findsInLine_33 : decode cX4_findsInLine 33 = .ok (.if_icmp .eq 9, 3) := by decide +kernel
theorem dX4_findsInLine_36 : decode cX4_findsInLine 36 = .ok (.iinc 3 1, 3) := by decide +kernel
theorem dX4_findsInLine_39 : decode cX4_findsInLine 39 = .ok (.goto 57, 3) := by decide +kernel
theorem dX4_findsInLine_42 : decode cX4_findsInLine 42 = .ok (.iload_n 3, 1) := by decide +kernel
theorem dX4_findsInLine_43 : decode cX4_findsInLine 43 = .ok (.iconst 1, 1) := by decide +kernel
theorem dX4_findsInLine_44 : decode cX4_findsInLine 44 = .ok (.if_icmp .le 50, 3) := by decide +kernel
theorem dX4_findsInLine_47 : decode cX4_findsInLine 47 = .ok (.aload_n 0, 1) := by decide +kernel
theorem dX4_findsInLine_48 : decode cX4_findsInLine 48 = .ok (.getfield 22, 3) := by decide +kernel
theorem dX4_findsInLine_51 : decode cX4_findsInLine 51 = .ok (.aload_n 0, 1) := by decide +kernel
theorem dX4_findsInLine_52 : decode cX4_findsInLine 52 = .ok (.getfield 57, 3) := by decide +kernel
theorem dX4_findsInLine_55 : decode cX4_findsInLine 55 = .ok (.iload_n 1, 1) := by decide +kernel
theorem dX4_findsInLine_56 : decode cX4_findsInLine 56 = .ok (.iload_n 2, 1) := by decide +kernel
theorem dX4_findsInLine_57 : decode cX4_findsInLine 57 = .ok (.iload 4, 2) := by decide +kernel
theorem dX4_findsInLine_59 : decode cX4_findsInLine 59 = .ok (.iload_n 3, 1) := by decide +kernel
theorem dX4_findsInLine_60 : decode cX4_findsInLine 60 = .ok (.isub, 1) := by decide +kernel
theorem dX4_findsInLine_61 : decode cX4_findsInLine 61 = .ok (.imul, 1) := by decide +kernel
theorem dX4_findsInLine_62 : decode cX4_findsInLine 62 = .ok (.iadd, 1) := by decide +kernel
theorem dX4_findsInLine_63 : decode cX4_findsInLine 63 = .ok (.iastore, 1) := by decide +kernel
theorem dX4_findsInLine_64 : decode cX4_findsInLine 64 = .ok (.aload_n 0, 1) := by decide +kernel
theorem dX4_findsInLine_65 : decode cX4_findsInLine 65 = .ok (.getfield 25, 3) := by decide +kernel
theorem dX4_findsInLine_68 : decode cX4_findsInLine 68 = .ok (.aload_n 0, 1) := by decide +kernel
theorem dX4_findsInLine_69 : decode cX4_findsInLine 69 = .ok (.getfield 57, 3) := by decide +kernel
theorem dX4_findsInLine_72 : decode cX4_findsInLine 72 = .ok (.iload_n 3, 1) := by decide +kernel
theorem dX4_findsInLine_73 : decode cX4_findsInLine 73 = .ok (.iastore, 1) := by decide +kernel
theorem dX4_findsInLine_74 : decode cX4_findsInLine 74 = .ok (.aload_n 0, 1) := by decide +kernel
theorem dX4_findsInLine_75 : decode cX4_findsInLine 75 = .ok (.getfield 28, 3) := by decide +kernel
theorem dX4_findsInLine_78 : decode cX4_findsInLine 78 = .ok (.aload_n 0, 1) := by decide +kernel
theorem dX4_findsInLine_79 : decode cX4_findsInLine 79 = .ok (.getfield 57, 3) := by decide +kernel
theorem dX4_findsInLine_82 : decode cX4_findsInLine 82 = .ok (.iload_n 2, 1) := by decide +kernel
theorem dX4_findsInLine_83 : decode cX4_findsInLine 83 = .ok (.iastore, 1) := by decide +kernel
theorem dX4_findsInLine_84 : decode cX4_findsInLine 84 = .ok (.aload_n 0, 1) := by decide +kernel
theorem dX4_findsInLine_85 : decode cX4_findsInLine 85 = .ok (.dup, 1) := by decide +kernel
theorem dX4_findsInLine_86 : decode cX4_findsInLine 86 = .ok (.getfield 57, 3) := by decide +kernel
theorem dX4_findsInLine_89 : decode cX4_findsInLine 89 = .ok (.iconst 1, 1) := by decide +kernel
theorem dX4_findsInLine_90 : decode cX4_findsInLine 90 = .ok (.iadd, 1) := by decide +kernel
theorem dX4_findsInLine_91 : decode cX4_findsInLine 91 = .ok (.putfield 57, 3) := by decide +kernel
theorem dX4_findsInLine_94 : decode cX4_findsInLine 94 = .ok (.iconst 0, 1) := by decide +kernel
theorem dX4_findsInLine_95 : decode cX4_findsInLine 95 = .ok (.istore_n 3, 1) := by decide +kernel
theorem dX4_findsInLine_96 : decode cX4_findsInLine 96 = .ok (.iinc 4 1, 3) := by decide +kernel
theorem dX4_findsInLine_99 : decode cX4_findsInLine 99 = .ok (.goto (-94), 3) := by decide +kernel
theorem dX4_findsInLine_102 : decode cX4_findsInLine 102 = .ok (.return_, 1) := by decide +kernel
set_option maxRecDepth 20000 in
theorem ggX4_findsWords_X4_findsInLine : GoodIn wsX4_findsWords wsX4_findsInLine := goodIn_r _ [6, 7, 8, 1, 9, 10, 11, 12, 13, 14, 15, 16, 17, 18, 19, 20, 21, 22] (by decide +kernel) (by decide +kernel)
set_option maxRecDepth 20000 in
theorem gX4_findsWords_X4_findsInLine : GoodIn wsX4_findsWords (wsV RX4 60 RX4 yX4_findsInLine wsX4_findsInLine) := goodIn_app (goodIn_of _ (by decide +kernel)) ggX4_findsWords_X4_findsInLine
theorem dX4_findsWords_0 : decode cX4_findsWords 0 = .ok (.aload_n 0, 1) := by decide +kernel
theorem dX4_findsWords_1 : decode cX4_findsWords 1 = .ok (.iconst 0, 1) := by decide +kernel
theorem dX4_findsWords_2 : decode cX4_findsWords 2 = .ok (.putfield 57, 3) := by decide +kernel
theorem dX4_findsWords_5 : decode cX4_findsWords 5 = .ok (.iconst 0, 1) := by decide +kernel
theorem dX4_findsWords_6 : decode cX4_findsWords 6 = .ok (.istore_n 1, 1) := by decide +kernel
theorem dX4_findsWords_7 : decode cX4_findsWords 7 = .ok (.iload_n 1, 1) := by decide +kernel
theorem dX4_findsWords_8 : decode cX4_findsWords 8 = .ok (.bipush 7, 2) := by decide +kernel
theorem dX4_findsWords_10 : decode cX4_findsWords 10 = .ok (.if_icmp .ge 18, 3) := by decide +kernel
theorem dX4_findsWords_13 : decode cX4_findsWords 13 = .ok (.aload_n 0, 1) := by decide +kernel
theorem dX4_findsWords_14 : decode cX4_findsWords 14 = .ok (.bipush 7, 2) := by decide +kernel
theorem dX4_findsWords_16 : decode cX4_findsWords 16 = .ok (.iload_n 1, 1) := by decide +kernel
theorem dX4_findsWords_17 : decode cX4_findsWords 17 = .ok (.imul, 1) := by decide +kernel
theorem dX4_findsWords_18 : decode cX4_findsWords 18 = .ok (.iconst 1, 1) := by decide +kernel
theorem dX4_findsWords_19 : decode cX4_findsWords 19 = .ok (.invokevirtual 60, 3) := by decide +kernel
theorem dX4_findsWords_22 : decode cX4_findsWords 22 = .ok (.iinc 1 1, 3) := by decide +kernel
theorem dX4_findsWords_25 : decode cX4_findsWords 25 = .ok (.goto (-18), 3) := by decide +kernel
theorem dX4_findsWords_28 : decode cX4_findsWords 28 = .ok (.iconst 0, 1) := by decide +kernel
theorem dX4_findsWords_29 : decode cX4_findsWords 29 = .ok (.istore_n 1, 1) := by decide +kernel
theorem dX4_findsWords_30 : decode cX4_findsWords 30 = .ok (.iload_n 1, 1) := by decide +kernel
theorem dX4_findsWords_31 : decode cX4_findsWords 31 = .ok (.bipush 7, 2) := by decide +kernel
theorem dX4_findsWords_33 : decode cX4_findsWords 33 = .ok (.if_icmp .ge 16, 3) := by decide +kernel
theorem dX4_findsWords_36 : decode cX4_findsWords 36 = .ok (.aload_n 0, 1) := by decide +kernel
theorem dX4_findsWords_37 : decode cX4_findsWords 37 = .ok (.iload_n 1, 1) := by decide +kernel
theorem dX4_findsWords_38 : decode cX4_findsWords 38 = .ok (.bipush 7, 2) := by decide +kernel
theorem dX4_findsWords_40 : decode cX4_findsWords 40 = .ok (.invokevirtual 60, 3) := by decide +kernel
theorem dX4_findsWords_43 : decode cX4_findsWords 43 = .ok (.iinc 1 1, 3) := by decide +kernel
theorem dX4_findsWords_46 : decode cX4_findsWords 46 = .ok (.goto (-16), 3) := by decide +kernel
theorem dX4_findsWords_49 : decode cX4_findsWords 49 = .ok (.return_, 1) := by decide +kernel
set_option maxRecDepth 20000 in
theorem ggX4_isWord_X4_findsWords : GoodIn wsX4_isWord wsX4_findsWords := goodIn_r _ [6, 1, 7, 8, 9, 5, 10, 11, 12, 13, 14, 18, 19, 20, 21, 22, 23, 24, 25, 26, 27, 28, 29] (by decide +kernel) (by decide +kernel)
set_option maxRecDepth 20000 in
theorem gX4_isWord_X4_findsWords : GoodIn wsX4_isWord (wsV RX4 64 RX4 yX4_findsWords wsX4_findsWords) := goodIn_app (goodIn_of _ (by decide +kernel)) ggX4_isWord_X4_findsWords
set_option maxRecDepth 20000 in
theorem ggX4_isWord_X4_in : GoodIn wsX4_isWord wsX4_in := goodIn_r _ [17] (by decide +kernel) (by decide +kernel)
set_option maxRecDepth 20000 in
theorem gX4_isWord_X4_in : GoodIn wsX4_isWord (va_wsS RX4 43 yX4_in wsX4_in) := goodIn_app (goodIn_of _ (by decide +kernel)) ggX4_isWord_X4_in
theorem dX4_isWord_0 : decode cX4_isWord 0 = .ok (.aload_n 0, 1) := by decide +kernel
theorem dX4_isWord_1 : decode cX4_isWord 1 = .ok (.invokevirtual 64, 3) := by decide +kernel
theorem dX4_isWord_4 : decode cX4_isWord 4 = .ok (.iload_n 1, 1) := by decide +kernel
theorem dX4_isWord_5 : decode cX4_isWord 5 = .ok (.i2l, 1) := by decide +kernel
theorem dX4_isWord_6 : decode cX4_isWord 6 = .ok (.lconst 0, 1) := by decide +kernel
theorem dX4_isWord_7 : decode cX4_isWord 7 = .ok (.aload_n 0, 1) := by decide +kernel
theorem dX4_isWord_8 : decode cX4_isWord 8 = .ok (.getfield 57, 3) := by decide +kernel
theorem dX4_isWord_11 : decode cX4_isWord 11 = .ok (.i2l, 1) := by decide +kernel
theorem dX4_isWord_12 : decode cX4_isWord 12 = .ok (.lconst 1, 1) := by decide +kernel
theorem dX4_isWord_13 : decode cX4_isWord 13 = .ok (.lsub, 1) := by decide +kernel
theorem dX4_isWord_14 : decode cX4_isWord 14 = .ok (.invokestatic 43, 3) := by decide +kernel
theorem dX4_isWord_17 : decode cX4_isWord 17 = .ok (.ireturn, 1) := by decide +kernel
theorem dX4_cellOf_0 : decode cX4_cellOf 0 = .ok (.aload_n 0, 1) := by decide +kernel
theorem dX4_cellOf_1 : decode cX4_cellOf 1 = .ok (.getfield 22, 3) := by decide +kernel
theorem dX4_cellOf_4 : decode cX4_cellOf 4 = .ok (.iload_n 1, 1) := by decide +kernel
theorem dX4_cellOf_5 : decode cX4_cellOf 5 = .ok (.iaload, 1) := by decide +kernel
theorem dX4_cellOf_6 : decode cX4_cellOf 6 = .ok (.aload_n 0, 1) := by decide +kernel
theorem dX4_cellOf_7 : decode cX4_cellOf 7 = .ok (.getfield 28, 3) := by decide +kernel
theorem dX4_cellOf_10 : decode cX4_cellOf 10 = .ok (.iload_n 1, 1) := by decide +kernel
theorem dX4_cellOf_11 : decode cX4_cellOf 11 = .ok (.iaload, 1) := by decide +kernel
theorem dX4_cellOf_12 : decode cX4_cellOf 12 = .ok (.iload_n 2, 1) := by decide +kernel
theorem dX4_cellOf_13 : decode cX4_cellOf 13 = .ok (.imul, 1) := by decide +kernel
theorem dX4_cellOf_14 : decode cX4_cellOf 14 = .ok (.iadd, 1) := by decide +kernel
theorem dX4_cellOf_15 : decode cX4_cellOf 15 = .ok (.ireturn, 1) := by decide +kernel
set_option maxRecDepth 20000 in
theorem ggX4_hasNumber_X4_cellOf : GoodIn wsX4_hasNumber wsX4_cellOf := goodIn_r _ [6, 7, 8, 18, 19, 20, 21, 22, 23, 24, 25, 26, 27, 28, 29] (by decide +kernel) (by decide +kernel)
set_option maxRecDepth 20000 in
theorem gX4_hasNumber_X4_cellOf : GoodIn wsX4_hasNumber (wsV RX4 67 RX4 yX4_cellOf wsX4_cellOf) := goodIn_app (goodIn_of _ (by decide +kernel)) ggX4_hasNumber_X4_cellOf
set_option maxRecDepth 20000 in
theorem ggX4_hasNumber_X4_numberAt : GoodIn wsX4_hasNumber wsX4_numberAt := goodIn_r _ [12, 13, 14, 15, 16, 5, 17, 18, 19, 20, 21, 22, 23, 24, 25, 26, 27, 28, 29] (by decide +kernel) (by decide +kernel)
set_option maxRecDepth 20000 in
theorem gX4_hasNumber_X4_numberAt : GoodIn wsX4_hasNumber (wsV RX4 51 RX4 yX4_numberAt wsX4_numberAt) := goodIn_app (goodIn_of _ (by decide +kernel)) ggX4_hasNumber_X4_numberAt
theorem dX4_hasNumber_0 : decode cX4_hasNumber 0 = .ok (.iconst 0, 1) := by decide +kernel
theorem dX4_hasNumber_1 : decode cX4_hasNumber 1 = .ok (.istore_n 3, 1) := by decide +kernel
theorem dX4_hasNumber_2 : decode cX4_hasNumber 2 = .ok (.iconst 0, 1) := by decide +kernel
theorem dX4_hasNumber_3 : decode cX4_hasNumber 3 = .ok (.istore 4, 2) := by decide +kernel
theorem dX4_hasNumber_5 : decode cX4_hasNumber 5 = .ok (.iload 4, 2) := by decide +kernel
theorem dX4_hasNumber_7 : decode cX4_hasNumber 7 = .ok (.aload_n 0, 1) := by decide +kernel
theorem dX4_hasNumber_8 : decode cX4_hasNumber 8 = .ok (.getfield 25, 3) := by decide +kernel
theorem dX4_hasNumber_11 : decode cX4_hasNumber 11 = .ok (.iload_n 1, 1) := by decide +kernel
theorem dX4_hasNumber_12 : decode cX4_hasNumber 12 = .ok (.iaload, 1) := by decide +kernel
theorem dX4_hasNumber_13 : decode cX4_hasNumber 13 = .ok (.if_icmp .ge 34, 3) := by decide +kernel
theorem dX4_hasNumber_16 : decode cX4_hasNumber 16 = .ok (.iload_n 3, 1) := by decide +kernel
theorem dX4_hasNumber_17 : decode cX4_hasNumber 17 = .ok (.ifCond .ne 18, 3) := by decide +kernel
theorem dX4_hasNumber_20 : decode cX4_hasNumber 20 = .ok (.aload_n 0, 1) := by decide +kernel
theorem dX4_hasNumber_21 : decode cX4_hasNumber 21 = .ok (.aload_n 0, 1) := by decide +kernel
theorem dX4_hasNumber_22 : decode cX4_hasNumber 22 = .ok (.iload_n 1, 1) := by decide +kernel
theorem dX4_hasNumber_23 : decode cX4_hasNumber 23 = .ok (.iload 4, 2) := by decide +kernel
theorem dX4_hasNumber_25 : decode cX4_hasNumber 25 = .ok (.invokevirtual 67, 3) := by decide +kernel
theorem dX4_hasNumber_28 : decode cX4_hasNumber 28 = .ok (.invokevirtual 51, 3) := by decide +kernel
theorem dX4_hasNumber_31 : decode cX4_hasNumber 31 = .ok (.iload_n 2, 1) := by decide +kernel
theorem dX4_hasNumber_32 : decode cX4_hasNumber 32 = .ok (.if_icmp .ne 7, 3) := by decide +kernel
theorem dX4_hasNumber_35 : decode cX4_hasNumber 35 = .ok (.iconst 1, 1) := by decide +kernel
theorem dX4_hasNumber_36 : decode cX4_hasNumber 36 = .ok (.goto 4, 3) := by decide +kernel
theorem dX4_hasNumber_39 : decode cX4_hasNumber 39 = .ok (.iconst 0, 1) := by decide +kernel
theorem dX4_hasNumber_40 : decode cX4_hasNumber 40 = .ok (.istore_n 3, 1) := by decide +kernel
theorem dX4_hasNumber_41 : decode cX4_hasNumber 41 = .ok (.iinc 4 1, 3) := by decide +kernel
theorem dX4_hasNumber_44 : decode cX4_hasNumber 44 = .ok (.goto (-39), 3) := by decide +kernel
theorem dX4_hasNumber_47 : decode cX4_hasNumber 47 = .ok (.iload_n 3, 1) := by decide +kernel
theorem dX4_hasNumber_48 : decode cX4_hasNumber 48 = .ok (.ireturn, 1) := by decide +kernel
set_option maxRecDepth 20000 in
theorem ggX4_wordsWith_X4_findsWords : GoodIn wsX4_wordsWith wsX4_findsWords := goodIn_r _ [6, 1, 7, 8, 9, 5, 10, 11, 12, 13, 14, 31, 32, 33, 34, 35, 36, 37, 38, 39, 40, 41, 42] (by decide +kernel) (by decide +kernel)
set_option maxRecDepth 20000 in
theorem gX4_wordsWith_X4_findsWords : GoodIn wsX4_wordsWith (wsV RX4 64 RX4 yX4_findsWords wsX4_findsWords) := goodIn_app (goodIn_of _ (by decide +kernel)) ggX4_wordsWith_X4_findsWords
set_option maxRecDepth 20000 in
theorem ggX4_wordsWith_X4_hasNumber : GoodIn wsX4_wordsWith wsX4_hasNumber := goodIn_r _ [18, 13, 19, 20, 21, 5, 22, 12, 14, 23, 24, 25, 26, 11, 27, 28, 29, 30, 31, 32, 33, 34, 35, 36, 37, 38, 39, 40, 41, 42] (by decide +kernel) (by decide +kernel)
set_option maxRecDepth 20000 in
theorem gX4_wordsWith_X4_hasNumber : GoodIn wsX4_wordsWith (wsV RX4 71 RX4 yX4_hasNumber wsX4_hasNumber) := goodIn_app (goodIn_of _ (by decide +kernel)) ggX4_wordsWith_X4_hasNumber
theorem dX4_wordsWith_0 : decode cX4_wordsWith 0 = .ok (.aload_n 0, 1) := by decide +kernel
theorem dX4_wordsWith_1 : decode cX4_wordsWith 1 = .ok (.invokevirtual 64, 3) := by decide +kernel
theorem dX4_wordsWith_4 : decode cX4_wordsWith 4 = .ok (.iconst 0, 1) := by decide +kernel
theorem dX4_wordsWith_5 : decode cX4_wordsWith 5 = .ok (.istore_n 2, 1) := by decide +kernel
theorem dX4_wordsWith_6 : decode cX4_wordsWith 6 = .ok (.iconst 0, 1) := by decide +kernel
theorem dX4_wordsWith_7 : decode cX4_wordsWith 7 = .ok (.istore_n 3, 1) := by decide +kernel
theorem dX4_wordsWith_8 : decode cX4_wordsWith 8 = .ok (.iload_n 3, 1) := by decide +kernel
theorem dX4_wordsWith_9 : decode cX4_wordsWith 9 = .ok (.aload_n 0, 1) := by decide +kernel
theorem dX4_wordsWith_10 : decode cX4_wordsWith 10 = .ok (.getfield 57, 3) := by decide +kernel
theorem dX4_wordsWith_13 : decode cX4_wordsWith 13 = .ok (.if_icmp .ge 26, 3) := by decide +kernel
theorem dX4_wordsWith_16 : decode cX4_wordsWith 16 = .ok (.iload_n 2, 1) := by decide +kernel
theorem dX4_wordsWith_17 : decode cX4_wordsWith 17 = .ok (.aload_n 0, 1) := by decide +kernel
theorem dX4_wordsWith_18 : decode cX4_wordsWith 18 = .ok (.iload_n 3, 1) := by decide +kernel
theorem dX4_wordsWith_19 : decode cX4_wordsWith 19 = .ok (.iload_n 1, 1) := by decide +kernel
theorem dX4_wordsWith_20 : decode cX4_wordsWith 20 = .ok (.invokevirtual 71, 3) := by decide +kernel
theorem dX4_wordsWith_23 : decode cX4_wordsWith 23 = .ok (.ifCond .eq 7, 3) := by decide +kernel
theorem dX4_wordsWith_26 : decode cX4_wordsWith 26 = .ok (.iconst 1, 1) := by decide +kernel
theorem dX4_wordsWith_27 : decode cX4_wordsWith 27 = .ok (.goto 4, 3) := by decide +kernel
theorem dX4_wordsWith_30 : decode cX4_wordsWith 30 = .ok (.iconst 0, 1) := by decide +kernel
theorem dX4_wordsWith_31 : decode cX4_wordsWith 31 = .ok (.iadd, 1) := by decide +kernel
theorem dX4_wordsWith_32 : decode cX4_wordsWith 32 = .ok (.istore_n 2, 1) := by decide +kernel
theorem dX4_wordsWith_33 : decode cX4_wordsWith 33 = .ok (.iinc 3 1, 3) := by decide +kernel
theorem dX4_wordsWith_36 : decode cX4_wordsWith 36 = .ok (.goto (-28), 3) := by decide +kernel
theorem dX4_wordsWith_39 : decode cX4_wordsWith 39 = .ok (.iload_n 2, 1) := by decide +kernel
theorem dX4_wordsWith_40 : decode cX4_wordsWith 40 = .ok (.ireturn, 1) := by decide +kernel
set_option maxRecDepth 20000 in
theorem ggX4_wordAt_X4_findsWords : GoodIn wsX4_wordAt wsX4_findsWords := goodIn_r _ [8, 1, 9, 10, 11, 7, 12, 13, 14, 2, 3, 19, 20, 21, 22, 23, 24, 25, 26, 27, 28, 29, 30] (by decide +kernel) (by decide +kernel)
set_option maxRecDepth 20000 in
theorem gX4_wordAt_X4_findsWords : GoodIn wsX4_wordAt (wsV RX4 64 RX4 yX4_findsWords wsX4_findsWords) := goodIn_app (goodIn_of _ (by decide +kernel)) ggX4_wordAt_X4_findsWords
set_option maxRecDepth 20000 in
theorem ggX4_wordAt_X4_cellOf : GoodIn wsX4_wordAt wsX4_cellOf := goodIn_r _ [18, 14, 3, 19, 20, 21, 22, 23, 24, 25, 26, 27, 28, 29, 30] (by decide +kernel) (by decide +kernel)
set_option maxRecDepth 20000 in
theorem gX4_wordAt_X4_cellOf : GoodIn wsX4_wordAt (wsV RX4 67 RX4 yX4_cellOf wsX4_cellOf) := goodIn_app (goodIn_of _ (by decide +kernel)) ggX4_wordAt_X4_cellOf
theorem dX4_wordAt_0 : decode cX4_wordAt 0 = .ok (.aload_n 0, 1) := by decide +kernel
theorem dX4_wordAt_1 : decode cX4_wordAt 1 = .ok (.invokevirtual 64, 3) := by decide +kernel
theorem dX4_wordAt_4 : decode cX4_wordAt 4 = .ok (.iconst 0, 1) := by decide +kernel
theorem dX4_wordAt_5 : decode cX4_wordAt 5 = .ok (.istore_n 3, 1) := by decide +kernel
theorem dX4_wordAt_6 : decode cX4_wordAt 6 = .ok (.iload_n 3, 1) := by decide +kernel
theorem dX4_wordAt_7 : decode cX4_wordAt 7 = .ok (.aload_n 0, 1) := by decide +kernel
theorem dX4_wordAt_8 : decode cX4_wordAt 8 = .ok (.getfield 57, 3) := by decide +kernel
theorem dX4_wordAt_11 : decode cX4_wordAt 11 = .ok (.if_icmp .ge 52, 3) := by decide +kernel
theorem dX4_wordAt_14 : decode cX4_wordAt 14 = .ok (.iconst 0, 1) := by decide +kernel
theorem dX4_wordAt_15 : decode cX4_wordAt 15 = .ok (.istore 4, 2) := by decide +kernel
theorem dX4_wordAt_17 : decode cX4_wordAt 17 = .ok (.iload 4, 2) := by decide +kernel
theorem dX4_wordAt_19 : decode cX4_wordAt 19 = .ok (.aload_n 0, 1) := by decide +kernel
theorem dX4_wordAt_20 : decode cX4_wordAt 20 = .ok (.getfield 25, 3) := by decide +kernel
theorem dX4_wordAt_23 : decode cX4_wordAt 23 = .ok (.iload_n 3, 1) := by decide +kernel
theorem dX4_wordAt_24 : decode cX4_wordAt 24 = .ok (.iaload, 1) := by decide +kernel
theorem dX4_wordAt_25 : decode cX4_wordAt 25 = .ok (.if_icmp .ge 32, 3) := by decide +kernel
theorem dX4_wordAt_28 : decode cX4_wordAt 28 = .ok (.aload_n 0, 1) := by decide +kernel
theorem dX4_wordAt_29 : decode cX4_wordAt 29 = .ok (.getfield 28, 3) := by decide +kernel
theorem dX4_wordAt_32 : decode cX4_wordAt 32 = .ok (.iload_n 3, 1) := by decide +kernel
theorem dX4_wordAt_33 : decode cX4_wordAt 33 = .ok (.iaload, 1) := by decide +kernel
theorem dX4_wordAt_34 : decode cX4_wordAt 34 = .ok (.iload_n 2, 1) := by decide +kernel
theorem dX4_wordAt_35 : decode cX4_wordAt 35 = .ok (.if_icmp .ne 16, 3) := by decide +kernel
theorem dX4_wordAt_38 : decode cX4_wordAt 38 = .ok (.aload_n 0, 1) := by decide +kernel
theorem dX4_wordAt_39 : decode cX4_wordAt 39 = .ok (.iload_n 3, 1) := by decide +kernel
theorem dX4_wordAt_40 : decode cX4_wordAt 40 = .ok (.iload 4, 2) := by decide +kernel
theorem dX4_wordAt_42 : decode cX4_wordAt 42 = .ok (.invokevirtual 67, 3) := by decide +kernel
theorem dX4_wordAt_45 : decode cX4_wordAt 45 = .ok (.iload_n 1, 1) := by decide +kernel
theorem dX4_wordAt_46 : decode cX4_wordAt 46 = .ok (.if_icmp .ne 5, 3) := by decide +kernel
theorem dX4_wordAt_49 : decode cX4_wordAt 49 = .ok (.iload_n 3, 1) := by decide +kernel
theorem dX4_wordAt_50 : decode cX4_wordAt 50 = .ok (.ireturn, 1) := by decide +kernel
theorem dX4_wordAt_51 : decode cX4_wordAt 51 = .ok (.iinc 4 1, 3) := by decide +kernel
theorem dX4_wordAt_54 : decode cX4_wordAt 54 = .ok (.goto (-37), 3) := by decide +kernel
theorem dX4_wordAt_57 : decode cX4_wordAt 57 = .ok (.iinc 3 1, 3) := by decide +kernel
theorem dX4_wordAt_60 : decode cX4_wordAt 60 = .ok (.goto (-54), 3) := by decide +kernel
theorem dX4_wordAt_63 : decode cX4_wordAt 63 = .ok (.bipush (-5), 2) := by decide +kernel
theorem dX4_wordAt_65 : decode cX4_wordAt 65 = .ok (.ireturn, 1) := by decide +kernel
set_option maxRecDepth 20000 in
theorem ggX4_isListed_X4_in : GoodIn wsX4_isListed wsX4_in := goodIn_r _ [5] (by decide +kernel) (by decide +kernel)
set_option maxRecDepth 20000 in
theorem gX4_isListed_X4_in : GoodIn wsX4_isListed (va_wsS RX4 43 yX4_in wsX4_in) := goodIn_app (goodIn_of _ (by decide +kernel)) ggX4_isListed_X4_in
theorem dX4_isListed_0 : decode cX4_isListed 0 = .ok (.iload_n 1, 1) := by decide +kernel
theorem dX4_isListed_1 : decode cX4_isListed 1 = .ok (.i2l, 1) := by decide +kernel
theorem dX4_isListed_2 : decode cX4_isListed 2 = .ok (.lconst 0, 1) := by decide +kernel
theorem dX4_isListed_3 : decode cX4_isListed 3 = .ok (.aload_n 0, 1) := by decide +kernel
theorem dX4_isListed_4 : decode cX4_isListed 4 = .ok (.getfield 7, 3) := by decide +kernel
theorem dX4_isListed_7 : decode cX4_isListed 7 = .ok (.bipush 106, 2) := by decide +kernel
theorem dX4_isListed_9 : decode cX4_isListed 9 = .ok (.iaload, 1) := by decide +kernel
theorem dX4_isListed_10 : decode cX4_isListed 10 = .ok (.i2l, 1) := by decide +kernel
theorem dX4_isListed_11 : decode cX4_isListed 11 = .ok (.lconst 1, 1) := by decide +kernel
theorem dX4_isListed_12 : decode cX4_isListed 12 = .ok (.lsub, 1) := by decide +kernel
theorem dX4_isListed_13 : decode cX4_isListed 13 = .ok (.invokestatic 43, 3) := by decide +kernel
theorem dX4_isListed_16 : decode cX4_isListed 16 = .ok (.ireturn, 1) := by decide +kernel
theorem dX4_sizeOf_0 : decode cX4_sizeOf 0 = .ok (.aload_n 0, 1) := by decide +kernel
theorem dX4_sizeOf_1 : decode cX4_sizeOf 1 = .ok (.getfield 7, 3) := by decide +kernel
theorem dX4_sizeOf_4 : decode cX4_sizeOf 4 = .ok (.bipush 109, 2) := by decide +kernel
theorem dX4_sizeOf_6 : decode cX4_sizeOf 6 = .ok (.bipush 8, 2) := by decide +kernel
theorem dX4_sizeOf_8 : decode cX4_sizeOf 8 = .ok (.iload_n 1, 1) := by decide +kernel
theorem dX4_sizeOf_9 : decode cX4_sizeOf 9 = .ok (.imul, 1) := by decide +kernel
theorem dX4_sizeOf_10 : decode cX4_sizeOf 10 = .ok (.iadd, 1) := by decide +kernel
theorem dX4_sizeOf_11 : decode cX4_sizeOf 11 = .ok (.iaload, 1) := by decide +kernel
theorem dX4_sizeOf_12 : decode cX4_sizeOf 12 = .ok (.ireturn, 1) := by decide +kernel
theorem dX4_letterOfListed_0 : decode cX4_letterOfListed 0 = .ok (.aload_n 0, 1) := by decide +kernel
theorem dX4_letterOfListed_1 : decode cX4_letterOfListed 1 = .ok (.getfield 7, 3) := by decide +kernel
theorem dX4_letterOfListed_4 : decode cX4_letterOfListed 4 = .ok (.bipush 109, 2) := by decide +kernel
theorem dX4_letterOfListed_6 : decode cX4_letterOfListed 6 = .ok (.bipush 8, 2) := by decide +kernel
theorem dX4_letterOfListed_8 : decode cX4_letterOfListed 8 = .ok (.iload_n 1, 1) := by decide +kernel
theorem dX4_letterOfListed_9 : decode cX4_letterOfListed 9 = .ok (.imul, 1) := by decide +kernel
theorem dX4_letterOfListed_10 : decode cX4_letterOfListed 10 = .ok (.iadd, 1) := by decide +kernel
theorem dX4_letterOfListed_11 : decode cX4_letterOfListed 11 = .ok (.iconst 1, 1) := by decide +kernel
theorem dX4_letterOfListed_12 : decode cX4_letterOfListed 12 = .ok (.iadd, 1) := by decide +kernel
theorem dX4_letterOfListed_13 : decode cX4_letterOfListed 13 = .ok (.iload_n 2, 1) := by decide +kernel
theorem dX4_letterOfListed_14 : decode cX4_letterOfListed 14 = .ok (.iadd, 1) := by decide +kernel
theorem dX4_letterOfListed_15 : decode cX4_letterOfListed 15 = .ok (.iaload, 1) := by decide +kernel
theorem dX4_letterOfListed_16 : decode cX4_letterOfListed 16 = .ok (.ireturn, 1) := by decide +kernel
set_option maxRecDepth 20000 in
theorem ggX4_isCellWell_X4_cellOf : GoodIn wsX4_isCellWell wsX4_cellOf := goodIn_r _ [6, 7, 8, 25, 26, 27, 28, 29, 30, 31, 32, 33, 34, 35, 36] (by decide +kernel) (by decide +kernel)
set_option maxRecDepth 20000 in
theorem gX4_isCellWell_X4_cellOf : GoodIn wsX4_isCellWell (wsV RX4 67 RX4 yX4_cellOf wsX4_cellOf) := goodIn_app (goodIn_of _ (by decide +kernel)) ggX4_isCellWell_X4_cellOf
set_option maxRecDepth 20000 in
theorem ggX4_isCellWell_X4_numberAt : GoodIn wsX4_isCellWell wsX4_numberAt := goodIn_r _ [12, 1, 13, 14, 15, 5, 16, 25, 26, 27, 28, 29, 30, 31, 32, 33, 34, 35, 36] (by decide +kernel) (by decide +kernel)
set_option maxRecDepth 20000 in
theorem gX4_isCellWell_X4_numberAt : GoodIn wsX4_isCellWell (wsV RX4 51 RX4 yX4_numberAt wsX4_numberAt) := goodIn_app (goodIn_of _ (by decide +kernel)) ggX4_isCellWell_X4_numberAt
set_option maxRecDepth 20000 in
theorem ggX4_isCellWell_X4_letterOfListed : GoodIn wsX4_isCellWell wsX4_letterOfListed := goodIn_r _ [20, 1, 25, 26, 27, 28, 29, 30, 31, 32, 33, 34, 35, 36] (by decide +kernel) (by decide +kernel)
set_option maxRecDepth 20000 in
theorem gX4_isCellWell_X4_letterOfListed : GoodIn wsX4_isCellWell (wsV RX4 75 RX4 yX4_letterOfListed wsX4_letterOfListed) := goodIn_app (goodIn_of _ (by decide +kernel)) ggX4_isCellWell_X4_letterOfListed
set_option maxRecDepth 20000 in
theorem ggX4_isCellWell_X4_isGuessOfAnother : GoodIn wsX4_isCellWell wsX4_isGuessOfAnother := goodIn_r _ [24, 1, 25, 26, 27, 28, 29, 30, 31, 32, 33, 34, 35, 36] (by decide +kernel) (by decide +kernel)
set_option maxRecDepth 20000 in
theorem gX4_isCellWell_X4_isGuessOfAnother : GoodIn wsX4_isCellWell (wsV RX4 78 RX4 yX4_isGuessOfAnother wsX4_isGuessOfAnother) := goodIn_app (goodIn_of _ (by decide +kernel)) ggX4_isCellWell_X4_isGuessOfAnother
theorem dX4_isCellWell_0 : decode cX4_isCellWell 0 = .ok (.aload_n 0, 1) := by decide +kernel
theorem dX4_isCellWell_1 : decode cX4_isCellWell 1 = .ok (.aload_n 0, 1) := by decide +kernel
theorem dX4_isCellWell_2 : decode cX4_isCellWell 2 = .ok (.iload_n 1, 1) := by decide +kernel
theorem dX4_isCellWell_3 : decode cX4_isCellWell 3 = .ok (.iload_n 3, 1) := by decide +kernel
theorem dX4_isCellWell_4 : decode cX4_isCellWell 4 = .ok (.invokevirtual 67, 3) := by decide +kernel
theorem dX4_isCellWell_7 : decode cX4_isCellWell 7 = .ok (.invokevirtual 51, 3) := by decide +kernel
theorem dX4_isCellWell_10 : decode cX4_isCellWell 10 = .ok (.istore 4, 2) := by decide +kernel
theorem dX4_isCellWell_12 : decode cX4_isCellWell 12 = .ok (.aload_n 0, 1) := by decide +kernel
theorem dX4_isCellWell_13 : decode cX4_isCellWell 13 = .ok (.iload_n 2, 1) := by decide +kernel
theorem dX4_isCellWell_14 : decode cX4_isCellWell 14 = .ok (.iload_n 3, 1) := by decide +kernel
theorem dX4_isCellWell_15 : decode cX4_isCellWell 15 = .ok (.invokevirtual 75, 3) := by decide +kernel
theorem dX4_isCellWell_18 : decode cX4_isCellWell 18 = .ok (.istore 5, 2) := by decide +kernel
theorem dX4_isCellWell_20 : decode cX4_isCellWell 20 = .ok (.aload_n 0, 1) := by decide +kernel
theorem dX4_isCellWell_21 : decode cX4_isCellWell 21 = .ok (.getfield 7, 3) := by decide +kernel
theorem dX4_isCellWell_24 : decode cX4_isCellWell 24 = .ok (.bipush 51, 2) := by decide +kernel
theorem dX4_isCellWell_26 : decode cX4_isCellWell 26 = .ok (.iload 4, 2) := by decide +kernel
theorem dX4_isCellWell_28 : decode cX4_isCellWell 28 = .ok (.iadd, 1) := by decide +kernel
theorem dX4_isCellWell_29 : decode cX4_isCellWell 29 = .ok (.iaload, 1) := by decide +kernel
theorem dX4_isCellWell_30 : decode cX4_isCellWell 30 = .ok (.istore 6, 2) := by decide +kernel
theorem dX4_isCellWell_32 : decode cX4_isCellWell 32 = .ok (.iload 6, 2) := by decide +kernel
theorem dX4_isCellWell_34 : decode cX4_isCellWell 34 = .ok (.iconst (-1), 1) := by decide +kernel
theorem dX4_isCellWell_35 : decode cX4_isCellWell 35 = .ok (.if_icmp .ne 22, 3) := by decide +kernel
theorem dX4_isCellWell_38 : decode cX4_isCellWell 38 = .ok (.aload_n 0, 1) := by decide +kernel
theorem dX4_isCellWell_39 : decode cX4_isCellWell 39 = .ok (.iload 5, 2) := by decide +kernel
theorem dX4_isCellWell_41 : decode cX4_isCellWell 41 = .ok (.iload 4, 2) := by decide +kernel
theorem dX4_isCellWell_43 : decode cX4_isCellWell 43 = .ok (.invokevirtual 78, 3) := by decide +kernel
theorem dX4_isCellWell_46 : decode cX4_isCellWell 46 = .ok (.ifCond .ne 7, 3) := by decide +kernel
theorem dX4_isCellWell_49 : decode cX4_isCellWell 49 = .ok (.iconst 1, 1) := by decide +kernel
theorem dX4_isCellWell_50 : decode cX4_isCellWell 50 = .ok (.goto 19, 3) := by decide +kernel
theorem dX4_isCellWell_53 : decode cX4_isCellWell 53 = .ok (.iconst 0, 1) := by decide +kernel
theorem dX4_isCellWell_54 : decode cX4_isCellWell 54 = .ok (.goto 15, 3) := by decide +kernel
theorem dX4_isCellWell_57 : decode cX4_isCellWell 57 = .ok (.iload 6, 2) := by decide +kernel
theorem dX4_isCellWell_59 : decode cX4_isCellWell 59 = .ok (.iload 5, 2) := by decide +kernel
theorem dX4_isCellWell_61 : decode cX4_isCellWell 61 = .ok (.if_icmp .ne 7, 3) := by decide +kernel
theorem dX4_isCellWell_64 : decode cX4_isCellWell 64 = .ok (.iconst 1, 1) := by decide +kernel
theorem dX4_isCellWell_65 : decode cX4_isCellWell 65 = .ok (.goto 4, 3) := by decide +kernel
theorem dX4_isCellWell_68 : decode cX4_isCellWell 68 = .ok (.iconst 0, 1) := by decide +kernel
theorem dX4_isCellWell_69 : decode cX4_isCellWell 69 = .ok (.istore 7, 2) := by decide +kernel
theorem dX4_isCellWell_71 : decode cX4_isCellWell 71 = .ok (.iconst 0, 1) := by decide +kernel
theorem dX4_isCellWell_72 : decode cX4_isCellWell 72 = .ok (.istore 8, 2) := by decide +kernel
theorem dX4_isCellWell_74 : decode cX4_isCellWell 74 = .ok (.iload 8, 2) := by decide +kernel
theorem dX4_isCellWell_76 : decode cX4_isCellWell 76 = .ok (.iload_n 3, 1) := by decide +kernel
theorem dX4_isCellWell_77 : decode cX4_isCellWell 77 = .ok (.if_icmp .ge 62, 3) := by decide +kernel
theorem dX4_isCellWell_80 : decode cX4_isCellWell 80 = .ok (.iload 7, 2) := by decide +kernel
theorem dX4_isCellWell_82 : decode cX4_isCellWell 82 = .ok (.ifCond .eq 57, 3) := by decide +kernel
theorem dX4_isCellWell_85 : decode cX4_isCellWell 85 = .ok (.aload_n 0, 1) := by decide +kernel
theorem dX4_isCellWell_86 : decode cX4_isCellWell 86 = .ok (.aload_n 0, 1) := by decide +kernel
theorem dX4_isCellWell_87 : decode cX4_isCellWell 87 = .ok (.iload_n 1, 1) := by decide +kernel
theorem dX4_isCellWell_88 : decode cX4_isCellWell 88 = .ok (.iload 8, 2) := by decide +kernel
theorem dX4_isCellWell_90 : decode cX4_isCellWell 90 = .ok (.invokevirtual 67, 3) := by decide +kernel
theorem dX4_isCellWell_93 : decode cX4_isCellWell 93 = .ok (.invokevirtual 51, 3) := by decide +kernel
theorem dX4_isCellWell_96 : decode cX4_isCellWell 96 = .ok (.iload 4, 2) := by decide +kernel
theorem dX4_isCellWell_98 : decode cX4_isCellWell 98 = .ok (.if_icmp .ne 7, 3) := by decide +kernel
theorem dX4_isCellWell_101 : decode cX4_isCellWell 101 = .ok (.iconst 1, 1) := by decide +kernel
theorem dX4_isCellWell_102 : decode cX4_isCellWell 102 = .ok (.goto 4, 3) := by decide +kernel
theorem dX4_isCellWell_105 : decode cX4_isCellWell 105 = .ok (.iconst 0, 1) := by decide +kernel
theorem dX4_isCellWell_106 : decode cX4_isCellWell 106 = .ok (.aload_n 0, 1) := by decide +kernel
theorem dX4_isCellWell_107 : decode cX4_isCellWell 107 = .ok (.iload_n 2, 1) := by decide +kernel
theorem dX4_isCellWell_108 : decode cX4_isCellWell 108 = .ok (.iload 8, 2) := by decide +kernel
theorem dX4_isCellWell_110 : decode cX4_isCellWell 110 = .ok (.invokevirtual 75, 3) := by decide +kernel
theorem dX4_isCellWell_113 : decode cX4_isCellWell 113 = .ok (.iload 5, 2) := by decide +kernel
theorem dX4_isCellWell_115 : decode cX4_isCellWell 115 = .ok (.if_icmp .ne 7, 3) := by decide +kernel
theorem dX4_isCellWell_118 : decode cX4_isCellWell 118 = .ok (.iconst 1, 1) := by decide +kernel
theorem dX4_isCellWell_119 : decode cX4_isCellWell 119 = .ok (.goto 4, 3) := by decide +kernel
theorem dX4_isCellWell_122 : decode cX4_isCellWell 122 = .ok (.iconst 0, 1) := by decide +kernel
theorem dX4_isCellWell_123 : decode cX4_isCellWell 123 = .ok (.if_icmp .ne 7, 3) := by decide +kernel
theorem dX4_isCellWell_126 : decode cX4_isCellWell 126 = .ok (.iconst 1, 1) := by decide +kernel
theorem dX4_isCellWell_127 : decode cX4_isCellWell 127 = .ok (.goto 4, 3) := by decide +kernel
theorem dX4_isCellWell_130 : decode cX4_isCellWell 130 = .ok (.iconst 0, 1) := by decide +kernel
theorem dX4_isCellWell_131 : decode cX4_isCellWell 131 = .ok (.istore 7, 2) := by decide +kernel
theorem dX4_isCellWell_133 : decode cX4_isCellWell 133 = .ok (.iinc 8 1, 3) := by decide +kernel
theorem dX4_isCellWell_136 : decode cX4_isCellWell 136 = .ok (.goto (-62), 3) := by decide +kernel
theorem dX4_isCellWell_139 : decode cX4_isCellWell 139 = .ok (.iload 7, 2) := by decide +kernel
theorem dX4_isCellWell_141 : decode cX4_isCellWell 141 = .ok (.ireturn, 1) := by decide +kernel
set_option maxRecDepth 20000 in
theorem ggX4_isFit_X4_sizeOf : GoodIn wsX4_isFit wsX4_sizeOf := goodIn_r _ [6, 7, 34, 35, 36, 37, 38, 39, 40, 41, 42, 43, 44, 45] (by decide +kernel) (by decide +kernel)
set_option maxRecDepth 20000 in
theorem gX4_isFit_X4_sizeOf : GoodIn wsX4_isFit (wsV RX4 81 RX4 yX4_sizeOf wsX4_sizeOf) := goodIn_app (goodIn_of _ (by decide +kernel)) ggX4_isFit_X4_sizeOf
set_option maxRecDepth 20000 in
theorem ggX4_isFit_X4_isCellWell : GoodIn wsX4_isFit wsX4_isCellWell := goodIn_r _ [11, 7, 12, 13, 14, 5, 15, 16, 17, 18, 19, 20, 21, 22, 23, 24, 25, 26, 27, 28, 29, 30, 31, 32, 33, 34, 35, 36, 37, 38, 39, 40, 41, 42, 43, 44, 45] (by decide +kernel) (by decide +kernel)
set_option maxRecDepth 20000 in
theorem gX4_isFit_X4_isCellWell : GoodIn wsX4_isFit (wsV RX4 84 RX4 yX4_isCellWell wsX4_isCellWell) := goodIn_app (goodIn_of _ (by decide +kernel)) ggX4_isFit_X4_isCellWell
theorem dX4_isFit_0 : decode cX4_isFit 0 = .ok (.aload_n 0, 1) := by decide +kernel
theorem dX4_isFit_1 : decode cX4_isFit 1 = .ok (.iload_n 2, 1) := by decide +kernel
theorem dX4_isFit_2 : decode cX4_isFit 2 = .ok (.invokevirtual 81, 3) := by decide +kernel
theorem dX4_isFit_5 : decode cX4_isFit 5 = .ok (.aload_n 0, 1) := by decide +kernel
theorem dX4_isFit_6 : decode cX4_isFit 6 = .ok (.getfield 25, 3) := by decide +kernel
theorem dX4_isFit_9 : decode cX4_isFit 9 = .ok (.iload_n 1, 1) := by decide +kernel
theorem dX4_isFit_10 : decode cX4_isFit 10 = .ok (.iaload, 1) := by decide +kernel
theorem dX4_isFit_11 : decode cX4_isFit 11 = .ok (.if_icmp .ne 7, 3) := by decide +kernel
theorem dX4_isFit_14 : decode cX4_isFit 14 = .ok (.iconst 1, 1) := by decide +kernel
theorem dX4_isFit_15 : decode cX4_isFit 15 = .ok (.goto 4, 3) := by decide +kernel
theorem dX4_isFit_18 : decode cX4_isFit 18 = .ok (.iconst 0, 1) := by decide +kernel
theorem dX4_isFit_19 : decode cX4_isFit 19 = .ok (.istore_n 3, 1) := by decide +kernel
theorem dX4_isFit_20 : decode cX4_isFit 20 = .ok (.iconst 0, 1) := by decide +kernel
theorem dX4_isFit_21 : decode cX4_isFit 21 = .ok (.istore 4, 2) := by decide +kernel
theorem dX4_isFit_23 : decode cX4_isFit 23 = .ok (.iload 4, 2) := by decide +kernel
theorem dX4_isFit_25 : decode cX4_isFit 25 = .ok (.aload_n 0, 1) := by decide +kernel
theorem dX4_isFit_26 : decode cX4_isFit 26 = .ok (.getfield 25, 3) := by decide +kernel
theorem dX4_isFit_29 : decode cX4_isFit 29 = .ok (.iload_n 1, 1) := by decide +kernel
theorem dX4_isFit_30 : decode cX4_isFit 30 = .ok (.iaload, 1) := by decide +kernel
theorem dX4_isFit_31 : decode cX4_isFit 31 = .ok (.if_icmp .ge 22, 3) := by decide +kernel
theorem dX4_isFit_34 : decode cX4_isFit 34 = .ok (.iload_n 3, 1) := by decide +kernel
theorem dX4_isFit_35 : decode cX4_isFit 35 = .ok (.ifCond .eq 18, 3) := by decide +kernel
theorem dX4_isFit_38 : decode cX4_isFit 38 = .ok (.aload_n 0, 1) := by decide +kernel
theorem dX4_isFit_39 : decode cX4_isFit 39 = .ok (.iload_n 1, 1) := by decide +kernel
theorem dX4_isFit_40 : decode cX4_isFit 40 = .ok (.iload_n 2, 1) := by decide +kernel
theorem dX4_isFit_41 : decode cX4_isFit 41 = .ok (.iload 4, 2) := by decide +kernel
theorem dX4_isFit_43 : decode cX4_isFit 43 = .ok (.invokevirtual 84, 3) := by decide +kernel
theorem dX4_isFit_46 : decode cX4_isFit 46 = .ok (.istore_n 3, 1) := by decide +kernel
theorem dX4_isFit_47 : decode cX4_isFit 47 = .ok (.iinc 4 1, 3) := by decide +kernel
theorem dX4_isFit_50 : decode cX4_isFit 50 = .ok (.goto (-27), 3) := by decide +kernel
theorem dX4_isFit_53 : decode cX4_isFit 53 = .ok (.iload_n 3, 1) := by decide +kernel
theorem dX4_isFit_54 : decode cX4_isFit 54 = .ok (.ireturn, 1) := by decide +kernel
theorem dX4_type_0 : decode cX4_type 0 = .ok (.aload_n 0, 1) := by decide +kernel
theorem dX4_type_1 : decode cX4_type 1 = .ok (.getfield 88, 3) := by decide +kernel
theorem dX4_type_4 : decode cX4_type 4 = .ok (.bipush 60, 2) := by decide +kernel
theorem dX4_type_6 : decode cX4_type 6 = .ok (.if_icmp .ne 6, 3) := by decide +kernel
theorem dX4_type_9 : decode cX4_type 9 = .ok (.bipush (-3), 2) := by decide +kernel
theorem dX4_type_11 : decode cX4_type 11 = .ok (.ireturn, 1) := by decide +kernel
theorem dX4_type_12 : decode cX4_type 12 = .ok (.aload_n 0, 1) := by decide +kernel
theorem dX4_type_13 : decode cX4_type 13 = .ok (.getfield 31, 3) := by decide +kernel
theorem dX4_type_16 : decode cX4_type 16 = .ok (.aload_n 0, 1) := by decide +kernel
theorem dX4_type_17 : decode cX4_type 17 = .ok (.getfield 88, 3) := by decide +kernel
theorem dX4_type_20 : decode cX4_type 20 = .ok (.iload_n 1, 1) := by decide +kernel
theorem dX4_type_21 : decode cX4_type 21 = .ok (.iastore, 1) := by decide +kernel
theorem dX4_type_22 : decode cX4_type 22 = .ok (.aload_n 0, 1) := by decide +kernel
theorem dX4_type_23 : decode cX4_type 23 = .ok (.dup, 1) := by decide +kernel
theorem dX4_type_24 : decode cX4_type 24 = .ok (.getfield 88, 3) := by decide +kernel
theorem dX4_type_27 : decode cX4_type 27 = .ok (.iconst 1, 1) := by decide +kernel
theorem dX4_type_28 : decode cX4_type 28 = .ok (.iadd, 1) := by decide +kernel
theorem dX4_type_29 : decode cX4_type 29 = .ok (.putfield 88, 3) := by decide +kernel
theorem dX4_type_32 : decode cX4_type 32 = .ok (.aload_n 0, 1) := by decide +kernel
theorem dX4_type_33 : decode cX4_type 33 = .ok (.getfield 88, 3) := by decide +kernel
theorem dX4_type_36 : decode cX4_type 36 = .ok (.ireturn, 1) := by decide +kernel
theorem dX4_clearText_0 : decode cX4_clearText 0 = .ok (.aload_n 0, 1) := by decide +kernel
theorem dX4_clearText_1 : decode cX4_clearText 1 = .ok (.getfield 88, 3) := by decide +kernel
theorem dX4_clearText_4 : decode cX4_clearText 4 = .ok (.istore_n 1, 1) := by decide +kernel
theorem dX4_clearText_5 : decode cX4_clearText 5 = .ok (.aload_n 0, 1) := by decide +kernel
theorem dX4_clearText_6 : decode cX4_clearText 6 = .ok (.iconst 0, 1) := by decide +kernel
theorem dX4_clearText_7 : decode cX4_clearText 7 = .ok (.putfield 88, 3) := by decide +kernel
theorem dX4_clearText_10 : decode cX4_clearText 10 = .ok (.iload_n 1, 1) := by decide +kernel
theorem dX4_clearText_11 : decode cX4_clearText 11 = .ok (.ireturn, 1) := by decide +kernel
set_option maxRecDepth 20000 in
theorem ggX4_isLetter_X4_in : GoodIn wsX4_isLetter wsX4_in := goodIn_r _ [7] (by decide +kernel) (by decide +kernel)
set_option maxRecDepth 20000 in
theorem gX4_isLetter_X4_in : GoodIn wsX4_isLetter (va_wsS RX4 43 yX4_in wsX4_in) := goodIn_app (goodIn_of _ (by decide +kernel)) ggX4_isLetter_X4_in
theorem dX4_isLetter_0 : decode cX4_isLetter 0 = .ok (.aload_n 0, 1) := by decide +kernel
theorem dX4_isLetter_1 : decode cX4_isLetter 1 = .ok (.getfield 31, 3) := by decide +kernel
theorem dX4_isLetter_4 : decode cX4_isLetter 4 = .ok (.iload_n 1, 1) := by decide +kernel
theorem dX4_isLetter_5 : decode cX4_isLetter 5 = .ok (.iaload, 1) := by decide +kernel
theorem dX4_isLetter_6 : decode cX4_isLetter 6 = .ok (.i2l, 1) := by decide +kernel
theorem dX4_isLetter_7 : decode cX4_isLetter 7 = .ok (.ldc2_w 91, 3) := by decide +kernel
theorem dX4_isLetter_10 : decode cX4_isLetter 10 = .ok (.ldc2_w 93, 3) := by decide +kernel
theorem dX4_isLetter_13 : decode cX4_isLetter 13 = .ok (.invokestatic 43, 3) := by decide +kernel
theorem dX4_isLetter_16 : decode cX4_isLetter 16 = .ok (.ireturn, 1) := by decide +kernel
set_option maxRecDepth 20000 in
theorem ggX4_faultOfRow_X4_isLetter : GoodIn wsX4_faultOfRow wsX4_isLetter := goodIn_r _ [7, 2, 8, 9, 10, 11, 6, 12, 13, 14, 15, 16, 17, 18, 19, 20, 21, 22, 23, 24] (by decide +kernel) (by decide +kernel)
set_option maxRecDepth 20000 in
theorem gX4_faultOfRow_X4_isLetter : GoodIn wsX4_faultOfRow (wsV RX4 95 RX4 yX4_isLetter wsX4_isLetter) := goodIn_app (goodIn_of _ (by decide +kernel)) ggX4_faultOfRow_X4_isLetter
theorem dX4_faultOfRow_0 : decode cX4_faultOfRow 0 = .ok (.iconst 0, 1) := by decide +kernel
theorem dX4_faultOfRow_1 : decode cX4_faultOfRow 1 = .ok (.istore_n 1, 1) := by decide +kernel
theorem dX4_faultOfRow_2 : decode cX4_faultOfRow 2 = .ok (.iload_n 1, 1) := by decide +kernel
theorem dX4_faultOfRow_3 : decode cX4_faultOfRow 3 = .ok (.aload_n 0, 1) := by decide +kernel
theorem dX4_faultOfRow_4 : decode cX4_faultOfRow 4 = .ok (.getfield 88, 3) := by decide +kernel
theorem dX4_faultOfRow_7 : decode cX4_faultOfRow 7 = .ok (.if_icmp .ge 34, 3) := by decide +kernel
theorem dX4_faultOfRow_10 : decode cX4_faultOfRow 10 = .ok (.iload_n 1, 1) := by decide +kernel
theorem dX4_faultOfRow_11 : decode cX4_faultOfRow 11 = .ok (.bipush 7, 2) := by decide +kernel
theorem dX4_faultOfRow_13 : decode cX4_faultOfRow 13 = .ok (.if_icmp .ge 28, 3) := by decide +kernel
theorem dX4_faultOfRow_16 : decode cX4_faultOfRow 16 = .ok (.aload_n 0, 1) := by decide +kernel
theorem dX4_faultOfRow_17 : decode cX4_faultOfRow 17 = .ok (.iload_n 1, 1) := by decide +kernel
theorem dX4_faultOfRow_18 : decode cX4_faultOfRow 18 = .ok (.invokevirtual 95, 3) := by decide +kernel
theorem dX4_faultOfRow_21 : decode cX4_faultOfRow 21 = .ok (.ifCond .ne 14, 3) := by decide +kernel
theorem dX4_faultOfRow_24 : decode cX4_faultOfRow 24 = .ok (.aload_n 0, 1) := by decide +kernel
theorem dX4_faultOfRow_25 : decode cX4_faultOfRow 25 = .ok (.getfield 31, 3) := by decide +kernel
theorem dX4_faultOfRow_28 : decode cX4_faultOfRow 28 = .ok (.iload_n 1, 1) := by decide +kernel
theorem dX4_faultOfRow_29 : decode cX4_faultOfRow 29 = .ok (.iaload, 1) := by decide +kernel
theorem dX4_faultOfRow_30 : decode cX4_faultOfRow 30 = .ok (.bipush 46, 2) := by decide +kernel
theorem dX4_faultOfRow_32 : decode cX4_faultOfRow 32 = .ok (.if_icmp .ne 9, 3) := by decide +kernel
theorem dX4_faultOfRow_35 : decode cX4_faultOfRow 35 = .ok (.iinc 1 1, 3) := by decide +kernel
theorem dX4_faultOfRow_38 : decode cX4_faultOfRow 38 = .ok (.goto (-36), 3) := by decide +kernel
theorem dX4_faultOfRow_41 : decode cX4_faultOfRow 41 = .ok (.iload_n 1, 1) := by decide +kernel
theorem dX4_faultOfRow_42 : decode cX4_faultOfRow 42 = .ok (.ifCond .le 16, 3) := by decide +kernel
theorem dX4_faultOfRow_45 : decode cX4_faultOfRow 45 = .ok (.iload_n 1, 1) := by decide +kernel
theorem dX4_faultOfRow_46 : decode cX4_faultOfRow 46 = .ok (.aload_n 0, 1) := by decide +kernel
theorem dX4_faultOfRow_47 : decode cX4_faultOfRow 47 = .ok (.getfield 88, 3) := by decide +kernel
theorem dX4_faultOfRow_50 : decode cX4_faultOfRow 50 = .ok (.if_icmp .ne 8, 3) := by decide +kernel
theorem dX4_faultOfRow_53 : decode cX4_faultOfRow 53 = .ok (.bipush (-5), 2) := by decide +kernel
theorem dX4_faultOfRow_55 : decode cX4_faultOfRow 55 = .ok (.goto 4, 3) := by decide +kernel
theorem dX4_faultOfRow_58 : decode cX4_faultOfRow 58 = .ok (.iload_n 1, 1) := by decide +kernel
theorem dX4_faultOfRow_59 : decode cX4_faultOfRow 59 = .ok (.ireturn, 1) := by decide +kernel
set_option maxRecDepth 20000 in
theorem ggX4_faultOfWords_X4_isLetter : GoodIn wsX4_faultOfWords wsX4_isLetter := goodIn_r _ [7, 2, 8, 9, 10, 11, 6, 12, 13, 14, 15, 16, 17, 18, 19, 20, 21, 22, 23, 24] (by decide +kernel) (by decide +kernel)
set_option maxRecDepth 20000 in
theorem gX4_faultOfWords_X4_isLetter : GoodIn wsX4_faultOfWords (wsV RX4 95 RX4 yX4_isLetter wsX4_isLetter) := goodIn_app (goodIn_of _ (by decide +kernel)) ggX4_faultOfWords_X4_isLetter
theorem dX4_faultOfWords_0 : decode cX4_faultOfWords 0 = .ok (.iconst 0, 1) := by decide +kernel
theorem dX4_faultOfWords_1 : decode cX4_faultOfWords 1 = .ok (.istore_n 1, 1) := by decide +kernel
theorem dX4_faultOfWords_2 : decode cX4_faultOfWords 2 = .ok (.iconst 0, 1) := by decide +kernel
theorem dX4_faultOfWords_3 : decode cX4_faultOfWords 3 = .ok (.istore_n 2, 1) := by decide +kernel
theorem dX4_faultOfWords_4 : decode cX4_faultOfWords 4 = .ok (.iload_n 2, 1) := by decide +kernel
theorem dX4_faultOfWords_5 : decode cX4_faultOfWords 5 = .ok (.aload_n 0, 1) := by decide +kernel
theorem dX4_faultOfWords_6 : decode cX4_faultOfWords 6 = .ok (.getfield 88, 3) := by decide +kernel
theorem dX4_faultOfWords_9 : decode cX4_faultOfWords 9 = .ok (.if_icmp .ge 63, 3) := by decide +kernel
theorem dX4_faultOfWords_12 : decode cX4_faultOfWords 12 = .ok (.aload_n 0, 1) := by decide +kernel
theorem dX4_faultOfWords_13 : decode cX4_faultOfWords 13 = .ok (.iload_n 2, 1) := by decide +kernel
theorem dX4_faultOfWords_14 : decode cX4_faultOfWords 14 = .ok (.invokevirtual 95, 3) := by decide +kernel
theorem dX4_faultOfWords_17 : decode cX4_faultOfWords 17 = .ok (.ifCond .eq 13, 3) := by decide +kernel
theorem dX4_faultOfWords_20 : decode cX4_faultOfWords 20 = .ok (.iload_n 1, 1) := by decide +kernel
theorem dX4_faultOfWords_21 : decode cX4_faultOfWords 21 = .ok (.bipush 7, 2) := by decide +kernel
theorem dX4_faultOfWords_23 : decode cX4_faultOfWords 23 = .ok (.if_icmp .ge 7, 3) := by decide +kernel
theorem dX4_faultOfWords_26 : decode cX4_faultOfWords 26 = .ok (.iconst 1, 1) := by decide +kernel
theorem dX4_faultOfWords_27 : decode cX4_faultOfWords 27 = .ok (.goto 4, 3) := by decide +kernel
theorem dX4_faultOfWords_30 : decode cX4_faultOfWords 30 = .ok (.iconst 0, 1) := by decide +kernel
theorem dX4_faultOfWords_31 : decode cX4_faultOfWords 31 = .ok (.istore_n 3, 1) := by decide +kernel
theorem dX4_faultOfWords_32 : decode cX4_faultOfWords 32 = .ok (.iload_n 3, 1) := by decide +kernel
theorem dX4_faultOfWords_33 : decode cX4_faultOfWords 33 = .ok (.ifCond .ne 21, 3) := by decide +kernel
theorem dX4_faultOfWords_36 : decode cX4_faultOfWords 36 = .ok (.aload_n 0, 1) := by decide +kernel
theorem dX4_faultOfWords_37 : decode cX4_faultOfWords 37 = .ok (.getfield 31, 3) := by decide +kernel
theorem dX4_faultOfWords_40 : decode cX4_faultOfWords 40 = .ok (.iload_n 2, 1) := by decide +kernel
theorem dX4_faultOfWords_41 : decode cX4_faultOfWords 41 = .ok (.iaload, 1) := by decide +kernel
theorem dX4_faultOfWords_42 : decode cX4_faultOfWords 42 = .ok (.bipush 44, 2) := by decide +kernel
theorem dX4_faultOfWords_44 : decode cX4_faultOfWords 44 = .ok (.if_icmp .ne 8, 3) := by decide +kernel
theorem dX4_faultOfWords_47 : decode cX4_faultOfWords 47 = .ok (.iload_n 1, 1) := by decide +kernel
theorem dX4_faultOfWords_48 : decode cX4_faultOfWords 48 = .ok (.iconst 2, 1) := by decide +kernel
theorem dX4_faultOfWords_49 : decode cX4_faultOfWords 49 = .ok (.if_icmp .ge 5, 3) := by decide +kernel
theorem dX4_faultOfWords_52 : decode cX4_faultOfWords 52 = .ok (.iload_n 2, 1) := by decide +kernel
theorem dX4_faultOfWords_53 : decode cX4_faultOfWords 53 = .ok (.ireturn, 1) := by decide +kernel
theorem dX4_faultOfWords_54 : decode cX4_faultOfWords 54 = .ok (.iload_n 3, 1) := by decide +kernel
theorem dX4_faultOfWords_55 : decode cX4_faultOfWords 55 = .ok (.ifCond .eq 9, 3) := by decide +kernel
theorem dX4_faultOfWords_58 : decode cX4_faultOfWords 58 = .ok (.iload_n 1, 1) := by decide +kernel
theorem dX4_faultOfWords_59 : decode cX4_faultOfWords 59 = .ok (.iconst 1, 1) := by decide +kernel
theorem dX4_faultOfWords_60 : decode cX4_faultOfWords 60 = .ok (.iadd, 1) := by decide +kernel
theorem dX4_faultOfWords_61 : decode cX4_faultOfWords 61 = .ok (.goto 4, 3) := by decide +kernel
theorem dX4_faultOfWords_64 : decode cX4_faultOfWords 64 = .ok (.iconst 0, 1) := by decide +kernel
theorem dX4_faultOfWords_65 : decode cX4_faultOfWords 65 = .ok (.istore_n 1, 1) := by decide +kernel
theorem dX4_faultOfWords_66 : decode cX4_faultOfWords 66 = .ok (.iinc 2 1, 3) := by decide +kernel
theorem dX4_faultOfWords_69 : decode cX4_faultOfWords 69 = .ok (.goto (-65), 3) := by decide +kernel
theorem dX4_faultOfWords_72 : decode cX4_faultOfWords 72 = .ok (.iload_n 1, 1) := by decide +kernel
theorem dX4_faultOfWords_73 : decode cX4_faultOfWords 73 = .ok (.iconst 2, 1) := by decide +kernel
theorem dX4_faultOfWords_74 : decode cX4_faultOfWords 74 = .ok (.if_icmp .ge 10, 3) := by decide +kernel
theorem dX4_faultOfWords_77 : decode cX4_faultOfWords 77 = .ok (.aload_n 0, 1) := by decide +kernel
theorem dX4_faultOfWords_78 : decode cX4_faultOfWords 78 = .ok (.getfield 88, 3) := by decide +kernel
theorem dX4_faultOfWords_81 : decode cX4_faultOfWords 81 = .ok (.goto 5, 3) := by decide +kernel
theorem dX4_faultOfWords_84 : decode cX4_faultOfWords 84 = .ok (.bipush (-5), 2) := by decide +kernel
theorem dX4_faultOfWords_86 : decode cX4_faultOfWords 86 = .ok (.ireturn, 1) := by decide +kernel
set_option maxRecDepth 20000 in
theorem ggX4_setRow_X4_in : GoodIn wsX4_setRow wsX4_in := goodIn_r _ [9] (by decide +kernel) (by decide +kernel)
set_option maxRecDepth 20000 in
theorem gX4_setRow_X4_in : GoodIn wsX4_setRow (va_wsS RX4 43 yX4_in wsX4_in) := goodIn_app (goodIn_of _ (by decide +kernel)) ggX4_setRow_X4_in
set_option maxRecDepth 20000 in
theorem ggX4_setRow_X4_faultOfRow : GoodIn wsX4_setRow wsX4_faultOfRow := goodIn_r _ [13, 3, 4, 14, 15, 16, 8, 17, 18, 19, 6, 7, 9, 46, 47, 48, 49, 50, 51, 52, 53, 54, 55, 56, 57] (by decide +kernel) (by decide +kernel)
set_option maxRecDepth 20000 in
theorem gX4_setRow_X4_faultOfRow : GoodIn wsX4_setRow (wsV RX4 101 RX4 yX4_faultOfRow wsX4_faultOfRow) := goodIn_app (goodIn_of _ (by decide +kernel)) ggX4_setRow_X4_faultOfRow
set_option maxRecDepth 20000 in
theorem ggX4_setRow_X4_remember : GoodIn wsX4_setRow wsX4_remember := goodIn_r _ [23, 24, 2, 46, 47, 48, 49, 50, 51, 52, 53, 54, 55, 56, 57] (by decide +kernel) (by decide +kernel)
set_option maxRecDepth 20000 in
theorem gX4_setRow_X4_remember : GoodIn wsX4_setRow (wsV RX4 105 RX4 yX4_remember wsX4_remember) := goodIn_app (goodIn_of _ (by decide +kernel)) ggX4_setRow_X4_remember
set_option maxRecDepth 20000 in
theorem ggX4_setRow_X4_forgets : GoodIn wsX4_setRow wsX4_forgets := goodIn_r _ [28, 2, 46, 47, 48, 49, 50, 51, 52, 53, 54, 55, 56, 57] (by decide +kernel) (by decide +kernel)
set_option maxRecDepth 20000 in
theorem gX4_setRow_X4_forgets : GoodIn wsX4_setRow (wsV RX4 34 RX4 yX4_forgets wsX4_forgets) := goodIn_app (goodIn_of _ (by decide +kernel)) ggX4_setRow_X4_forgets
set_option maxRecDepth 20000 in
theorem ggX4_setRow_X4_findsWords : GoodIn wsX4_setRow wsX4_findsWords := goodIn_r _ [32, 5, 33, 34, 35, 8, 36, 2, 37, 38, 39, 46, 47, 48, 49, 50, 51, 52, 53, 54, 55, 56, 57] (by decide +kernel) (by decide +kernel)
set_option maxRecDepth 20000 in
theorem gX4_setRow_X4_findsWords : GoodIn wsX4_setRow (wsV RX4 64 RX4 yX4_findsWords wsX4_findsWords) := goodIn_app (goodIn_of _ (by decide +kernel)) ggX4_setRow_X4_findsWords
set_option maxRecDepth 20000 in
theorem ggX4_setRow_X4_acted : GoodIn wsX4_setRow wsX4_acted := goodIn_r _ [43, 44, 45, 24, 46, 47, 48, 49, 50, 51, 52, 53, 54, 55, 56, 57] (by decide +kernel) (by decide +kernel)
set_option maxRecDepth 20000 in
theorem gX4_setRow_X4_acted : GoodIn wsX4_setRow (wsV RX4 108 RX4 yX4_acted wsX4_acted) := goodIn_app (goodIn_of _ (by decide +kernel)) ggX4_setRow_X4_acted
theorem dX4_setRow_0 : decode cX4_setRow 0 = .ok (.iload_n 1, 1) := by decide +kernel
theorem dX4_setRow_1 : decode cX4_setRow 1 = .ok (.i2l, 1) := by decide +kernel
theorem dX4_setRow_2 : decode cX4_setRow 2 = .ok (.lconst 0, 1) := by decide +kernel
theorem dX4_setRow_3 : decode cX4_setRow 3 = .ok (.ldc2_w 99, 3) := by decide +kernel
theorem dX4_setRow_6 : decode cX4_setRow 6 = .ok (.invokestatic 43, 3) := by decide +kernel
theorem dX4_setRow_9 : decode cX4_setRow 9 = .ok (.ifCond .ne 5, 3) := by decide +kernel
theorem dX4_setRow_12 : decode cX4_setRow 12 = .ok (.iconst (-1), 1) := by decide +kernel
theorem dX4_setRow_13 : decode cX4_setRow 13 = .ok (.ireturn, 1) := by decide +kernel
theorem dX4_setRow_14 : decode cX4_setRow 14 = .ok (.aload_n 0, 1) := by decide +kernel
theorem dX4_setRow_15 : decode cX4_setRow 15 = .ok (.invokevirtual 101, 3) := by decide +kernel
theorem dX4_setRow_18 : decode cX4_setRow 18 = .ok (.istore_n 2, 1) := by decide +kernel
theorem dX4_setRow_19 : decode cX4_setRow 19 = .ok (.iload_n 2, 1) := by decide +kernel
theorem dX4_setRow_20 : decode cX4_setRow 20 = .ok (.bipush (-5), 2) := by decide +kernel
theorem dX4_setRow_22 : decode cX4_setRow 22 = .ok (.if_icmp .eq 8, 3) := by decide +kernel
theorem dX4_setRow_25 : decode cX4_setRow 25 = .ok (.bipush (-100), 2) := by decide +kernel
theorem dX4_setRow_27 : decode cX4_setRow 27 = .ok (.iload_n 2, 1) := by decide +kernel
theorem dX4_setRow_28 : decode cX4_setRow 28 = .ok (.isub, 1) := by decide +kernel
theorem dX4_setRow_29 : decode cX4_setRow 29 = .ok (.ireturn, 1) := by decide +kernel
theorem dX4_setRow_30 : decode cX4_setRow 30 = .ok (.aload_n 0, 1) := by decide +kernel
theorem dX4_setRow_31 : decode cX4_setRow 31 = .ok (.invokevirtual 105, 3) := by decide +kernel
theorem dX4_setRow_34 : decode cX4_setRow 34 = .ok (.iconst 0, 1) := by decide +kernel
theorem dX4_setRow_35 : decode cX4_setRow 35 = .ok (.istore_n 3, 1) := by decide +kernel
theorem dX4_setRow_36 : decode cX4_setRow 36 = .ok (.iload_n 3, 1) := by decide +kernel
theorem dX4_setRow_37 : decode cX4_setRow 37 = .ok (.bipush 7, 2) := by decide +kernel
theorem dX4_setRow_39 : decode cX4_setRow 39 = .ok (.if_icmp .ge 54, 3) := by decide +kernel
theorem dX4_setRow_42 : decode cX4_setRow 42 = .ok (.aload_n 0, 1) := by decide +kernel
theorem dX4_setRow_43 : decode cX4_setRow 43 = .ok (.getfield 7, 3) := by decide +kernel
theorem dX4_setRow_46 : decode cX4_setRow 46 = .ok (.iconst 0, 1) := by decide +kernel
theorem dX4_setRow_47 : decode cX4_setRow 47 = .ok (.bipush 7, 2) := by decide +kernel
theorem dX4_setRow_49 : decode cX4_setRow 49 = .ok (.iload_n 1, 1) := by decide +kernel
theorem dX4_setRow_50 : decode cX4_setRow 50 = .ok (.imul, 1) := by decide +kernel
theorem dX4_setRow_51 : decode cX4_setRow 51 = .ok (.iadd, 1) := by decide +kernel
theorem dX4_setRow_52 : decode cX4_setRow 52 = .ok (.iload_n 3, 1) := by decide +kernel
theorem dX4_setRow_53 : decode cX4_setRow 53 = .ok (.iadd, 1) := by decide +kernel
theorem dX4_setRow_54 : decode cX4_setRow 54 = .ok (.iload_n 3, 1) := by decide +kernel
theorem dX4_setRow_55 : decode cX4_setRow 55 = .ok (.aload_n 0, 1) := by decide +kernel
theorem dX4_setRow_56 : decode cX4_setRow 56 = .ok (.getfield 88, 3) := by decide +kernel
theorem dX4_setRow_59 : decode cX4_setRow 59 = .ok (.if_icmp .ge 26, 3) := by decide +kernel
theorem dX4_setRow_62 : decode cX4_setRow 62 = .ok (.aload_n 0, 1) := by decide +kernel
theorem dX4_setRow_63 : decode cX4_setRow 63 = .ok (.getfield 31, 3) := by decide +kernel
theorem dX4_setRow_66 : decode cX4_setRow 66 = .ok (.iload_n 3, 1) := by decide +kernel
theorem dX4_setRow_67 : decode cX4_setRow 67 = .ok (.iaload, 1) := by decide +kernel
theorem dX4_setRow_68 : decode cX4_setRow 68 = .ok (.bipush 46, 2) := by decide +kernel
theorem dX4_setRow_70 : decode cX4_setRow 70 = .ok (.if_icmp .eq 15, 3) := by decide +kernel
theorem dX4_setRow_73 : decode cX4_setRow 73 = .ok (.aload_n 0, 1) := by decide +kernel
theorem dX4_setRow_74 : decode cX4_setRow 74 = .ok (.getfield 31, 3) := by decide +kernel
theorem dX4_setRow_77 : decode cX4_setRow 77 = .ok (.iload_n 3, 1) := by decide +kernel
theorem dX4_setRow_78 : decode cX4_setRow 78 = .ok (.iaload, 1) := by decide +kernel
theorem dX4_setRow_79 : decode cX4_setRow 79 = .ok (.bipush 97, 2) := by decide +kernel
theorem dX4_setRow_81 : decode cX4_setRow 81 = .ok (.isub, 1) := by decide +kernel
theorem dX4_setRow_82 : decode cX4_setRow 82 = .ok (.goto 4, 3) := by decide +kernel
theorem dX4_setRow_85 : decode cX4_setRow 85 = .ok (.iconst (-1), 1) := by decide +kernel
theorem dX4_setRow_86 : decode cX4_setRow 86 = .ok (.iastore, 1) := by decide +kernel
theorem dX4_setRow_87 : decode cX4_setRow 87 = .ok (.iinc 3 1, 3) := by decide +kernel
theorem dX4_setRow_90 : decode cX4_setRow 90 = .ok (.goto (-54), 3) := by decide +kernel
theorem dX4_setRow_93 : decode cX4_setRow 93 = .ok (.aload_n 0, 1) := by decide +kernel
theorem dX4_setRow_94 : decode cX4_setRow 94 = .ok (.invokevirtual 34, 3) := by decide +kernel
theorem dX4_setRow_97 : decode cX4_setRow 97 = .ok (.aload_n 0, 1) := by decide +kernel
theorem dX4_setRow_98 : decode cX4_setRow 98 = .ok (.invokevirtual 64, 3) := by decide +kernel
theorem dX4_setRow_101 : decode cX4_setRow 101 = .ok (.aload_n 0, 1) := by decide +kernel
theorem dX4_setRow_102 : decode cX4_setRow 102 = .ok (.aload_n 0, 1) := by decide +kernel
theorem dX4_setRow_103 : decode cX4_setRow 103 = .ok (.getfield 57, 3) := by decide +kernel
theorem dX4_setRow_106 : decode cX4_setRow 106 = .ok (.invokevirtual 108, 3) := by decide +kernel
theorem dX4_setRow_109 : decode cX4_setRow 109 = .ok (.ireturn, 1) := by decide +kernel
set_option maxRecDepth 20000 in
theorem ggX4_setKey_X4_in : GoodIn wsX4_setKey wsX4_in := goodIn_r _ [6] (by decide +kernel) (by decide +kernel)
set_option maxRecDepth 20000 in
theorem gX4_setKey_X4_in : GoodIn wsX4_setKey (va_wsS RX4 43 yX4_in wsX4_in) := goodIn_app (goodIn_of _ (by decide +kernel)) ggX4_setKey_X4_in
set_option maxRecDepth 20000 in
theorem ggX4_setKey_X4_remember : GoodIn wsX4_setKey wsX4_remember := goodIn_r _ [10, 11, 2, 26, 27, 28, 29, 30, 31, 32, 33, 34, 35, 36, 37] (by decide +kernel) (by decide +kernel)
set_option maxRecDepth 20000 in
theorem gX4_setKey_X4_remember : GoodIn wsX4_setKey (wsV RX4 105 RX4 yX4_remember wsX4_remember) := goodIn_app (goodIn_of _ (by decide +kernel)) ggX4_setKey_X4_remember
set_option maxRecDepth 20000 in
theorem ggX4_setKey_X4_forgets : GoodIn wsX4_setKey wsX4_forgets := goodIn_r _ [15, 2, 26, 27, 28, 29, 30, 31, 32, 33, 34, 35, 36, 37] (by decide +kernel) (by decide +kernel)
set_option maxRecDepth 20000 in
theorem gX4_setKey_X4_forgets : GoodIn wsX4_setKey (wsV RX4 34 RX4 yX4_forgets wsX4_forgets) := goodIn_app (goodIn_of _ (by decide +kernel)) ggX4_setKey_X4_forgets
set_option maxRecDepth 20000 in
theorem ggX4_setKey_X4_numberOf : GoodIn wsX4_setKey wsX4_numberOf := goodIn_r _ [19, 2, 26, 27, 28, 29, 30, 31, 32, 33, 34, 35, 36, 37] (by decide +kernel) (by decide +kernel)
set_option maxRecDepth 20000 in
theorem gX4_setKey_X4_numberOf : GoodIn wsX4_setKey (wsV RX4 47 RX4 yX4_numberOf wsX4_numberOf) := goodIn_app (goodIn_of _ (by decide +kernel)) ggX4_setKey_X4_numberOf
set_option maxRecDepth 20000 in
theorem ggX4_setKey_X4_acted : GoodIn wsX4_setKey wsX4_acted := goodIn_r _ [23, 24, 25, 11, 26, 27, 28, 29, 30, 31, 32, 33, 34, 35, 36, 37] (by decide +kernel) (by decide +kernel)
set_option maxRecDepth 20000 in
theorem gX4_setKey_X4_acted : GoodIn wsX4_setKey (wsV RX4 108 RX4 yX4_acted wsX4_acted) := goodIn_app (goodIn_of _ (by decide +kernel)) ggX4_setKey_X4_acted
theorem dX4_setKey_0 : decode cX4_setKey 0 = .ok (.iload_n 1, 1) := by decide +kernel
theorem dX4_setKey_1 : decode cX4_setKey 1 = .ok (.i2l, 1) := by decide +kernel
theorem dX4_setKey_2 : decode cX4_setKey 2 = .ok (.lconst 1, 1) := by decide +kernel
theorem dX4_setKey_3 : decode cX4_setKey 3 = .ok (.ldc2_w 111, 3) := by decide +kernel
theorem dX4_setKey_6 : decode cX4_setKey 6 = .ok (.invokestatic 43, 3) := by decide +kernel
