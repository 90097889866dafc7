theorem dX4_worth_20 : decode cX4_worth 20 = .ok (.iconst (-1), 1) := by decide +kernel
theorem dX4_worth_21 : decode cX4_worth 21 = .ok (.if_icmp .ne 20, 3) := by decide +kernel
theorem dX4_worth_24 : decode cX4_worth 24 = .ok (.aload_n 0, 1) := by decide +kernel
theorem dX4_worth_25 : decode cX4_worth 25 = .ok (.iload_n 1, 1) := by decide +kernel
theorem dX4_worth_26 : decode cX4_worth 26 = .ok (.iload_n 3, 1) := by decide +kernel
theorem dX4_worth_27 : decode cX4_worth 27 = .ok (.invokevirtual 71, 3) := by decide +kernel
theorem dX4_worth_30 : decode cX4_worth 30 = .ok (.ifCond .eq 11, 3) := by decide +kernel
theorem dX4_worth_33 : decode cX4_worth 33 = .ok (.aload_n 0, 1) := by decide +kernel
theorem dX4_worth_34 : decode cX4_worth 34 = .ok (.iload_n 3, 1) := by decide +kernel
theorem dX4_worth_35 : decode cX4_worth 35 = .ok (.invokevirtual 141, 3) := by decide +kernel
theorem dX4_worth_38 : decode cX4_worth 38 = .ok (.goto 4, 3) := by decide +kernel
theorem dX4_worth_41 : decode cX4_worth 41 = .ok (.iconst 0, 1) := by decide +kernel
theorem dX4_worth_42 : decode cX4_worth 42 = .ok (.iadd, 1) := by decide +kernel
theorem dX4_worth_43 : decode cX4_worth 43 = .ok (.istore_n 2, 1) := by decide +kernel
theorem dX4_worth_44 : decode cX4_worth 44 = .ok (.iinc 3 1, 3) := by decide +kernel
theorem dX4_worth_47 : decode cX4_worth 47 = .ok (.goto (-43), 3) := by decide +kernel
theorem dX4_worth_50 : decode cX4_worth 50 = .ok (.iload_n 2, 1) := by decide +kernel
theorem dX4_worth_51 : decode cX4_worth 51 = .ok (.ireturn, 1) := by decide +kernel
set_option maxRecDepth 20000 in
theorem ggX4_listed_X4_isListed : GoodIn wsX4_listed wsX4_isListed := goodIn_r _ [5, 6, 7, 8, 4, 9, 78, 79, 80, 81, 82, 83, 84, 85, 86, 87, 88, 89] (by decide +kernel) (by decide +kernel)
set_option maxRecDepth 20000 in
theorem gX4_listed_X4_isListed : GoodIn wsX4_listed (wsV RX4 123 RX4 yX4_isListed wsX4_isListed) := goodIn_app (goodIn_of _ (by decide +kernel)) ggX4_listed_X4_isListed
set_option maxRecDepth 20000 in
theorem ggX4_listed_X4_findsWords : GoodIn wsX4_listed wsX4_findsWords := goodIn_r _ [13, 14, 15, 16, 17, 4, 18, 6, 19, 20, 21, 78, 79, 80, 81, 82, 83, 84, 85, 86, 87, 88, 89] (by decide +kernel) (by decide +kernel)
set_option maxRecDepth 20000 in
theorem gX4_listed_X4_findsWords : GoodIn wsX4_listed (wsV RX4 64 RX4 yX4_findsWords wsX4_findsWords) := goodIn_app (goodIn_of _ (by decide +kernel)) ggX4_listed_X4_findsWords
set_option maxRecDepth 20000 in
theorem ggX4_listed_X4_sizeOf : GoodIn wsX4_listed wsX4_sizeOf := goodIn_r _ [25, 6, 78, 79, 80, 81, 82, 83, 84, 85, 86, 87, 88, 89] (by decide +kernel) (by decide +kernel)
set_option maxRecDepth 20000 in
theorem gX4_listed_X4_sizeOf : GoodIn wsX4_listed (wsV RX4 81 RX4 yX4_sizeOf wsX4_sizeOf) := goodIn_app (goodIn_of _ (by decide +kernel)) ggX4_listed_X4_sizeOf
set_option maxRecDepth 20000 in
theorem ggX4_listed_X4_fitted : GoodIn wsX4_listed wsX4_fitted := goodIn_r _ [29, 14, 30, 31, 32, 4, 33, 20, 22, 23, 24, 25, 6, 34, 35, 36, 37, 38, 39, 40, 41, 19, 21, 42, 43, 44, 45, 46, 47, 48, 49, 50, 51, 52, 53, 54, 55, 56, 57, 78, 79, 80, 81, 82, 83, 84, 85, 86, 87, 88, 89] (by decide +kernel) (by decide +kernel)
set_option maxRecDepth 20000 in
theorem gX4_listed_X4_fitted : GoodIn wsX4_listed (wsV RX4 170 RX4 yX4_fitted wsX4_fitted) := goodIn_app (goodIn_of _ (by decide +kernel)) ggX4_listed_X4_fitted
set_option maxRecDepth 20000 in
theorem ggX4_listed_X4_firstFitted : GoodIn wsX4_listed wsX4_firstFitted := goodIn_r _ [61, 14, 30, 31, 32, 4, 33, 20, 22, 23, 24, 25, 6, 34, 35, 36, 37, 38, 39, 40, 41, 19, 21, 42, 43, 44, 45, 46, 47, 48, 49, 50, 51, 52, 53, 54, 55, 56, 57, 78, 79, 80, 81, 82, 83, 84, 85, 86, 87, 88, 89] (by decide +kernel) (by decide +kernel)
set_option maxRecDepth 20000 in
theorem gX4_listed_X4_firstFitted : GoodIn wsX4_listed (wsV RX4 173 RX4 yX4_firstFitted wsX4_firstFitted) := goodIn_app (goodIn_of _ (by decide +kernel)) ggX4_listed_X4_firstFitted
set_option maxRecDepth 20000 in
theorem ggX4_listed_X4_worth : GoodIn wsX4_listed wsX4_worth := goodIn_r _ [65, 6, 66, 67, 68, 4, 69, 20, 38, 39, 40, 41, 19, 21, 42, 43, 44, 45, 46, 47, 48, 49, 70, 71, 72, 73, 74, 75, 76, 77, 78, 79, 80, 81, 82, 83, 84, 85, 86, 87, 88, 89] (by decide +kernel) (by decide +kernel)
set_option maxRecDepth 20000 in
theorem gX4_listed_X4_worth : GoodIn wsX4_listed (wsV RX4 176 RX4 yX4_worth wsX4_worth) := goodIn_app (goodIn_of _ (by decide +kernel)) ggX4_listed_X4_worth
theorem dX4_listed_0 : decode cX4_listed 0 = .ok (.aload_n 0, 1) := by decide +kernel
theorem dX4_listed_1 : decode cX4_listed 1 = .ok (.iload_n 1, 1) := by decide +kernel
theorem dX4_listed_2 : decode cX4_listed 2 = .ok (.invokevirtual 123, 3) := by decide +kernel
theorem dX4_listed_5 : decode cX4_listed 5 = .ok (.ifCond .ne 5, 3) := by decide +kernel
theorem dX4_listed_8 : decode cX4_listed 8 = .ok (.iconst (-1), 1) := by decide +kernel
theorem dX4_listed_9 : decode cX4_listed 9 = .ok (.ireturn, 1) := by decide +kernel
theorem dX4_listed_10 : decode cX4_listed 10 = .ok (.aload_n 0, 1) := by decide +kernel
theorem dX4_listed_11 : decode cX4_listed 11 = .ok (.invokevirtual 64, 3) := by decide +kernel
theorem dX4_listed_14 : decode cX4_listed 14 = .ok (.iload_n 2, 1) := by decide +kernel
theorem dX4_listed_15 : decode cX4_listed 15 = .ok (.tableswitch 62 0 2 #[25, 31, 37], 25) := by decide +kernel
theorem dX4_listed_40 : decode cX4_listed 40 = .ok (.aload_n 0, 1) := by decide +kernel
theorem dX4_listed_41 : decode cX4_listed 41 = .ok (.iload_n 1, 1) := by decide +kernel
theorem dX4_listed_42 : decode cX4_listed 42 = .ok (.invokevirtual 81, 3) := by decide +kernel
theorem dX4_listed_45 : decode cX4_listed 45 = .ok (.ireturn, 1) := by decide +kernel
theorem dX4_listed_46 : decode cX4_listed 46 = .ok (.aload_n 0, 1) := by decide +kernel
theorem dX4_listed_47 : decode cX4_listed 47 = .ok (.iload_n 1, 1) := by decide +kernel
theorem dX4_listed_48 : decode cX4_listed 48 = .ok (.invokevirtual 170, 3) := by decide +kernel
theorem dX4_listed_51 : decode cX4_listed 51 = .ok (.ireturn, 1) := by decide +kernel
theorem dX4_listed_52 : decode cX4_listed 52 = .ok (.aload_n 0, 1) := by decide +kernel
theorem dX4_listed_53 : decode cX4_listed 53 = .ok (.iload_n 1, 1) := by decide +kernel
theorem dX4_listed_54 : decode cX4_listed 54 = .ok (.invokevirtual 173, 3) := by decide +kernel
theorem dX4_listed_57 : decode cX4_listed 57 = .ok (.bipush (-5), 2) := by decide +kernel
theorem dX4_listed_59 : decode cX4_listed 59 = .ok (.if_icmp .ne 8, 3) := by decide +kernel
theorem dX4_listed_62 : decode cX4_listed 62 = .ok (.bipush (-5), 2) := by decide +kernel
theorem dX4_listed_64 : decode cX4_listed 64 = .ok (.goto 12, 3) := by decide +kernel
theorem dX4_listed_67 : decode cX4_listed 67 = .ok (.aload_n 0, 1) := by decide +kernel
theorem dX4_listed_68 : decode cX4_listed 68 = .ok (.aload_n 0, 1) := by decide +kernel
theorem dX4_listed_69 : decode cX4_listed 69 = .ok (.iload_n 1, 1) := by decide +kernel
theorem dX4_listed_70 : decode cX4_listed 70 = .ok (.invokevirtual 173, 3) := by decide +kernel
theorem dX4_listed_73 : decode cX4_listed 73 = .ok (.invokevirtual 176, 3) := by decide +kernel
theorem dX4_listed_76 : decode cX4_listed 76 = .ok (.ireturn, 1) := by decide +kernel
theorem dX4_listed_77 : decode cX4_listed 77 = .ok (.bipush (-2), 2) := by decide +kernel
theorem dX4_listed_79 : decode cX4_listed 79 = .ok (.ireturn, 1) := by decide +kernel
set_option maxRecDepth 20000 in
theorem ggX4_isFitWith_X4_isFit : GoodIn wsX4_isFitWith wsX4_isFit := goodIn_r _ [7, 2, 8, 9, 10, 6, 11, 1, 12, 13, 14, 15, 16, 17, 18, 19, 20, 21, 22, 23, 24, 25, 26, 27, 28, 29, 30, 31, 32, 33, 34, 35, 36, 37, 38, 39, 40, 41, 42, 43, 44, 45, 46, 47, 48, 49] (by decide +kernel) (by decide +kernel)
set_option maxRecDepth 20000 in
theorem gX4_isFitWith_X4_isFit : GoodIn wsX4_isFitWith (wsV RX4 138 RX4 yX4_isFit wsX4_isFit) := goodIn_app (goodIn_of _ (by decide +kernel)) ggX4_isFitWith_X4_isFit
set_option maxRecDepth 20000 in
theorem ggX4_isFitWith_X4_cellOf : GoodIn wsX4_isFitWith wsX4_cellOf := goodIn_r _ [19, 20, 21, 38, 39, 40, 41, 42, 43, 44, 45, 46, 47, 48, 49] (by decide +kernel) (by decide +kernel)
set_option maxRecDepth 20000 in
theorem gX4_isFitWith_X4_cellOf : GoodIn wsX4_isFitWith (wsV RX4 67 RX4 yX4_cellOf wsX4_cellOf) := goodIn_app (goodIn_of _ (by decide +kernel)) ggX4_isFitWith_X4_cellOf
set_option maxRecDepth 20000 in
theorem ggX4_isFitWith_X4_numberAt : GoodIn wsX4_isFitWith wsX4_numberAt := goodIn_r _ [25, 1, 26, 27, 28, 6, 29, 38, 39, 40, 41, 42, 43, 44, 45, 46, 47, 48, 49] (by decide +kernel) (by decide +kernel)
set_option maxRecDepth 20000 in
theorem gX4_isFitWith_X4_numberAt : GoodIn wsX4_isFitWith (wsV RX4 51 RX4 yX4_numberAt wsX4_numberAt) := goodIn_app (goodIn_of _ (by decide +kernel)) ggX4_isFitWith_X4_numberAt
set_option maxRecDepth 20000 in
theorem ggX4_isFitWith_X4_letterOfListed : GoodIn wsX4_isFitWith wsX4_letterOfListed := goodIn_r _ [33, 1, 38, 39, 40, 41, 42, 43, 44, 45, 46, 47, 48, 49] (by decide +kernel) (by decide +kernel)
set_option maxRecDepth 20000 in
theorem gX4_isFitWith_X4_letterOfListed : GoodIn wsX4_isFitWith (wsV RX4 75 RX4 yX4_letterOfListed wsX4_letterOfListed) := goodIn_app (goodIn_of _ (by decide +kernel)) ggX4_isFitWith_X4_letterOfListed
theorem dX4_isFitWith_0 : decode cX4_isFitWith 0 = .ok (.iconst 0, 1) := by decide +kernel
theorem dX4_isFitWith_1 : decode cX4_isFitWith 1 = .ok (.istore 4, 2) := by decide +kernel
theorem dX4_isFitWith_3 : decode cX4_isFitWith 3 = .ok (.iload 4, 2) := by decide +kernel
theorem dX4_isFitWith_5 : decode cX4_isFitWith 5 = .ok (.aload_n 0, 1) := by decide +kernel
theorem dX4_isFitWith_6 : decode cX4_isFitWith 6 = .ok (.getfield 7, 3) := by decide +kernel
theorem dX4_isFitWith_9 : decode cX4_isFitWith 9 = .ok (.bipush 106, 2) := by decide +kernel
theorem dX4_isFitWith_11 : decode cX4_isFitWith 11 = .ok (.iaload, 1) := by decide +kernel
theorem dX4_isFitWith_12 : decode cX4_isFitWith 12 = .ok (.if_icmp .ge 68, 3) := by decide +kernel
theorem dX4_isFitWith_15 : decode cX4_isFitWith 15 = .ok (.iconst 0, 1) := by decide +kernel
theorem dX4_isFitWith_16 : decode cX4_isFitWith 16 = .ok (.istore 5, 2) := by decide +kernel
theorem dX4_isFitWith_18 : decode cX4_isFitWith 18 = .ok (.iload 5, 2) := by decide +kernel
theorem dX4_isFitWith_20 : decode cX4_isFitWith 20 = .ok (.aload_n 0, 1) := by decide +kernel
theorem dX4_isFitWith_21 : decode cX4_isFitWith 21 = .ok (.getfield 25, 3) := by decide +kernel
theorem dX4_isFitWith_24 : decode cX4_isFitWith 24 = .ok (.iload_n 1, 1) := by decide +kernel
theorem dX4_isFitWith_25 : decode cX4_isFitWith 25 = .ok (.iaload, 1) := by decide +kernel
theorem dX4_isFitWith_26 : decode cX4_isFitWith 26 = .ok (.if_icmp .ge 48, 3) := by decide +kernel
theorem dX4_isFitWith_29 : decode cX4_isFitWith 29 = .ok (.aload_n 0, 1) := by decide +kernel
theorem dX4_isFitWith_30 : decode cX4_isFitWith 30 = .ok (.iload_n 1, 1) := by decide +kernel
theorem dX4_isFitWith_31 : decode cX4_isFitWith 31 = .ok (.iload 4, 2) := by decide +kernel
theorem dX4_isFitWith_33 : decode cX4_isFitWith 33 = .ok (.invokevirtual 138, 3) := by decide +kernel
theorem dX4_isFitWith_36 : decode cX4_isFitWith 36 = .ok (.ifCond .eq 38, 3) := by decide +kernel
theorem dX4_isFitWith_39 : decode cX4_isFitWith 39 = .ok (.aload_n 0, 1) := by decide +kernel
theorem dX4_isFitWith_40 : decode cX4_isFitWith 40 = .ok (.aload_n 0, 1) := by decide +kernel
theorem dX4_isFitWith_41 : decode cX4_isFitWith 41 = .ok (.iload_n 1, 1) := by decide +kernel
theorem dX4_isFitWith_42 : decode cX4_isFitWith 42 = .ok (.iload 5, 2) := by decide +kernel
theorem dX4_isFitWith_44 : decode cX4_isFitWith 44 = .ok (.invokevirtual 67, 3) := by decide +kernel
theorem dX4_isFitWith_47 : decode cX4_isFitWith 47 = .ok (.invokevirtual 51, 3) := by decide +kernel
theorem dX4_isFitWith_50 : decode cX4_isFitWith 50 = .ok (.iload_n 2, 1) := by decide +kernel
theorem dX4_isFitWith_51 : decode cX4_isFitWith 51 = .ok (.if_icmp .ne 17, 3) := by decide +kernel
theorem dX4_isFitWith_54 : decode cX4_isFitWith 54 = .ok (.aload_n 0, 1) := by decide +kernel
theorem dX4_isFitWith_55 : decode cX4_isFitWith 55 = .ok (.iload 4, 2) := by decide +kernel
theorem dX4_isFitWith_57 : decode cX4_isFitWith 57 = .ok (.iload 5, 2) := by decide +kernel
theorem dX4_isFitWith_59 : decode cX4_isFitWith 59 = .ok (.invokevirtual 75, 3) := by decide +kernel
theorem dX4_isFitWith_62 : decode cX4_isFitWith 62 = .ok (.iload_n 3, 1) := by decide +kernel
theorem dX4_isFitWith_63 : decode cX4_isFitWith 63 = .ok (.if_icmp .ne 5, 3) := by decide +kernel
theorem dX4_isFitWith_66 : decode cX4_isFitWith 66 = .ok (.iconst 1, 1) := by decide +kernel
theorem dX4_isFitWith_67 : decode cX4_isFitWith 67 = .ok (.ireturn, 1) := by decide +kernel
theorem dX4_isFitWith_68 : decode cX4_isFitWith 68 = .ok (.iinc 5 1, 3) := by decide +kernel
theorem dX4_isFitWith_71 : decode cX4_isFitWith 71 = .ok (.goto (-53), 3) := by decide +kernel
theorem dX4_isFitWith_74 : decode cX4_isFitWith 74 = .ok (.iinc 4 1, 3) := by decide +kernel
theorem dX4_isFitWith_77 : decode cX4_isFitWith 77 = .ok (.goto (-74), 3) := by decide +kernel
theorem dX4_isFitWith_80 : decode cX4_isFitWith 80 = .ok (.iconst 0, 1) := by decide +kernel
theorem dX4_isFitWith_81 : decode cX4_isFitWith 81 = .ok (.ireturn, 1) := by decide +kernel
set_option maxRecDepth 20000 in
theorem ggX4_couldBe_X4_isGuessOfAnother : GoodIn wsX4_couldBe wsX4_isGuessOfAnother := goodIn_r _ [6, 7, 51, 52, 53, 54, 55, 56, 57, 58, 59, 60, 61, 62] (by decide +kernel) (by decide +kernel)
set_option maxRecDepth 20000 in
theorem gX4_couldBe_X4_isGuessOfAnother : GoodIn wsX4_couldBe (wsV RX4 78 RX4 yX4_isGuessOfAnother wsX4_isGuessOfAnother) := goodIn_app (goodIn_of _ (by decide +kernel)) ggX4_couldBe_X4_isGuessOfAnother
set_option maxRecDepth 20000 in
theorem ggX4_couldBe_X4_hasNumber : GoodIn wsX4_couldBe wsX4_hasNumber := goodIn_r _ [11, 12, 13, 14, 15, 5, 16, 17, 18, 19, 20, 21, 22, 7, 23, 24, 25, 26, 51, 52, 53, 54, 55, 56, 57, 58, 59, 60, 61, 62] (by decide +kernel) (by decide +kernel)
set_option maxRecDepth 20000 in
theorem gX4_couldBe_X4_hasNumber : GoodIn wsX4_couldBe (wsV RX4 71 RX4 yX4_hasNumber wsX4_hasNumber) := goodIn_app (goodIn_of _ (by decide +kernel)) ggX4_couldBe_X4_hasNumber
set_option maxRecDepth 20000 in
theorem ggX4_couldBe_X4_fitting : GoodIn wsX4_couldBe wsX4_fitting := goodIn_r _ [30, 7, 31, 32, 33, 5, 34, 12, 35, 36, 37, 38, 39, 40, 41, 42, 13, 14, 15, 16, 17, 18, 19, 20, 21, 22, 23, 24, 25, 26, 43, 44, 45, 46, 2, 3, 4, 6, 51, 52, 53, 54, 55, 56, 57, 58, 59, 60, 61, 62] (by decide +kernel) (by decide +kernel)
set_option maxRecDepth 20000 in
theorem gX4_couldBe_X4_fitting : GoodIn wsX4_couldBe (wsV RX4 164 RX4 yX4_fitting wsX4_fitting) := goodIn_app (goodIn_of _ (by decide +kernel)) ggX4_couldBe_X4_fitting
set_option maxRecDepth 20000 in
theorem ggX4_couldBe_X4_isFitWith : GoodIn wsX4_couldBe wsX4_isFitWith := goodIn_r _ [50, 7, 12, 31, 32, 33, 5, 34, 35, 36, 37, 38, 39, 40, 41, 42, 13, 14, 15, 16, 17, 18, 19, 20, 21, 22, 23, 24, 25, 26, 43, 44, 45, 46, 2, 3, 4, 6, 51, 52, 53, 54, 55, 56, 57, 58, 59, 60, 61, 62] (by decide +kernel) (by decide +kernel)
set_option maxRecDepth 20000 in
theorem gX4_couldBe_X4_isFitWith : GoodIn wsX4_couldBe (wsV RX4 179 RX4 yX4_isFitWith wsX4_isFitWith) := goodIn_app (goodIn_of _ (by decide +kernel)) ggX4_couldBe_X4_isFitWith
theorem dX4_couldBe_0 : decode cX4_couldBe 0 = .ok (.aload_n 0, 1) := by decide +kernel
theorem dX4_couldBe_1 : decode cX4_couldBe 1 = .ok (.iload_n 2, 1) := by decide +kernel
theorem dX4_couldBe_2 : decode cX4_couldBe 2 = .ok (.iload_n 1, 1) := by decide +kernel
theorem dX4_couldBe_3 : decode cX4_couldBe 3 = .ok (.invokevirtual 78, 3) := by decide +kernel
theorem dX4_couldBe_6 : decode cX4_couldBe 6 = .ok (.ifCond .ne 7, 3) := by decide +kernel
theorem dX4_couldBe_9 : decode cX4_couldBe 9 = .ok (.iconst 1, 1) := by decide +kernel
theorem dX4_couldBe_10 : decode cX4_couldBe 10 = .ok (.goto 4, 3) := by decide +kernel
theorem dX4_couldBe_13 : decode cX4_couldBe 13 = .ok (.iconst 0, 1) := by decide +kernel
theorem dX4_couldBe_14 : decode cX4_couldBe 14 = .ok (.istore_n 3, 1) := by decide +kernel
theorem dX4_couldBe_15 : decode cX4_couldBe 15 = .ok (.iconst 0, 1) := by decide +kernel
theorem dX4_couldBe_16 : decode cX4_couldBe 16 = .ok (.istore 4, 2) := by decide +kernel
theorem dX4_couldBe_18 : decode cX4_couldBe 18 = .ok (.iload 4, 2) := by decide +kernel
theorem dX4_couldBe_20 : decode cX4_couldBe 20 = .ok (.aload_n 0, 1) := by decide +kernel
theorem dX4_couldBe_21 : decode cX4_couldBe 21 = .ok (.getfield 57, 3) := by decide +kernel
theorem dX4_couldBe_24 : decode cX4_couldBe 24 = .ok (.if_icmp .ge 49, 3) := by decide +kernel
theorem dX4_couldBe_27 : decode cX4_couldBe 27 = .ok (.iload_n 3, 1) := by decide +kernel
theorem dX4_couldBe_28 : decode cX4_couldBe 28 = .ok (.ifCond .eq 45, 3) := by decide +kernel
theorem dX4_couldBe_31 : decode cX4_couldBe 31 = .ok (.aload_n 0, 1) := by decide +kernel
theorem dX4_couldBe_32 : decode cX4_couldBe 32 = .ok (.iload 4, 2) := by decide +kernel
theorem dX4_couldBe_34 : decode cX4_couldBe 34 = .ok (.iload_n 1, 1) := by decide +kernel
theorem dX4_couldBe_35 : decode cX4_couldBe 35 = .ok (.invokevirtual 71, 3) := by decide +kernel
theorem dX4_couldBe_38 : decode cX4_couldBe 38 = .ok (.ifCond .eq 23, 3) := by decide +kernel
theorem dX4_couldBe_41 : decode cX4_couldBe 41 = .ok (.aload_n 0, 1) := by decide +kernel
theorem dX4_couldBe_42 : decode cX4_couldBe 42 = .ok (.iload 4, 2) := by decide +kernel
theorem dX4_couldBe_44 : decode cX4_couldBe 44 = .ok (.invokevirtual 164, 3) := by decide +kernel
theorem dX4_couldBe_47 : decode cX4_couldBe 47 = .ok (.ifCond .eq 14, 3) := by decide +kernel
theorem dX4_couldBe_50 : decode cX4_couldBe 50 = .ok (.aload_n 0, 1) := by decide +kernel
theorem dX4_couldBe_51 : decode cX4_couldBe 51 = .ok (.iload 4, 2) := by decide +kernel
theorem dX4_couldBe_53 : decode cX4_couldBe 53 = .ok (.iload_n 1, 1) := by decide +kernel
theorem dX4_couldBe_54 : decode cX4_couldBe 54 = .ok (.iload_n 2, 1) := by decide +kernel
theorem dX4_couldBe_55 : decode cX4_couldBe 55 = .ok (.invokevirtual 179, 3) := by decide +kernel
theorem dX4_couldBe_58 : decode cX4_couldBe 58 = .ok (.ifCond .eq 7, 3) := by decide +kernel
theorem dX4_couldBe_61 : decode cX4_couldBe 61 = .ok (.iconst 1, 1) := by decide +kernel
theorem dX4_couldBe_62 : decode cX4_couldBe 62 = .ok (.goto 4, 3) := by decide +kernel
theorem dX4_couldBe_65 : decode cX4_couldBe 65 = .ok (.iconst 0, 1) := by decide +kernel
theorem dX4_couldBe_66 : decode cX4_couldBe 66 = .ok (.istore_n 3, 1) := by decide +kernel
theorem dX4_couldBe_67 : decode cX4_couldBe 67 = .ok (.iinc 4 1, 3) := by decide +kernel
theorem dX4_couldBe_70 : decode cX4_couldBe 70 = .ok (.goto (-52), 3) := by decide +kernel
theorem dX4_couldBe_73 : decode cX4_couldBe 73 = .ok (.iload_n 3, 1) := by decide +kernel
theorem dX4_couldBe_74 : decode cX4_couldBe 74 = .ok (.ireturn, 1) := by decide +kernel
set_option maxRecDepth 20000 in
theorem ggX4_could_X4_isNumber : GoodIn wsX4_could wsX4_isNumber := goodIn_r _ [5, 6, 7, 8, 4, 9] (by decide +kernel) (by decide +kernel)
set_option maxRecDepth 20000 in
theorem gX4_could_X4_isNumber : GoodIn wsX4_could (va_wsS RX4 129 yX4_isNumber wsX4_isNumber) := goodIn_app (goodIn_of _ (by decide +kernel)) ggX4_could_X4_isNumber
set_option maxRecDepth 20000 in
theorem ggX4_could_X4_in : GoodIn wsX4_could wsX4_in := goodIn_r _ [9] (by decide +kernel) (by decide +kernel)
set_option maxRecDepth 20000 in
theorem gX4_could_X4_in : GoodIn wsX4_could (va_wsS RX4 43 yX4_in wsX4_in) := goodIn_app (goodIn_of _ (by decide +kernel)) ggX4_could_X4_in
set_option maxRecDepth 20000 in
theorem ggX4_could_X4_cellsWith : GoodIn wsX4_could wsX4_cellsWith := goodIn_r _ [13, 14, 15, 16, 4, 17, 1, 18, 19, 20, 21, 74, 75, 76, 77, 78, 79, 80, 81, 82, 83, 84, 85] (by decide +kernel) (by decide +kernel)
set_option maxRecDepth 20000 in
theorem gX4_could_X4_cellsWith : GoodIn wsX4_could (wsV RX4 54 RX4 yX4_cellsWith wsX4_cellsWith) := goodIn_app (goodIn_of _ (by decide +kernel)) ggX4_could_X4_cellsWith
set_option maxRecDepth 20000 in
theorem ggX4_could_X4_findsWords : GoodIn wsX4_could wsX4_findsWords := goodIn_r _ [25, 26, 27, 28, 29, 4, 30, 1, 31, 32, 33, 74, 75, 76, 77, 78, 79, 80, 81, 82, 83, 84, 85] (by decide +kernel) (by decide +kernel)
set_option maxRecDepth 20000 in
theorem gX4_could_X4_findsWords : GoodIn wsX4_could (wsV RX4 64 RX4 yX4_findsWords wsX4_findsWords) := goodIn_app (goodIn_of _ (by decide +kernel)) ggX4_could_X4_findsWords
set_option maxRecDepth 20000 in
theorem ggX4_could_X4_couldBe : GoodIn wsX4_could wsX4_couldBe := goodIn_r _ [37, 26, 38, 39, 40, 4, 41, 1, 42, 43, 44, 45, 32, 46, 47, 48, 49, 31, 33, 14, 15, 16, 17, 18, 19, 20, 21, 50, 51, 52, 53, 54, 55, 56, 57, 58, 59, 60, 61, 62, 63, 64, 65, 66, 67, 68, 69, 70, 71, 72, 73, 74, 75, 76, 77, 78, 79, 80, 81, 82, 83, 84, 85] (by decide +kernel) (by decide +kernel)
set_option maxRecDepth 20000 in
theorem gX4_could_X4_couldBe : GoodIn wsX4_could (wsV RX4 182 RX4 yX4_couldBe wsX4_couldBe) := goodIn_app (goodIn_of _ (by decide +kernel)) ggX4_could_X4_couldBe
theorem dX4_could_0 : decode cX4_could 0 = .ok (.iload_n 1, 1) := by decide +kernel
theorem dX4_could_1 : decode cX4_could 1 = .ok (.invokestatic 129, 3) := by decide +kernel
theorem dX4_could_4 : decode cX4_could 4 = .ok (.ifCond .ne 5, 3) := by decide +kernel
theorem dX4_could_7 : decode cX4_could 7 = .ok (.iconst (-1), 1) := by decide +kernel
theorem dX4_could_8 : decode cX4_could 8 = .ok (.ireturn, 1) := by decide +kernel
theorem dX4_could_9 : decode cX4_could 9 = .ok (.iload_n 2, 1) := by decide +kernel
theorem dX4_could_10 : decode cX4_could 10 = .ok (.i2l, 1) := by decide +kernel
theorem dX4_could_11 : decode cX4_could 11 = .ok (.lconst 0, 1) := by decide +kernel
theorem dX4_could_12 : decode cX4_could 12 = .ok (.lconst 1, 1) := by decide +kernel
theorem dX4_could_13 : decode cX4_could 13 = .ok (.invokestatic 43, 3) := by decide +kernel
theorem dX4_could_16 : decode cX4_could 16 = .ok (.ifCond .ne 6, 3) := by decide +kernel
theorem dX4_could_19 : decode cX4_could 19 = .ok (.bipush (-2), 2) := by decide +kernel
theorem dX4_could_21 : decode cX4_could 21 = .ok (.ireturn, 1) := by decide +kernel
theorem dX4_could_22 : decode cX4_could 22 = .ok (.aload_n 0, 1) := by decide +kernel
theorem dX4_could_23 : decode cX4_could 23 = .ok (.getfield 7, 3) := by decide +kernel
theorem dX4_could_26 : decode cX4_could 26 = .ok (.bipush 51, 2) := by decide +kernel
theorem dX4_could_28 : decode cX4_could 28 = .ok (.iload_n 1, 1) := by decide +kernel
theorem dX4_could_29 : decode cX4_could 29 = .ok (.iadd, 1) := by decide +kernel
theorem dX4_could_30 : decode cX4_could 30 = .ok (.iaload, 1) := by decide +kernel
theorem dX4_could_31 : decode cX4_could 31 = .ok (.iconst (-1), 1) := by decide +kernel
theorem dX4_could_32 : decode cX4_could 32 = .ok (.if_icmp .ne 11, 3) := by decide +kernel
theorem dX4_could_35 : decode cX4_could 35 = .ok (.aload_n 0, 1) := by decide +kernel
theorem dX4_could_36 : decode cX4_could 36 = .ok (.iload_n 1, 1) := by decide +kernel
theorem dX4_could_37 : decode cX4_could 37 = .ok (.invokevirtual 54, 3) := by decide +kernel
theorem dX4_could_40 : decode cX4_could 40 = .ok (.ifCond .ne 6, 3) := by decide +kernel
theorem dX4_could_43 : decode cX4_could 43 = .ok (.bipush (-5), 2) := by decide +kernel
theorem dX4_could_45 : decode cX4_could 45 = .ok (.ireturn, 1) := by decide +kernel
theorem dX4_could_46 : decode cX4_could 46 = .ok (.aload_n 0, 1) := by decide +kernel
theorem dX4_could_47 : decode cX4_could 47 = .ok (.invokevirtual 64, 3) := by decide +kernel
theorem dX4_could_50 : decode cX4_could 50 = .ok (.iconst 0, 1) := by decide +kernel
theorem dX4_could_51 : decode cX4_could 51 = .ok (.istore_n 3, 1) := by decide +kernel
theorem dX4_could_52 : decode cX4_could 52 = .ok (.bipush (-5), 2) := by decide +kernel
theorem dX4_could_54 : decode cX4_could 54 = .ok (.istore 4, 2) := by decide +kernel
theorem dX4_could_56 : decode cX4_could 56 = .ok (.bipush 25, 2) := by decide +kernel
theorem dX4_could_58 : decode cX4_could 58 = .ok (.istore 5, 2) := by decide +kernel
theorem dX4_could_60 : decode cX4_could 60 = .ok (.iload 5, 2) := by decide +kernel
theorem dX4_could_62 : decode cX4_could 62 = .ok (.ifCond .lt 48, 3) := by decide +kernel
theorem dX4_could_65 : decode cX4_could 65 = .ok (.aload_n 0, 1) := by decide +kernel
theorem dX4_could_66 : decode cX4_could 66 = .ok (.iload_n 1, 1) := by decide +kernel
theorem dX4_could_67 : decode cX4_could 67 = .ok (.iload 5, 2) := by decide +kernel
theorem dX4_could_69 : decode cX4_could 69 = .ok (.invokevirtual 182, 3) := by decide +kernel
theorem dX4_could_72 : decode cX4_could 72 = .ok (.istore 6, 2) := by decide +kernel
theorem dX4_could_74 : decode cX4_could 74 = .ok (.iload_n 3, 1) := by decide +kernel
theorem dX4_could_75 : decode cX4_could 75 = .ok (.iload 6, 2) := by decide +kernel
theorem dX4_could_77 : decode cX4_could 77 = .ok (.ifCond .eq 7, 3) := by decide +kernel
theorem dX4_could_80 : decode cX4_could 80 = .ok (.iconst 1, 1) := by decide +kernel
theorem dX4_could_81 : decode cX4_could 81 = .ok (.goto 4, 3) := by decide +kernel
theorem dX4_could_84 : decode cX4_could 84 = .ok (.iconst 0, 1) := by decide +kernel
theorem dX4_could_85 : decode cX4_could 85 = .ok (.iadd, 1) := by decide +kernel
theorem dX4_could_86 : decode cX4_could 86 = .ok (.istore_n 3, 1) := by decide +kernel
theorem dX4_could_87 : decode cX4_could 87 = .ok (.iload 6, 2) := by decide +kernel
theorem dX4_could_89 : decode cX4_could 89 = .ok (.ifCond .eq 11, 3) := by decide +kernel
theorem dX4_could_92 : decode cX4_could 92 = .ok (.bipush 97, 2) := by decide +kernel
theorem dX4_could_94 : decode cX4_could 94 = .ok (.iload 5, 2) := by decide +kernel
theorem dX4_could_96 : decode cX4_could 96 = .ok (.iadd, 1) := by decide +kernel
theorem dX4_could_97 : decode cX4_could 97 = .ok (.goto 5, 3) := by decide +kernel
theorem dX4_could_100 : decode cX4_could 100 = .ok (.iload 4, 2) := by decide +kernel
theorem dX4_could_102 : decode cX4_could 102 = .ok (.istore 4, 2) := by decide +kernel
theorem dX4_could_104 : decode cX4_could 104 = .ok (.iinc 5 (-1), 3) := by decide +kernel
theorem dX4_could_107 : decode cX4_could 107 = .ok (.goto (-47), 3) := by decide +kernel
theorem dX4_could_110 : decode cX4_could 110 = .ok (.iload_n 2, 1) := by decide +kernel
theorem dX4_could_111 : decode cX4_could 111 = .ok (.ifCond .ne 7, 3) := by decide +kernel
theorem dX4_could_114 : decode cX4_could 114 = .ok (.iload_n 3, 1) := by decide +kernel
theorem dX4_could_115 : decode cX4_could 115 = .ok (.goto 5, 3) := by decide +kernel
theorem dX4_could_118 : decode cX4_could 118 = .ok (.iload 4, 2) := by decide +kernel
theorem dX4_could_120 : decode cX4_could 120 = .ok (.ireturn, 1) := by decide +kernel
theorem dX4_letterCells_0 : decode cX4_letterCells 0 = .ok (.iconst 0, 1) := by decide +kernel
theorem dX4_letterCells_1 : decode cX4_letterCells 1 = .ok (.istore_n 1, 1) := by decide +kernel
theorem dX4_letterCells_2 : decode cX4_letterCells 2 = .ok (.iconst 0, 1) := by decide +kernel
theorem dX4_letterCells_3 : decode cX4_letterCells 3 = .ok (.istore_n 2, 1) := by decide +kernel
theorem dX4_letterCells_4 : decode cX4_letterCells 4 = .ok (.iload_n 2, 1) := by decide +kernel
theorem dX4_letterCells_5 : decode cX4_letterCells 5 = .ok (.bipush 49, 2) := by decide +kernel
theorem dX4_letterCells_7 : decode cX4_letterCells 7 = .ok (.if_icmp .ge 29, 3) := by decide +kernel
theorem dX4_letterCells_10 : decode cX4_letterCells 10 = .ok (.iload_n 1, 1) := by decide +kernel
theorem dX4_letterCells_11 : decode cX4_letterCells 11 = .ok (.aload_n 0, 1) := by decide +kernel
theorem dX4_letterCells_12 : decode cX4_letterCells 12 = .ok (.getfield 7, 3) := by decide +kernel
theorem dX4_letterCells_15 : decode cX4_letterCells 15 = .ok (.iconst 0, 1) := by decide +kernel
theorem dX4_letterCells_16 : decode cX4_letterCells 16 = .ok (.iload_n 2, 1) := by decide +kernel
theorem dX4_letterCells_17 : decode cX4_letterCells 17 = .ok (.iadd, 1) := by decide +kernel
theorem dX4_letterCells_18 : decode cX4_letterCells 18 = .ok (.iaload, 1) := by decide +kernel
theorem dX4_letterCells_19 : decode cX4_letterCells 19 = .ok (.iconst (-1), 1) := by decide +kernel
theorem dX4_letterCells_20 : decode cX4_letterCells 20 = .ok (.if_icmp .eq 7, 3) := by decide +kernel
theorem dX4_letterCells_23 : decode cX4_letterCells 23 = .ok (.iconst 1, 1) := by decide +kernel
theorem dX4_letterCells_24 : decode cX4_letterCells 24 = .ok (.goto 4, 3) := by decide +kernel
theorem dX4_letterCells_27 : decode cX4_letterCells 27 = .ok (.iconst 0, 1) := by decide +kernel
theorem dX4_letterCells_28 : decode cX4_letterCells 28 = .ok (.iadd, 1) := by decide +kernel
theorem dX4_letterCells_29 : decode cX4_letterCells 29 = .ok (.istore_n 1, 1) := by decide +kernel
theorem dX4_letterCells_30 : decode cX4_letterCells 30 = .ok (.iinc 2 1, 3) := by decide +kernel
theorem dX4_letterCells_33 : decode cX4_letterCells 33 = .ok (.goto (-29), 3) := by decide +kernel
theorem dX4_letterCells_36 : decode cX4_letterCells 36 = .ok (.iload_n 1, 1) := by decide +kernel
theorem dX4_letterCells_37 : decode cX4_letterCells 37 = .ok (.ireturn, 1) := by decide +kernel
set_option maxRecDepth 20000 in
theorem ggX4_wordsNow_X4_findsWords : GoodIn wsX4_wordsNow wsX4_findsWords := goodIn_r _ [6, 1, 7, 8, 9, 5, 10, 11, 12, 13, 14, 15, 16, 17, 18, 19, 20, 21, 22, 23, 24, 25, 26] (by decide +kernel) (by decide +kernel)
set_option maxRecDepth 20000 in
theorem gX4_wordsNow_X4_findsWords : GoodIn wsX4_wordsNow (wsV RX4 64 RX4 yX4_findsWords wsX4_findsWords) := goodIn_app (goodIn_of _ (by decide +kernel)) ggX4_wordsNow_X4_findsWords
theorem dX4_wordsNow_0 : decode cX4_wordsNow 0 = .ok (.aload_n 0, 1) := by decide +kernel
theorem dX4_wordsNow_1 : decode cX4_wordsNow 1 = .ok (.invokevirtual 64, 3) := by decide +kernel
theorem dX4_wordsNow_4 : decode cX4_wordsNow 4 = .ok (.aload_n 0, 1) := by decide +kernel
theorem dX4_wordsNow_5 : decode cX4_wordsNow 5 = .ok (.getfield 57, 3) := by decide +kernel
theorem dX4_wordsNow_8 : decode cX4_wordsNow 8 = .ok (.ireturn, 1) := by decide +kernel
set_option maxRecDepth 20000 in
theorem ggX4_numbers_X4_cellsWith : GoodIn wsX4_numbers wsX4_cellsWith := goodIn_r _ [6, 7, 8, 9, 5, 10, 1, 11, 12, 13, 14, 15, 16, 17, 18, 19, 20, 21, 22, 23, 24, 25, 26] (by decide +kernel) (by decide +kernel)
set_option maxRecDepth 20000 in
theorem gX4_numbers_X4_cellsWith : GoodIn wsX4_numbers (wsV RX4 54 RX4 yX4_cellsWith wsX4_cellsWith) := goodIn_app (goodIn_of _ (by decide +kernel)) ggX4_numbers_X4_cellsWith
theorem dX4_numbers_0 : decode cX4_numbers 0 = .ok (.iconst 0, 1) := by decide +kernel
theorem dX4_numbers_1 : decode cX4_numbers 1 = .ok (.istore_n 2, 1) := by decide +kernel
theorem dX4_numbers_2 : decode cX4_numbers 2 = .ok (.iconst 1, 1) := by decide +kernel
theorem dX4_numbers_3 : decode cX4_numbers 3 = .ok (.istore_n 3, 1) := by decide +kernel
theorem dX4_numbers_4 : decode cX4_numbers 4 = .ok (.iload_n 3, 1) := by decide +kernel
theorem dX4_numbers_5 : decode cX4_numbers 5 = .ok (.bipush 26, 2) := by decide +kernel
theorem dX4_numbers_7 : decode cX4_numbers 7 = .ok (.if_icmp .gt 42, 3) := by decide +kernel
theorem dX4_numbers_10 : decode cX4_numbers 10 = .ok (.iload_n 2, 1) := by decide +kernel
theorem dX4_numbers_11 : decode cX4_numbers 11 = .ok (.aload_n 0, 1) := by decide +kernel
theorem dX4_numbers_12 : decode cX4_numbers 12 = .ok (.iload_n 3, 1) := by decide +kernel
theorem dX4_numbers_13 : decode cX4_numbers 13 = .ok (.invokevirtual 54, 3) := by decide +kernel
theorem dX4_numbers_16 : decode cX4_numbers 16 = .ok (.ifCond .le 24, 3) := by decide +kernel
theorem dX4_numbers_19 : decode cX4_numbers 19 = .ok (.iload_n 1, 1) := by decide +kernel
theorem dX4_numbers_20 : decode cX4_numbers 20 = .ok (.ifCond .eq 16, 3) := by decide +kernel
theorem dX4_numbers_23 : decode cX4_numbers 23 = .ok (.aload_n 0, 1) := by decide +kernel
theorem dX4_numbers_24 : decode cX4_numbers 24 = .ok (.getfield 7, 3) := by decide +kernel
theorem dX4_numbers_27 : decode cX4_numbers 27 = .ok (.bipush 51, 2) := by decide +kernel
theorem dX4_numbers_29 : decode cX4_numbers 29 = .ok (.iload_n 3, 1) := by decide +kernel
theorem dX4_numbers_30 : decode cX4_numbers 30 = .ok (.iadd, 1) := by decide +kernel
theorem dX4_numbers_31 : decode cX4_numbers 31 = .ok (.iaload, 1) := by decide +kernel
theorem dX4_numbers_32 : decode cX4_numbers 32 = .ok (.iconst (-1), 1) := by decide +kernel
theorem dX4_numbers_33 : decode cX4_numbers 33 = .ok (.if_icmp .eq 7, 3) := by decide +kernel
theorem dX4_numbers_36 : decode cX4_numbers 36 = .ok (.iconst 1, 1) := by decide +kernel
theorem dX4_numbers_37 : decode cX4_numbers 37 = .ok (.goto 4, 3) := by decide +kernel
theorem dX4_numbers_40 : decode cX4_numbers 40 = .ok (.iconst 0, 1) := by decide +kernel
theorem dX4_numbers_41 : decode cX4_numbers 41 = .ok (.iadd, 1) := by decide +kernel
theorem dX4_numbers_42 : decode cX4_numbers 42 = .ok (.istore_n 2, 1) := by decide +kernel
theorem dX4_numbers_43 : decode cX4_numbers 43 = .ok (.iinc 3 1, 3) := by decide +kernel
theorem dX4_numbers_46 : decode cX4_numbers 46 = .ok (.goto (-42), 3) := by decide +kernel
theorem dX4_numbers_49 : decode cX4_numbers 49 = .ok (.iload_n 2, 1) := by decide +kernel
theorem dX4_numbers_50 : decode cX4_numbers 50 = .ok (.ireturn, 1) := by decide +kernel
set_option maxRecDepth 20000 in
theorem ggX4_isSolved_X4_letterCells : GoodIn wsX4_isSolved wsX4_letterCells := goodIn_r _ [6, 1, 19, 20, 21, 22, 23, 24, 25, 26, 27, 28, 29, 30] (by decide +kernel) (by decide +kernel)
set_option maxRecDepth 20000 in
theorem gX4_isSolved_X4_letterCells : GoodIn wsX4_isSolved (wsV RX4 185 RX4 yX4_letterCells wsX4_letterCells) := goodIn_app (goodIn_of _ (by decide +kernel)) ggX4_isSolved_X4_letterCells
set_option maxRecDepth 20000 in
theorem ggX4_isSolved_X4_guessAt : GoodIn wsX4_isSolved wsX4_guessAt := goodIn_r _ [10, 1, 11, 12, 13, 5, 14, 15, 16, 17, 18, 19, 20, 21, 22, 23, 24, 25, 26, 27, 28, 29, 30] (by decide +kernel) (by decide +kernel)
set_option maxRecDepth 20000 in
theorem gX4_isSolved_X4_guessAt : GoodIn wsX4_isSolved (wsV RX4 126 RX4 yX4_guessAt wsX4_guessAt) := goodIn_app (goodIn_of _ (by decide +kernel)) ggX4_isSolved_X4_guessAt
theorem dX4_isSolved_0 : decode cX4_isSolved 0 = .ok (.aload_n 0, 1) := by decide +kernel
theorem dX4_isSolved_1 : decode cX4_isSolved 1 = .ok (.invokevirtual 185, 3) := by decide +kernel
theorem dX4_isSolved_4 : decode cX4_isSolved 4 = .ok (.ifCond .le 7, 3) := by decide +kernel
theorem dX4_isSolved_7 : decode cX4_isSolved 7 = .ok (.iconst 1, 1) := by decide +kernel
theorem dX4_isSolved_8 : decode cX4_isSolved 8 = .ok (.goto 4, 3) := by decide +kernel
theorem dX4_isSolved_11 : decode cX4_isSolved 11 = .ok (.iconst 0, 1) := by decide +kernel
theorem dX4_isSolved_12 : decode cX4_isSolved 12 = .ok (.istore_n 1, 1) := by decide +kernel
theorem dX4_isSolved_13 : decode cX4_isSolved 13 = .ok (.iconst 0, 1) := by decide +kernel
theorem dX4_isSolved_14 : decode cX4_isSolved 14 = .ok (.istore_n 2, 1) := by decide +kernel
theorem dX4_isSolved_15 : decode cX4_isSolved 15 = .ok (.iload_n 2, 1) := by decide +kernel
theorem dX4_isSolved_16 : decode cX4_isSolved 16 = .ok (.bipush 49, 2) := by decide +kernel
theorem dX4_isSolved_18 : decode cX4_isSolved 18 = .ok (.if_icmp .ge 47, 3) := by decide +kernel
theorem dX4_isSolved_21 : decode cX4_isSolved 21 = .ok (.iload_n 1, 1) := by decide +kernel
theorem dX4_isSolved_22 : decode cX4_isSolved 22 = .ok (.ifCond .eq 35, 3) := by decide +kernel
theorem dX4_isSolved_25 : decode cX4_isSolved 25 = .ok (.aload_n 0, 1) := by decide +kernel
theorem dX4_isSolved_26 : decode cX4_isSolved 26 = .ok (.getfield 7, 3) := by decide +kernel
theorem dX4_isSolved_29 : decode cX4_isSolved 29 = .ok (.iconst 0, 1) := by decide +kernel
theorem dX4_isSolved_30 : decode cX4_isSolved 30 = .ok (.iload_n 2, 1) := by decide +kernel
theorem dX4_isSolved_31 : decode cX4_isSolved 31 = .ok (.iadd, 1) := by decide +kernel
theorem dX4_isSolved_32 : decode cX4_isSolved 32 = .ok (.iaload, 1) := by decide +kernel
theorem dX4_isSolved_33 : decode cX4_isSolved 33 = .ok (.iconst (-1), 1) := by decide +kernel
theorem dX4_isSolved_34 : decode cX4_isSolved 34 = .ok (.if_icmp .eq 19, 3) := by decide +kernel
theorem dX4_isSolved_37 : decode cX4_isSolved 37 = .ok (.aload_n 0, 1) := by decide +kernel
theorem dX4_isSolved_38 : decode cX4_isSolved 38 = .ok (.iload_n 2, 1) := by decide +kernel
theorem dX4_isSolved_39 : decode cX4_isSolved 39 = .ok (.invokevirtual 126, 3) := by decide +kernel
theorem dX4_isSolved_42 : decode cX4_isSolved 42 = .ok (.aload_n 0, 1) := by decide +kernel
theorem dX4_isSolved_43 : decode cX4_isSolved 43 = .ok (.getfield 7, 3) := by decide +kernel
theorem dX4_isSolved_46 : decode cX4_isSolved 46 = .ok (.iconst 0, 1) := by decide +kernel
theorem dX4_isSolved_47 : decode cX4_isSolved 47 = .ok (.iload_n 2, 1) := by decide +kernel
theorem dX4_isSolved_48 : decode cX4_isSolved 48 = .ok (.iadd, 1) := by decide +kernel
theorem dX4_isSolved_49 : decode cX4_isSolved 49 = .ok (.iaload, 1) := by decide +kernel
theorem dX4_isSolved_50 : decode cX4_isSolved 50 = .ok (.if_icmp .ne 7, 3) := by decide +kernel
theorem dX4_isSolved_53 : decode cX4_isSolved 53 = .ok (.iconst 1, 1) := by decide +kernel
theorem dX4_isSolved_54 : decode cX4_isSolved 54 = .ok (.goto 4, 3) := by decide +kernel
theorem dX4_isSolved_57 : decode cX4_isSolved 57 = .ok (.iconst 0, 1) := by decide +kernel
theorem dX4_isSolved_58 : decode cX4_isSolved 58 = .ok (.istore_n 1, 1) := by decide +kernel
theorem dX4_isSolved_59 : decode cX4_isSolved 59 = .ok (.iinc 2 1, 3) := by decide +kernel
theorem dX4_isSolved_62 : decode cX4_isSolved 62 = .ok (.goto (-47), 3) := by decide +kernel
theorem dX4_isSolved_65 : decode cX4_isSolved 65 = .ok (.iload_n 1, 1) := by decide +kernel
theorem dX4_isSolved_66 : decode cX4_isSolved 66 = .ok (.ireturn, 1) := by decide +kernel
set_option maxRecDepth 20000 in
theorem ggX4_count_X4_letterCells : GoodIn wsX4_count wsX4_letterCells := goodIn_r _ [8, 1, 53, 54, 55, 56, 57, 58, 59, 60, 61, 62, 63, 64] (by decide +kernel) (by decide +kernel)
set_option maxRecDepth 20000 in
theorem gX4_count_X4_letterCells : GoodIn wsX4_count (wsV RX4 185 RX4 yX4_letterCells wsX4_letterCells) := goodIn_app (goodIn_of _ (by decide +kernel)) ggX4_count_X4_letterCells
set_option maxRecDepth 20000 in
theorem ggX4_count_X4_wordsNow : GoodIn wsX4_count wsX4_wordsNow := goodIn_r _ [12, 13, 14, 15, 16, 7, 17, 18, 19, 20, 21, 1, 22, 23, 24, 53, 54, 55, 56, 57, 58, 59, 60, 61, 62, 63, 64] (by decide +kernel) (by decide +kernel)
set_option maxRecDepth 20000 in
theorem gX4_count_X4_wordsNow : GoodIn wsX4_count (wsV RX4 188 RX4 yX4_wordsNow wsX4_wordsNow) := goodIn_app (goodIn_of _ (by decide +kernel)) ggX4_count_X4_wordsNow
set_option maxRecDepth 20000 in
theorem ggX4_count_X4_numbers : GoodIn wsX4_count wsX4_numbers := goodIn_r _ [28, 1, 29, 30, 31, 7, 32, 33, 34, 35, 36, 37, 38, 39, 40, 53, 54, 55, 56, 57, 58, 59, 60, 61, 62, 63, 64] (by decide +kernel) (by decide +kernel)
set_option maxRecDepth 20000 in
theorem gX4_count_X4_numbers : GoodIn wsX4_count (wsV RX4 191 RX4 yX4_numbers wsX4_numbers) := goodIn_app (goodIn_of _ (by decide +kernel)) ggX4_count_X4_numbers
set_option maxRecDepth 20000 in
theorem ggX4_count_X4_guessedCells : GoodIn wsX4_count wsX4_guessedCells := goodIn_r _ [44, 45, 46, 47, 7, 48, 1, 33, 34, 35, 36, 37, 38, 39, 40, 53, 54, 55, 56, 57, 58, 59, 60, 61, 62, 63, 64] (by decide +kernel) (by decide +kernel)
set_option maxRecDepth 20000 in
theorem gX4_count_X4_guessedCells : GoodIn wsX4_count (wsV RX4 132 RX4 yX4_guessedCells wsX4_guessedCells) := goodIn_app (goodIn_of _ (by decide +kernel)) ggX4_count_X4_guessedCells
set_option maxRecDepth 20000 in
theorem ggX4_count_X4_isSolved : GoodIn wsX4_count wsX4_isSolved := goodIn_r _ [52, 1, 4, 5, 6, 7, 8, 45, 46, 47, 48, 33, 34, 35, 36, 37, 38, 39, 40, 53, 54, 55, 56, 57, 58, 59, 60, 61, 62, 63, 64] (by decide +kernel) (by decide +kernel)
set_option maxRecDepth 20000 in
theorem gX4_count_X4_isSolved : GoodIn wsX4_count (wsV RX4 195 RX4 yX4_isSolved wsX4_isSolved) := goodIn_app (goodIn_of _ (by decide +kernel)) ggX4_count_X4_isSolved
theorem dX4_count_0 : decode cX4_count 0 = .ok (.iload_n 1, 1) := by decide +kernel
theorem dX4_count_1 : decode cX4_count 1 = .ok (.tableswitch 169 0 13 #[71, 76, 81, 89, 97, 103, 109, 114, 127, 135, 143, 151, 159, 164], 71) := by decide +kernel
theorem dX4_count_72 : decode cX4_count 72 = .ok (.aload_n 0, 1) := by decide +kernel
theorem dX4_count_73 : decode cX4_count 73 = .ok (.invokevirtual 185, 3) := by decide +kernel
theorem dX4_count_76 : decode cX4_count 76 = .ok (.ireturn, 1) := by decide +kernel
theorem dX4_count_77 : decode cX4_count 77 = .ok (.aload_n 0, 1) := by decide +kernel
theorem dX4_count_78 : decode cX4_count 78 = .ok (.invokevirtual 188, 3) := by decide +kernel
theorem dX4_count_81 : decode cX4_count 81 = .ok (.ireturn, 1) := by decide +kernel
theorem dX4_count_82 : decode cX4_count 82 = .ok (.aload_n 0, 1) := by decide +kernel
theorem dX4_count_83 : decode cX4_count 83 = .ok (.getfield 7, 3) := by decide +kernel
theorem dX4_count_86 : decode cX4_count 86 = .ok (.bipush 106, 2) := by decide +kernel
theorem dX4_count_88 : decode cX4_count 88 = .ok (.iaload, 1) := by decide +kernel
theorem dX4_count_89 : decode cX4_count 89 = .ok (.ireturn, 1) := by decide +kernel
theorem dX4_count_90 : decode cX4_count 90 = .ok (.aload_n 0, 1) := by decide +kernel
theorem dX4_count_91 : decode cX4_count 91 = .ok (.getfield 7, 3) := by decide +kernel
theorem dX4_count_94 : decode cX4_count 94 = .ok (.bipush 105, 2) := by decide +kernel
theorem dX4_count_96 : decode cX4_count 96 = .ok (.iaload, 1) := by decide +kernel
theorem dX4_count_97 : decode cX4_count 97 = .ok (.ireturn, 1) := by decide +kernel
theorem dX4_count_98 : decode cX4_count 98 = .ok (.aload_n 0, 1) := by decide +kernel
theorem dX4_count_99 : decode cX4_count 99 = .ok (.iconst 0, 1) := by decide +kernel
theorem dX4_count_100 : decode cX4_count 100 = .ok (.invokevirtual 191, 3) := by decide +kernel
theorem dX4_count_103 : decode cX4_count 103 = .ok (.ireturn, 1) := by decide +kernel
theorem dX4_count_104 : decode cX4_count 104 = .ok (.aload_n 0, 1) := by decide +kernel
theorem dX4_count_105 : decode cX4_count 105 = .ok (.iconst 1, 1) := by decide +kernel
theorem dX4_count_106 : decode cX4_count 106 = .ok (.invokevirtual 191, 3) := by decide +kernel
theorem dX4_count_109 : decode cX4_count 109 = .ok (.ireturn, 1) := by decide +kernel
theorem dX4_count_110 : decode cX4_count 110 = .ok (.aload_n 0, 1) := by decide +kernel
theorem dX4_count_111 : decode cX4_count 111 = .ok (.invokevirtual 132, 3) := by decide +kernel
theorem dX4_count_114 : decode cX4_count 114 = .ok (.ireturn, 1) := by decide +kernel
theorem dX4_count_115 : decode cX4_count 115 = .ok (.aload_n 0, 1) := by decide +kernel
theorem dX4_count_116 : decode cX4_count 116 = .ok (.invokevirtual 195, 3) := by decide +kernel
theorem dX4_count_119 : decode cX4_count 119 = .ok (.ifCond .eq 7, 3) := by decide +kernel
theorem dX4_count_122 : decode cX4_count 122 = .ok (.iconst 1, 1) := by decide +kernel
theorem dX4_count_123 : decode cX4_count 123 = .ok (.goto 4, 3) := by decide +kernel
theorem dX4_count_126 : decode cX4_count 126 = .ok (.iconst 0, 1) := by decide +kernel
theorem dX4_count_127 : decode cX4_count 127 = .ok (.ireturn, 1) := by decide +kernel
theorem dX4_count_128 : decode cX4_count 128 = .ok (.aload_n 0, 1) := by decide +kernel
theorem dX4_count_129 : decode cX4_count 129 = .ok (.getfield 7, 3) := by decide +kernel
theorem dX4_count_132 : decode cX4_count 132 = .ok (.bipush 107, 2) := by decide +kernel
theorem dX4_count_134 : decode cX4_count 134 = .ok (.iaload, 1) := by decide +kernel
theorem dX4_count_135 : decode cX4_count 135 = .ok (.ireturn, 1) := by decide +kernel
theorem dX4_count_136 : decode cX4_count 136 = .ok (.aload_n 0, 1) := by decide +kernel
theorem dX4_count_137 : decode cX4_count 137 = .ok (.getfield 7, 3) := by decide +kernel
theorem dX4_count_140 : decode cX4_count 140 = .ok (.bipush 108, 2) := by decide +kernel
theorem dX4_count_142 : decode cX4_count 142 = .ok (.iaload, 1) := by decide +kernel
theorem dX4_count_143 : decode cX4_count 143 = .ok (.ireturn, 1) := by decide +kernel
theorem dX4_count_144 : decode cX4_count 144 = .ok (.aload_n 0, 1) := by decide +kernel
theorem dX4_count_145 : decode cX4_count 145 = .ok (.getfield 7, 3) := by decide +kernel
theorem dX4_count_148 : decode cX4_count 148 = .ok (.bipush 49, 2) := by decide +kernel
theorem dX4_count_150 : decode cX4_count 150 = .ok (.iaload, 1) := by decide +kernel
theorem dX4_count_151 : decode cX4_count 151 = .ok (.ireturn, 1) := by decide +kernel
theorem dX4_count_152 : decode cX4_count 152 = .ok (.aload_n 0, 1) := by decide +kernel
theorem dX4_count_153 : decode cX4_count 153 = .ok (.getfield 7, 3) := by decide +kernel
theorem dX4_count_156 : decode cX4_count 156 = .ok (.bipush 50, 2) := by decide +kernel
theorem dX4_count_158 : decode cX4_count 158 = .ok (.iaload, 1) := by decide +kernel
theorem dX4_count_159 : decode cX4_count 159 = .ok (.ireturn, 1) := by decide +kernel
theorem dX4_count_160 : decode cX4_count 160 = .ok (.aload_n 0, 1) := by decide +kernel
theorem dX4_count_161 : decode cX4_count 161 = .ok (.getfield 37, 3) := by decide +kernel
theorem dX4_count_164 : decode cX4_count 164 = .ok (.ireturn, 1) := by decide +kernel
theorem dX4_count_165 : decode cX4_count 165 = .ok (.aload_n 0, 1) := by decide +kernel
theorem dX4_count_166 : decode cX4_count 166 = .ok (.getfield 88, 3) := by decide +kernel
theorem dX4_count_169 : decode cX4_count 169 = .ok (.ireturn, 1) := by decide +kernel
theorem dX4_count_170 : decode cX4_count 170 = .ok (.bipush (-2), 2) := by decide +kernel
theorem dX4_count_172 : decode cX4_count 172 = .ok (.ireturn, 1) := by decide +kernel
theorem dJ6_bitCount_0f7a4_0 : decode cJ6_bitCount_0f7a4 0 = .ok (.iload_n 0, 1) := by decide +kernel
theorem dJ6_bitCount_0f7a4_1 : decode cJ6_bitCount_0f7a4 1 = .ok (.iload_n 0, 1) := by decide +kernel
theorem dJ6_bitCount_0f7a4_2 : decode cJ6_bitCount_0f7a4 2 = .ok (.iconst 1, 1) := by decide +kernel
theorem dJ6_bitCount_0f7a4_3 : decode cJ6_bitCount_0f7a4 3 = .ok (.iushr, 1) := by decide +kernel
theorem dJ6_bitCount_0f7a4_4 : decode cJ6_bitCount_0f7a4 4 = .ok (.ldc_w 265, 3) := by decide +kernel
theorem dJ6_bitCount_0f7a4_7 : decode cJ6_bitCount_0f7a4 7 = .ok (.iand, 1) := by decide +kernel
theorem dJ6_bitCount_0f7a4_8 : decode cJ6_bitCount_0f7a4 8 = .ok (.isub, 1) := by decide +kernel
theorem dJ6_bitCount_0f7a4_9 : decode cJ6_bitCount_0f7a4 9 = .ok (.istore_n 0, 1) := by decide +kernel
theorem dJ6_bitCount_0f7a4_10 : decode cJ6_bitCount_0f7a4 10 = .ok (.iload_n 0, 1) := by decide +kernel
theorem dJ6_bitCount_0f7a4_11 : decode cJ6_bitCount_0f7a4 11 = .ok (.ldc_w 266, 3) := by decide +kernel
theorem dJ6_bitCount_0f7a4_14 : decode cJ6_bitCount_0f7a4 14 = .ok (.iand, 1) := by decide +kernel
theorem dJ6_bitCount_0f7a4_15 : decode cJ6_bitCount_0f7a4 15 = .ok (.iload_n 0, 1) := by decide +kernel
theorem dJ6_bitCount_0f7a4_16 : decode cJ6_bitCount_0f7a4 16 = .ok (.iconst 2, 1) := by decide +kernel
theorem dJ6_bitCount_0f7a4_17 : decode cJ6_bitCount_0f7a4 17 = .ok (.iushr, 1) := by decide +kernel
theorem dJ6_bitCount_0f7a4_18 : decode cJ6_bitCount_0f7a4 18 = .ok (.ldc_w 266, 3) := by decide +kernel
theorem dJ6_bitCount_0f7a4_21 : decode cJ6_bitCount_0f7a4 21 = .ok (.iand, 1) := by decide +kernel
theorem dJ6_bitCount_0f7a4_22 : decode cJ6_bitCount_0f7a4 22 = .ok (.iadd, 1) := by decide +kernel
theorem dJ6_bitCount_0f7a4_23 : decode cJ6_bitCount_0f7a4 23 = .ok (.istore_n 0, 1) := by decide +kernel
theorem dJ6_bitCount_0f7a4_24 : decode cJ6_bitCount_0f7a4 24 = .ok (.iload_n 0, 1) := by decide +kernel
theorem dJ6_bitCount_0f7a4_25 : decode cJ6_bitCount_0f7a4 25 = .ok (.iload_n 0, 1) := by decide +kernel
theorem dJ6_bitCount_0f7a4_26 : decode cJ6_bitCount_0f7a4 26 = .ok (.iconst 4, 1) := by decide +kernel
theorem dJ6_bitCount_0f7a4_27 : decode cJ6_bitCount_0f7a4 27 = .ok (.iushr, 1) := by decide +kernel
theorem dJ6_bitCount_0f7a4_28 : decode cJ6_bitCount_0f7a4 28 = .ok (.iadd, 1) := by decide +kernel
theorem dJ6_bitCount_0f7a4_29 : decode cJ6_bitCount_0f7a4 29 = .ok (.ldc_w 267, 3) := by decide +kernel
theorem dJ6_bitCount_0f7a4_32 : decode cJ6_bitCount_0f7a4 32 = .ok (.iand, 1) := by decide +kernel
theorem dJ6_bitCount_0f7a4_33 : decode cJ6_bitCount_0f7a4 33 = .ok (.istore_n 0, 1) := by decide +kernel
theorem dJ6_bitCount_0f7a4_34 : decode cJ6_bitCount_0f7a4 34 = .ok (.iload_n 0, 1) := by decide +kernel
theorem dJ6_bitCount_0f7a4_35 : decode cJ6_bitCount_0f7a4 35 = .ok (.iload_n 0, 1) := by decide +kernel
theorem dJ6_bitCount_0f7a4_36 : decode cJ6_bitCount_0f7a4 36 = .ok (.bipush 8, 2) := by decide +kernel
theorem dJ6_bitCount_0f7a4_38 : decode cJ6_bitCount_0f7a4 38 = .ok (.iushr, 1) := by decide +kernel
theorem dJ6_bitCount_0f7a4_39 : decode cJ6_bitCount_0f7a4 39 = .ok (.iadd, 1) := by decide +kernel
theorem dJ6_bitCount_0f7a4_40 : decode cJ6_bitCount_0f7a4 40 = .ok (.istore_n 0, 1) := by decide +kernel
theorem dJ6_bitCount_0f7a4_41 : decode cJ6_bitCount_0f7a4 41 = .ok (.iload_n 0, 1) := by decide +kernel
theorem dJ6_bitCount_0f7a4_42 : decode cJ6_bitCount_0f7a4 42 = .ok (.iload_n 0, 1) := by decide +kernel
theorem dJ6_bitCount_0f7a4_43 : decode cJ6_bitCount_0f7a4 43 = .ok (.bipush 16, 2) := by decide +kernel
theorem dJ6_bitCount_0f7a4_45 : decode cJ6_bitCount_0f7a4 45 = .ok (.iushr, 1) := by decide +kernel
theorem dJ6_bitCount_0f7a4_46 : decode cJ6_bitCount_0f7a4 46 = .ok (.iadd, 1) := by decide +kernel
theorem dJ6_bitCount_0f7a4_47 : decode cJ6_bitCount_0f7a4 47 = .ok (.istore_n 0, 1) := by decide +kernel
theorem dJ6_bitCount_0f7a4_48 : decode cJ6_bitCount_0f7a4 48 = .ok (.iload_n 0, 1) := by decide +kernel
theorem dJ6_bitCount_0f7a4_49 : decode cJ6_bitCount_0f7a4 49 = .ok (.bipush 63, 2) := by decide +kernel
theorem dJ6_bitCount_0f7a4_51 : decode cJ6_bitCount_0f7a4 51 = .ok (.iand, 1) := by decide +kernel
theorem dJ6_bitCount_0f7a4_52 : decode cJ6_bitCount_0f7a4 52 = .ok (.ireturn, 1) := by decide +kernel
theorem dJ9_min_7cf53_0 : decode cJ9_min_7cf53 0 = .ok (.iload_n 0, 1) := by decide +kernel
theorem dJ9_min_7cf53_1 : decode cJ9_min_7cf53 1 = .ok (.iload_n 1, 1) := by decide +kernel
theorem dJ9_min_7cf53_2 : decode cJ9_min_7cf53 2 = .ok (.if_icmp .gt 7, 3) := by decide +kernel
theorem dJ9_min_7cf53_5 : decode cJ9_min_7cf53 5 = .ok (.iload_n 0, 1) := by decide +kernel
theorem dJ9_min_7cf53_6 : decode cJ9_min_7cf53 6 = .ok (.goto 4, 3) := by decide +kernel
theorem dJ9_min_7cf53_9 : decode cJ9_min_7cf53 9 = .ok (.iload_n 1, 1) := by decide +kernel
theorem dJ9_min_7cf53_10 : decode cJ9_min_7cf53 10 = .ok (.ireturn, 1) := by decide +kernel
abbrev vwCl : List vw_C := [(RX0, TX0, 11), (RX1, TX1, 2), (RX2, TX2, 4), (RX3, TX3, 7), (RX4, TX4, 12)]
