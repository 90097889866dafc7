theorem dX0_init_0 : decode cX0_init 0 = .ok (.aload_n 0, 1) := by decide +kernel
theorem dX0_init_1 : decode cX0_init 1 = .ok (.invokespecial 3, 3) := by decide +kernel
theorem dX0_init_4 : decode cX0_init 4 = .ok (.aload_n 0, 1) := by decide +kernel
theorem dX0_init_5 : decode cX0_init 5 = .ok (.bipush 49, 2) := by decide +kernel
theorem dX0_init_7 : decode cX0_init 7 = .ok (.newarray .int, 2) := by decide +kernel
theorem dX0_init_9 : decode cX0_init 9 = .ok (.putfield 9, 3) := by decide +kernel
theorem dX0_init_12 : decode cX0_init 12 = .ok (.aload_n 0, 1) := by decide +kernel
theorem dX0_init_13 : decode cX0_init 13 = .ok (.bipush 27, 2) := by decide +kernel
theorem dX0_init_15 : decode cX0_init 15 = .ok (.newarray .int, 2) := by decide +kernel
theorem dX0_init_17 : decode cX0_init 17 = .ok (.putfield 15, 3) := by decide +kernel
theorem dX0_init_20 : decode cX0_init 20 = .ok (.aload_n 0, 1) := by decide +kernel
theorem dX0_init_21 : decode cX0_init 21 = .ok (.bipush 27, 2) := by decide +kernel
theorem dX0_init_23 : decode cX0_init 23 = .ok (.newarray .boolean, 2) := by decide +kernel
theorem dX0_init_25 : decode cX0_init 25 = .ok (.putfield 18, 3) := by decide +kernel
theorem dX0_init_28 : decode cX0_init 28 = .ok (.aload_n 0, 1) := by decide +kernel
theorem dX0_init_29 : decode cX0_init 29 = .ok (.bipush 84, 2) := by decide +kernel
theorem dX0_init_31 : decode cX0_init 31 = .ok (.newarray .int, 2) := by decide +kernel
theorem dX0_init_33 : decode cX0_init 33 = .ok (.putfield 22, 3) := by decide +kernel
theorem dX0_init_36 : decode cX0_init 36 = .ok (.aload_n 0, 1) := by decide +kernel
theorem dX0_init_37 : decode cX0_init 37 = .ok (.bipush 12, 2) := by decide +kernel
theorem dX0_init_39 : decode cX0_init 39 = .ok (.newarray .int, 2) := by decide +kernel
theorem dX0_init_41 : decode cX0_init 41 = .ok (.putfield 25, 3) := by decide +kernel
theorem dX0_init_44 : decode cX0_init 44 = .ok (.aload_n 0, 1) := by decide +kernel
theorem dX0_init_45 : decode cX0_init 45 = .ok (.bipush 7, 2) := by decide +kernel
theorem dX0_init_47 : decode cX0_init 47 = .ok (.putfield 28, 3) := by decide +kernel
theorem dX0_init_50 : decode cX0_init 50 = .ok (.aload_n 0, 1) := by decide +kernel
theorem dX0_init_51 : decode cX0_init 51 = .ok (.iconst 3, 1) := by decide +kernel
theorem dX0_init_52 : decode cX0_init 52 = .ok (.putfield 32, 3) := by decide +kernel
theorem dX0_init_55 : decode cX0_init 55 = .ok (.aload_n 0, 1) := by decide +kernel
theorem dX0_init_56 : decode cX0_init 56 = .ok (.bipush 30, 2) := by decide +kernel
theorem dX0_init_58 : decode cX0_init 58 = .ok (.putfield 35, 3) := by decide +kernel
theorem dX0_init_61 : decode cX0_init 61 = .ok (.return_, 1) := by decide +kernel
theorem dX0_copyFrom_0 : decode cX0_copyFrom 0 = .ok (.aload_n 1, 1) := by decide +kernel
theorem dX0_copyFrom_1 : decode cX0_copyFrom 1 = .ok (.getfield 9, 3) := by decide +kernel
theorem dX0_copyFrom_4 : decode cX0_copyFrom 4 = .ok (.iconst 0, 1) := by decide +kernel
theorem dX0_copyFrom_5 : decode cX0_copyFrom 5 = .ok (.aload_n 0, 1) := by decide +kernel
theorem dX0_copyFrom_6 : decode cX0_copyFrom 6 = .ok (.getfield 9, 3) := by decide +kernel
theorem dX0_copyFrom_9 : decode cX0_copyFrom 9 = .ok (.iconst 0, 1) := by decide +kernel
theorem dX0_copyFrom_10 : decode cX0_copyFrom 10 = .ok (.bipush 49, 2) := by decide +kernel
theorem dX0_copyFrom_12 : decode cX0_copyFrom 12 = .ok (.invokestatic 38, 3) := by decide +kernel
theorem dX0_copyFrom_15 : decode cX0_copyFrom 15 = .ok (.aload_n 1, 1) := by decide +kernel
theorem dX0_copyFrom_16 : decode cX0_copyFrom 16 = .ok (.getfield 22, 3) := by decide +kernel
theorem dX0_copyFrom_19 : decode cX0_copyFrom 19 = .ok (.iconst 0, 1) := by decide +kernel
theorem dX0_copyFrom_20 : decode cX0_copyFrom 20 = .ok (.aload_n 0, 1) := by decide +kernel
theorem dX0_copyFrom_21 : decode cX0_copyFrom 21 = .ok (.getfield 22, 3) := by decide +kernel
theorem dX0_copyFrom_24 : decode cX0_copyFrom 24 = .ok (.iconst 0, 1) := by decide +kernel
theorem dX0_copyFrom_25 : decode cX0_copyFrom 25 = .ok (.bipush 84, 2) := by decide +kernel
theorem dX0_copyFrom_27 : decode cX0_copyFrom 27 = .ok (.invokestatic 38, 3) := by decide +kernel
theorem dX0_copyFrom_30 : decode cX0_copyFrom 30 = .ok (.aload_n 1, 1) := by decide +kernel
theorem dX0_copyFrom_31 : decode cX0_copyFrom 31 = .ok (.getfield 25, 3) := by decide +kernel
theorem dX0_copyFrom_34 : decode cX0_copyFrom 34 = .ok (.iconst 0, 1) := by decide +kernel
theorem dX0_copyFrom_35 : decode cX0_copyFrom 35 = .ok (.aload_n 0, 1) := by decide +kernel
theorem dX0_copyFrom_36 : decode cX0_copyFrom 36 = .ok (.getfield 25, 3) := by decide +kernel
theorem dX0_copyFrom_39 : decode cX0_copyFrom 39 = .ok (.iconst 0, 1) := by decide +kernel
theorem dX0_copyFrom_40 : decode cX0_copyFrom 40 = .ok (.bipush 12, 2) := by decide +kernel
theorem dX0_copyFrom_42 : decode cX0_copyFrom 42 = .ok (.invokestatic 38, 3) := by decide +kernel
theorem dX0_copyFrom_45 : decode cX0_copyFrom 45 = .ok (.iconst 1, 1) := by decide +kernel
theorem dX0_copyFrom_46 : decode cX0_copyFrom 46 = .ok (.istore_n 2, 1) := by decide +kernel
theorem dX0_copyFrom_47 : decode cX0_copyFrom 47 = .ok (.iload_n 2, 1) := by decide +kernel
theorem dX0_copyFrom_48 : decode cX0_copyFrom 48 = .ok (.bipush 26, 2) := by decide +kernel
theorem dX0_copyFrom_50 : decode cX0_copyFrom 50 = .ok (.if_icmp .gt 33, 3) := by decide +kernel
theorem dX0_copyFrom_53 : decode cX0_copyFrom 53 = .ok (.aload_n 0, 1) := by decide +kernel
theorem dX0_copyFrom_54 : decode cX0_copyFrom 54 = .ok (.getfield 15, 3) := by decide +kernel
theorem dX0_copyFrom_57 : decode cX0_copyFrom 57 = .ok (.iload_n 2, 1) := by decide +kernel
theorem dX0_copyFrom_58 : decode cX0_copyFrom 58 = .ok (.aload_n 1, 1) := by decide +kernel
theorem dX0_copyFrom_59 : decode cX0_copyFrom 59 = .ok (.getfield 15, 3) := by decide +kernel
theorem dX0_copyFrom_62 : decode cX0_copyFrom 62 = .ok (.iload_n 2, 1) := by decide +kernel
theorem dX0_copyFrom_63 : decode cX0_copyFrom 63 = .ok (.iaload, 1) := by decide +kernel
theorem dX0_copyFrom_64 : decode cX0_copyFrom 64 = .ok (.iastore, 1) := by decide +kernel
theorem dX0_copyFrom_65 : decode cX0_copyFrom 65 = .ok (.aload_n 0, 1) := by decide +kernel
theorem dX0_copyFrom_66 : decode cX0_copyFrom 66 = .ok (.getfield 18, 3) := by decide +kernel
theorem dX0_copyFrom_69 : decode cX0_copyFrom 69 = .ok (.iload_n 2, 1) := by decide +kernel
theorem dX0_copyFrom_70 : decode cX0_copyFrom 70 = .ok (.aload_n 1, 1) := by decide +kernel
theorem dX0_copyFrom_71 : decode cX0_copyFrom 71 = .ok (.getfield 18, 3) := by decide +kernel
theorem dX0_copyFrom_74 : decode cX0_copyFrom 74 = .ok (.iload_n 2, 1) := by decide +kernel
theorem dX0_copyFrom_75 : decode cX0_copyFrom 75 = .ok (.baload, 1) := by decide +kernel
theorem dX0_copyFrom_76 : decode cX0_copyFrom 76 = .ok (.bastore, 1) := by decide +kernel
theorem dX0_copyFrom_77 : decode cX0_copyFrom 77 = .ok (.iinc 2 1, 3) := by decide +kernel
theorem dX0_copyFrom_80 : decode cX0_copyFrom 80 = .ok (.goto (-33), 3) := by decide +kernel
theorem dX0_copyFrom_83 : decode cX0_copyFrom 83 = .ok (.aload_n 0, 1) := by decide +kernel
theorem dX0_copyFrom_84 : decode cX0_copyFrom 84 = .ok (.aload_n 1, 1) := by decide +kernel
theorem dX0_copyFrom_85 : decode cX0_copyFrom 85 = .ok (.getfield 44, 3) := by decide +kernel
theorem dX0_copyFrom_88 : decode cX0_copyFrom 88 = .ok (.putfield 44, 3) := by decide +kernel
theorem dX0_copyFrom_91 : decode cX0_copyFrom 91 = .ok (.aload_n 0, 1) := by decide +kernel
theorem dX0_copyFrom_92 : decode cX0_copyFrom 92 = .ok (.aload_n 1, 1) := by decide +kernel
theorem dX0_copyFrom_93 : decode cX0_copyFrom 93 = .ok (.getfield 28, 3) := by decide +kernel
theorem dX0_copyFrom_96 : decode cX0_copyFrom 96 = .ok (.putfield 28, 3) := by decide +kernel
theorem dX0_copyFrom_99 : decode cX0_copyFrom 99 = .ok (.aload_n 0, 1) := by decide +kernel
theorem dX0_copyFrom_100 : decode cX0_copyFrom 100 = .ok (.aload_n 1, 1) := by decide +kernel
theorem dX0_copyFrom_101 : decode cX0_copyFrom 101 = .ok (.getfield 32, 3) := by decide +kernel
theorem dX0_copyFrom_104 : decode cX0_copyFrom 104 = .ok (.putfield 32, 3) := by decide +kernel
theorem dX0_copyFrom_107 : decode cX0_copyFrom 107 = .ok (.aload_n 0, 1) := by decide +kernel
theorem dX0_copyFrom_108 : decode cX0_copyFrom 108 = .ok (.aload_n 1, 1) := by decide +kernel
theorem dX0_copyFrom_109 : decode cX0_copyFrom 109 = .ok (.getfield 35, 3) := by decide +kernel
theorem dX0_copyFrom_112 : decode cX0_copyFrom 112 = .ok (.putfield 35, 3) := by decide +kernel
theorem dX0_copyFrom_115 : decode cX0_copyFrom 115 = .ok (.aload_n 0, 1) := by decide +kernel
theorem dX0_copyFrom_116 : decode cX0_copyFrom 116 = .ok (.aload_n 1, 1) := by decide +kernel
theorem dX0_copyFrom_117 : decode cX0_copyFrom 117 = .ok (.getfield 47, 3) := by decide +kernel
theorem dX0_copyFrom_120 : decode cX0_copyFrom 120 = .ok (.putfield 47, 3) := by decide +kernel
theorem dX0_copyFrom_123 : decode cX0_copyFrom 123 = .ok (.aload_n 0, 1) := by decide +kernel
theorem dX0_copyFrom_124 : decode cX0_copyFrom 124 = .ok (.aload_n 1, 1) := by decide +kernel
theorem dX0_copyFrom_125 : decode cX0_copyFrom 125 = .ok (.getfield 50, 3) := by decide +kernel
theorem dX0_copyFrom_128 : decode cX0_copyFrom 128 = .ok (.putfield 50, 3) := by decide +kernel
theorem dX0_copyFrom_131 : decode cX0_copyFrom 131 = .ok (.return_, 1) := by decide +kernel
theorem dX0_forgetGuesses_0 : decode cX0_forgetGuesses 0 = .ok (.iconst 1, 1) := by decide +kernel
theorem dX0_forgetGuesses_1 : decode cX0_forgetGuesses 1 = .ok (.istore_n 1, 1) := by decide +kernel
theorem dX0_forgetGuesses_2 : decode cX0_forgetGuesses 2 = .ok (.iload_n 1, 1) := by decide +kernel
theorem dX0_forgetGuesses_3 : decode cX0_forgetGuesses 3 = .ok (.bipush 26, 2) := by decide +kernel
theorem dX0_forgetGuesses_5 : decode cX0_forgetGuesses 5 = .ok (.if_icmp .gt 23, 3) := by decide +kernel
theorem dX0_forgetGuesses_8 : decode cX0_forgetGuesses 8 = .ok (.aload_n 0, 1) := by decide +kernel
theorem dX0_forgetGuesses_9 : decode cX0_forgetGuesses 9 = .ok (.getfield 15, 3) := by decide +kernel
theorem dX0_forgetGuesses_12 : decode cX0_forgetGuesses 12 = .ok (.iload_n 1, 1) := by decide +kernel
theorem dX0_forgetGuesses_13 : decode cX0_forgetGuesses 13 = .ok (.iconst 0, 1) := by decide +kernel
theorem dX0_forgetGuesses_14 : decode cX0_forgetGuesses 14 = .ok (.iastore, 1) := by decide +kernel
theorem dX0_forgetGuesses_15 : decode cX0_forgetGuesses 15 = .ok (.aload_n 0, 1) := by decide +kernel
theorem dX0_forgetGuesses_16 : decode cX0_forgetGuesses 16 = .ok (.getfield 18, 3) := by decide +kernel
theorem dX0_forgetGuesses_19 : decode cX0_forgetGuesses 19 = .ok (.iload_n 1, 1) := by decide +kernel
theorem dX0_forgetGuesses_20 : decode cX0_forgetGuesses 20 = .ok (.iconst 0, 1) := by decide +kernel
theorem dX0_forgetGuesses_21 : decode cX0_forgetGuesses 21 = .ok (.bastore, 1) := by decide +kernel
theorem dX0_forgetGuesses_22 : decode cX0_forgetGuesses 22 = .ok (.iinc 1 1, 3) := by decide +kernel
theorem dX0_forgetGuesses_25 : decode cX0_forgetGuesses 25 = .ok (.goto (-23), 3) := by decide +kernel
theorem dX0_forgetGuesses_28 : decode cX0_forgetGuesses 28 = .ok (.return_, 1) := by decide +kernel
theorem dX0_numberOf_0 : decode cX0_numberOf 0 = .ok (.aload_n 0, 1) := by decide +kernel
theorem dX0_numberOf_1 : decode cX0_numberOf 1 = .ok (.getfield 28, 3) := by decide +kernel
theorem dX0_numberOf_4 : decode cX0_numberOf 4 = .ok (.iload_n 1, 1) := by decide +kernel
theorem dX0_numberOf_5 : decode cX0_numberOf 5 = .ok (.bipush 97, 2) := by decide +kernel
theorem dX0_numberOf_7 : decode cX0_numberOf 7 = .ok (.isub, 1) := by decide +kernel
theorem dX0_numberOf_8 : decode cX0_numberOf 8 = .ok (.imul, 1) := by decide +kernel
theorem dX0_numberOf_9 : decode cX0_numberOf 9 = .ok (.aload_n 0, 1) := by decide +kernel
theorem dX0_numberOf_10 : decode cX0_numberOf 10 = .ok (.getfield 32, 3) := by decide +kernel
theorem dX0_numberOf_13 : decode cX0_numberOf 13 = .ok (.iadd, 1) := by decide +kernel
theorem dX0_numberOf_14 : decode cX0_numberOf 14 = .ok (.bipush 26, 2) := by decide +kernel
theorem dX0_numberOf_16 : decode cX0_numberOf 16 = .ok (.irem, 1) := by decide +kernel
theorem dX0_numberOf_17 : decode cX0_numberOf 17 = .ok (.iconst 1, 1) := by decide +kernel
theorem dX0_numberOf_18 : decode cX0_numberOf 18 = .ok (.iadd, 1) := by decide +kernel
theorem dX0_numberOf_19 : decode cX0_numberOf 19 = .ok (.ireturn, 1) := by decide +kernel
set_option maxRecDepth 20000 in
theorem ggX0_letterOf_X0_numberOf : GoodIn wsX0_letterOf wsX0_numberOf := goodIn_r _ [5, 6, 7, 8, 9, 10, 11, 12, 13, 14, 15, 16, 17, 18] (by decide +kernel) (by decide +kernel)
set_option maxRecDepth 20000 in
theorem gX0_letterOf_X0_numberOf : GoodIn wsX0_letterOf (wsV RX0 53 RX0 yX0_numberOf wsX0_numberOf) := goodIn_app (goodIn_of _ (by decide +kernel)) ggX0_letterOf_X0_numberOf
theorem dX0_letterOf_0 : decode cX0_letterOf 0 = .ok (.bipush 97, 2) := by decide +kernel
theorem dX0_letterOf_2 : decode cX0_letterOf 2 = .ok (.istore_n 2, 1) := by decide +kernel
theorem dX0_letterOf_3 : decode cX0_letterOf 3 = .ok (.iload_n 2, 1) := by decide +kernel
theorem dX0_letterOf_4 : decode cX0_letterOf 4 = .ok (.bipush 122, 2) := by decide +kernel
theorem dX0_letterOf_6 : decode cX0_letterOf 6 = .ok (.if_icmp .gt 20, 3) := by decide +kernel
theorem dX0_letterOf_9 : decode cX0_letterOf 9 = .ok (.aload_n 0, 1) := by decide +kernel
theorem dX0_letterOf_10 : decode cX0_letterOf 10 = .ok (.iload_n 2, 1) := by decide +kernel
theorem dX0_letterOf_11 : decode cX0_letterOf 11 = .ok (.invokevirtual 53, 3) := by decide +kernel
theorem dX0_letterOf_14 : decode cX0_letterOf 14 = .ok (.iload_n 1, 1) := by decide +kernel
theorem dX0_letterOf_15 : decode cX0_letterOf 15 = .ok (.if_icmp .ne 5, 3) := by decide +kernel
theorem dX0_letterOf_18 : decode cX0_letterOf 18 = .ok (.iload_n 2, 1) := by decide +kernel
theorem dX0_letterOf_19 : decode cX0_letterOf 19 = .ok (.ireturn, 1) := by decide +kernel
theorem dX0_letterOf_20 : decode cX0_letterOf 20 = .ok (.iinc 2 1, 3) := by decide +kernel
theorem dX0_letterOf_23 : decode cX0_letterOf 23 = .ok (.goto (-20), 3) := by decide +kernel
theorem dX0_letterOf_26 : decode cX0_letterOf 26 = .ok (.iconst 0, 1) := by decide +kernel
theorem dX0_letterOf_27 : decode cX0_letterOf 27 = .ok (.ireturn, 1) := by decide +kernel
set_option maxRecDepth 20000 in
theorem ggX0_numberAt_X0_numberOf : GoodIn wsX0_numberAt wsX0_numberOf := goodIn_r _ [6, 7, 8, 9, 10, 11, 12, 13, 14, 15, 16, 17, 18, 19] (by decide +kernel) (by decide +kernel)
set_option maxRecDepth 20000 in
theorem gX0_numberAt_X0_numberOf : GoodIn wsX0_numberAt (wsV RX0 53 RX0 yX0_numberOf wsX0_numberOf) := goodIn_app (goodIn_of _ (by decide +kernel)) ggX0_numberAt_X0_numberOf
theorem dX0_numberAt_0 : decode cX0_numberAt 0 = .ok (.aload_n 0, 1) := by decide +kernel
theorem dX0_numberAt_1 : decode cX0_numberAt 1 = .ok (.getfield 9, 3) := by decide +kernel
theorem dX0_numberAt_4 : decode cX0_numberAt 4 = .ok (.iload_n 1, 1) := by decide +kernel
theorem dX0_numberAt_5 : decode cX0_numberAt 5 = .ok (.iaload, 1) := by decide +kernel
theorem dX0_numberAt_6 : decode cX0_numberAt 6 = .ok (.ifCond .ne 7, 3) := by decide +kernel
theorem dX0_numberAt_9 : decode cX0_numberAt 9 = .ok (.iconst 0, 1) := by decide +kernel
theorem dX0_numberAt_10 : decode cX0_numberAt 10 = .ok (.goto 13, 3) := by decide +kernel
theorem dX0_numberAt_13 : decode cX0_numberAt 13 = .ok (.aload_n 0, 1) := by decide +kernel
theorem dX0_numberAt_14 : decode cX0_numberAt 14 = .ok (.aload_n 0, 1) := by decide +kernel
theorem dX0_numberAt_15 : decode cX0_numberAt 15 = .ok (.getfield 9, 3) := by decide +kernel
theorem dX0_numberAt_18 : decode cX0_numberAt 18 = .ok (.iload_n 1, 1) := by decide +kernel
theorem dX0_numberAt_19 : decode cX0_numberAt 19 = .ok (.iaload, 1) := by decide +kernel
theorem dX0_numberAt_20 : decode cX0_numberAt 20 = .ok (.invokevirtual 53, 3) := by decide +kernel
theorem dX0_numberAt_23 : decode cX0_numberAt 23 = .ok (.ireturn, 1) := by decide +kernel
set_option maxRecDepth 20000 in
theorem ggX0_guessAt_X0_numberAt : GoodIn wsX0_guessAt wsX0_numberAt := goodIn_r _ [6, 7, 8, 9, 10, 5, 11, 12, 13, 17, 18, 19, 20, 21, 22, 23, 24, 25, 26, 27] (by decide +kernel) (by decide +kernel)
set_option maxRecDepth 20000 in
theorem gX0_guessAt_X0_numberAt : GoodIn wsX0_guessAt (wsV RX0 57 RX0 yX0_numberAt wsX0_numberAt) := goodIn_app (goodIn_of _ (by decide +kernel)) ggX0_guessAt_X0_numberAt
set_option maxRecDepth 20000 in
theorem ggX0_guessAt_X3_isNumber : GoodIn wsX0_guessAt wsX3_isNumber := goodIn_r _ [16] (by decide +kernel) (by decide +kernel)
set_option maxRecDepth 20000 in
theorem gX0_guessAt_X3_isNumber_n60 : GoodIn wsX0_guessAt (wsX3_isNumber) := ggX0_guessAt_X3_isNumber
theorem dX0_guessAt_0 : decode cX0_guessAt 0 = .ok (.aload_n 0, 1) := by decide +kernel
theorem dX0_guessAt_1 : decode cX0_guessAt 1 = .ok (.iload_n 1, 1) := by decide +kernel
theorem dX0_guessAt_2 : decode cX0_guessAt 2 = .ok (.invokevirtual 57, 3) := by decide +kernel
theorem dX0_guessAt_5 : decode cX0_guessAt 5 = .ok (.istore_n 2, 1) := by decide +kernel
theorem dX0_guessAt_6 : decode cX0_guessAt 6 = .ok (.iload_n 2, 1) := by decide +kernel
theorem dX0_guessAt_7 : decode cX0_guessAt 7 = .ok (.invokestatic 60, 3) := by decide +kernel
theorem dX0_guessAt_10 : decode cX0_guessAt 10 = .ok (.ifCond .eq 12, 3) := by decide +kernel
theorem dX0_guessAt_13 : decode cX0_guessAt 13 = .ok (.aload_n 0, 1) := by decide +kernel
theorem dX0_guessAt_14 : decode cX0_guessAt 14 = .ok (.getfield 15, 3) := by decide +kernel
theorem dX0_guessAt_17 : decode cX0_guessAt 17 = .ok (.iload_n 2, 1) := by decide +kernel
theorem dX0_guessAt_18 : decode cX0_guessAt 18 = .ok (.iaload, 1) := by decide +kernel
theorem dX0_guessAt_19 : decode cX0_guessAt 19 = .ok (.goto 4, 3) := by decide +kernel
theorem dX0_guessAt_22 : decode cX0_guessAt 22 = .ok (.iconst 0, 1) := by decide +kernel
theorem dX0_guessAt_23 : decode cX0_guessAt 23 = .ok (.ireturn, 1) := by decide +kernel
theorem dX0_numberGuessedAs_0 : decode cX0_numberGuessedAs 0 = .ok (.iload_n 1, 1) := by decide +kernel
theorem dX0_numberGuessedAs_1 : decode cX0_numberGuessedAs 1 = .ok (.ifCond .ne 5, 3) := by decide +kernel
theorem dX0_numberGuessedAs_4 : decode cX0_numberGuessedAs 4 = .ok (.iconst 0, 1) := by decide +kernel
theorem dX0_numberGuessedAs_5 : decode cX0_numberGuessedAs 5 = .ok (.ireturn, 1) := by decide +kernel
theorem dX0_numberGuessedAs_6 : decode cX0_numberGuessedAs 6 = .ok (.iconst 1, 1) := by decide +kernel
theorem dX0_numberGuessedAs_7 : decode cX0_numberGuessedAs 7 = .ok (.istore_n 2, 1) := by decide +kernel
theorem dX0_numberGuessedAs_8 : decode cX0_numberGuessedAs 8 = .ok (.iload_n 2, 1) := by decide +kernel
theorem dX0_numberGuessedAs_9 : decode cX0_numberGuessedAs 9 = .ok (.bipush 26, 2) := by decide +kernel
theorem dX0_numberGuessedAs_11 : decode cX0_numberGuessedAs 11 = .ok (.if_icmp .gt 21, 3) := by decide +kernel
theorem dX0_numberGuessedAs_14 : decode cX0_numberGuessedAs 14 = .ok (.aload_n 0, 1) := by decide +kernel
theorem dX0_numberGuessedAs_15 : decode cX0_numberGuessedAs 15 = .ok (.getfield 15, 3) := by decide +kernel
theorem dX0_numberGuessedAs_18 : decode cX0_numberGuessedAs 18 = .ok (.iload_n 2, 1) := by decide +kernel
theorem dX0_numberGuessedAs_19 : decode cX0_numberGuessedAs 19 = .ok (.iaload, 1) := by decide +kernel
theorem dX0_numberGuessedAs_20 : decode cX0_numberGuessedAs 20 = .ok (.iload_n 1, 1) := by decide +kernel
theorem dX0_numberGuessedAs_21 : decode cX0_numberGuessedAs 21 = .ok (.if_icmp .ne 5, 3) := by decide +kernel
theorem dX0_numberGuessedAs_24 : decode cX0_numberGuessedAs 24 = .ok (.iload_n 2, 1) := by decide +kernel
theorem dX0_numberGuessedAs_25 : decode cX0_numberGuessedAs 25 = .ok (.ireturn, 1) := by decide +kernel
theorem dX0_numberGuessedAs_26 : decode cX0_numberGuessedAs 26 = .ok (.iinc 2 1, 3) := by decide +kernel
theorem dX0_numberGuessedAs_29 : decode cX0_numberGuessedAs 29 = .ok (.goto (-21), 3) := by decide +kernel
theorem dX0_numberGuessedAs_32 : decode cX0_numberGuessedAs 32 = .ok (.iconst 0, 1) := by decide +kernel
theorem dX0_numberGuessedAs_33 : decode cX0_numberGuessedAs 33 = .ok (.ireturn, 1) := by decide +kernel
set_option maxRecDepth 20000 in
theorem ggX0_cellsWith_X0_numberAt : GoodIn wsX0_cellsWith wsX0_numberAt := goodIn_r _ [5, 6, 7, 8, 9, 4, 10, 11, 12, 13, 14, 15, 16, 17, 18, 19, 20, 21, 22, 23] (by decide +kernel) (by decide +kernel)
set_option maxRecDepth 20000 in
theorem gX0_cellsWith_X0_numberAt : GoodIn wsX0_cellsWith (wsV RX0 57 RX0 yX0_numberAt wsX0_numberAt) := goodIn_app (goodIn_of _ (by decide +kernel)) ggX0_cellsWith_X0_numberAt
theorem dX0_cellsWith_0 : decode cX0_cellsWith 0 = .ok (.iconst 0, 1) := by decide +kernel
theorem dX0_cellsWith_1 : decode cX0_cellsWith 1 = .ok (.istore_n 2, 1) := by decide +kernel
theorem dX0_cellsWith_2 : decode cX0_cellsWith 2 = .ok (.iconst 0, 1) := by decide +kernel
theorem dX0_cellsWith_3 : decode cX0_cellsWith 3 = .ok (.istore_n 3, 1) := by decide +kernel
theorem dX0_cellsWith_4 : decode cX0_cellsWith 4 = .ok (.iload_n 3, 1) := by decide +kernel
theorem dX0_cellsWith_5 : decode cX0_cellsWith 5 = .ok (.bipush 49, 2) := by decide +kernel
theorem dX0_cellsWith_7 : decode cX0_cellsWith 7 = .ok (.if_icmp .ge 21, 3) := by decide +kernel
theorem dX0_cellsWith_10 : decode cX0_cellsWith 10 = .ok (.aload_n 0, 1) := by decide +kernel
theorem dX0_cellsWith_11 : decode cX0_cellsWith 11 = .ok (.iload_n 3, 1) := by decide +kernel
theorem dX0_cellsWith_12 : decode cX0_cellsWith 12 = .ok (.invokevirtual 57, 3) := by decide +kernel
theorem dX0_cellsWith_15 : decode cX0_cellsWith 15 = .ok (.iload_n 1, 1) := by decide +kernel
theorem dX0_cellsWith_16 : decode cX0_cellsWith 16 = .ok (.if_icmp .ne 6, 3) := by decide +kernel
theorem dX0_cellsWith_19 : decode cX0_cellsWith 19 = .ok (.iinc 2 1, 3) := by decide +kernel
theorem dX0_cellsWith_22 : decode cX0_cellsWith 22 = .ok (.iinc 3 1, 3) := by decide +kernel
theorem dX0_cellsWith_25 : decode cX0_cellsWith 25 = .ok (.goto (-21), 3) := by decide +kernel
theorem dX0_cellsWith_28 : decode cX0_cellsWith 28 = .ok (.iload_n 2, 1) := by decide +kernel
theorem dX0_cellsWith_29 : decode cX0_cellsWith 29 = .ok (.ireturn, 1) := by decide +kernel
set_option maxRecDepth 20000 in
theorem ggX0_priceOf_X0_cellsWith : GoodIn wsX0_priceOf wsX0_cellsWith := goodIn_r _ [9, 10, 11, 12, 8, 13, 14, 15, 16, 17, 18, 19, 20, 21, 22, 23, 24, 25, 26, 27, 28, 29, 30, 31] (by decide +kernel) (by decide +kernel)
set_option maxRecDepth 20000 in
theorem gX0_priceOf_X0_cellsWith : GoodIn wsX0_priceOf (wsV RX0 64 RX0 yX0_cellsWith wsX0_cellsWith) := goodIn_app (goodIn_of _ (by decide +kernel)) ggX0_priceOf_X0_cellsWith
theorem dX0_priceOf_0 : decode cX0_priceOf 0 = .ok (.bipush 9, 2) := by decide +kernel
theorem dX0_priceOf_2 : decode cX0_priceOf 2 = .ok (.iconst 1, 1) := by decide +kernel
theorem dX0_priceOf_3 : decode cX0_priceOf 3 = .ok (.aload_n 0, 1) := by decide +kernel
theorem dX0_priceOf_4 : decode cX0_priceOf 4 = .ok (.iload_n 1, 1) := by decide +kernel
theorem dX0_priceOf_5 : decode cX0_priceOf 5 = .ok (.invokevirtual 64, 3) := by decide +kernel
theorem dX0_priceOf_8 : decode cX0_priceOf 8 = .ok (.iadd, 1) := by decide +kernel
theorem dX0_priceOf_9 : decode cX0_priceOf 9 = .ok (.invokestatic 67, 3) := by decide +kernel
theorem dX0_priceOf_12 : decode cX0_priceOf 12 = .ok (.ireturn, 1) := by decide +kernel
set_option maxRecDepth 20000 in
theorem ggX0_cellsWithLetters_X0_cellsWith : GoodIn wsX0_cellsWithLetters wsX0_cellsWith := goodIn_r _ [5, 6, 7, 8, 4, 9, 10, 11, 12, 13, 14, 15, 16, 17, 18, 19, 20, 21, 22, 23, 24, 25, 26, 27] (by decide +kernel) (by decide +kernel)
set_option maxRecDepth 20000 in
theorem gX0_cellsWithLetters_X0_cellsWith : GoodIn wsX0_cellsWithLetters (wsV RX0 64 RX0 yX0_cellsWith wsX0_cellsWith) := goodIn_app (goodIn_of _ (by decide +kernel)) ggX0_cellsWithLetters_X0_cellsWith
theorem dX0_cellsWithLetters_0 : decode cX0_cellsWithLetters 0 = .ok (.bipush 49, 2) := by decide +kernel
theorem dX0_cellsWithLetters_2 : decode cX0_cellsWithLetters 2 = .ok (.aload_n 0, 1) := by decide +kernel
theorem dX0_cellsWithLetters_3 : decode cX0_cellsWithLetters 3 = .ok (.iconst 0, 1) := by decide +kernel
theorem dX0_cellsWithLetters_4 : decode cX0_cellsWithLetters 4 = .ok (.invokevirtual 64, 3) := by decide +kernel
theorem dX0_cellsWithLetters_7 : decode cX0_cellsWithLetters 7 = .ok (.isub, 1) := by decide +kernel
theorem dX0_cellsWithLetters_8 : decode cX0_cellsWithLetters 8 = .ok (.ireturn, 1) := by decide +kernel
set_option maxRecDepth 20000 in
theorem ggX0_guessedCells_X0_guessAt : GoodIn wsX0_guessedCells wsX0_guessAt := goodIn_r _ [5, 6, 7, 8, 9, 4, 10, 11, 12, 13, 14, 15, 16, 17, 18, 19, 20, 21, 22, 23, 24, 25, 26, 27, 28, 29, 30, 31] (by decide +kernel) (by decide +kernel)
set_option maxRecDepth 20000 in
theorem gX0_guessedCells_X0_guessAt : GoodIn wsX0_guessedCells (wsV RX0 73 RX0 yX0_guessAt wsX0_guessAt) := goodIn_app (goodIn_of _ (by decide +kernel)) ggX0_guessedCells_X0_guessAt
theorem dX0_guessedCells_0 : decode cX0_guessedCells 0 = .ok (.iconst 0, 1) := by decide +kernel
theorem dX0_guessedCells_1 : decode cX0_guessedCells 1 = .ok (.istore_n 1, 1) := by decide +kernel
theorem dX0_guessedCells_2 : decode cX0_guessedCells 2 = .ok (.iconst 0, 1) := by decide +kernel
theorem dX0_guessedCells_3 : decode cX0_guessedCells 3 = .ok (.istore_n 2, 1) := by decide +kernel
theorem dX0_guessedCells_4 : decode cX0_guessedCells 4 = .ok (.iload_n 2, 1) := by decide +kernel
theorem dX0_guessedCells_5 : decode cX0_guessedCells 5 = .ok (.bipush 49, 2) := by decide +kernel
theorem dX0_guessedCells_7 : decode cX0_guessedCells 7 = .ok (.if_icmp .ge 20, 3) := by decide +kernel
theorem dX0_guessedCells_10 : decode cX0_guessedCells 10 = .ok (.aload_n 0, 1) := by decide +kernel
theorem dX0_guessedCells_11 : decode cX0_guessedCells 11 = .ok (.iload_n 2, 1) := by decide +kernel
theorem dX0_guessedCells_12 : decode cX0_guessedCells 12 = .ok (.invokevirtual 73, 3) := by decide +kernel
theorem dX0_guessedCells_15 : decode cX0_guessedCells 15 = .ok (.ifCond .eq 6, 3) := by decide +kernel
theorem dX0_guessedCells_18 : decode cX0_guessedCells 18 = .ok (.iinc 1 1, 3) := by decide +kernel
theorem dX0_guessedCells_21 : decode cX0_guessedCells 21 = .ok (.iinc 2 1, 3) := by decide +kernel
theorem dX0_guessedCells_24 : decode cX0_guessedCells 24 = .ok (.goto (-20), 3) := by decide +kernel
theorem dX0_guessedCells_27 : decode cX0_guessedCells 27 = .ok (.iload_n 1, 1) := by decide +kernel
theorem dX0_guessedCells_28 : decode cX0_guessedCells 28 = .ok (.ireturn, 1) := by decide +kernel
set_option maxRecDepth 20000 in
theorem ggX0_numbersInGrid_X0_cellsWith : GoodIn wsX0_numbersInGrid wsX0_cellsWith := goodIn_r _ [5, 6, 7, 8, 4, 9, 10, 11, 12, 13, 14, 15, 16, 17, 18, 19, 20, 21, 22, 23, 24, 25, 26, 27] (by decide +kernel) (by decide +kernel)
set_option maxRecDepth 20000 in
theorem gX0_numbersInGrid_X0_cellsWith : GoodIn wsX0_numbersInGrid (wsV RX0 64 RX0 yX0_cellsWith wsX0_cellsWith) := goodIn_app (goodIn_of _ (by decide +kernel)) ggX0_numbersInGrid_X0_cellsWith
theorem dX0_numbersInGrid_0 : decode cX0_numbersInGrid 0 = .ok (.iconst 0, 1) := by decide +kernel
theorem dX0_numbersInGrid_1 : decode cX0_numbersInGrid 1 = .ok (.istore_n 1, 1) := by decide +kernel
theorem dX0_numbersInGrid_2 : decode cX0_numbersInGrid 2 = .ok (.iconst 1, 1) := by decide +kernel
theorem dX0_numbersInGrid_3 : decode cX0_numbersInGrid 3 = .ok (.istore_n 2, 1) := by decide +kernel
theorem dX0_numbersInGrid_4 : decode cX0_numbersInGrid 4 = .ok (.iload_n 2, 1) := by decide +kernel
theorem dX0_numbersInGrid_5 : decode cX0_numbersInGrid 5 = .ok (.bipush 26, 2) := by decide +kernel
theorem dX0_numbersInGrid_7 : decode cX0_numbersInGrid 7 = .ok (.if_icmp .gt 20, 3) := by decide +kernel
theorem dX0_numbersInGrid_10 : decode cX0_numbersInGrid 10 = .ok (.aload_n 0, 1) := by decide +kernel
theorem dX0_numbersInGrid_11 : decode cX0_numbersInGrid 11 = .ok (.iload_n 2, 1) := by decide +kernel
theorem dX0_numbersInGrid_12 : decode cX0_numbersInGrid 12 = .ok (.invokevirtual 64, 3) := by decide +kernel
theorem dX0_numbersInGrid_15 : decode cX0_numbersInGrid 15 = .ok (.ifCond .le 6, 3) := by decide +kernel
theorem dX0_numbersInGrid_18 : decode cX0_numbersInGrid 18 = .ok (.iinc 1 1, 3) := by decide +kernel
theorem dX0_numbersInGrid_21 : decode cX0_numbersInGrid 21 = .ok (.iinc 2 1, 3) := by decide +kernel
theorem dX0_numbersInGrid_24 : decode cX0_numbersInGrid 24 = .ok (.goto (-20), 3) := by decide +kernel
theorem dX0_numbersInGrid_27 : decode cX0_numbersInGrid 27 = .ok (.iload_n 1, 1) := by decide +kernel
theorem dX0_numbersInGrid_28 : decode cX0_numbersInGrid 28 = .ok (.ireturn, 1) := by decide +kernel
set_option maxRecDepth 20000 in
theorem ggX0_guessedNumbersInGrid_X0_cellsWith : GoodIn wsX0_guessedNumbersInGrid wsX0_cellsWith := goodIn_r _ [6, 7, 8, 9, 5, 10, 11, 12, 13, 14, 15, 16, 17, 18, 19, 20, 21, 22, 23, 24, 25, 26, 27, 28] (by decide +kernel) (by decide +kernel)
set_option maxRecDepth 20000 in
theorem gX0_guessedNumbersInGrid_X0_cellsWith : GoodIn wsX0_guessedNumbersInGrid (wsV RX0 64 RX0 yX0_cellsWith wsX0_cellsWith) := goodIn_app (goodIn_of _ (by decide +kernel)) ggX0_guessedNumbersInGrid_X0_cellsWith
theorem dX0_guessedNumbersInGrid_0 : decode cX0_guessedNumbersInGrid 0 = .ok (.iconst 0, 1) := by decide +kernel
theorem dX0_guessedNumbersInGrid_1 : decode cX0_guessedNumbersInGrid 1 = .ok (.istore_n 1, 1) := by decide +kernel
theorem dX0_guessedNumbersInGrid_2 : decode cX0_guessedNumbersInGrid 2 = .ok (.iconst 1, 1) := by decide +kernel
theorem dX0_guessedNumbersInGrid_3 : decode cX0_guessedNumbersInGrid 3 = .ok (.istore_n 2, 1) := by decide +kernel
theorem dX0_guessedNumbersInGrid_4 : decode cX0_guessedNumbersInGrid 4 = .ok (.iload_n 2, 1) := by decide +kernel
theorem dX0_guessedNumbersInGrid_5 : decode cX0_guessedNumbersInGrid 5 = .ok (.bipush 26, 2) := by decide +kernel
theorem dX0_guessedNumbersInGrid_7 : decode cX0_guessedNumbersInGrid 7 = .ok (.if_icmp .gt 29, 3) := by decide +kernel
theorem dX0_guessedNumbersInGrid_10 : decode cX0_guessedNumbersInGrid 10 = .ok (.aload_n 0, 1) := by decide +kernel
theorem dX0_guessedNumbersInGrid_11 : decode cX0_guessedNumbersInGrid 11 = .ok (.getfield 15, 3) := by decide +kernel
theorem dX0_guessedNumbersInGrid_14 : decode cX0_guessedNumbersInGrid 14 = .ok (.iload_n 2, 1) := by decide +kernel
theorem dX0_guessedNumbersInGrid_15 : decode cX0_guessedNumbersInGrid 15 = .ok (.iaload, 1) := by decide +kernel
theorem dX0_guessedNumbersInGrid_16 : decode cX0_guessedNumbersInGrid 16 = .ok (.ifCond .eq 14, 3) := by decide +kernel
theorem dX0_guessedNumbersInGrid_19 : decode cX0_guessedNumbersInGrid 19 = .ok (.aload_n 0, 1) := by decide +kernel
theorem dX0_guessedNumbersInGrid_20 : decode cX0_guessedNumbersInGrid 20 = .ok (.iload_n 2, 1) := by decide +kernel
theorem dX0_guessedNumbersInGrid_21 : decode cX0_guessedNumbersInGrid 21 = .ok (.invokevirtual 64, 3) := by decide +kernel
theorem dX0_guessedNumbersInGrid_24 : decode cX0_guessedNumbersInGrid 24 = .ok (.ifCond .le 6, 3) := by decide +kernel
theorem dX0_guessedNumbersInGrid_27 : decode cX0_guessedNumbersInGrid 27 = .ok (.iinc 1 1, 3) := by decide +kernel
theorem dX0_guessedNumbersInGrid_30 : decode cX0_guessedNumbersInGrid 30 = .ok (.iinc 2 1, 3) := by decide +kernel
theorem dX0_guessedNumbersInGrid_33 : decode cX0_guessedNumbersInGrid 33 = .ok (.goto (-29), 3) := by decide +kernel
theorem dX0_guessedNumbersInGrid_36 : decode cX0_guessedNumbersInGrid 36 = .ok (.iload_n 1, 1) := by decide +kernel
theorem dX0_guessedNumbersInGrid_37 : decode cX0_guessedNumbersInGrid 37 = .ok (.ireturn, 1) := by decide +kernel
set_option maxRecDepth 20000 in
theorem ggX0_isSolved_X0_guessAt : GoodIn wsX0_isSolved wsX0_guessAt := goodIn_r _ [6, 7, 8, 9, 10, 5, 11, 1, 12, 13, 14, 15, 16, 17, 18, 19, 20, 29, 30, 31, 32, 33, 34, 35, 36, 37, 38, 39] (by decide +kernel) (by decide +kernel)
set_option maxRecDepth 20000 in
theorem gX0_isSolved_X0_guessAt : GoodIn wsX0_isSolved (wsV RX0 73 RX0 yX0_guessAt wsX0_guessAt) := goodIn_app (goodIn_of _ (by decide +kernel)) ggX0_isSolved_X0_guessAt
set_option maxRecDepth 20000 in
theorem ggX0_isSolved_X0_cellsWithLetters : GoodIn wsX0_isSolved wsX0_cellsWithLetters := goodIn_r _ [24, 25, 26, 27, 5, 28, 8, 9, 10, 11, 1, 12, 13, 14, 15, 16, 17, 29, 30, 31, 32, 33, 34, 35, 36, 37, 38, 39] (by decide +kernel) (by decide +kernel)
set_option maxRecDepth 20000 in
theorem gX0_isSolved_X0_cellsWithLetters : GoodIn wsX0_isSolved (wsV RX0 76 RX0 yX0_cellsWithLetters wsX0_cellsWithLetters) := goodIn_app (goodIn_of _ (by decide +kernel)) ggX0_isSolved_X0_cellsWithLetters
theorem dX0_isSolved_0 : decode cX0_isSolved 0 = .ok (.iconst 0, 1) := by decide +kernel
theorem dX0_isSolved_1 : decode cX0_isSolved 1 = .ok (.istore_n 1, 1) := by decide +kernel
theorem dX0_isSolved_2 : decode cX0_isSolved 2 = .ok (.iload_n 1, 1) := by decide +kernel
theorem dX0_isSolved_3 : decode cX0_isSolved 3 = .ok (.bipush 49, 2) := by decide +kernel
theorem dX0_isSolved_5 : decode cX0_isSolved 5 = .ok (.if_icmp .ge 25, 3) := by decide +kernel
theorem dX0_isSolved_8 : decode cX0_isSolved 8 = .ok (.aload_n 0, 1) := by decide +kernel
theorem dX0_isSolved_9 : decode cX0_isSolved 9 = .ok (.iload_n 1, 1) := by decide +kernel
theorem dX0_isSolved_10 : decode cX0_isSolved 10 = .ok (.invokevirtual 73, 3) := by decide +kernel
theorem dX0_isSolved_13 : decode cX0_isSolved 13 = .ok (.aload_n 0, 1) := by decide +kernel
theorem dX0_isSolved_14 : decode cX0_isSolved 14 = .ok (.getfield 9, 3) := by decide +kernel
theorem dX0_isSolved_17 : decode cX0_isSolved 17 = .ok (.iload_n 1, 1) := by decide +kernel
theorem dX0_isSolved_18 : decode cX0_isSolved 18 = .ok (.iaload, 1) := by decide +kernel
theorem dX0_isSolved_19 : decode cX0_isSolved 19 = .ok (.if_icmp .eq 5, 3) := by decide +kernel
theorem dX0_isSolved_22 : decode cX0_isSolved 22 = .ok (.iconst 0, 1) := by decide +kernel
theorem dX0_isSolved_23 : decode cX0_isSolved 23 = .ok (.ireturn, 1) := by decide +kernel
theorem dX0_isSolved_24 : decode cX0_isSolved 24 = .ok (.iinc 1 1, 3) := by decide +kernel
theorem dX0_isSolved_27 : decode cX0_isSolved 27 = .ok (.goto (-25), 3) := by decide +kernel
theorem dX0_isSolved_30 : decode cX0_isSolved 30 = .ok (.aload_n 0, 1) := by decide +kernel
theorem dX0_isSolved_31 : decode cX0_isSolved 31 = .ok (.invokevirtual 76, 3) := by decide +kernel
theorem dX0_isSolved_34 : decode cX0_isSolved 34 = .ok (.ifCond .le 7, 3) := by decide +kernel
theorem dX0_isSolved_37 : decode cX0_isSolved 37 = .ok (.iconst 1, 1) := by decide +kernel
theorem dX0_isSolved_38 : decode cX0_isSolved 38 = .ok (.goto 4, 3) := by decide +kernel
theorem dX0_isSolved_41 : decode cX0_isSolved 41 = .ok (.iconst 0, 1) := by decide +kernel
theorem dX0_isSolved_42 : decode cX0_isSolved 42 = .ok (.ireturn, 1) := by decide +kernel
theorem dX0_listedLetter_0 : decode cX0_listedLetter 0 = .ok (.aload_n 0, 1) := by decide +kernel
theorem dX0_listedLetter_1 : decode cX0_listedLetter 1 = .ok (.getfield 22, 3) := by decide +kernel
theorem dX0_listedLetter_4 : decode cX0_listedLetter 4 = .ok (.iload_n 1, 1) := by decide +kernel
theorem dX0_listedLetter_5 : decode cX0_listedLetter 5 = .ok (.bipush 7, 2) := by decide +kernel
theorem dX0_listedLetter_7 : decode cX0_listedLetter 7 = .ok (.imul, 1) := by decide +kernel
theorem dX0_listedLetter_8 : decode cX0_listedLetter 8 = .ok (.iload_n 2, 1) := by decide +kernel
theorem dX0_listedLetter_9 : decode cX0_listedLetter 9 = .ok (.iadd, 1) := by decide +kernel
theorem dX0_listedLetter_10 : decode cX0_listedLetter 10 = .ok (.iaload, 1) := by decide +kernel
theorem dX0_listedLetter_11 : decode cX0_listedLetter 11 = .ok (.ireturn, 1) := by decide +kernel
theorem dX0_removeListed_0 : decode cX0_removeListed 0 = .ok (.aload_n 0, 1) := by decide +kernel
theorem dX0_removeListed_1 : decode cX0_removeListed 1 = .ok (.dup, 1) := by decide +kernel
theorem dX0_removeListed_2 : decode cX0_removeListed 2 = .ok (.getfield 44, 3) := by decide +kernel
theorem dX0_removeListed_5 : decode cX0_removeListed 5 = .ok (.iconst 1, 1) := by decide +kernel
theorem dX0_removeListed_6 : decode cX0_removeListed 6 = .ok (.isub, 1) := by decide +kernel
theorem dX0_removeListed_7 : decode cX0_removeListed 7 = .ok (.putfield 44, 3) := by decide +kernel
theorem dX0_removeListed_10 : decode cX0_removeListed 10 = .ok (.iload_n 1, 1) := by decide +kernel
theorem dX0_removeListed_11 : decode cX0_removeListed 11 = .ok (.istore_n 2, 1) := by decide +kernel
theorem dX0_removeListed_12 : decode cX0_removeListed 12 = .ok (.iload_n 2, 1) := by decide +kernel
theorem dX0_removeListed_13 : decode cX0_removeListed 13 = .ok (.aload_n 0, 1) := by decide +kernel
theorem dX0_removeListed_14 : decode cX0_removeListed 14 = .ok (.getfield 44, 3) := by decide +kernel
theorem dX0_removeListed_17 : decode cX0_removeListed 17 = .ok (.if_icmp .ge 46, 3) := by decide +kernel
theorem dX0_removeListed_20 : decode cX0_removeListed 20 = .ok (.aload_n 0, 1) := by decide +kernel
theorem dX0_removeListed_21 : decode cX0_removeListed 21 = .ok (.getfield 22, 3) := by decide +kernel
theorem dX0_removeListed_24 : decode cX0_removeListed 24 = .ok (.iload_n 2, 1) := by decide +kernel
theorem dX0_removeListed_25 : decode cX0_removeListed 25 = .ok (.iconst 1, 1) := by decide +kernel
theorem dX0_removeListed_26 : decode cX0_removeListed 26 = .ok (.iadd, 1) := by decide +kernel
theorem dX0_removeListed_27 : decode cX0_removeListed 27 = .ok (.bipush 7, 2) := by decide +kernel
theorem dX0_removeListed_29 : decode cX0_removeListed 29 = .ok (.imul, 1) := by decide +kernel
theorem dX0_removeListed_30 : decode cX0_removeListed 30 = .ok (.aload_n 0, 1) := by decide +kernel
theorem dX0_removeListed_31 : decode cX0_removeListed 31 = .ok (.getfield 22, 3) := by decide +kernel
theorem dX0_removeListed_34 : decode cX0_removeListed 34 = .ok (.iload_n 2, 1) := by decide +kernel
theorem dX0_removeListed_35 : decode cX0_removeListed 35 = .ok (.bipush 7, 2) := by decide +kernel
theorem dX0_removeListed_37 : decode cX0_removeListed 37 = .ok (.imul, 1) := by decide +kernel
theorem dX0_removeListed_38 : decode cX0_removeListed 38 = .ok (.bipush 7, 2) := by decide +kernel
theorem dX0_removeListed_40 : decode cX0_removeListed 40 = .ok (.invokestatic 38, 3) := by decide +kernel
theorem dX0_removeListed_43 : decode cX0_removeListed 43 = .ok (.aload_n 0, 1) := by decide +kernel
theorem dX0_removeListed_44 : decode cX0_removeListed 44 = .ok (.getfield 25, 3) := by decide +kernel
theorem dX0_removeListed_47 : decode cX0_removeListed 47 = .ok (.iload_n 2, 1) := by decide +kernel
theorem dX0_removeListed_48 : decode cX0_removeListed 48 = .ok (.aload_n 0, 1) := by decide +kernel
theorem dX0_removeListed_49 : decode cX0_removeListed 49 = .ok (.getfield 25, 3) := by decide +kernel
theorem dX0_removeListed_52 : decode cX0_removeListed 52 = .ok (.iload_n 2, 1) := by decide +kernel
theorem dX0_removeListed_53 : decode cX0_removeListed 53 = .ok (.iconst 1, 1) := by decide +kernel
theorem dX0_removeListed_54 : decode cX0_removeListed 54 = .ok (.iadd, 1) := by decide +kernel
theorem dX0_removeListed_55 : decode cX0_removeListed 55 = .ok (.iaload, 1) := by decide +kernel
theorem dX0_removeListed_56 : decode cX0_removeListed 56 = .ok (.iastore, 1) := by decide +kernel
theorem dX0_removeListed_57 : decode cX0_removeListed 57 = .ok (.iinc 2 1, 3) := by decide +kernel
theorem dX0_removeListed_60 : decode cX0_removeListed 60 = .ok (.goto (-48), 3) := by decide +kernel
theorem dX0_removeListed_63 : decode cX0_removeListed 63 = .ok (.return_, 1) := by decide +kernel
theorem dX1_init_0 : decode cX1_init 0 = .ok (.aload_n 0, 1) := by decide +kernel
theorem dX1_init_1 : decode cX1_init 1 = .ok (.invokespecial 3, 3) := by decide +kernel
theorem dX1_init_4 : decode cX1_init 4 = .ok (.aload_n 0, 1) := by decide +kernel
theorem dX1_init_5 : decode cX1_init 5 = .ok (.bipush 60, 2) := by decide +kernel
theorem dX1_init_7 : decode cX1_init 7 = .ok (.newarray .int, 2) := by decide +kernel
theorem dX1_init_9 : decode cX1_init 9 = .ok (.putfield 9, 3) := by decide +kernel
theorem dX1_init_12 : decode cX1_init 12 = .ok (.return_, 1) := by decide +kernel
theorem dX1_append_0 : decode cX1_append 0 = .ok (.aload_n 0, 1) := by decide +kernel
theorem dX1_append_1 : decode cX1_append 1 = .ok (.getfield 9, 3) := by decide +kernel
theorem dX1_append_4 : decode cX1_append 4 = .ok (.aload_n 0, 1) := by decide +kernel
theorem dX1_append_5 : decode cX1_append 5 = .ok (.getfield 15, 3) := by decide +kernel
theorem dX1_append_8 : decode cX1_append 8 = .ok (.iload_n 1, 1) := by decide +kernel
theorem dX1_append_9 : decode cX1_append 9 = .ok (.iastore, 1) := by decide +kernel
theorem dX1_append_10 : decode cX1_append 10 = .ok (.aload_n 0, 1) := by decide +kernel
theorem dX1_append_11 : decode cX1_append 11 = .ok (.dup, 1) := by decide +kernel
theorem dX1_append_12 : decode cX1_append 12 = .ok (.getfield 15, 3) := by decide +kernel
theorem dX1_append_15 : decode cX1_append 15 = .ok (.iconst 1, 1) := by decide +kernel
theorem dX1_append_16 : decode cX1_append 16 = .ok (.iadd, 1) := by decide +kernel
theorem dX1_append_17 : decode cX1_append 17 = .ok (.putfield 15, 3) := by decide +kernel
theorem dX1_append_20 : decode cX1_append 20 = .ok (.return_, 1) := by decide +kernel
set_option maxRecDepth 20000 in
theorem ggX1_faultAsRow_X3_isLetter : GoodIn wsX1_faultAsRow wsX3_isLetter := goodIn_r _ [5] (by decide +kernel) (by decide +kernel)
set_option maxRecDepth 20000 in
theorem gX1_faultAsRow_X3_isLetter_n19 : GoodIn wsX1_faultAsRow (wsX3_isLetter) := ggX1_faultAsRow_X3_isLetter
theorem dX1_faultAsRow_0 : decode cX1_faultAsRow 0 = .ok (.iconst 0, 1) := by decide +kernel
theorem dX1_faultAsRow_1 : decode cX1_faultAsRow 1 = .ok (.istore_n 1, 1) := by decide +kernel
theorem dX1_faultAsRow_2 : decode cX1_faultAsRow 2 = .ok (.iload_n 1, 1) := by decide +kernel
theorem dX1_faultAsRow_3 : decode cX1_faultAsRow 3 = .ok (.aload_n 0, 1) := by decide +kernel
theorem dX1_faultAsRow_4 : decode cX1_faultAsRow 4 = .ok (.getfield 15, 3) := by decide +kernel
theorem dX1_faultAsRow_7 : decode cX1_faultAsRow 7 = .ok (.if_icmp .ge 40, 3) := by decide +kernel
theorem dX1_faultAsRow_10 : decode cX1_faultAsRow 10 = .ok (.iload_n 1, 1) := by decide +kernel
theorem dX1_faultAsRow_11 : decode cX1_faultAsRow 11 = .ok (.bipush 7, 2) := by decide +kernel
theorem dX1_faultAsRow_13 : decode cX1_faultAsRow 13 = .ok (.if_icmp .ge 26, 3) := by decide +kernel
theorem dX1_faultAsRow_16 : decode cX1_faultAsRow 16 = .ok (.aload_n 0, 1) := by decide +kernel
theorem dX1_faultAsRow_17 : decode cX1_faultAsRow 17 = .ok (.getfield 9, 3) := by decide +kernel
theorem dX1_faultAsRow_20 : decode cX1_faultAsRow 20 = .ok (.iload_n 1, 1) := by decide +kernel
theorem dX1_faultAsRow_21 : decode cX1_faultAsRow 21 = .ok (.iaload, 1) := by decide +kernel
theorem dX1_faultAsRow_22 : decode cX1_faultAsRow 22 = .ok (.invokestatic 19, 3) := by decide +kernel
theorem dX1_faultAsRow_25 : decode cX1_faultAsRow 25 = .ok (.ifCond .ne 16, 3) := by decide +kernel
theorem dX1_faultAsRow_28 : decode cX1_faultAsRow 28 = .ok (.aload_n 0, 1) := by decide +kernel
theorem dX1_faultAsRow_29 : decode cX1_faultAsRow 29 = .ok (.getfield 9, 3) := by decide +kernel
theorem dX1_faultAsRow_32 : decode cX1_faultAsRow 32 = .ok (.iload_n 1, 1) := by decide +kernel
theorem dX1_faultAsRow_33 : decode cX1_faultAsRow 33 = .ok (.iaload, 1) := by decide +kernel
theorem dX1_faultAsRow_34 : decode cX1_faultAsRow 34 = .ok (.bipush 46, 2) := by decide +kernel
theorem dX1_faultAsRow_36 : decode cX1_faultAsRow 36 = .ok (.if_icmp .eq 5, 3) := by decide +kernel
theorem dX1_faultAsRow_39 : decode cX1_faultAsRow 39 = .ok (.iload_n 1, 1) := by decide +kernel
theorem dX1_faultAsRow_40 : decode cX1_faultAsRow 40 = .ok (.ireturn, 1) := by decide +kernel
theorem dX1_faultAsRow_41 : decode cX1_faultAsRow 41 = .ok (.iinc 1 1, 3) := by decide +kernel
theorem dX1_faultAsRow_44 : decode cX1_faultAsRow 44 = .ok (.goto (-42), 3) := by decide +kernel
theorem dX1_faultAsRow_47 : decode cX1_faultAsRow 47 = .ok (.aload_n 0, 1) := by decide +kernel
theorem dX1_faultAsRow_48 : decode cX1_faultAsRow 48 = .ok (.getfield 15, 3) := by decide +kernel
theorem dX1_faultAsRow_51 : decode cX1_faultAsRow 51 = .ok (.ifCond .ne 7, 3) := by decide +kernel
theorem dX1_faultAsRow_54 : decode cX1_faultAsRow 54 = .ok (.iconst 0, 1) := by decide +kernel
theorem dX1_faultAsRow_55 : decode cX1_faultAsRow 55 = .ok (.goto 4, 3) := by decide +kernel
theorem dX1_faultAsRow_58 : decode cX1_faultAsRow 58 = .ok (.iconst (-1), 1) := by decide +kernel
theorem dX1_faultAsRow_59 : decode cX1_faultAsRow 59 = .ok (.ireturn, 1) := by decide +kernel
set_option maxRecDepth 20000 in
theorem ggX1_faultAsWords_X3_isLetter : GoodIn wsX1_faultAsWords wsX3_isLetter := goodIn_r _ [5] (by decide +kernel) (by decide +kernel)
set_option maxRecDepth 20000 in
theorem gX1_faultAsWords_X3_isLetter_n19 : GoodIn wsX1_faultAsWords (wsX3_isLetter) := ggX1_faultAsWords_X3_isLetter
theorem dX1_faultAsWords_0 : decode cX1_faultAsWords 0 = .ok (.iconst 0, 1) := by decide +kernel
theorem dX1_faultAsWords_1 : decode cX1_faultAsWords 1 = .ok (.istore_n 1, 1) := by decide +kernel
theorem dX1_faultAsWords_2 : decode cX1_faultAsWords 2 = .ok (.iconst 0, 1) := by decide +kernel
theorem dX1_faultAsWords_3 : decode cX1_faultAsWords 3 = .ok (.istore_n 2, 1) := by decide +kernel
theorem dX1_faultAsWords_4 : decode cX1_faultAsWords 4 = .ok (.iload_n 2, 1) := by decide +kernel
theorem dX1_faultAsWords_5 : decode cX1_faultAsWords 5 = .ok (.aload_n 0, 1) := by decide +kernel
theorem dX1_faultAsWords_6 : decode cX1_faultAsWords 6 = .ok (.getfield 15, 3) := by decide +kernel
theorem dX1_faultAsWords_9 : decode cX1_faultAsWords 9 = .ok (.if_icmp .ge 56, 3) := by decide +kernel
theorem dX1_faultAsWords_12 : decode cX1_faultAsWords 12 = .ok (.aload_n 0, 1) := by decide +kernel
theorem dX1_faultAsWords_13 : decode cX1_faultAsWords 13 = .ok (.getfield 9, 3) := by decide +kernel
theorem dX1_faultAsWords_16 : decode cX1_faultAsWords 16 = .ok (.iload_n 2, 1) := by decide +kernel
theorem dX1_faultAsWords_17 : decode cX1_faultAsWords 17 = .ok (.iaload, 1) := by decide +kernel
theorem dX1_faultAsWords_18 : decode cX1_faultAsWords 18 = .ok (.invokestatic 19, 3) := by decide +kernel
theorem dX1_faultAsWords_21 : decode cX1_faultAsWords 21 = .ok (.ifCond .eq 15, 3) := by decide +kernel
theorem dX1_faultAsWords_24 : decode cX1_faultAsWords 24 = .ok (.iload_n 1, 1) := by decide +kernel
theorem dX1_faultAsWords_25 : decode cX1_faultAsWords 25 = .ok (.bipush 7, 2) := by decide +kernel
theorem dX1_faultAsWords_27 : decode cX1_faultAsWords 27 = .ok (.if_icmp .ge 9, 3) := by decide +kernel
theorem dX1_faultAsWords_30 : decode cX1_faultAsWords 30 = .ok (.iinc 1 1, 3) := by decide +kernel
theorem dX1_faultAsWords_33 : decode cX1_faultAsWords 33 = .ok (.goto 26, 3) := by decide +kernel
theorem dX1_faultAsWords_36 : decode cX1_faultAsWords 36 = .ok (.aload_n 0, 1) := by decide +kernel
theorem dX1_faultAsWords_37 : decode cX1_faultAsWords 37 = .ok (.getfield 9, 3) := by decide +kernel
theorem dX1_faultAsWords_40 : decode cX1_faultAsWords 40 = .ok (.iload_n 2, 1) := by decide +kernel
theorem dX1_faultAsWords_41 : decode cX1_faultAsWords 41 = .ok (.iaload, 1) := by decide +kernel
theorem dX1_faultAsWords_42 : decode cX1_faultAsWords 42 = .ok (.bipush 44, 2) := by decide +kernel
theorem dX1_faultAsWords_44 : decode cX1_faultAsWords 44 = .ok (.if_icmp .ne 13, 3) := by decide +kernel
theorem dX1_faultAsWords_47 : decode cX1_faultAsWords 47 = .ok (.iload_n 1, 1) := by decide +kernel
theorem dX1_faultAsWords_48 : decode cX1_faultAsWords 48 = .ok (.iconst 2, 1) := by decide +kernel
theorem dX1_faultAsWords_49 : decode cX1_faultAsWords 49 = .ok (.if_icmp .lt 8, 3) := by decide +kernel
theorem dX1_faultAsWords_52 : decode cX1_faultAsWords 52 = .ok (.iconst 0, 1) := by decide +kernel
theorem dX1_faultAsWords_53 : decode cX1_faultAsWords 53 = .ok (.istore_n 1, 1) := by decide +kernel
theorem dX1_faultAsWords_54 : decode cX1_faultAsWords 54 = .ok (.goto 5, 3) := by decide +kernel
theorem dX1_faultAsWords_57 : decode cX1_faultAsWords 57 = .ok (.iload_n 2, 1) := by decide +kernel
theorem dX1_faultAsWords_58 : decode cX1_faultAsWords 58 = .ok (.ireturn, 1) := by decide +kernel
theorem dX1_faultAsWords_59 : decode cX1_faultAsWords 59 = .ok (.iinc 2 1, 3) := by decide +kernel
theorem dX1_faultAsWords_62 : decode cX1_faultAsWords 62 = .ok (.goto (-58), 3) := by decide +kernel
theorem dX1_faultAsWords_65 : decode cX1_faultAsWords 65 = .ok (.iload_n 1, 1) := by decide +kernel
theorem dX1_faultAsWords_66 : decode cX1_faultAsWords 66 = .ok (.iconst 2, 1) := by decide +kernel
theorem dX1_faultAsWords_67 : decode cX1_faultAsWords 67 = .ok (.if_icmp .ge 10, 3) := by decide +kernel
theorem dX1_faultAsWords_70 : decode cX1_faultAsWords 70 = .ok (.aload_n 0, 1) := by decide +kernel
theorem dX1_faultAsWords_71 : decode cX1_faultAsWords 71 = .ok (.getfield 15, 3) := by decide +kernel
theorem dX1_faultAsWords_74 : decode cX1_faultAsWords 74 = .ok (.goto 4, 3) := by decide +kernel
theorem dX1_faultAsWords_77 : decode cX1_faultAsWords 77 = .ok (.iconst (-1), 1) := by decide +kernel
theorem dX1_faultAsWords_78 : decode cX1_faultAsWords 78 = .ok (.ireturn, 1) := by decide +kernel
set_option maxRecDepth 20000 in
theorem ggX1_letterInRow_X3_isLetter : GoodIn wsX1_letterInRow wsX3_isLetter := goodIn_r _ [5] (by decide +kernel) (by decide +kernel)
set_option maxRecDepth 20000 in
theorem gX1_letterInRow_X3_isLetter_n19 : GoodIn wsX1_letterInRow (wsX3_isLetter) := ggX1_letterInRow_X3_isLetter
theorem dX1_letterInRow_0 : decode cX1_letterInRow 0 = .ok (.iload_n 1, 1) := by decide +kernel
theorem dX1_letterInRow_1 : decode cX1_letterInRow 1 = .ok (.aload_n 0, 1) := by decide +kernel
theorem dX1_letterInRow_2 : decode cX1_letterInRow 2 = .ok (.getfield 15, 3) := by decide +kernel
theorem dX1_letterInRow_5 : decode cX1_letterInRow 5 = .ok (.if_icmp .ge 24, 3) := by decide +kernel
theorem dX1_letterInRow_8 : decode cX1_letterInRow 8 = .ok (.aload_n 0, 1) := by decide +kernel
theorem dX1_letterInRow_9 : decode cX1_letterInRow 9 = .ok (.getfield 9, 3) := by decide +kernel
theorem dX1_letterInRow_12 : decode cX1_letterInRow 12 = .ok (.iload_n 1, 1) := by decide +kernel
theorem dX1_letterInRow_13 : decode cX1_letterInRow 13 = .ok (.iaload, 1) := by decide +kernel
theorem dX1_letterInRow_14 : decode cX1_letterInRow 14 = .ok (.invokestatic 19, 3) := by decide +kernel
theorem dX1_letterInRow_17 : decode cX1_letterInRow 17 = .ok (.ifCond .eq 12, 3) := by decide +kernel
theorem dX1_letterInRow_20 : decode cX1_letterInRow 20 = .ok (.aload_n 0, 1) := by decide +kernel
theorem dX1_letterInRow_21 : decode cX1_letterInRow 21 = .ok (.getfield 9, 3) := by decide +kernel
theorem dX1_letterInRow_24 : decode cX1_letterInRow 24 = .ok (.iload_n 1, 1) := by decide +kernel
theorem dX1_letterInRow_25 : decode cX1_letterInRow 25 = .ok (.iaload, 1) := by decide +kernel
theorem dX1_letterInRow_26 : decode cX1_letterInRow 26 = .ok (.goto 4, 3) := by decide +kernel
theorem dX1_letterInRow_29 : decode cX1_letterInRow 29 = .ok (.iconst 0, 1) := by decide +kernel
theorem dX1_letterInRow_30 : decode cX1_letterInRow 30 = .ok (.ireturn, 1) := by decide +kernel
theorem dX1_wordLength_0 : decode cX1_wordLength 0 = .ok (.iconst 0, 1) := by decide +kernel
theorem dX1_wordLength_1 : decode cX1_wordLength 1 = .ok (.istore_n 2, 1) := by decide +kernel
theorem dX1_wordLength_2 : decode cX1_wordLength 2 = .ok (.iload_n 1, 1) := by decide +kernel
theorem dX1_wordLength_3 : decode cX1_wordLength 3 = .ok (.iload_n 2, 1) := by decide +kernel
theorem dX1_wordLength_4 : decode cX1_wordLength 4 = .ok (.iadd, 1) := by decide +kernel
theorem dX1_wordLength_5 : decode cX1_wordLength 5 = .ok (.aload_n 0, 1) := by decide +kernel
theorem dX1_wordLength_6 : decode cX1_wordLength 6 = .ok (.getfield 15, 3) := by decide +kernel
theorem dX1_wordLength_9 : decode cX1_wordLength 9 = .ok (.if_icmp .ge 22, 3) := by decide +kernel
theorem dX1_wordLength_12 : decode cX1_wordLength 12 = .ok (.aload_n 0, 1) := by decide +kernel
theorem dX1_wordLength_13 : decode cX1_wordLength 13 = .ok (.getfield 9, 3) := by decide +kernel
theorem dX1_wordLength_16 : decode cX1_wordLength 16 = .ok (.iload_n 1, 1) := by decide +kernel
theorem dX1_wordLength_17 : decode cX1_wordLength 17 = .ok (.iload_n 2, 1) := by decide +kernel
theorem dX1_wordLength_18 : decode cX1_wordLength 18 = .ok (.iadd, 1) := by decide +kernel
theorem dX1_wordLength_19 : decode cX1_wordLength 19 = .ok (.iaload, 1) := by decide +kernel
theorem dX1_wordLength_20 : decode cX1_wordLength 20 = .ok (.bipush 44, 2) := by decide +kernel
theorem dX1_wordLength_22 : decode cX1_wordLength 22 = .ok (.if_icmp .eq 9, 3) := by decide +kernel
theorem dX1_wordLength_25 : decode cX1_wordLength 25 = .ok (.iinc 2 1, 3) := by decide +kernel
theorem dX1_wordLength_28 : decode cX1_wordLength 28 = .ok (.goto (-26), 3) := by decide +kernel
theorem dX1_wordLength_31 : decode cX1_wordLength 31 = .ok (.iload_n 2, 1) := by decide +kernel
theorem dX1_wordLength_32 : decode cX1_wordLength 32 = .ok (.ireturn, 1) := by decide +kernel
theorem dX1_startsWord_0 : decode cX1_startsWord 0 = .ok (.iload_n 1, 1) := by decide +kernel
theorem dX1_startsWord_1 : decode cX1_startsWord 1 = .ok (.ifCond .eq 16, 3) := by decide +kernel
theorem dX1_startsWord_4 : decode cX1_startsWord 4 = .ok (.aload_n 0, 1) := by decide +kernel
theorem dX1_startsWord_5 : decode cX1_startsWord 5 = .ok (.getfield 9, 3) := by decide +kernel
theorem dX1_startsWord_8 : decode cX1_startsWord 8 = .ok (.iload_n 1, 1) := by decide +kernel
theorem dX1_startsWord_9 : decode cX1_startsWord 9 = .ok (.iconst 1, 1) := by decide +kernel
theorem dX1_startsWord_10 : decode cX1_startsWord 10 = .ok (.isub, 1) := by decide +kernel
theorem dX1_startsWord_11 : decode cX1_startsWord 11 = .ok (.iaload, 1) := by decide +kernel
theorem dX1_startsWord_12 : decode cX1_startsWord 12 = .ok (.bipush 44, 2) := by decide +kernel
theorem dX1_startsWord_14 : decode cX1_startsWord 14 = .ok (.if_icmp .ne 7, 3) := by decide +kernel
theorem dX1_startsWord_17 : decode cX1_startsWord 17 = .ok (.iconst 1, 1) := by decide +kernel
theorem dX1_startsWord_18 : decode cX1_startsWord 18 = .ok (.goto 4, 3) := by decide +kernel
theorem dX1_startsWord_21 : decode cX1_startsWord 21 = .ok (.iconst 0, 1) := by decide +kernel
theorem dX1_startsWord_22 : decode cX1_startsWord 22 = .ok (.ireturn, 1) := by decide +kernel
set_option maxRecDepth 20000 in
theorem ggX1_isRepeated_X1_startsWord : GoodIn wsX1_isRepeated wsX1_startsWord := goodIn_r _ [5, 6, 16, 17] (by decide +kernel) (by decide +kernel)
set_option maxRecDepth 20000 in
theorem gX1_isRepeated_X1_startsWord : GoodIn wsX1_isRepeated (wsV RX1 23 RX1 yX1_startsWord wsX1_startsWord) := goodIn_app (goodIn_of _ (by decide +kernel)) ggX1_isRepeated_X1_startsWord
set_option maxRecDepth 20000 in
theorem ggX1_isRepeated_X1_isSameInText : GoodIn wsX1_isRepeated wsX1_isSameInText := goodIn_r _ [10, 6, 11, 12, 13, 4, 14, 15, 16, 17] (by decide +kernel) (by decide +kernel)
set_option maxRecDepth 20000 in
theorem gX1_isRepeated_X1_isSameInText : GoodIn wsX1_isRepeated (wsV RX1 26 RX1 yX1_isSameInText wsX1_isSameInText) := goodIn_app (goodIn_of _ (by decide +kernel)) ggX1_isRepeated_X1_isSameInText
theorem dX1_isRepeated_0 : decode cX1_isRepeated 0 = .ok (.iconst 0, 1) := by decide +kernel
theorem dX1_isRepeated_1 : decode cX1_isRepeated 1 = .ok (.istore_n 2, 1) := by decide +kernel
theorem dX1_isRepeated_2 : decode cX1_isRepeated 2 = .ok (.iload_n 2, 1) := by decide +kernel
theorem dX1_isRepeated_3 : decode cX1_isRepeated 3 = .ok (.iload_n 1, 1) := by decide +kernel
theorem dX1_isRepeated_4 : decode cX1_isRepeated 4 = .ok (.if_icmp .ge 28, 3) := by decide +kernel
theorem dX1_isRepeated_7 : decode cX1_isRepeated 7 = .ok (.aload_n 0, 1) := by decide +kernel
theorem dX1_isRepeated_8 : decode cX1_isRepeated 8 = .ok (.iload_n 2, 1) := by decide +kernel
theorem dX1_isRepeated_9 : decode cX1_isRepeated 9 = .ok (.invokevirtual 23, 3) := by decide +kernel
theorem dX1_isRepeated_12 : decode cX1_isRepeated 12 = .ok (.ifCond .eq 14, 3) := by decide +kernel
theorem dX1_isRepeated_15 : decode cX1_isRepeated 15 = .ok (.aload_n 0, 1) := by decide +kernel
theorem dX1_isRepeated_16 : decode cX1_isRepeated 16 = .ok (.iload_n 2, 1) := by decide +kernel
theorem dX1_isRepeated_17 : decode cX1_isRepeated 17 = .ok (.iload_n 1, 1) := by decide +kernel
theorem dX1_isRepeated_18 : decode cX1_isRepeated 18 = .ok (.invokevirtual 26, 3) := by decide +kernel
theorem dX1_isRepeated_21 : decode cX1_isRepeated 21 = .ok (.ifCond .eq 5, 3) := by decide +kernel
theorem dX1_isRepeated_24 : decode cX1_isRepeated 24 = .ok (.iconst 1, 1) := by decide +kernel
theorem dX1_isRepeated_25 : decode cX1_isRepeated 25 = .ok (.ireturn, 1) := by decide +kernel
theorem dX1_isRepeated_26 : decode cX1_isRepeated 26 = .ok (.iinc 2 1, 3) := by decide +kernel
theorem dX1_isRepeated_29 : decode cX1_isRepeated 29 = .ok (.goto (-27), 3) := by decide +kernel
theorem dX1_isRepeated_32 : decode cX1_isRepeated 32 = .ok (.iconst 0, 1) := by decide +kernel
theorem dX1_isRepeated_33 : decode cX1_isRepeated 33 = .ok (.ireturn, 1) := by decide +kernel
set_option maxRecDepth 20000 in
theorem ggX1_isSameInText_X1_wordLength : GoodIn wsX1_isSameInText wsX1_wordLength := goodIn_r _ [6, 7, 1, 8, 9] (by decide +kernel) (by decide +kernel)
set_option maxRecDepth 20000 in
theorem gX1_isSameInText_X1_wordLength : GoodIn wsX1_isSameInText (wsV RX1 30 RX1 yX1_wordLength wsX1_wordLength) := goodIn_app (goodIn_of _ (by decide +kernel)) ggX1_isSameInText_X1_wordLength
theorem dX1_isSameInText_0 : decode cX1_isSameInText 0 = .ok (.aload_n 0, 1) := by decide +kernel
theorem dX1_isSameInText_1 : decode cX1_isSameInText 1 = .ok (.iload_n 1, 1) := by decide +kernel
theorem dX1_isSameInText_2 : decode cX1_isSameInText 2 = .ok (.invokevirtual 30, 3) := by decide +kernel
theorem dX1_isSameInText_5 : decode cX1_isSameInText 5 = .ok (.istore_n 3, 1) := by decide +kernel
theorem dX1_isSameInText_6 : decode cX1_isSameInText 6 = .ok (.iload_n 3, 1) := by decide +kernel
theorem dX1_isSameInText_7 : decode cX1_isSameInText 7 = .ok (.aload_n 0, 1) := by decide +kernel
theorem dX1_isSameInText_8 : decode cX1_isSameInText 8 = .ok (.iload_n 2, 1) := by decide +kernel
theorem dX1_isSameInText_9 : decode cX1_isSameInText 9 = .ok (.invokevirtual 30, 3) := by decide +kernel
theorem dX1_isSameInText_12 : decode cX1_isSameInText 12 = .ok (.if_icmp .eq 5, 3) := by decide +kernel
theorem dX1_isSameInText_15 : decode cX1_isSameInText 15 = .ok (.iconst 0, 1) := by decide +kernel
theorem dX1_isSameInText_16 : decode cX1_isSameInText 16 = .ok (.ireturn, 1) := by decide +kernel
theorem dX1_isSameInText_17 : decode cX1_isSameInText 17 = .ok (.iconst 0, 1) := by decide +kernel
theorem dX1_isSameInText_18 : decode cX1_isSameInText 18 = .ok (.istore 4, 2) := by decide +kernel
theorem dX1_isSameInText_20 : decode cX1_isSameInText 20 = .ok (.iload 4, 2) := by decide +kernel
theorem dX1_isSameInText_22 : decode cX1_isSameInText 22 = .ok (.iload_n 3, 1) := by decide +kernel
theorem dX1_isSameInText_23 : decode cX1_isSameInText 23 = .ok (.if_icmp .ge 32, 3) := by decide +kernel
theorem dX1_isSameInText_26 : decode cX1_isSameInText 26 = .ok (.aload_n 0, 1) := by decide +kernel
theorem dX1_isSameInText_27 : decode cX1_isSameInText 27 = .ok (.getfield 9, 3) := by decide +kernel
theorem dX1_isSameInText_30 : decode cX1_isSameInText 30 = .ok (.iload_n 1, 1) := by decide +kernel
theorem dX1_isSameInText_31 : decode cX1_isSameInText 31 = .ok (.iload 4, 2) := by decide +kernel
theorem dX1_isSameInText_33 : decode cX1_isSameInText 33 = .ok (.iadd, 1) := by decide +kernel
theorem dX1_isSameInText_34 : decode cX1_isSameInText 34 = .ok (.iaload, 1) := by decide +kernel
theorem dX1_isSameInText_35 : decode cX1_isSameInText 35 = .ok (.aload_n 0, 1) := by decide +kernel
theorem dX1_isSameInText_36 : decode cX1_isSameInText 36 = .ok (.getfield 9, 3) := by decide +kernel
theorem dX1_isSameInText_39 : decode cX1_isSameInText 39 = .ok (.iload_n 2, 1) := by decide +kernel
theorem dX1_isSameInText_40 : decode cX1_isSameInText 40 = .ok (.iload 4, 2) := by decide +kernel
theorem dX1_isSameInText_42 : decode cX1_isSameInText 42 = .ok (.iadd, 1) := by decide +kernel
theorem dX1_isSameInText_43 : decode cX1_isSameInText 43 = .ok (.iaload, 1) := by decide +kernel
theorem dX1_isSameInText_44 : decode cX1_isSameInText 44 = .ok (.if_icmp .eq 5, 3) := by decide +kernel
theorem dX1_isSameInText_47 : decode cX1_isSameInText 47 = .ok (.iconst 0, 1) := by decide +kernel
theorem dX1_isSameInText_48 : decode cX1_isSameInText 48 = .ok (.ireturn, 1) := by decide +kernel
theorem dX1_isSameInText_49 : decode cX1_isSameInText 49 = .ok (.iinc 4 1, 3) := by decide +kernel
theorem dX1_isSameInText_52 : decode cX1_isSameInText 52 = .ok (.goto (-32), 3) := by decide +kernel
theorem dX1_isSameInText_55 : decode cX1_isSameInText 55 = .ok (.iconst 1, 1) := by decide +kernel
theorem dX1_isSameInText_56 : decode cX1_isSameInText 56 = .ok (.ireturn, 1) := by decide +kernel
theorem dX2_init_0 : decode cX2_init 0 = .ok (.aload_n 0, 1) := by decide +kernel
theorem dX2_init_1 : decode cX2_init 1 = .ok (.invokespecial 3, 3) := by decide +kernel
theorem dX2_init_4 : decode cX2_init 4 = .ok (.aload_n 0, 1) := by decide +kernel
theorem dX2_init_5 : decode cX2_init 5 = .ok (.bipush 28, 2) := by decide +kernel
theorem dX2_init_7 : decode cX2_init 7 = .ok (.newarray .int, 2) := by decide +kernel
theorem dX2_init_9 : decode cX2_init 9 = .ok (.putfield 9, 3) := by decide +kernel
theorem dX2_init_12 : decode cX2_init 12 = .ok (.aload_n 0, 1) := by decide +kernel
theorem dX2_init_13 : decode cX2_init 13 = .ok (.bipush 28, 2) := by decide +kernel
theorem dX2_init_15 : decode cX2_init 15 = .ok (.newarray .int, 2) := by decide +kernel
theorem dX2_init_17 : decode cX2_init 17 = .ok (.putfield 15, 3) := by decide +kernel
theorem dX2_init_20 : decode cX2_init 20 = .ok (.aload_n 0, 1) := by decide +kernel
theorem dX2_init_21 : decode cX2_init 21 = .ok (.bipush 28, 2) := by decide +kernel
theorem dX2_init_23 : decode cX2_init 23 = .ok (.newarray .int, 2) := by decide +kernel
theorem dX2_init_25 : decode cX2_init 25 = .ok (.putfield 18, 3) := by decide +kernel
theorem dX2_init_28 : decode cX2_init 28 = .ok (.return_, 1) := by decide +kernel
set_option maxRecDepth 20000 in
theorem ggX2_find_X2_findInLine : GoodIn wsX2_find wsX2_findInLine := goodIn_r _ [6, 7, 8, 9, 5, 10, 1, 11, 12, 13, 14, 15, 16, 17] (by decide +kernel) (by decide +kernel)
set_option maxRecDepth 20000 in
theorem gX2_find_X2_findInLine : GoodIn wsX2_find (wsV RX2 25 RX2 yX2_findInLine wsX2_findInLine) := goodIn_app (goodIn_of _ (by decide +kernel)) ggX2_find_X2_findInLine
theorem dX2_find_0 : decode cX2_find 0 = .ok (.aload_n 0, 1) := by decide +kernel
theorem dX2_find_1 : decode cX2_find 1 = .ok (.iconst 0, 1) := by decide +kernel
theorem dX2_find_2 : decode cX2_find 2 = .ok (.putfield 21, 3) := by decide +kernel
theorem dX2_find_5 : decode cX2_find 5 = .ok (.iconst 0, 1) := by decide +kernel
theorem dX2_find_6 : decode cX2_find 6 = .ok (.istore_n 2, 1) := by decide +kernel
theorem dX2_find_7 : decode cX2_find 7 = .ok (.iload_n 2, 1) := by decide +kernel
theorem dX2_find_8 : decode cX2_find 8 = .ok (.bipush 7, 2) := by decide +kernel
theorem dX2_find_10 : decode cX2_find 10 = .ok (.if_icmp .ge 19, 3) := by decide +kernel
theorem dX2_find_13 : decode cX2_find 13 = .ok (.aload_n 0, 1) := by decide +kernel
theorem dX2_find_14 : decode cX2_find 14 = .ok (.aload_n 1, 1) := by decide +kernel
theorem dX2_find_15 : decode cX2_find 15 = .ok (.iload_n 2, 1) := by decide +kernel
theorem dX2_find_16 : decode cX2_find 16 = .ok (.bipush 7, 2) := by decide +kernel
theorem dX2_find_18 : decode cX2_find 18 = .ok (.imul, 1) := by decide +kernel
theorem dX2_find_19 : decode cX2_find 19 = .ok (.iconst 1, 1) := by decide +kernel
theorem dX2_find_20 : decode cX2_find 20 = .ok (.invokevirtual 25, 3) := by decide +kernel
theorem dX2_find_23 : decode cX2_find 23 = .ok (.iinc 2 1, 3) := by decide +kernel
theorem dX2_find_26 : decode cX2_find 26 = .ok (.goto (-19), 3) := by decide +kernel
theorem dX2_find_29 : decode cX2_find 29 = .ok (.iconst 0, 1) := by decide +kernel
theorem dX2_find_30 : decode cX2_find 30 = .ok (.istore_n 2, 1) := by decide +kernel
theorem dX2_find_31 : decode cX2_find 31 = .ok (.iload_n 2, 1) := by decide +kernel
theorem dX2_find_32 : decode cX2_find 32 = .ok (.bipush 7, 2) := by decide +kernel
theorem dX2_find_34 : decode cX2_find 34 = .ok (.if_icmp .ge 17, 3) := by decide +kernel
theorem dX2_find_37 : decode cX2_find 37 = .ok (.aload_n 0, 1) := by decide +kernel
theorem dX2_find_38 : decode cX2_find 38 = .ok (.aload_n 1, 1) := by decide +kernel
theorem dX2_find_39 : decode cX2_find 39 = .ok (.iload_n 2, 1) := by decide +kernel
theorem dX2_find_40 : decode cX2_find 40 = .ok (.bipush 7, 2) := by decide +kernel
theorem dX2_find_42 : decode cX2_find 42 = .ok (.invokevirtual 25, 3) := by decide +kernel
theorem dX2_find_45 : decode cX2_find 45 = .ok (.iinc 2 1, 3) := by decide +kernel
theorem dX2_find_48 : decode cX2_find 48 = .ok (.goto (-17), 3) := by decide +kernel
theorem dX2_find_51 : decode cX2_find 51 = .ok (.return_, 1) := by decide +kernel
set_option maxRecDepth 20000 in
theorem ggX2_findInLine_X2_append : GoodIn wsX2_findInLine wsX2_append := goodIn_r _ [5, 6, 7, 8, 9, 10, 11, 12, 13] (by decide +kernel) (by decide +kernel)
set_option maxRecDepth 20000 in
theorem gX2_findInLine_X2_append : GoodIn wsX2_findInLine (wsV RX2 29 RX2 yX2_append wsX2_append) := goodIn_app (goodIn_of _ (by decide +kernel)) ggX2_findInLine_X2_append
theorem dX2_findInLine_0 : decode cX2_findInLine 0 = .ok (.iconst 0, 1) := by decide +kernel
theorem dX2_findInLine_1 : decode cX2_findInLine 1 = .ok (.istore 4, 2) := by decide +kernel
theorem dX2_findInLine_3 : decode cX2_findInLine 3 = .ok (.iconst 0, 1) := by decide +kernel
theorem dX2_findInLine_4 : decode cX2_findInLine 4 = .ok (.istore 5, 2) := by decide +kernel
theorem dX2_findInLine_6 : decode cX2_findInLine 6 = .ok (.iload 5, 2) := by decide +kernel
theorem dX2_findInLine_8 : decode cX2_findInLine 8 = .ok (.bipush 7, 2) := by decide +kernel
theorem dX2_findInLine_10 : decode cX2_findInLine 10 = .ok (.if_icmp .gt 52, 3) := by decide +kernel
theorem dX2_findInLine_13 : decode cX2_findInLine 13 = .ok (.iload 5, 2) := by decide +kernel
theorem dX2_findInLine_15 : decode cX2_findInLine 15 = .ok (.bipush 7, 2) := by decide +kernel
theorem dX2_findInLine_17 : decode cX2_findInLine 17 = .ok (.if_icmp .ge 20, 3) := by decide +kernel
theorem dX2_findInLine_20 : decode cX2_findInLine 20 = .ok (.aload_n 1, 1) := by decide +kernel
theorem dX2_findInLine_21 : decode cX2_findInLine 21 = .ok (.iload_n 2, 1) := by decide +kernel
theorem dX2_findInLine_22 : decode cX2_findInLine 22 = .ok (.iload 5, 2) := by decide +kernel
theorem dX2_findInLine_24 : decode cX2_findInLine 24 = .ok (.iload_n 3, 1) := by decide +kernel
theorem dX2_findInLine_25 : decode cX2_findInLine 25 = .ok (.imul, 1) := by decide +kernel
theorem dX2_findInLine_26 : decode cX2_findInLine 26 = .ok (.iadd, 1) := by decide +kernel
theorem dX2_findInLine_27 : decode cX2_findInLine 27 = .ok (.iaload, 1) := by decide +kernel
theorem dX2_findInLine_28 : decode cX2_findInLine 28 = .ok (.ifCond .eq 9, 3) := by decide +kernel
theorem dX2_findInLine_31 : decode cX2_findInLine 31 = .ok (.iinc 4 1, 3) := by decide +kernel
theorem dX2_findInLine_34 : decode cX2_findInLine 34 = .ok (.goto 22, 3) := by decide +kernel
theorem dX2_findInLine_37 : decode cX2_findInLine 37 = .ok (.aload_n 0, 1) := by decide +kernel
theorem dX2_findInLine_38 : decode cX2_findInLine 38 = .ok (.iload_n 2, 1) := by decide +kernel
theorem dX2_findInLine_39 : decode cX2_findInLine 39 = .ok (.iload 5, 2) := by decide +kernel
theorem dX2_findInLine_41 : decode cX2_findInLine 41 = .ok (.iload 4, 2) := by decide +kernel
theorem dX2_findInLine_43 : decode cX2_findInLine 43 = .ok (.isub, 1) := by decide +kernel
theorem dX2_findInLine_44 : decode cX2_findInLine 44 = .ok (.iload_n 3, 1) := by decide +kernel
theorem dX2_findInLine_45 : decode cX2_findInLine 45 = .ok (.imul, 1) := by decide +kernel
theorem dX2_findInLine_46 : decode cX2_findInLine 46 = .ok (.iadd, 1) := by decide +kernel
theorem dX2_findInLine_47 : decode cX2_findInLine 47 = .ok (.iload 4, 2) := by decide +kernel
theorem dX2_findInLine_49 : decode cX2_findInLine 49 = .ok (.iload_n 3, 1) := by decide +kernel
theorem dX2_findInLine_50 : decode cX2_findInLine 50 = .ok (.invokevirtual 29, 3) := by decide +kernel
theorem dX2_findInLine_53 : decode cX2_findInLine 53 = .ok (.iconst 0, 1) := by decide +kernel
theorem dX2_findInLine_54 : decode cX2_findInLine 54 = .ok (.istore 4, 2) := by decide +kernel
theorem dX2_findInLine_56 : decode cX2_findInLine 56 = .ok (.iinc 5 1, 3) := by decide +kernel
theorem dX2_findInLine_59 : decode cX2_findInLine 59 = .ok (.goto (-53), 3) := by decide +kernel
theorem dX2_findInLine_62 : decode cX2_findInLine 62 = .ok (.return_, 1) := by decide +kernel
theorem dX2_append_0 : decode cX2_append 0 = .ok (.iload_n 2, 1) := by decide +kernel
theorem dX2_append_1 : decode cX2_append 1 = .ok (.iconst 2, 1) := by decide +kernel
theorem dX2_append_2 : decode cX2_append 2 = .ok (.if_icmp .lt 12, 3) := by decide +kernel
theorem dX2_append_5 : decode cX2_append 5 = .ok (.aload_n 0, 1) := by decide +kernel
theorem dX2_append_6 : decode cX2_append 6 = .ok (.getfield 21, 3) := by decide +kernel
theorem dX2_append_9 : decode cX2_append 9 = .ok (.bipush 28, 2) := by decide +kernel
theorem dX2_append_11 : decode cX2_append 11 = .ok (.if_icmp .lt 4, 3) := by decide +kernel
theorem dX2_append_14 : decode cX2_append 14 = .ok (.return_, 1) := by decide +kernel
theorem dX2_append_15 : decode cX2_append 15 = .ok (.aload_n 0, 1) := by decide +kernel
theorem dX2_append_16 : decode cX2_append 16 = .ok (.getfield 9, 3) := by decide +kernel
theorem dX2_append_19 : decode cX2_append 19 = .ok (.aload_n 0, 1) := by decide +kernel
theorem dX2_append_20 : decode cX2_append 20 = .ok (.getfield 21, 3) := by decide +kernel
theorem dX2_append_23 : decode cX2_append 23 = .ok (.iload_n 1, 1) := by decide +kernel
theorem dX2_append_24 : decode cX2_append 24 = .ok (.iastore, 1) := by decide +kernel
theorem dX2_append_25 : decode cX2_append 25 = .ok (.aload_n 0, 1) := by decide +kernel
theorem dX2_append_26 : decode cX2_append 26 = .ok (.getfield 15, 3) := by decide +kernel
theorem dX2_append_29 : decode cX2_append 29 = .ok (.aload_n 0, 1) := by decide +kernel
theorem dX2_append_30 : decode cX2_append 30 = .ok (.getfield 21, 3) := by decide +kernel
theorem dX2_append_33 : decode cX2_append 33 = .ok (.iload_n 2, 1) := by decide +kernel
theorem dX2_append_34 : decode cX2_append 34 = .ok (.iastore, 1) := by decide +kernel
theorem dX2_append_35 : decode cX2_append 35 = .ok (.aload_n 0, 1) := by decide +kernel
theorem dX2_append_36 : decode cX2_append 36 = .ok (.getfield 18, 3) := by decide +kernel
theorem dX2_append_39 : decode cX2_append 39 = .ok (.aload_n 0, 1) := by decide +kernel
theorem dX2_append_40 : decode cX2_append 40 = .ok (.getfield 21, 3) := by decide +kernel
theorem dX2_append_43 : decode cX2_append 43 = .ok (.iload_n 3, 1) := by decide +kernel
theorem dX2_append_44 : decode cX2_append 44 = .ok (.iastore, 1) := by decide +kernel
theorem dX2_append_45 : decode cX2_append 45 = .ok (.aload_n 0, 1) := by decide +kernel
theorem dX2_append_46 : decode cX2_append 46 = .ok (.dup, 1) := by decide +kernel
theorem dX2_append_47 : decode cX2_append 47 = .ok (.getfield 21, 3) := by decide +kernel
theorem dX2_append_50 : decode cX2_append 50 = .ok (.iconst 1, 1) := by decide +kernel
theorem dX2_append_51 : decode cX2_append 51 = .ok (.iadd, 1) := by decide +kernel
theorem dX2_append_52 : decode cX2_append 52 = .ok (.putfield 21, 3) := by decide +kernel
theorem dX2_append_55 : decode cX2_append 55 = .ok (.return_, 1) := by decide +kernel
theorem dX2_isDown_0 : decode cX2_isDown 0 = .ok (.aload_n 0, 1) := by decide +kernel
theorem dX2_isDown_1 : decode cX2_isDown 1 = .ok (.getfield 18, 3) := by decide +kernel
theorem dX2_isDown_4 : decode cX2_isDown 4 = .ok (.iload_n 1, 1) := by decide +kernel
theorem dX2_isDown_5 : decode cX2_isDown 5 = .ok (.iaload, 1) := by decide +kernel
theorem dX2_isDown_6 : decode cX2_isDown 6 = .ok (.bipush 7, 2) := by decide +kernel
theorem dX2_isDown_8 : decode cX2_isDown 8 = .ok (.if_icmp .ne 7, 3) := by decide +kernel
theorem dX2_isDown_11 : decode cX2_isDown 11 = .ok (.iconst 1, 1) := by decide +kernel
theorem dX2_isDown_12 : decode cX2_isDown 12 = .ok (.goto 4, 3) := by decide +kernel
theorem dX2_isDown_15 : decode cX2_isDown 15 = .ok (.iconst 0, 1) := by decide +kernel
theorem dX2_isDown_16 : decode cX2_isDown 16 = .ok (.ireturn, 1) := by decide +kernel
theorem dX2_cellOf_0 : decode cX2_cellOf 0 = .ok (.aload_n 0, 1) := by decide +kernel
theorem dX2_cellOf_1 : decode cX2_cellOf 1 = .ok (.getfield 9, 3) := by decide +kernel
theorem dX2_cellOf_4 : decode cX2_cellOf 4 = .ok (.iload_n 1, 1) := by decide +kernel
theorem dX2_cellOf_5 : decode cX2_cellOf 5 = .ok (.iaload, 1) := by decide +kernel
theorem dX2_cellOf_6 : decode cX2_cellOf 6 = .ok (.iload_n 2, 1) := by decide +kernel
theorem dX2_cellOf_7 : decode cX2_cellOf 7 = .ok (.aload_n 0, 1) := by decide +kernel
theorem dX2_cellOf_8 : decode cX2_cellOf 8 = .ok (.getfield 18, 3) := by decide +kernel
theorem dX2_cellOf_11 : decode cX2_cellOf 11 = .ok (.iload_n 1, 1) := by decide +kernel
theorem dX2_cellOf_12 : decode cX2_cellOf 12 = .ok (.iaload, 1) := by decide +kernel
theorem dX2_cellOf_13 : decode cX2_cellOf 13 = .ok (.imul, 1) := by decide +kernel
theorem dX2_cellOf_14 : decode cX2_cellOf 14 = .ok (.iadd, 1) := by decide +kernel
theorem dX2_cellOf_15 : decode cX2_cellOf 15 = .ok (.ireturn, 1) := by decide +kernel
set_option maxRecDepth 20000 in
theorem ggX2_wordAt_X2_isDown : GoodIn wsX2_wordAt wsX2_isDown := goodIn_r _ [6, 7, 18, 19, 20, 21] (by decide +kernel) (by decide +kernel)
set_option maxRecDepth 20000 in
theorem gX2_wordAt_X2_isDown : GoodIn wsX2_wordAt (wsV RX2 33 RX2 yX2_isDown wsX2_isDown) := goodIn_app (goodIn_of _ (by decide +kernel)) ggX2_wordAt_X2_isDown
set_option maxRecDepth 20000 in
theorem ggX2_wordAt_X2_hasCell : GoodIn wsX2_wordAt wsX2_hasCell := goodIn_r _ [11, 12, 13, 14, 15, 5, 16, 17, 7, 18, 19, 20, 21] (by decide +kernel) (by decide +kernel)
set_option maxRecDepth 20000 in
theorem gX2_wordAt_X2_hasCell : GoodIn wsX2_wordAt (wsV RX2 37 RX2 yX2_hasCell wsX2_hasCell) := goodIn_app (goodIn_of _ (by decide +kernel)) ggX2_wordAt_X2_hasCell
theorem dX2_wordAt_0 : decode cX2_wordAt 0 = .ok (.iconst 0, 1) := by decide +kernel
theorem dX2_wordAt_1 : decode cX2_wordAt 1 = .ok (.istore_n 3, 1) := by decide +kernel
theorem dX2_wordAt_2 : decode cX2_wordAt 2 = .ok (.iload_n 3, 1) := by decide +kernel
theorem dX2_wordAt_3 : decode cX2_wordAt 3 = .ok (.aload_n 0, 1) := by decide +kernel
theorem dX2_wordAt_4 : decode cX2_wordAt 4 = .ok (.getfield 21, 3) := by decide +kernel
theorem dX2_wordAt_7 : decode cX2_wordAt 7 = .ok (.if_icmp .ge 29, 3) := by decide +kernel
theorem dX2_wordAt_10 : decode cX2_wordAt 10 = .ok (.aload_n 0, 1) := by decide +kernel
theorem dX2_wordAt_11 : decode cX2_wordAt 11 = .ok (.iload_n 3, 1) := by decide +kernel
theorem dX2_wordAt_12 : decode cX2_wordAt 12 = .ok (.invokevirtual 33, 3) := by decide +kernel
theorem dX2_wordAt_15 : decode cX2_wordAt 15 = .ok (.iload_n 2, 1) := by decide +kernel
theorem dX2_wordAt_16 : decode cX2_wordAt 16 = .ok (.if_icmp .ne 14, 3) := by decide +kernel
theorem dX2_wordAt_19 : decode cX2_wordAt 19 = .ok (.aload_n 0, 1) := by decide +kernel
theorem dX2_wordAt_20 : decode cX2_wordAt 20 = .ok (.iload_n 3, 1) := by decide +kernel
theorem dX2_wordAt_21 : decode cX2_wordAt 21 = .ok (.iload_n 1, 1) := by decide +kernel
theorem dX2_wordAt_22 : decode cX2_wordAt 22 = .ok (.invokevirtual 37, 3) := by decide +kernel
theorem dX2_wordAt_25 : decode cX2_wordAt 25 = .ok (.ifCond .eq 5, 3) := by decide +kernel
theorem dX2_wordAt_28 : decode cX2_wordAt 28 = .ok (.iload_n 3, 1) := by decide +kernel
theorem dX2_wordAt_29 : decode cX2_wordAt 29 = .ok (.ireturn, 1) := by decide +kernel
theorem dX2_wordAt_30 : decode cX2_wordAt 30 = .ok (.iinc 3 1, 3) := by decide +kernel
theorem dX2_wordAt_33 : decode cX2_wordAt 33 = .ok (.goto (-31), 3) := by decide +kernel
theorem dX2_wordAt_36 : decode cX2_wordAt 36 = .ok (.bipush (-5), 2) := by decide +kernel
theorem dX2_wordAt_38 : decode cX2_wordAt 38 = .ok (.ireturn, 1) := by decide +kernel
set_option maxRecDepth 20000 in
theorem ggX2_hasCell_X2_cellOf : GoodIn wsX2_hasCell wsX2_cellOf := goodIn_r _ [6, 7, 8, 9, 10, 11, 12] (by decide +kernel) (by decide +kernel)
set_option maxRecDepth 20000 in
theorem gX2_hasCell_X2_cellOf : GoodIn wsX2_hasCell (wsV RX2 41 RX2 yX2_cellOf wsX2_cellOf) := goodIn_app (goodIn_of _ (by decide +kernel)) ggX2_hasCell_X2_cellOf
theorem dX2_hasCell_0 : decode cX2_hasCell 0 = .ok (.iconst 0, 1) := by decide +kernel
theorem dX2_hasCell_1 : decode cX2_hasCell 1 = .ok (.istore_n 3, 1) := by decide +kernel
theorem dX2_hasCell_2 : decode cX2_hasCell 2 = .ok (.iload_n 3, 1) := by decide +kernel
theorem dX2_hasCell_3 : decode cX2_hasCell 3 = .ok (.aload_n 0, 1) := by decide +kernel
theorem dX2_hasCell_4 : decode cX2_hasCell 4 = .ok (.getfield 15, 3) := by decide +kernel
theorem dX2_hasCell_7 : decode cX2_hasCell 7 = .ok (.iload_n 1, 1) := by decide +kernel
theorem dX2_hasCell_8 : decode cX2_hasCell 8 = .ok (.iaload, 1) := by decide +kernel
theorem dX2_hasCell_9 : decode cX2_hasCell 9 = .ok (.if_icmp .ge 21, 3) := by decide +kernel
theorem dX2_hasCell_12 : decode cX2_hasCell 12 = .ok (.aload_n 0, 1) := by decide +kernel
theorem dX2_hasCell_13 : decode cX2_hasCell 13 = .ok (.iload_n 1, 1) := by decide +kernel
theorem dX2_hasCell_14 : decode cX2_hasCell 14 = .ok (.iload_n 3, 1) := by decide +kernel
theorem dX2_hasCell_15 : decode cX2_hasCell 15 = .ok (.invokevirtual 41, 3) := by decide +kernel
theorem dX2_hasCell_18 : decode cX2_hasCell 18 = .ok (.iload_n 2, 1) := by decide +kernel
theorem dX2_hasCell_19 : decode cX2_hasCell 19 = .ok (.if_icmp .ne 5, 3) := by decide +kernel
theorem dX2_hasCell_22 : decode cX2_hasCell 22 = .ok (.iconst 1, 1) := by decide +kernel
theorem dX2_hasCell_23 : decode cX2_hasCell 23 = .ok (.ireturn, 1) := by decide +kernel
theorem dX2_hasCell_24 : decode cX2_hasCell 24 = .ok (.iinc 3 1, 3) := by decide +kernel
theorem dX2_hasCell_27 : decode cX2_hasCell 27 = .ok (.goto (-25), 3) := by decide +kernel
theorem dX2_hasCell_30 : decode cX2_hasCell 30 = .ok (.iconst 0, 1) := by decide +kernel
theorem dX2_hasCell_31 : decode cX2_hasCell 31 = .ok (.ireturn, 1) := by decide +kernel
set_option maxRecDepth 20000 in
theorem ggX3_init_X0_init : GoodIn wsX3_init wsX0_init := goodIn_r _ [19, 20, 2, 3, 21, 22, 23, 24, 25, 26, 27, 28, 29, 30, 41, 42, 43, 44, 45, 46, 47, 48, 49, 50, 51] (by decide +kernel) (by decide +kernel)
set_option maxRecDepth 20000 in
theorem gX3_init_X0_init_n11 : GoodIn wsX3_init (wsX0_init) := ggX3_init_X0_init
set_option maxRecDepth 20000 in
theorem ggX3_init_X2_init : GoodIn wsX3_init wsX2_init := goodIn_r _ [32, 33, 2, 3, 21, 34, 35, 36, 59, 60, 61, 62] (by decide +kernel) (by decide +kernel)
set_option maxRecDepth 20000 in
theorem gX3_init_X2_init_n18 : GoodIn wsX3_init (wsX2_init) := ggX3_init_X2_init
set_option maxRecDepth 20000 in
theorem ggX3_init_X1_init : GoodIn wsX3_init wsX1_init := goodIn_r _ [38, 39, 2, 3, 21, 40, 63, 64] (by decide +kernel) (by decide +kernel)
set_option maxRecDepth 20000 in
theorem gX3_init_X1_init_n25 : GoodIn wsX3_init (wsX1_init) := ggX3_init_X1_init
theorem dX3_init_0 : decode cX3_init 0 = .ok (.aload_n 0, 1) := by decide +kernel
theorem dX3_init_1 : decode cX3_init 1 = .ok (.invokespecial 3, 3) := by decide +kernel
theorem dX3_init_4 : decode cX3_init 4 = .ok (.aload_n 0, 1) := by decide +kernel
theorem dX3_init_5 : decode cX3_init 5 = .ok (.new 9, 3) := by decide +kernel
theorem dX3_init_8 : decode cX3_init 8 = .ok (.dup, 1) := by decide +kernel
theorem dX3_init_9 : decode cX3_init 9 = .ok (.invokespecial 11, 3) := by decide +kernel
theorem dX3_init_12 : decode cX3_init 12 = .ok (.putfield 12, 3) := by decide +kernel
theorem dX3_init_15 : decode cX3_init 15 = .ok (.aload_n 0, 1) := by decide +kernel
theorem dX3_init_16 : decode cX3_init 16 = .ok (.new 16, 3) := by decide +kernel
theorem dX3_init_19 : decode cX3_init 19 = .ok (.dup, 1) := by decide +kernel
theorem dX3_init_20 : decode cX3_init 20 = .ok (.invokespecial 18, 3) := by decide +kernel
theorem dX3_init_23 : decode cX3_init 23 = .ok (.putfield 19, 3) := by decide +kernel
theorem dX3_init_26 : decode cX3_init 26 = .ok (.aload_n 0, 1) := by decide +kernel
theorem dX3_init_27 : decode cX3_init 27 = .ok (.new 23, 3) := by decide +kernel
theorem dX3_init_30 : decode cX3_init 30 = .ok (.dup, 1) := by decide +kernel
theorem dX3_init_31 : decode cX3_init 31 = .ok (.invokespecial 25, 3) := by decide +kernel
theorem dX3_init_34 : decode cX3_init 34 = .ok (.putfield 26, 3) := by decide +kernel
theorem dX3_init_37 : decode cX3_init 37 = .ok (.aload_n 0, 1) := by decide +kernel
theorem dX3_init_38 : decode cX3_init 38 = .ok (.iconst 4, 1) := by decide +kernel
theorem dX3_init_39 : decode cX3_init 39 = .ok (.anewarray 9, 3) := by decide +kernel
theorem dX3_init_42 : decode cX3_init 42 = .ok (.putfield 30, 3) := by decide +kernel
theorem dX3_init_45 : decode cX3_init 45 = .ok (.aload_n 0, 1) := by decide +kernel
theorem dX3_init_46 : decode cX3_init 46 = .ok (.new 9, 3) := by decide +kernel
theorem dX3_init_49 : decode cX3_init 49 = .ok (.dup, 1) := by decide +kernel
theorem dX3_init_50 : decode cX3_init 50 = .ok (.invokespecial 11, 3) := by decide +kernel
theorem dX3_init_53 : decode cX3_init 53 = .ok (.putfield 34, 3) := by decide +kernel
theorem dX3_init_56 : decode cX3_init 56 = .ok (.iconst 0, 1) := by decide +kernel
theorem dX3_init_57 : decode cX3_init 57 = .ok (.istore_n 1, 1) := by decide +kernel
theorem dX3_init_58 : decode cX3_init 58 = .ok (.iload_n 1, 1) := by decide +kernel
theorem dX3_init_59 : decode cX3_init 59 = .ok (.iconst 4, 1) := by decide +kernel
theorem dX3_init_60 : decode cX3_init 60 = .ok (.if_icmp .ge 22, 3) := by decide +kernel
theorem dX3_init_63 : decode cX3_init 63 = .ok (.aload_n 0, 1) := by decide +kernel
theorem dX3_init_64 : decode cX3_init 64 = .ok (.getfield 30, 3) := by decide +kernel
theorem dX3_init_67 : decode cX3_init 67 = .ok (.iload_n 1, 1) := by decide +kernel
theorem dX3_init_68 : decode cX3_init 68 = .ok (.new 9, 3) := by decide +kernel
theorem dX3_init_71 : decode cX3_init 71 = .ok (.dup, 1) := by decide +kernel
theorem dX3_init_72 : decode cX3_init 72 = .ok (.invokespecial 11, 3) := by decide +kernel
theorem dX3_init_75 : decode cX3_init 75 = .ok (.aastore, 1) := by decide +kernel
theorem dX3_init_76 : decode cX3_init 76 = .ok (.iinc 1 1, 3) := by decide +kernel
theorem dX3_init_79 : decode cX3_init 79 = .ok (.goto (-21), 3) := by decide +kernel
theorem dX3_init_82 : decode cX3_init 82 = .ok (.return_, 1) := by decide +kernel
set_option maxRecDepth 20000 in
theorem ggX3_setRow_X3_isInGrid : GoodIn wsX3_setRow wsX3_isInGrid := goodIn_r _ [9] (by decide +kernel) (by decide +kernel)
set_option maxRecDepth 20000 in
theorem gX3_setRow_X3_isInGrid : GoodIn wsX3_setRow (va_wsS RX3 37 yX3_isInGrid wsX3_isInGrid) := goodIn_app (goodIn_of _ (by decide +kernel)) ggX3_setRow_X3_isInGrid
set_option maxRecDepth 20000 in
theorem ggX3_setRow_X1_faultAsRow : GoodIn wsX3_setRow wsX1_faultAsRow := goodIn_r _ [14, 15, 16, 17, 8, 18, 92, 93] (by decide +kernel) (by decide +kernel)
set_option maxRecDepth 20000 in
theorem gX3_setRow_X1_faultAsRow : GoodIn wsX3_setRow (wsV RX3 41 RX1 yX1_faultAsRow wsX1_faultAsRow) := goodIn_app (goodIn_of _ (by decide +kernel)) ggX3_setRow_X1_faultAsRow
set_option maxRecDepth 20000 in
theorem ggX3_setRow_X3_remember : GoodIn wsX3_setRow wsX3_remember := goodIn_r _ [22, 23, 24, 2, 25, 26, 27, 28, 29, 30, 31, 32, 33, 34, 35, 36, 37, 38, 39, 40, 41, 42, 43, 44, 70, 71, 72, 73, 74, 75, 76, 77, 78, 79, 80, 81, 82, 83, 84, 85, 86, 87] (by decide +kernel) (by decide +kernel)
set_option maxRecDepth 20000 in
theorem gX3_setRow_X3_remember : GoodIn wsX3_setRow (wsV RX3 45 RX3 yX3_remember wsX3_remember) := goodIn_app (goodIn_of _ (by decide +kernel)) ggX3_setRow_X3_remember
set_option maxRecDepth 20000 in
theorem ggX3_setRow_X1_letterInRow : GoodIn wsX3_setRow wsX1_letterInRow := goodIn_r _ [48, 15, 16, 17, 8, 18, 92, 93] (by decide +kernel) (by decide +kernel)
set_option maxRecDepth 20000 in
theorem gX3_setRow_X1_letterInRow : GoodIn wsX3_setRow (wsV RX3 52 RX1 yX1_letterInRow wsX1_letterInRow) := goodIn_app (goodIn_of _ (by decide +kernel)) ggX3_setRow_X1_letterInRow
set_option maxRecDepth 20000 in
theorem ggX3_setRow_X0_forgetGuesses : GoodIn wsX3_setRow wsX0_forgetGuesses := goodIn_r _ [52, 37, 38, 77, 78, 79, 80, 81, 82, 83, 84, 85, 86, 87] (by decide +kernel) (by decide +kernel)
set_option maxRecDepth 20000 in
theorem gX3_setRow_X0_forgetGuesses : GoodIn wsX3_setRow (wsV RX3 56 RX0 yX0_forgetGuesses wsX0_forgetGuesses) := goodIn_app (goodIn_of _ (by decide +kernel)) ggX3_setRow_X0_forgetGuesses
set_option maxRecDepth 20000 in
theorem ggX3_setRow_X2_find : GoodIn wsX3_setRow wsX2_find := goodIn_r _ [57, 58, 59, 60, 61, 56, 62, 63, 64, 65, 66, 67, 68, 69, 88, 89, 90, 91] (by decide +kernel) (by decide +kernel)
set_option maxRecDepth 20000 in
theorem gX3_setRow_X2_find : GoodIn wsX3_setRow (wsV RX3 59 RX2 yX2_find wsX2_find) := goodIn_app (goodIn_of _ (by decide +kernel)) ggX3_setRow_X2_find
theorem dX3_setRow_0 : decode cX3_setRow 0 = .ok (.iload_n 1, 1) := by decide +kernel
theorem dX3_setRow_1 : decode cX3_setRow 1 = .ok (.invokestatic 37, 3) := by decide +kernel
theorem dX3_setRow_4 : decode cX3_setRow 4 = .ok (.ifCond .ne 5, 3) := by decide +kernel
theorem dX3_setRow_7 : decode cX3_setRow 7 = .ok (.iconst (-1), 1) := by decide +kernel
theorem dX3_setRow_8 : decode cX3_setRow 8 = .ok (.ireturn, 1) := by decide +kernel
theorem dX3_setRow_9 : decode cX3_setRow 9 = .ok (.aload_n 0, 1) := by decide +kernel
theorem dX3_setRow_10 : decode cX3_setRow 10 = .ok (.getfield 26, 3) := by decide +kernel
theorem dX3_setRow_13 : decode cX3_setRow 13 = .ok (.invokevirtual 41, 3) := by decide +kernel
theorem dX3_setRow_16 : decode cX3_setRow 16 = .ok (.istore_n 2, 1) := by decide +kernel
theorem dX3_setRow_17 : decode cX3_setRow 17 = .ok (.iload_n 2, 1) := by decide +kernel
theorem dX3_setRow_18 : decode cX3_setRow 18 = .ok (.ifCond .lt 8, 3) := by decide +kernel
theorem dX3_setRow_21 : decode cX3_setRow 21 = .ok (.bipush (-100), 2) := by decide +kernel
theorem dX3_setRow_23 : decode cX3_setRow 23 = .ok (.iload_n 2, 1) := by decide +kernel
theorem dX3_setRow_24 : decode cX3_setRow 24 = .ok (.isub, 1) := by decide +kernel
theorem dX3_setRow_25 : decode cX3_setRow 25 = .ok (.ireturn, 1) := by decide +kernel
theorem dX3_setRow_26 : decode cX3_setRow 26 = .ok (.aload_n 0, 1) := by decide +kernel
theorem dX3_setRow_27 : decode cX3_setRow 27 = .ok (.invokevirtual 45, 3) := by decide +kernel
theorem dX3_setRow_30 : decode cX3_setRow 30 = .ok (.iconst 0, 1) := by decide +kernel
theorem dX3_setRow_31 : decode cX3_setRow 31 = .ok (.istore_n 3, 1) := by decide +kernel
theorem dX3_setRow_32 : decode cX3_setRow 32 = .ok (.iload_n 3, 1) := by decide +kernel
theorem dX3_setRow_33 : decode cX3_setRow 33 = .ok (.bipush 7, 2) := by decide +kernel
theorem dX3_setRow_35 : decode cX3_setRow 35 = .ok (.if_icmp .ge 31, 3) := by decide +kernel
theorem dX3_setRow_38 : decode cX3_setRow 38 = .ok (.aload_n 0, 1) := by decide +kernel
theorem dX3_setRow_39 : decode cX3_setRow 39 = .ok (.getfield 12, 3) := by decide +kernel
theorem dX3_setRow_42 : decode cX3_setRow 42 = .ok (.getfield 48, 3) := by decide +kernel
theorem dX3_setRow_45 : decode cX3_setRow 45 = .ok (.iload_n 1, 1) := by decide +kernel
theorem dX3_setRow_46 : decode cX3_setRow 46 = .ok (.bipush 7, 2) := by decide +kernel
theorem dX3_setRow_48 : decode cX3_setRow 48 = .ok (.imul, 1) := by decide +kernel
theorem dX3_setRow_49 : decode cX3_setRow 49 = .ok (.iload_n 3, 1) := by decide +kernel
theorem dX3_setRow_50 : decode cX3_setRow 50 = .ok (.iadd, 1) := by decide +kernel
theorem dX3_setRow_51 : decode cX3_setRow 51 = .ok (.aload_n 0, 1) := by decide +kernel
theorem dX3_setRow_52 : decode cX3_setRow 52 = .ok (.getfield 26, 3) := by decide +kernel
theorem dX3_setRow_55 : decode cX3_setRow 55 = .ok (.iload_n 3, 1) := by decide +kernel
theorem dX3_setRow_56 : decode cX3_setRow 56 = .ok (.invokevirtual 52, 3) := by decide +kernel
theorem dX3_setRow_59 : decode cX3_setRow 59 = .ok (.iastore, 1) := by decide +kernel
theorem dX3_setRow_60 : decode cX3_setRow 60 = .ok (.iinc 3 1, 3) := by decide +kernel
theorem dX3_setRow_63 : decode cX3_setRow 63 = .ok (.goto (-31), 3) := by decide +kernel
theorem dX3_setRow_66 : decode cX3_setRow 66 = .ok (.aload_n 0, 1) := by decide +kernel
theorem dX3_setRow_67 : decode cX3_setRow 67 = .ok (.getfield 12, 3) := by decide +kernel
theorem dX3_setRow_70 : decode cX3_setRow 70 = .ok (.invokevirtual 56, 3) := by decide +kernel
theorem dX3_setRow_73 : decode cX3_setRow 73 = .ok (.aload_n 0, 1) := by decide +kernel
theorem dX3_setRow_74 : decode cX3_setRow 74 = .ok (.getfield 19, 3) := by decide +kernel
theorem dX3_setRow_77 : decode cX3_setRow 77 = .ok (.aload_n 0, 1) := by decide +kernel
theorem dX3_setRow_78 : decode cX3_setRow 78 = .ok (.getfield 12, 3) := by decide +kernel
theorem dX3_setRow_81 : decode cX3_setRow 81 = .ok (.getfield 48, 3) := by decide +kernel
theorem dX3_setRow_84 : decode cX3_setRow 84 = .ok (.invokevirtual 59, 3) := by decide +kernel
theorem dX3_setRow_87 : decode cX3_setRow 87 = .ok (.aload_n 0, 1) := by decide +kernel
theorem dX3_setRow_88 : decode cX3_setRow 88 = .ok (.getfield 19, 3) := by decide +kernel
theorem dX3_setRow_91 : decode cX3_setRow 91 = .ok (.getfield 63, 3) := by decide +kernel
theorem dX3_setRow_94 : decode cX3_setRow 94 = .ok (.ireturn, 1) := by decide +kernel
set_option maxRecDepth 20000 in
theorem ggX3_setKey_X3_isFactor : GoodIn wsX3_setKey wsX3_isFactor := goodIn_r _ [7] (by decide +kernel) (by decide +kernel)
set_option maxRecDepth 20000 in
theorem gX3_setKey_X3_isFactor : GoodIn wsX3_setKey (va_wsS RX3 67 yX3_isFactor wsX3_isFactor) := goodIn_app (goodIn_of _ (by decide +kernel)) ggX3_setKey_X3_isFactor
set_option maxRecDepth 20000 in
theorem ggX3_setKey_X3_remember : GoodIn wsX3_setKey wsX3_remember := goodIn_r _ [11, 12, 13, 1, 14, 15, 16, 17, 18, 19, 20, 21, 22, 23, 24, 25, 26, 27, 28, 29, 30, 31, 32, 33, 42, 43, 44, 45, 46, 47, 48, 49, 50, 51, 52, 53, 54, 55, 56, 57, 58, 59] (by decide +kernel) (by decide +kernel)
set_option maxRecDepth 20000 in
theorem gX3_setKey_X3_remember : GoodIn wsX3_setKey (wsV RX3 45 RX3 yX3_remember wsX3_remember) := goodIn_app (goodIn_of _ (by decide +kernel)) ggX3_setKey_X3_remember
set_option maxRecDepth 20000 in
theorem ggX3_setKey_X0_forgetGuesses : GoodIn wsX3_setKey wsX0_forgetGuesses := goodIn_r _ [37, 26, 27, 49, 50, 51, 52, 53, 54, 55, 56, 57, 58, 59] (by decide +kernel) (by decide +kernel)
set_option maxRecDepth 20000 in
theorem gX3_setKey_X0_forgetGuesses : GoodIn wsX3_setKey (wsV RX3 56 RX0 yX0_forgetGuesses wsX0_forgetGuesses) := goodIn_app (goodIn_of _ (by decide +kernel)) ggX3_setKey_X0_forgetGuesses
set_option maxRecDepth 20000 in
theorem ggX3_setKey_X0_numberOf : GoodIn wsX3_setKey wsX0_numberOf := goodIn_r _ [41, 29, 30, 49, 50, 51, 52, 53, 54, 55, 56, 57, 58, 59] (by decide +kernel) (by decide +kernel)
set_option maxRecDepth 20000 in
theorem gX3_setKey_X0_numberOf : GoodIn wsX3_setKey (wsV RX3 76 RX0 yX0_numberOf wsX0_numberOf) := goodIn_app (goodIn_of _ (by decide +kernel)) ggX3_setKey_X0_numberOf
theorem dX3_setKey_0 : decode cX3_setKey 0 = .ok (.iload_n 1, 1) := by decide +kernel
theorem dX3_setKey_1 : decode cX3_setKey 1 = .ok (.invokestatic 67, 3) := by decide +kernel
theorem dX3_setKey_4 : decode cX3_setKey 4 = .ok (.ifCond .eq 13, 3) := by decide +kernel
theorem dX3_setKey_7 : decode cX3_setKey 7 = .ok (.iload_n 2, 1) := by decide +kernel
theorem dX3_setKey_8 : decode cX3_setKey 8 = .ok (.ifCond .lt 9, 3) := by decide +kernel
theorem dX3_setKey_11 : decode cX3_setKey 11 = .ok (.iload_n 2, 1) := by decide +kernel
theorem dX3_setKey_12 : decode cX3_setKey 12 = .ok (.bipush 26, 2) := by decide +kernel
theorem dX3_setKey_14 : decode cX3_setKey 14 = .ok (.if_icmp .lt 6, 3) := by decide +kernel
theorem dX3_setKey_17 : decode cX3_setKey 17 = .ok (.bipush (-2), 2) := by decide +kernel
theorem dX3_setKey_19 : decode cX3_setKey 19 = .ok (.ireturn, 1) := by decide +kernel
theorem dX3_setKey_20 : decode cX3_setKey 20 = .ok (.aload_n 0, 1) := by decide +kernel
theorem dX3_setKey_21 : decode cX3_setKey 21 = .ok (.getfield 12, 3) := by decide +kernel
theorem dX3_setKey_24 : decode cX3_setKey 24 = .ok (.getfield 70, 3) := by decide +kernel
theorem dX3_setKey_27 : decode cX3_setKey 27 = .ok (.iload_n 1, 1) := by decide +kernel
theorem dX3_setKey_28 : decode cX3_setKey 28 = .ok (.if_icmp .ne 17, 3) := by decide +kernel
theorem dX3_setKey_31 : decode cX3_setKey 31 = .ok (.aload_n 0, 1) := by decide +kernel
theorem dX3_setKey_32 : decode cX3_setKey 32 = .ok (.getfield 12, 3) := by decide +kernel
theorem dX3_setKey_35 : decode cX3_setKey 35 = .ok (.getfield 73, 3) := by decide +kernel
theorem dX3_setKey_38 : decode cX3_setKey 38 = .ok (.iload_n 2, 1) := by decide +kernel
theorem dX3_setKey_39 : decode cX3_setKey 39 = .ok (.if_icmp .ne 6, 3) := by decide +kernel
theorem dX3_setKey_42 : decode cX3_setKey 42 = .ok (.bipush (-5), 2) := by decide +kernel
theorem dX3_setKey_44 : decode cX3_setKey 44 = .ok (.ireturn, 1) := by decide +kernel
theorem dX3_setKey_45 : decode cX3_setKey 45 = .ok (.aload_n 0, 1) := by decide +kernel
theorem dX3_setKey_46 : decode cX3_setKey 46 = .ok (.invokevirtual 45, 3) := by decide +kernel
theorem dX3_setKey_49 : decode cX3_setKey 49 = .ok (.aload_n 0, 1) := by decide +kernel
theorem dX3_setKey_50 : decode cX3_setKey 50 = .ok (.getfield 12, 3) := by decide +kernel
theorem dX3_setKey_53 : decode cX3_setKey 53 = .ok (.iload_n 1, 1) := by decide +kernel
theorem dX3_setKey_54 : decode cX3_setKey 54 = .ok (.putfield 70, 3) := by decide +kernel
theorem dX3_setKey_57 : decode cX3_setKey 57 = .ok (.aload_n 0, 1) := by decide +kernel
theorem dX3_setKey_58 : decode cX3_setKey 58 = .ok (.getfield 12, 3) := by decide +kernel
theorem dX3_setKey_61 : decode cX3_setKey 61 = .ok (.iload_n 2, 1) := by decide +kernel
theorem dX3_setKey_62 : decode cX3_setKey 62 = .ok (.putfield 73, 3) := by decide +kernel
theorem dX3_setKey_65 : decode cX3_setKey 65 = .ok (.aload_n 0, 1) := by decide +kernel
theorem dX3_setKey_66 : decode cX3_setKey 66 = .ok (.getfield 12, 3) := by decide +kernel
theorem dX3_setKey_69 : decode cX3_setKey 69 = .ok (.invokevirtual 56, 3) := by decide +kernel
theorem dX3_setKey_72 : decode cX3_setKey 72 = .ok (.aload_n 0, 1) := by decide +kernel
theorem dX3_setKey_73 : decode cX3_setKey 73 = .ok (.getfield 12, 3) := by decide +kernel
theorem dX3_setKey_76 : decode cX3_setKey 76 = .ok (.bipush 97, 2) := by decide +kernel
theorem dX3_setKey_78 : decode cX3_setKey 78 = .ok (.invokevirtual 76, 3) := by decide +kernel
theorem dX3_setKey_81 : decode cX3_setKey 81 = .ok (.ireturn, 1) := by decide +kernel
set_option maxRecDepth 20000 in
theorem ggX3_addWords_X1_faultAsWords : GoodIn wsX3_addWords wsX1_faultAsWords := goodIn_r _ [9, 10, 11, 12, 13, 14, 100, 101] (by decide +kernel) (by decide +kernel)
set_option maxRecDepth 20000 in
theorem gX3_addWords_X1_faultAsWords : GoodIn wsX3_addWords (wsV RX3 79 RX1 yX1_faultAsWords wsX1_faultAsWords) := goodIn_app (goodIn_of _ (by decide +kernel)) ggX3_addWords_X1_faultAsWords
set_option maxRecDepth 20000 in
theorem ggX3_addWords_X3_newWordsInText : GoodIn wsX3_addWords wsX3_newWordsInText := goodIn_r _ [18, 1, 4, 19, 20, 21, 8, 22, 11, 23, 24, 25, 13, 26, 2, 3, 27, 28, 29, 30, 31, 32, 33, 34, 35, 36, 10, 37, 38, 39, 40, 41, 42, 43, 44, 45, 46, 47, 48, 49, 50, 51, 52, 82, 83, 84, 85, 86, 87, 88, 100, 101, 89, 90, 91, 92, 93, 94, 95, 96, 97, 98, 99] (by decide +kernel) (by decide +kernel)
set_option maxRecDepth 20000 in
theorem gX3_addWords_X3_newWordsInText : GoodIn wsX3_addWords (wsV RX3 82 RX3 yX3_newWordsInText wsX3_newWordsInText) := goodIn_app (goodIn_of _ (by decide +kernel)) ggX3_addWords_X3_newWordsInText
set_option maxRecDepth 20000 in
theorem ggX3_addWords_X3_remember : GoodIn wsX3_addWords wsX3_remember := goodIn_r _ [56, 57, 58, 2, 59, 60, 61, 40, 62, 63, 64, 65, 66, 67, 42, 68, 69, 70, 71, 72, 73, 74, 75, 76, 82, 83, 84, 85, 86, 87, 88, 89, 90, 91, 92, 93, 94, 95, 96, 97, 98, 99] (by decide +kernel) (by decide +kernel)
set_option maxRecDepth 20000 in
theorem gX3_addWords_X3_remember : GoodIn wsX3_addWords (wsV RX3 45 RX3 yX3_remember wsX3_remember) := goodIn_app (goodIn_of _ (by decide +kernel)) ggX3_addWords_X3_remember
set_option maxRecDepth 20000 in
theorem ggX3_addWords_X1_startsWord : GoodIn wsX3_addWords wsX1_startsWord := goodIn_r _ [22, 11, 100, 101] (by decide +kernel) (by decide +kernel)
set_option maxRecDepth 20000 in
theorem gX3_addWords_X1_startsWord : GoodIn wsX3_addWords (wsV RX3 91 RX1 yX1_startsWord wsX1_startsWord) := goodIn_app (goodIn_of _ (by decide +kernel)) ggX3_addWords_X1_startsWord
set_option maxRecDepth 20000 in
theorem ggX3_addWords_X3_isListed : GoodIn wsX3_addWords wsX3_isListed := goodIn_r _ [26, 2, 3, 27, 28, 29, 13, 30, 1, 31, 32, 33, 34, 35, 8, 36, 10, 11, 37, 38, 39, 40, 41, 42, 82, 83, 84, 85, 86, 87, 88, 89, 90, 91, 92, 93, 94, 95, 96, 97, 98, 99, 100, 101] (by decide +kernel) (by decide +kernel)
set_option maxRecDepth 20000 in
theorem gX3_addWords_X3_isListed : GoodIn wsX3_addWords (wsV RX3 94 RX3 yX3_isListed wsX3_isListed) := goodIn_app (goodIn_of _ (by decide +kernel)) ggX3_addWords_X3_isListed
set_option maxRecDepth 20000 in
theorem ggX3_addWords_X3_appendToList : GoodIn wsX3_addWords wsX3_appendToList := goodIn_r _ [80, 1, 2, 3, 81, 32, 31, 33, 34, 35, 8, 36, 10, 11, 82, 83, 84, 85, 86, 87, 88, 89, 90, 91, 92, 93, 94, 95, 96, 97, 98, 99, 100, 101] (by decide +kernel) (by decide +kernel)
set_option maxRecDepth 20000 in
theorem gX3_addWords_X3_appendToList : GoodIn wsX3_addWords (wsV RX3 97 RX3 yX3_appendToList wsX3_appendToList) := goodIn_app (goodIn_of _ (by decide +kernel)) ggX3_addWords_X3_appendToList
theorem dX3_addWords_0 : decode cX3_addWords 0 = .ok (.aload_n 0, 1) := by decide +kernel
theorem dX3_addWords_1 : decode cX3_addWords 1 = .ok (.getfield 26, 3) := by decide +kernel
theorem dX3_addWords_4 : decode cX3_addWords 4 = .ok (.invokevirtual 79, 3) := by decide +kernel
theorem dX3_addWords_7 : decode cX3_addWords 7 = .ok (.istore_n 1, 1) := by decide +kernel
theorem dX3_addWords_8 : decode cX3_addWords 8 = .ok (.iload_n 1, 1) := by decide +kernel
theorem dX3_addWords_9 : decode cX3_addWords 9 = .ok (.ifCond .lt 8, 3) := by decide +kernel
theorem dX3_addWords_12 : decode cX3_addWords 12 = .ok (.bipush (-100), 2) := by decide +kernel
theorem dX3_addWords_14 : decode cX3_addWords 14 = .ok (.iload_n 1, 1) := by decide +kernel
theorem dX3_addWords_15 : decode cX3_addWords 15 = .ok (.isub, 1) := by decide +kernel
theorem dX3_addWords_16 : decode cX3_addWords 16 = .ok (.ireturn, 1) := by decide +kernel
theorem dX3_addWords_17 : decode cX3_addWords 17 = .ok (.aload_n 0, 1) := by decide +kernel
theorem dX3_addWords_18 : decode cX3_addWords 18 = .ok (.invokevirtual 82, 3) := by decide +kernel
theorem dX3_addWords_21 : decode cX3_addWords 21 = .ok (.istore_n 2, 1) := by decide +kernel
theorem dX3_addWords_22 : decode cX3_addWords 22 = .ok (.aload_n 0, 1) := by decide +kernel
theorem dX3_addWords_23 : decode cX3_addWords 23 = .ok (.getfield 12, 3) := by decide +kernel
theorem dX3_addWords_26 : decode cX3_addWords 26 = .ok (.getfield 85, 3) := by decide +kernel
theorem dX3_addWords_29 : decode cX3_addWords 29 = .ok (.iload_n 2, 1) := by decide +kernel
theorem dX3_addWords_30 : decode cX3_addWords 30 = .ok (.iadd, 1) := by decide +kernel
theorem dX3_addWords_31 : decode cX3_addWords 31 = .ok (.bipush 12, 2) := by decide +kernel
theorem dX3_addWords_33 : decode cX3_addWords 33 = .ok (.if_icmp .le 6, 3) := by decide +kernel
theorem dX3_addWords_36 : decode cX3_addWords 36 = .ok (.bipush (-3), 2) := by decide +kernel
theorem dX3_addWords_38 : decode cX3_addWords 38 = .ok (.ireturn, 1) := by decide +kernel
theorem dX3_addWords_39 : decode cX3_addWords 39 = .ok (.iload_n 2, 1) := by decide +kernel
theorem dX3_addWords_40 : decode cX3_addWords 40 = .ok (.ifCond .ne 6, 3) := by decide +kernel
theorem dX3_addWords_43 : decode cX3_addWords 43 = .ok (.bipush (-5), 2) := by decide +kernel
theorem dX3_addWords_45 : decode cX3_addWords 45 = .ok (.ireturn, 1) := by decide +kernel
theorem dX3_addWords_46 : decode cX3_addWords 46 = .ok (.aload_n 0, 1) := by decide +kernel
theorem dX3_addWords_47 : decode cX3_addWords 47 = .ok (.invokevirtual 45, 3) := by decide +kernel
theorem dX3_addWords_50 : decode cX3_addWords 50 = .ok (.iconst 0, 1) := by decide +kernel
theorem dX3_addWords_51 : decode cX3_addWords 51 = .ok (.istore_n 3, 1) := by decide +kernel
theorem dX3_addWords_52 : decode cX3_addWords 52 = .ok (.iload_n 3, 1) := by decide +kernel
theorem dX3_addWords_53 : decode cX3_addWords 53 = .ok (.aload_n 0, 1) := by decide +kernel
theorem dX3_addWords_54 : decode cX3_addWords 54 = .ok (.getfield 26, 3) := by decide +kernel
theorem dX3_addWords_57 : decode cX3_addWords 57 = .ok (.getfield 88, 3) := by decide +kernel
theorem dX3_addWords_60 : decode cX3_addWords 60 = .ok (.if_icmp .ge 33, 3) := by decide +kernel
theorem dX3_addWords_63 : decode cX3_addWords 63 = .ok (.aload_n 0, 1) := by decide +kernel
theorem dX3_addWords_64 : decode cX3_addWords 64 = .ok (.getfield 26, 3) := by decide +kernel
theorem dX3_addWords_67 : decode cX3_addWords 67 = .ok (.iload_n 3, 1) := by decide +kernel
theorem dX3_addWords_68 : decode cX3_addWords 68 = .ok (.invokevirtual 91, 3) := by decide +kernel
theorem dX3_addWords_71 : decode cX3_addWords 71 = .ok (.ifCond .eq 16, 3) := by decide +kernel
theorem dX3_addWords_74 : decode cX3_addWords 74 = .ok (.aload_n 0, 1) := by decide +kernel
theorem dX3_addWords_75 : decode cX3_addWords 75 = .ok (.iload_n 3, 1) := by decide +kernel
theorem dX3_addWords_76 : decode cX3_addWords 76 = .ok (.invokevirtual 94, 3) := by decide +kernel
theorem dX3_addWords_79 : decode cX3_addWords 79 = .ok (.ifCond .ne 8, 3) := by decide +kernel
theorem dX3_addWords_82 : decode cX3_addWords 82 = .ok (.aload_n 0, 1) := by decide +kernel
theorem dX3_addWords_83 : decode cX3_addWords 83 = .ok (.iload_n 3, 1) := by decide +kernel
theorem dX3_addWords_84 : decode cX3_addWords 84 = .ok (.invokevirtual 97, 3) := by decide +kernel
theorem dX3_addWords_87 : decode cX3_addWords 87 = .ok (.iinc 3 1, 3) := by decide +kernel
theorem dX3_addWords_90 : decode cX3_addWords 90 = .ok (.goto (-38), 3) := by decide +kernel
theorem dX3_addWords_93 : decode cX3_addWords 93 = .ok (.iload_n 2, 1) := by decide +kernel
theorem dX3_addWords_94 : decode cX3_addWords 94 = .ok (.ireturn, 1) := by decide +kernel
set_option maxRecDepth 20000 in
theorem ggX3_dropWord_X3_isInList : GoodIn wsX3_dropWord wsX3_isInList := goodIn_r _ [7, 1, 2, 38, 39, 40, 41, 42, 43, 44, 45, 46, 47, 48, 49, 50, 51, 52, 53, 54, 55] (by decide +kernel) (by decide +kernel)
set_option maxRecDepth 20000 in
theorem gX3_dropWord_X3_isInList : GoodIn wsX3_dropWord (wsV RX3 101 RX3 yX3_isInList wsX3_isInList) := goodIn_app (goodIn_of _ (by decide +kernel)) ggX3_dropWord_X3_isInList
set_option maxRecDepth 20000 in
theorem ggX3_dropWord_X3_remember : GoodIn wsX3_dropWord wsX3_remember := goodIn_r _ [11, 12, 13, 1, 14, 15, 16, 17, 18, 19, 20, 21, 22, 23, 24, 25, 26, 27, 28, 29, 30, 31, 32, 33, 38, 39, 40, 41, 42, 43, 44, 45, 46, 47, 48, 49, 50, 51, 52, 53, 54, 55] (by decide +kernel) (by decide +kernel)
set_option maxRecDepth 20000 in
theorem gX3_dropWord_X3_remember : GoodIn wsX3_dropWord (wsV RX3 45 RX3 yX3_remember wsX3_remember) := goodIn_app (goodIn_of _ (by decide +kernel)) ggX3_dropWord_X3_remember
set_option maxRecDepth 20000 in
theorem ggX3_dropWord_X0_removeListed : GoodIn wsX3_dropWord wsX0_removeListed := goodIn_r _ [37, 28, 24, 20, 21, 22, 23, 25, 45, 46, 47, 48, 49, 50, 51, 52, 53, 54, 55] (by decide +kernel) (by decide +kernel)
set_option maxRecDepth 20000 in
theorem gX3_dropWord_X0_removeListed : GoodIn wsX3_dropWord (wsV RX3 104 RX0 yX0_removeListed wsX0_removeListed) := goodIn_app (goodIn_of _ (by decide +kernel)) ggX3_dropWord_X0_removeListed
theorem dX3_dropWord_0 : decode cX3_dropWord 0 = .ok (.aload_n 0, 1) := by decide +kernel
theorem dX3_dropWord_1 : decode cX3_dropWord 1 = .ok (.iload_n 1, 1) := by decide +kernel
theorem dX3_dropWord_2 : decode cX3_dropWord 2 = .ok (.invokevirtual 101, 3) := by decide +kernel
theorem dX3_dropWord_5 : decode cX3_dropWord 5 = .ok (.ifCond .ne 5, 3) := by decide +kernel
theorem dX3_dropWord_8 : decode cX3_dropWord 8 = .ok (.iconst (-1), 1) := by decide +kernel
theorem dX3_dropWord_9 : decode cX3_dropWord 9 = .ok (.ireturn, 1) := by decide +kernel
theorem dX3_dropWord_10 : decode cX3_dropWord 10 = .ok (.aload_n 0, 1) := by decide +kernel
theorem dX3_dropWord_11 : decode cX3_dropWord 11 = .ok (.invokevirtual 45, 3) := by decide +kernel
theorem dX3_dropWord_14 : decode cX3_dropWord 14 = .ok (.aload_n 0, 1) := by decide +kernel
theorem dX3_dropWord_15 : decode cX3_dropWord 15 = .ok (.getfield 12, 3) := by decide +kernel
theorem dX3_dropWord_18 : decode cX3_dropWord 18 = .ok (.iload_n 1, 1) := by decide +kernel
theorem dX3_dropWord_19 : decode cX3_dropWord 19 = .ok (.invokevirtual 104, 3) := by decide +kernel
theorem dX3_dropWord_22 : decode cX3_dropWord 22 = .ok (.aload_n 0, 1) := by decide +kernel
theorem dX3_dropWord_23 : decode cX3_dropWord 23 = .ok (.getfield 12, 3) := by decide +kernel
theorem dX3_dropWord_26 : decode cX3_dropWord 26 = .ok (.getfield 85, 3) := by decide +kernel
theorem dX3_dropWord_29 : decode cX3_dropWord 29 = .ok (.ireturn, 1) := by decide +kernel
set_option maxRecDepth 20000 in
theorem ggX3_guess_X3_isNumber : GoodIn wsX3_guess wsX3_isNumber := goodIn_r _ [7] (by decide +kernel) (by decide +kernel)
set_option maxRecDepth 20000 in
theorem gX3_guess_X3_isNumber : GoodIn wsX3_guess (va_wsS RX3 107 yX3_isNumber wsX3_isNumber) := goodIn_app (goodIn_of _ (by decide +kernel)) ggX3_guess_X3_isNumber
set_option maxRecDepth 20000 in
theorem ggX3_guess_X3_isLetter : GoodIn wsX3_guess wsX3_isLetter := goodIn_r _ [10] (by decide +kernel) (by decide +kernel)
set_option maxRecDepth 20000 in
theorem gX3_guess_X3_isLetter : GoodIn wsX3_guess (va_wsS RX3 110 yX3_isLetter wsX3_isLetter) := goodIn_app (goodIn_of _ (by decide +kernel)) ggX3_guess_X3_isLetter
set_option maxRecDepth 20000 in
theorem ggX3_guess_X3_isGuessOfAnother : GoodIn wsX3_guess wsX3_isGuessOfAnother := goodIn_r _ [14, 1, 15, 16, 17, 18, 19, 20, 61, 62, 63, 64, 65, 66, 67, 68, 69, 70, 71, 72, 73, 74, 75, 76, 77, 78] (by decide +kernel) (by decide +kernel)
set_option maxRecDepth 20000 in
theorem gX3_guess_X3_isGuessOfAnother : GoodIn wsX3_guess (wsV RX3 117 RX3 yX3_isGuessOfAnother wsX3_isGuessOfAnother) := goodIn_app (goodIn_of _ (by decide +kernel)) ggX3_guess_X3_isGuessOfAnother
set_option maxRecDepth 20000 in
theorem ggX3_guess_X3_remember : GoodIn wsX3_guess wsX3_remember := goodIn_r _ [24, 25, 26, 1, 27, 28, 29, 18, 30, 31, 32, 33, 34, 35, 36, 37, 20, 38, 39, 40, 41, 42, 43, 44, 61, 62, 63, 64, 65, 66, 67, 68, 69, 70, 71, 72, 73, 74, 75, 76, 77, 78] (by decide +kernel) (by decide +kernel)
set_option maxRecDepth 20000 in
theorem gX3_guess_X3_remember : GoodIn wsX3_guess (wsV RX3 45 RX3 yX3_remember wsX3_remember) := goodIn_app (goodIn_of _ (by decide +kernel)) ggX3_guess_X3_remember
set_option maxRecDepth 20000 in
theorem ggX3_guess_X0_guessedCells : GoodIn wsX3_guess wsX0_guessedCells := goodIn_r _ [48, 49, 50, 51, 18, 52, 20, 53, 54, 55, 56, 31, 57, 58, 59, 60, 40, 41, 5, 6, 7, 68, 69, 70, 71, 72, 73, 74, 75, 76, 77, 78] (by decide +kernel) (by decide +kernel)
set_option maxRecDepth 20000 in
theorem gX3_guess_X0_guessedCells : GoodIn wsX3_guess (wsV RX3 124 RX0 yX0_guessedCells wsX0_guessedCells) := goodIn_app (goodIn_of _ (by decide +kernel)) ggX3_guess_X0_guessedCells
theorem dX3_guess_0 : decode cX3_guess 0 = .ok (.iload_n 1, 1) := by decide +kernel
theorem dX3_guess_1 : decode cX3_guess 1 = .ok (.invokestatic 107, 3) := by decide +kernel
theorem dX3_guess_4 : decode cX3_guess 4 = .ok (.ifCond .ne 5, 3) := by decide +kernel
theorem dX3_guess_7 : decode cX3_guess 7 = .ok (.iconst (-1), 1) := by decide +kernel
theorem dX3_guess_8 : decode cX3_guess 8 = .ok (.ireturn, 1) := by decide +kernel
theorem dX3_guess_9 : decode cX3_guess 9 = .ok (.iload_n 2, 1) := by decide +kernel
theorem dX3_guess_10 : decode cX3_guess 10 = .ok (.bipush 46, 2) := by decide +kernel
theorem dX3_guess_12 : decode cX3_guess 12 = .ok (.if_icmp .eq 13, 3) := by decide +kernel
theorem dX3_guess_15 : decode cX3_guess 15 = .ok (.iload_n 2, 1) := by decide +kernel
theorem dX3_guess_16 : decode cX3_guess 16 = .ok (.invokestatic 110, 3) := by decide +kernel
theorem dX3_guess_19 : decode cX3_guess 19 = .ok (.ifCond .ne 6, 3) := by decide +kernel
theorem dX3_guess_22 : decode cX3_guess 22 = .ok (.bipush (-2), 2) := by decide +kernel
theorem dX3_guess_24 : decode cX3_guess 24 = .ok (.ireturn, 1) := by decide +kernel
theorem dX3_guess_25 : decode cX3_guess 25 = .ok (.iload_n 2, 1) := by decide +kernel
theorem dX3_guess_26 : decode cX3_guess 26 = .ok (.bipush 46, 2) := by decide +kernel
theorem dX3_guess_28 : decode cX3_guess 28 = .ok (.if_icmp .ne 7, 3) := by decide +kernel
theorem dX3_guess_31 : decode cX3_guess 31 = .ok (.iconst 0, 1) := by decide +kernel
theorem dX3_guess_32 : decode cX3_guess 32 = .ok (.goto 4, 3) := by decide +kernel
theorem dX3_guess_35 : decode cX3_guess 35 = .ok (.iload_n 2, 1) := by decide +kernel
theorem dX3_guess_36 : decode cX3_guess 36 = .ok (.istore_n 3, 1) := by decide +kernel
theorem dX3_guess_37 : decode cX3_guess 37 = .ok (.aload_n 0, 1) := by decide +kernel
theorem dX3_guess_38 : decode cX3_guess 38 = .ok (.getfield 12, 3) := by decide +kernel
theorem dX3_guess_41 : decode cX3_guess 41 = .ok (.getfield 113, 3) := by decide +kernel
theorem dX3_guess_44 : decode cX3_guess 44 = .ok (.iload_n 1, 1) := by decide +kernel
theorem dX3_guess_45 : decode cX3_guess 45 = .ok (.baload, 1) := by decide +kernel
theorem dX3_guess_46 : decode cX3_guess 46 = .ok (.ifCond .ne 12, 3) := by decide +kernel
theorem dX3_guess_49 : decode cX3_guess 49 = .ok (.aload_n 0, 1) := by decide +kernel
theorem dX3_guess_50 : decode cX3_guess 50 = .ok (.iload_n 3, 1) := by decide +kernel
theorem dX3_guess_51 : decode cX3_guess 51 = .ok (.iload_n 1, 1) := by decide +kernel
theorem dX3_guess_52 : decode cX3_guess 52 = .ok (.invokevirtual 117, 3) := by decide +kernel
theorem dX3_guess_55 : decode cX3_guess 55 = .ok (.ifCond .eq 6, 3) := by decide +kernel
theorem dX3_guess_58 : decode cX3_guess 58 = .ok (.bipush (-4), 2) := by decide +kernel
theorem dX3_guess_60 : decode cX3_guess 60 = .ok (.ireturn, 1) := by decide +kernel
theorem dX3_guess_61 : decode cX3_guess 61 = .ok (.aload_n 0, 1) := by decide +kernel
theorem dX3_guess_62 : decode cX3_guess 62 = .ok (.getfield 12, 3) := by decide +kernel
theorem dX3_guess_65 : decode cX3_guess 65 = .ok (.getfield 121, 3) := by decide +kernel
theorem dX3_guess_68 : decode cX3_guess 68 = .ok (.iload_n 1, 1) := by decide +kernel
theorem dX3_guess_69 : decode cX3_guess 69 = .ok (.iaload, 1) := by decide +kernel
theorem dX3_guess_70 : decode cX3_guess 70 = .ok (.iload_n 3, 1) := by decide +kernel
theorem dX3_guess_71 : decode cX3_guess 71 = .ok (.if_icmp .ne 6, 3) := by decide +kernel
theorem dX3_guess_74 : decode cX3_guess 74 = .ok (.bipush (-5), 2) := by decide +kernel
theorem dX3_guess_76 : decode cX3_guess 76 = .ok (.ireturn, 1) := by decide +kernel
theorem dX3_guess_77 : decode cX3_guess 77 = .ok (.aload_n 0, 1) := by decide +kernel
theorem dX3_guess_78 : decode cX3_guess 78 = .ok (.invokevirtual 45, 3) := by decide +kernel
theorem dX3_guess_81 : decode cX3_guess 81 = .ok (.aload_n 0, 1) := by decide +kernel
theorem dX3_guess_82 : decode cX3_guess 82 = .ok (.getfield 12, 3) := by decide +kernel
theorem dX3_guess_85 : decode cX3_guess 85 = .ok (.getfield 121, 3) := by decide +kernel
theorem dX3_guess_88 : decode cX3_guess 88 = .ok (.iload_n 1, 1) := by decide +kernel
theorem dX3_guess_89 : decode cX3_guess 89 = .ok (.iload_n 3, 1) := by decide +kernel
theorem dX3_guess_90 : decode cX3_guess 90 = .ok (.iastore, 1) := by decide +kernel
theorem dX3_guess_91 : decode cX3_guess 91 = .ok (.aload_n 0, 1) := by decide +kernel
theorem dX3_guess_92 : decode cX3_guess 92 = .ok (.getfield 12, 3) := by decide +kernel
theorem dX3_guess_95 : decode cX3_guess 95 = .ok (.invokevirtual 124, 3) := by decide +kernel
theorem dX3_guess_98 : decode cX3_guess 98 = .ok (.ireturn, 1) := by decide +kernel
set_option maxRecDepth 20000 in
theorem ggX3_guessWord_X3_isWord : GoodIn wsX3_guessWord wsX3_isWord := goodIn_r _ [9, 1, 10, 99, 100, 101, 102, 103, 104, 105, 106, 107, 108, 109] (by decide +kernel) (by decide +kernel)
set_option maxRecDepth 20000 in
theorem gX3_guessWord_X3_isWord : GoodIn wsX3_guessWord (wsV RX3 127 RX3 yX3_isWord wsX3_isWord) := goodIn_app (goodIn_of _ (by decide +kernel)) ggX3_guessWord_X3_isWord
set_option maxRecDepth 20000 in
theorem ggX3_guessWord_X3_isInList : GoodIn wsX3_guessWord wsX3_isInList := goodIn_r _ [14, 3, 15, 99, 100, 101, 102, 103, 104, 105, 110, 111, 112, 113, 114, 115, 116, 117, 118, 119, 120] (by decide +kernel) (by decide +kernel)
set_option maxRecDepth 20000 in
theorem gX3_guessWord_X3_isInList : GoodIn wsX3_guessWord (wsV RX3 101 RX3 yX3_isInList wsX3_isInList) := goodIn_app (goodIn_of _ (by decide +kernel)) ggX3_guessWord_X3_isInList
set_option maxRecDepth 20000 in
theorem ggX3_guessWord_X3_isFitting : GoodIn wsX3_guessWord wsX3_isFitting := goodIn_r _ [19, 1, 2, 3, 20, 21, 22, 23, 24, 25, 26, 27, 28, 29, 8, 30, 31, 32, 33, 34, 35, 36, 37, 38, 39, 40, 41, 42, 43, 44, 45, 46, 47, 48, 49, 50, 51, 52, 53, 54, 55, 56, 57, 58, 59, 60, 61, 4, 62, 63, 64, 65, 66, 67, 68, 69, 99, 100, 101, 102, 103, 104, 105, 106, 107, 108, 109, 110, 111, 112, 113, 114, 115, 116, 117, 118, 119, 120] (by decide +kernel) (by decide +kernel)
set_option maxRecDepth 20000 in
theorem gX3_guessWord_X3_isFitting : GoodIn wsX3_guessWord (wsV RX3 130 RX3 yX3_isFitting wsX3_isFitting) := goodIn_app (goodIn_of _ (by decide +kernel)) ggX3_guessWord_X3_isFitting
set_option maxRecDepth 20000 in
theorem ggX3_guessWord_X3_guessedCellsOf : GoodIn wsX3_guessWord wsX3_guessedCellsOf := goodIn_r _ [73, 1, 2, 3, 31, 32, 33, 34, 35, 36, 37, 74, 75, 76, 24, 77, 57, 78, 39, 40, 41, 42, 43, 44, 45, 46, 47, 48, 63, 8, 64, 99, 100, 101, 102, 103, 104, 105, 106, 107, 108, 109, 110, 111, 112, 113, 114, 115, 116, 117, 118, 119, 120] (by decide +kernel) (by decide +kernel)
set_option maxRecDepth 20000 in
theorem gX3_guessWord_X3_guessedCellsOf : GoodIn wsX3_guessWord (wsV RX3 133 RX3 yX3_guessedCellsOf wsX3_guessedCellsOf) := goodIn_app (goodIn_of _ (by decide +kernel)) ggX3_guessWord_X3_guessedCellsOf
set_option maxRecDepth 20000 in
theorem ggX3_guessWord_X3_remember : GoodIn wsX3_guessWord wsX3_remember := goodIn_r _ [82, 83, 84, 3, 85, 86, 87, 24, 88, 42, 89, 90, 91, 92, 26, 93, 57, 94, 95, 47, 48, 96, 97, 98, 99, 100, 101, 102, 103, 104, 105, 110, 111, 112, 113, 114, 115, 116, 117, 118, 119, 120] (by decide +kernel) (by decide +kernel)
set_option maxRecDepth 20000 in
theorem gX3_guessWord_X3_remember : GoodIn wsX3_guessWord (wsV RX3 45 RX3 yX3_remember wsX3_remember) := goodIn_app (goodIn_of _ (by decide +kernel)) ggX3_guessWord_X3_remember
set_option maxRecDepth 20000 in
theorem ggX3_guessWord_X3_numberIn : GoodIn wsX3_guessWord wsX3_numberIn := goodIn_r _ [30, 3, 1, 31, 32, 33, 34, 35, 36, 37, 38, 39, 40, 24, 41, 42, 43, 44, 45, 46, 47, 48, 99, 100, 101, 102, 103, 104, 105, 106, 107, 108, 109, 110, 111, 112, 113, 114, 115, 116, 117, 118, 119, 120] (by decide +kernel) (by decide +kernel)
set_option maxRecDepth 20000 in
theorem gX3_guessWord_X3_numberIn : GoodIn wsX3_guessWord (wsV RX3 139 RX3 yX3_numberIn wsX3_numberIn) := goodIn_app (goodIn_of _ (by decide +kernel)) ggX3_guessWord_X3_numberIn
set_option maxRecDepth 20000 in
theorem ggX3_guessWord_X3_isUnguessed : GoodIn wsX3_guessWord wsX3_isUnguessed := goodIn_r _ [61, 3, 4, 62, 63, 8, 64, 99, 100, 101, 102, 103, 104, 105, 110, 111, 112, 113, 114, 115, 116, 117, 118, 119, 120] (by decide +kernel) (by decide +kernel)
set_option maxRecDepth 20000 in
theorem gX3_guessWord_X3_isUnguessed : GoodIn wsX3_guessWord (wsV RX3 143 RX3 yX3_isUnguessed wsX3_isUnguessed) := goodIn_app (goodIn_of _ (by decide +kernel)) ggX3_guessWord_X3_isUnguessed
set_option maxRecDepth 20000 in
theorem ggX3_guessWord_X0_listedLetter : GoodIn wsX3_guessWord wsX0_listedLetter := goodIn_r _ [25, 26, 110, 111, 112, 113, 114, 115, 116, 117, 118, 119, 120] (by decide +kernel) (by decide +kernel)
set_option maxRecDepth 20000 in
theorem gX3_guessWord_X0_listedLetter : GoodIn wsX3_guessWord (wsV RX3 146 RX0 yX0_listedLetter wsX0_listedLetter) := goodIn_app (goodIn_of _ (by decide +kernel)) ggX3_guessWord_X0_listedLetter
theorem dX3_guessWord_0 : decode cX3_guessWord 0 = .ok (.aload_n 0, 1) := by decide +kernel
theorem dX3_guessWord_1 : decode cX3_guessWord 1 = .ok (.iload_n 1, 1) := by decide +kernel
theorem dX3_guessWord_2 : decode cX3_guessWord 2 = .ok (.invokevirtual 127, 3) := by decide +kernel
theorem dX3_guessWord_5 : decode cX3_guessWord 5 = .ok (.ifCond .eq 11, 3) := by decide +kernel
theorem dX3_guessWord_8 : decode cX3_guessWord 8 = .ok (.aload_n 0, 1) := by decide +kernel
theorem dX3_guessWord_9 : decode cX3_guessWord 9 = .ok (.iload_n 2, 1) := by decide +kernel
theorem dX3_guessWord_10 : decode cX3_guessWord 10 = .ok (.invokevirtual 101, 3) := by decide +kernel
theorem dX3_guessWord_13 : decode cX3_guessWord 13 = .ok (.ifCond .ne 5, 3) := by decide +kernel
theorem dX3_guessWord_16 : decode cX3_guessWord 16 = .ok (.iconst (-1), 1) := by decide +kernel
theorem dX3_guessWord_17 : decode cX3_guessWord 17 = .ok (.ireturn, 1) := by decide +kernel
theorem dX3_guessWord_18 : decode cX3_guessWord 18 = .ok (.aload_n 0, 1) := by decide +kernel
theorem dX3_guessWord_19 : decode cX3_guessWord 19 = .ok (.iload_n 1, 1) := by decide +kernel
theorem dX3_guessWord_20 : decode cX3_guessWord 20 = .ok (.iload_n 2, 1) := by decide +kernel
theorem dX3_guessWord_21 : decode cX3_guessWord 21 = .ok (.invokevirtual 130, 3) := by decide +kernel
theorem dX3_guessWord_24 : decode cX3_guessWord 24 = .ok (.ifCond .ne 6, 3) := by decide +kernel
theorem dX3_guessWord_27 : decode cX3_guessWord 27 = .ok (.bipush (-4), 2) := by decide +kernel
theorem dX3_guessWord_29 : decode cX3_guessWord 29 = .ok (.ireturn, 1) := by decide +kernel
theorem dX3_guessWord_30 : decode cX3_guessWord 30 = .ok (.aload_n 0, 1) := by decide +kernel
theorem dX3_guessWord_31 : decode cX3_guessWord 31 = .ok (.iload_n 1, 1) := by decide +kernel
theorem dX3_guessWord_32 : decode cX3_guessWord 32 = .ok (.invokevirtual 133, 3) := by decide +kernel
theorem dX3_guessWord_35 : decode cX3_guessWord 35 = .ok (.aload_n 0, 1) := by decide +kernel
theorem dX3_guessWord_36 : decode cX3_guessWord 36 = .ok (.getfield 19, 3) := by decide +kernel
theorem dX3_guessWord_39 : decode cX3_guessWord 39 = .ok (.getfield 136, 3) := by decide +kernel
theorem dX3_guessWord_42 : decode cX3_guessWord 42 = .ok (.iload_n 1, 1) := by decide +kernel
theorem dX3_guessWord_43 : decode cX3_guessWord 43 = .ok (.iaload, 1) := by decide +kernel
theorem dX3_guessWord_44 : decode cX3_guessWord 44 = .ok (.if_icmp .ne 6, 3) := by decide +kernel
theorem dX3_guessWord_47 : decode cX3_guessWord 47 = .ok (.bipush (-5), 2) := by decide +kernel
theorem dX3_guessWord_49 : decode cX3_guessWord 49 = .ok (.ireturn, 1) := by decide +kernel
theorem dX3_guessWord_50 : decode cX3_guessWord 50 = .ok (.aload_n 0, 1) := by decide +kernel
theorem dX3_guessWord_51 : decode cX3_guessWord 51 = .ok (.invokevirtual 45, 3) := by decide +kernel
theorem dX3_guessWord_54 : decode cX3_guessWord 54 = .ok (.iconst 0, 1) := by decide +kernel
theorem dX3_guessWord_55 : decode cX3_guessWord 55 = .ok (.istore_n 3, 1) := by decide +kernel
theorem dX3_guessWord_56 : decode cX3_guessWord 56 = .ok (.iconst 0, 1) := by decide +kernel
theorem dX3_guessWord_57 : decode cX3_guessWord 57 = .ok (.istore 4, 2) := by decide +kernel
theorem dX3_guessWord_59 : decode cX3_guessWord 59 = .ok (.iload 4, 2) := by decide +kernel
theorem dX3_guessWord_61 : decode cX3_guessWord 61 = .ok (.aload_n 0, 1) := by decide +kernel
theorem dX3_guessWord_62 : decode cX3_guessWord 62 = .ok (.getfield 19, 3) := by decide +kernel
theorem dX3_guessWord_65 : decode cX3_guessWord 65 = .ok (.getfield 136, 3) := by decide +kernel
theorem dX3_guessWord_68 : decode cX3_guessWord 68 = .ok (.iload_n 1, 1) := by decide +kernel
theorem dX3_guessWord_69 : decode cX3_guessWord 69 = .ok (.iaload, 1) := by decide +kernel
theorem dX3_guessWord_70 : decode cX3_guessWord 70 = .ok (.if_icmp .ge 50, 3) := by decide +kernel
theorem dX3_guessWord_73 : decode cX3_guessWord 73 = .ok (.aload_n 0, 1) := by decide +kernel
theorem dX3_guessWord_74 : decode cX3_guessWord 74 = .ok (.iload_n 1, 1) := by decide +kernel
theorem dX3_guessWord_75 : decode cX3_guessWord 75 = .ok (.iload 4, 2) := by decide +kernel
theorem dX3_guessWord_77 : decode cX3_guessWord 77 = .ok (.invokevirtual 139, 3) := by decide +kernel
theorem dX3_guessWord_80 : decode cX3_guessWord 80 = .ok (.istore 5, 2) := by decide +kernel
theorem dX3_guessWord_82 : decode cX3_guessWord 82 = .ok (.aload_n 0, 1) := by decide +kernel
theorem dX3_guessWord_83 : decode cX3_guessWord 83 = .ok (.iload 5, 2) := by decide +kernel
theorem dX3_guessWord_85 : decode cX3_guessWord 85 = .ok (.invokevirtual 143, 3) := by decide +kernel
theorem dX3_guessWord_88 : decode cX3_guessWord 88 = .ok (.ifCond .eq 26, 3) := by decide +kernel
theorem dX3_guessWord_91 : decode cX3_guessWord 91 = .ok (.aload_n 0, 1) := by decide +kernel
theorem dX3_guessWord_92 : decode cX3_guessWord 92 = .ok (.getfield 12, 3) := by decide +kernel
theorem dX3_guessWord_95 : decode cX3_guessWord 95 = .ok (.getfield 121, 3) := by decide +kernel
theorem dX3_guessWord_98 : decode cX3_guessWord 98 = .ok (.iload 5, 2) := by decide +kernel
theorem dX3_guessWord_100 : decode cX3_guessWord 100 = .ok (.aload_n 0, 1) := by decide +kernel
theorem dX3_guessWord_101 : decode cX3_guessWord 101 = .ok (.getfield 12, 3) := by decide +kernel
theorem dX3_guessWord_104 : decode cX3_guessWord 104 = .ok (.iload_n 2, 1) := by decide +kernel
theorem dX3_guessWord_105 : decode cX3_guessWord 105 = .ok (.iload 4, 2) := by decide +kernel
theorem dX3_guessWord_107 : decode cX3_guessWord 107 = .ok (.invokevirtual 146, 3) := by decide +kernel
theorem dX3_guessWord_110 : decode cX3_guessWord 110 = .ok (.iastore, 1) := by decide +kernel
theorem dX3_guessWord_111 : decode cX3_guessWord 111 = .ok (.iinc 3 1, 3) := by decide +kernel
theorem dX3_guessWord_114 : decode cX3_guessWord 114 = .ok (.iinc 4 1, 3) := by decide +kernel
theorem dX3_guessWord_117 : decode cX3_guessWord 117 = .ok (.goto (-58), 3) := by decide +kernel
theorem dX3_guessWord_120 : decode cX3_guessWord 120 = .ok (.iload_n 3, 1) := by decide +kernel
theorem dX3_guessWord_121 : decode cX3_guessWord 121 = .ok (.ireturn, 1) := by decide +kernel
set_option maxRecDepth 20000 in
theorem ggX3_buy_X3_isNumber : GoodIn wsX3_buy wsX3_isNumber := goodIn_r _ [9] (by decide +kernel) (by decide +kernel)
set_option maxRecDepth 20000 in
theorem gX3_buy_X3_isNumber : GoodIn wsX3_buy (va_wsS RX3 107 yX3_isNumber wsX3_isNumber) := goodIn_app (goodIn_of _ (by decide +kernel)) ggX3_buy_X3_isNumber
set_option maxRecDepth 20000 in
theorem ggX3_buy_X0_priceOf : GoodIn wsX3_buy wsX0_priceOf := goodIn_r _ [14, 15, 16, 17, 18, 19, 20, 21, 13, 22, 23, 24, 25, 26, 27, 28, 29, 30, 31, 32, 33, 72, 73, 74, 75, 76, 77, 78, 79, 80, 81, 82] (by decide +kernel) (by decide +kernel)
set_option maxRecDepth 20000 in
theorem gX3_buy_X0_priceOf : GoodIn wsX3_buy (wsV RX3 149 RX0 yX0_priceOf wsX0_priceOf) := goodIn_app (goodIn_of _ (by decide +kernel)) ggX3_buy_X0_priceOf
set_option maxRecDepth 20000 in
theorem ggX3_buy_X0_cellsWith : GoodIn wsX3_buy wsX0_cellsWith := goodIn_r _ [22, 23, 24, 25, 13, 26, 27, 28, 29, 30, 31, 32, 33, 72, 73, 74, 75, 76, 77, 78, 79, 80, 81, 82] (by decide +kernel) (by decide +kernel)
set_option maxRecDepth 20000 in
theorem gX3_buy_X0_cellsWith : GoodIn wsX3_buy (wsV RX3 155 RX0 yX0_cellsWith wsX0_cellsWith) := goodIn_app (goodIn_of _ (by decide +kernel)) ggX3_buy_X0_cellsWith
set_option maxRecDepth 20000 in
theorem ggX3_buy_X3_remember : GoodIn wsX3_buy wsX3_remember := goodIn_r _ [38, 39, 40, 1, 41, 42, 43, 13, 44, 27, 45, 46, 47, 48, 49, 50, 51, 52, 53, 32, 33, 54, 55, 56, 65, 66, 67, 68, 69, 70, 71, 72, 73, 74, 75, 76, 77, 78, 79, 80, 81, 82] (by decide +kernel) (by decide +kernel)
set_option maxRecDepth 20000 in
theorem gX3_buy_X3_remember : GoodIn wsX3_buy (wsV RX3 45 RX3 yX3_remember wsX3_remember) := goodIn_app (goodIn_of _ (by decide +kernel)) ggX3_buy_X3_remember
set_option maxRecDepth 20000 in
theorem ggX3_buy_X0_letterOf : GoodIn wsX3_buy wsX0_letterOf := goodIn_r _ [60, 28, 29, 30, 13, 31, 32, 33, 72, 73, 74, 75, 76, 77, 78, 79, 80, 81, 82] (by decide +kernel) (by decide +kernel)
set_option maxRecDepth 20000 in
theorem gX3_buy_X0_letterOf : GoodIn wsX3_buy (wsV RX3 158 RX0 yX0_letterOf wsX0_letterOf) := goodIn_app (goodIn_of _ (by decide +kernel)) ggX3_buy_X0_letterOf
set_option maxRecDepth 20000 in
theorem ggX3_buy_X0_numberGuessedAs : GoodIn wsX3_buy wsX0_numberGuessedAs := goodIn_r _ [64, 51, 72, 73, 74, 75, 76, 77, 78, 79, 80, 81, 82] (by decide +kernel) (by decide +kernel)
set_option maxRecDepth 20000 in
theorem gX3_buy_X0_numberGuessedAs : GoodIn wsX3_buy (wsV RX3 161 RX0 yX0_numberGuessedAs wsX0_numberGuessedAs) := goodIn_app (goodIn_of _ (by decide +kernel)) ggX3_buy_X0_numberGuessedAs
