theorem dX6_fails_0 : decode cX6_fails 0 = .ok (.aload_n 0, 1) := by decide +kernel
theorem dX6_fails_1 : decode cX6_fails 1 = .ok (.iload_n 1, 1) := by decide +kernel
theorem dX6_fails_2 : decode cX6_fails 2 = .ok (.putfield 228, 3) := by decide +kernel
theorem dX6_fails_5 : decode cX6_fails 5 = .ok (.iconst 0, 1) := by decide +kernel
theorem dX6_fails_6 : decode cX6_fails 6 = .ok (.ireturn, 1) := by decide +kernel
theorem dX6_manyOf_0 : decode cX6_manyOf 0 = .ok (.iload_n 0, 1) := by decide +kernel
theorem dX6_manyOf_1 : decode cX6_manyOf 1 = .ok (.bipush 98, 2) := by decide +kernel
theorem dX6_manyOf_3 : decode cX6_manyOf 3 = .ok (.if_icmp .ne 8, 3) := by decide +kernel
theorem dX6_manyOf_6 : decode cX6_manyOf 6 = .ok (.bipush 8, 2) := by decide +kernel
theorem dX6_manyOf_8 : decode cX6_manyOf 8 = .ok (.goto 44, 3) := by decide +kernel
theorem dX6_manyOf_11 : decode cX6_manyOf 11 = .ok (.iload_n 0, 1) := by decide +kernel
theorem dX6_manyOf_12 : decode cX6_manyOf 12 = .ok (.bipush 101, 2) := by decide +kernel
theorem dX6_manyOf_14 : decode cX6_manyOf 14 = .ok (.if_icmp .ne 7, 3) := by decide +kernel
theorem dX6_manyOf_17 : decode cX6_manyOf 17 = .ok (.iconst 3, 1) := by decide +kernel
theorem dX6_manyOf_18 : decode cX6_manyOf 18 = .ok (.goto 34, 3) := by decide +kernel
theorem dX6_manyOf_21 : decode cX6_manyOf 21 = .ok (.iload_n 0, 1) := by decide +kernel
theorem dX6_manyOf_22 : decode cX6_manyOf 22 = .ok (.bipush 108, 2) := by decide +kernel
theorem dX6_manyOf_24 : decode cX6_manyOf 24 = .ok (.if_icmp .ne 7, 3) := by decide +kernel
theorem dX6_manyOf_27 : decode cX6_manyOf 27 = .ok (.iconst 0, 1) := by decide +kernel
theorem dX6_manyOf_28 : decode cX6_manyOf 28 = .ok (.goto 24, 3) := by decide +kernel
theorem dX6_manyOf_31 : decode cX6_manyOf 31 = .ok (.iload_n 0, 1) := by decide +kernel
theorem dX6_manyOf_32 : decode cX6_manyOf 32 = .ok (.bipush 114, 2) := by decide +kernel
theorem dX6_manyOf_34 : decode cX6_manyOf 34 = .ok (.if_icmp .ne 7, 3) := by decide +kernel
theorem dX6_manyOf_37 : decode cX6_manyOf 37 = .ok (.iconst 1, 1) := by decide +kernel
theorem dX6_manyOf_38 : decode cX6_manyOf 38 = .ok (.goto 14, 3) := by decide +kernel
theorem dX6_manyOf_41 : decode cX6_manyOf 41 = .ok (.iload_n 0, 1) := by decide +kernel
theorem dX6_manyOf_42 : decode cX6_manyOf 42 = .ok (.bipush 99, 2) := by decide +kernel
theorem dX6_manyOf_44 : decode cX6_manyOf 44 = .ok (.if_icmp .ne 7, 3) := by decide +kernel
theorem dX6_manyOf_47 : decode cX6_manyOf 47 = .ok (.iconst 2, 1) := by decide +kernel
theorem dX6_manyOf_48 : decode cX6_manyOf 48 = .ok (.goto 4, 3) := by decide +kernel
theorem dX6_manyOf_51 : decode cX6_manyOf 51 = .ok (.iconst (-1), 1) := by decide +kernel
theorem dX6_manyOf_52 : decode cX6_manyOf 52 = .ok (.ireturn, 1) := by decide +kernel
set_option maxRecDepth 20000 in
theorem ggX6_takesNumber_X6_blanks : GoodIn wsX6_takesNumber wsX6_blanks := goodIn_r _ [8, 1, 9, 10, 11, 7, 12, 13, 2, 14, 15, 16, 22, 23, 24, 25, 26, 27, 28, 29, 30, 31, 32, 33, 34, 35, 36, 37, 38, 39, 40, 41, 42] (by decide +kernel) (by decide +kernel)
set_option maxRecDepth 20000 in
theorem gX6_takesNumber_X6_blanks : GoodIn wsX6_takesNumber (wsV RX6 231 RX6 yX6_blanks wsX6_blanks) := goodIn_app (goodIn_of _ (by decide +kernel)) ggX6_takesNumber_X6_blanks
set_option maxRecDepth 20000 in
theorem ggX6_takesNumber_X6_isAt : GoodIn wsX6_takesNumber wsX6_isAt := goodIn_r _ [12, 1, 13, 2, 14, 15, 7, 16, 22, 23, 24, 25, 26, 27, 28, 29, 30, 31, 32, 33, 34, 35, 36, 37, 38, 39, 40, 41, 42] (by decide +kernel) (by decide +kernel)
set_option maxRecDepth 20000 in
theorem gX6_takesNumber_X6_isAt : GoodIn wsX6_takesNumber (wsV RX6 225 RX6 yX6_isAt wsX6_isAt) := goodIn_app (goodIn_of _ (by decide +kernel)) ggX6_takesNumber_X6_isAt
set_option maxRecDepth 20000 in
theorem ggX6_takesNumber_X6_fails : GoodIn wsX6_takesNumber wsX6_fails := goodIn_r _ [20, 21, 22, 23, 24, 25, 26, 27, 28, 29, 30, 31, 32, 33, 34, 35, 36, 37, 38, 39, 40, 41, 42] (by decide +kernel) (by decide +kernel)
set_option maxRecDepth 20000 in
theorem gX6_takesNumber_X6_fails : GoodIn wsX6_takesNumber (wsV RX6 234 RX6 yX6_fails wsX6_fails) := goodIn_app (goodIn_of _ (by decide +kernel)) ggX6_takesNumber_X6_fails
theorem dX6_takesNumber_0 : decode cX6_takesNumber 0 = .ok (.aload_n 0, 1) := by decide +kernel
theorem dX6_takesNumber_1 : decode cX6_takesNumber 1 = .ok (.invokevirtual 231, 3) := by decide +kernel
theorem dX6_takesNumber_4 : decode cX6_takesNumber 4 = .ok (.aload_n 0, 1) := by decide +kernel
theorem dX6_takesNumber_5 : decode cX6_takesNumber 5 = .ok (.getfield 222, 3) := by decide +kernel
theorem dX6_takesNumber_8 : decode cX6_takesNumber 8 = .ok (.istore_n 2, 1) := by decide +kernel
theorem dX6_takesNumber_9 : decode cX6_takesNumber 9 = .ok (.iconst 0, 1) := by decide +kernel
theorem dX6_takesNumber_10 : decode cX6_takesNumber 10 = .ok (.istore_n 3, 1) := by decide +kernel
theorem dX6_takesNumber_11 : decode cX6_takesNumber 11 = .ok (.aload_n 0, 1) := by decide +kernel
theorem dX6_takesNumber_12 : decode cX6_takesNumber 12 = .ok (.bipush 48, 2) := by decide +kernel
theorem dX6_takesNumber_14 : decode cX6_takesNumber 14 = .ok (.bipush 57, 2) := by decide +kernel
theorem dX6_takesNumber_16 : decode cX6_takesNumber 16 = .ok (.invokevirtual 225, 3) := by decide +kernel
theorem dX6_takesNumber_19 : decode cX6_takesNumber 19 = .ok (.ifCond .eq 53, 3) := by decide +kernel
theorem dX6_takesNumber_22 : decode cX6_takesNumber 22 = .ok (.aload_n 0, 1) := by decide +kernel
theorem dX6_takesNumber_23 : decode cX6_takesNumber 23 = .ok (.getfield 222, 3) := by decide +kernel
theorem dX6_takesNumber_26 : decode cX6_takesNumber 26 = .ok (.iload_n 2, 1) := by decide +kernel
theorem dX6_takesNumber_27 : decode cX6_takesNumber 27 = .ok (.iconst 5, 1) := by decide +kernel
theorem dX6_takesNumber_28 : decode cX6_takesNumber 28 = .ok (.iadd, 1) := by decide +kernel
theorem dX6_takesNumber_29 : decode cX6_takesNumber 29 = .ok (.if_icmp .ne 12, 3) := by decide +kernel
theorem dX6_takesNumber_32 : decode cX6_takesNumber 32 = .ok (.aload_n 0, 1) := by decide +kernel
theorem dX6_takesNumber_33 : decode cX6_takesNumber 33 = .ok (.aload_n 0, 1) := by decide +kernel
theorem dX6_takesNumber_34 : decode cX6_takesNumber 34 = .ok (.getfield 222, 3) := by decide +kernel
theorem dX6_takesNumber_37 : decode cX6_takesNumber 37 = .ok (.invokevirtual 234, 3) := by decide +kernel
theorem dX6_takesNumber_40 : decode cX6_takesNumber 40 = .ok (.ireturn, 1) := by decide +kernel
theorem dX6_takesNumber_41 : decode cX6_takesNumber 41 = .ok (.bipush 10, 2) := by decide +kernel
theorem dX6_takesNumber_43 : decode cX6_takesNumber 43 = .ok (.iload_n 3, 1) := by decide +kernel
theorem dX6_takesNumber_44 : decode cX6_takesNumber 44 = .ok (.imul, 1) := by decide +kernel
theorem dX6_takesNumber_45 : decode cX6_takesNumber 45 = .ok (.aload_n 0, 1) := by decide +kernel
theorem dX6_takesNumber_46 : decode cX6_takesNumber 46 = .ok (.getfield 22, 3) := by decide +kernel
theorem dX6_takesNumber_49 : decode cX6_takesNumber 49 = .ok (.aload_n 0, 1) := by decide +kernel
theorem dX6_takesNumber_50 : decode cX6_takesNumber 50 = .ok (.getfield 222, 3) := by decide +kernel
theorem dX6_takesNumber_53 : decode cX6_takesNumber 53 = .ok (.iaload, 1) := by decide +kernel
theorem dX6_takesNumber_54 : decode cX6_takesNumber 54 = .ok (.iadd, 1) := by decide +kernel
theorem dX6_takesNumber_55 : decode cX6_takesNumber 55 = .ok (.bipush 48, 2) := by decide +kernel
theorem dX6_takesNumber_57 : decode cX6_takesNumber 57 = .ok (.isub, 1) := by decide +kernel
theorem dX6_takesNumber_58 : decode cX6_takesNumber 58 = .ok (.istore_n 3, 1) := by decide +kernel
theorem dX6_takesNumber_59 : decode cX6_takesNumber 59 = .ok (.aload_n 0, 1) := by decide +kernel
theorem dX6_takesNumber_60 : decode cX6_takesNumber 60 = .ok (.dup, 1) := by decide +kernel
theorem dX6_takesNumber_61 : decode cX6_takesNumber 61 = .ok (.getfield 222, 3) := by decide +kernel
theorem dX6_takesNumber_64 : decode cX6_takesNumber 64 = .ok (.iconst 1, 1) := by decide +kernel
theorem dX6_takesNumber_65 : decode cX6_takesNumber 65 = .ok (.iadd, 1) := by decide +kernel
theorem dX6_takesNumber_66 : decode cX6_takesNumber 66 = .ok (.putfield 222, 3) := by decide +kernel
theorem dX6_takesNumber_69 : decode cX6_takesNumber 69 = .ok (.goto (-58), 3) := by decide +kernel
theorem dX6_takesNumber_72 : decode cX6_takesNumber 72 = .ok (.aload_n 0, 1) := by decide +kernel
theorem dX6_takesNumber_73 : decode cX6_takesNumber 73 = .ok (.getfield 49, 3) := by decide +kernel
theorem dX6_takesNumber_76 : decode cX6_takesNumber 76 = .ok (.iload_n 1, 1) := by decide +kernel
theorem dX6_takesNumber_77 : decode cX6_takesNumber 77 = .ok (.iload_n 3, 1) := by decide +kernel
theorem dX6_takesNumber_78 : decode cX6_takesNumber 78 = .ok (.iastore, 1) := by decide +kernel
theorem dX6_takesNumber_79 : decode cX6_takesNumber 79 = .ok (.aload_n 0, 1) := by decide +kernel
theorem dX6_takesNumber_80 : decode cX6_takesNumber 80 = .ok (.getfield 222, 3) := by decide +kernel
theorem dX6_takesNumber_83 : decode cX6_takesNumber 83 = .ok (.iload_n 2, 1) := by decide +kernel
theorem dX6_takesNumber_84 : decode cX6_takesNumber 84 = .ok (.if_icmp .gt 14, 3) := by decide +kernel
theorem dX6_takesNumber_87 : decode cX6_takesNumber 87 = .ok (.aload_n 0, 1) := by decide +kernel
theorem dX6_takesNumber_88 : decode cX6_takesNumber 88 = .ok (.aload_n 0, 1) := by decide +kernel
theorem dX6_takesNumber_89 : decode cX6_takesNumber 89 = .ok (.getfield 222, 3) := by decide +kernel
theorem dX6_takesNumber_92 : decode cX6_takesNumber 92 = .ok (.invokevirtual 234, 3) := by decide +kernel
theorem dX6_takesNumber_95 : decode cX6_takesNumber 95 = .ok (.ifCond .eq 7, 3) := by decide +kernel
theorem dX6_takesNumber_98 : decode cX6_takesNumber 98 = .ok (.iconst 1, 1) := by decide +kernel
theorem dX6_takesNumber_99 : decode cX6_takesNumber 99 = .ok (.goto 4, 3) := by decide +kernel
theorem dX6_takesNumber_102 : decode cX6_takesNumber 102 = .ok (.iconst 0, 1) := by decide +kernel
theorem dX6_takesNumber_103 : decode cX6_takesNumber 103 = .ok (.ireturn, 1) := by decide +kernel
set_option maxRecDepth 20000 in
theorem ggX6_takesOrder_X6_manyOf : GoodIn wsX6_takesOrder wsX6_manyOf := goodIn_r _ [9] (by decide +kernel) (by decide +kernel)
set_option maxRecDepth 20000 in
theorem gX6_takesOrder_X6_manyOf : GoodIn wsX6_takesOrder (va_wsS RX6 237 yX6_manyOf wsX6_manyOf) := goodIn_app (goodIn_of _ (by decide +kernel)) ggX6_takesOrder_X6_manyOf
set_option maxRecDepth 20000 in
theorem ggX6_takesOrder_X6_fails : GoodIn wsX6_takesOrder wsX6_fails := goodIn_r _ [13, 14, 32, 33, 34, 35, 36, 37, 38, 39, 40, 41, 42, 43, 44, 45, 46, 47, 48, 49, 50, 51, 52] (by decide +kernel) (by decide +kernel)
set_option maxRecDepth 20000 in
theorem gX6_takesOrder_X6_fails : GoodIn wsX6_takesOrder (wsV RX6 234 RX6 yX6_fails wsX6_fails) := goodIn_app (goodIn_of _ (by decide +kernel)) ggX6_takesOrder_X6_fails
set_option maxRecDepth 20000 in
theorem ggX6_takesOrder_X6_takesNumber : GoodIn wsX6_takesOrder wsX6_takesNumber := goodIn_r _ [18, 2, 1, 19, 20, 21, 22, 8, 23, 24, 25, 26, 27, 28, 29, 30, 31, 10, 11, 12, 13, 14, 32, 33, 34, 35, 36, 37, 38, 39, 40, 41, 42, 43, 44, 45, 46, 47, 48, 49, 50, 51, 52] (by decide +kernel) (by decide +kernel)
set_option maxRecDepth 20000 in
theorem gX6_takesOrder_X6_takesNumber : GoodIn wsX6_takesOrder (wsV RX6 243 RX6 yX6_takesNumber wsX6_takesNumber) := goodIn_app (goodIn_of _ (by decide +kernel)) ggX6_takesOrder_X6_takesNumber
set_option maxRecDepth 20000 in
theorem ggX6_takesOrder_X6_blanks : GoodIn wsX6_takesOrder wsX6_blanks := goodIn_r _ [23, 2, 24, 25, 26, 8, 27, 28, 1, 29, 30, 31, 32, 33, 34, 35, 36, 37, 38, 39, 40, 41, 42, 43, 44, 45, 46, 47, 48, 49, 50, 51, 52] (by decide +kernel) (by decide +kernel)
set_option maxRecDepth 20000 in
theorem gX6_takesOrder_X6_blanks : GoodIn wsX6_takesOrder (wsV RX6 231 RX6 yX6_blanks wsX6_blanks) := goodIn_app (goodIn_of _ (by decide +kernel)) ggX6_takesOrder_X6_blanks
set_option maxRecDepth 20000 in
theorem ggX6_takesOrder_X6_isAt : GoodIn wsX6_takesOrder wsX6_isAt := goodIn_r _ [27, 2, 28, 1, 29, 30, 8, 31, 32, 33, 34, 35, 36, 37, 38, 39, 40, 41, 42, 43, 44, 45, 46, 47, 48, 49, 50, 51, 52] (by decide +kernel) (by decide +kernel)
set_option maxRecDepth 20000 in
theorem gX6_takesOrder_X6_isAt : GoodIn wsX6_takesOrder (wsV RX6 225 RX6 yX6_isAt wsX6_isAt) := goodIn_app (goodIn_of _ (by decide +kernel)) ggX6_takesOrder_X6_isAt
theorem dX6_takesOrder_0 : decode cX6_takesOrder 0 = .ok (.aload_n 0, 1) := by decide +kernel
theorem dX6_takesOrder_1 : decode cX6_takesOrder 1 = .ok (.getfield 22, 3) := by decide +kernel
theorem dX6_takesOrder_4 : decode cX6_takesOrder 4 = .ok (.aload_n 0, 1) := by decide +kernel
theorem dX6_takesOrder_5 : decode cX6_takesOrder 5 = .ok (.getfield 222, 3) := by decide +kernel
theorem dX6_takesOrder_8 : decode cX6_takesOrder 8 = .ok (.iaload, 1) := by decide +kernel
theorem dX6_takesOrder_9 : decode cX6_takesOrder 9 = .ok (.istore_n 1, 1) := by decide +kernel
theorem dX6_takesOrder_10 : decode cX6_takesOrder 10 = .ok (.iload_n 1, 1) := by decide +kernel
theorem dX6_takesOrder_11 : decode cX6_takesOrder 11 = .ok (.invokestatic 237, 3) := by decide +kernel
theorem dX6_takesOrder_14 : decode cX6_takesOrder 14 = .ok (.istore_n 2, 1) := by decide +kernel
theorem dX6_takesOrder_15 : decode cX6_takesOrder 15 = .ok (.iload_n 2, 1) := by decide +kernel
theorem dX6_takesOrder_16 : decode cX6_takesOrder 16 = .ok (.ifCond .ge 12, 3) := by decide +kernel
theorem dX6_takesOrder_19 : decode cX6_takesOrder 19 = .ok (.aload_n 0, 1) := by decide +kernel
theorem dX6_takesOrder_20 : decode cX6_takesOrder 20 = .ok (.aload_n 0, 1) := by decide +kernel
theorem dX6_takesOrder_21 : decode cX6_takesOrder 21 = .ok (.getfield 222, 3) := by decide +kernel
theorem dX6_takesOrder_24 : decode cX6_takesOrder 24 = .ok (.invokevirtual 234, 3) := by decide +kernel
theorem dX6_takesOrder_27 : decode cX6_takesOrder 27 = .ok (.ireturn, 1) := by decide +kernel
theorem dX6_takesOrder_28 : decode cX6_takesOrder 28 = .ok (.aload_n 0, 1) := by decide +kernel
theorem dX6_takesOrder_29 : decode cX6_takesOrder 29 = .ok (.getfield 43, 3) := by decide +kernel
theorem dX6_takesOrder_32 : decode cX6_takesOrder 32 = .ok (.aload_n 0, 1) := by decide +kernel
theorem dX6_takesOrder_33 : decode cX6_takesOrder 33 = .ok (.getfield 240, 3) := by decide +kernel
theorem dX6_takesOrder_36 : decode cX6_takesOrder 36 = .ok (.iload_n 1, 1) := by decide +kernel
theorem dX6_takesOrder_37 : decode cX6_takesOrder 37 = .ok (.iastore, 1) := by decide +kernel
theorem dX6_takesOrder_38 : decode cX6_takesOrder 38 = .ok (.aload_n 0, 1) := by decide +kernel
theorem dX6_takesOrder_39 : decode cX6_takesOrder 39 = .ok (.dup, 1) := by decide +kernel
theorem dX6_takesOrder_40 : decode cX6_takesOrder 40 = .ok (.getfield 222, 3) := by decide +kernel
theorem dX6_takesOrder_43 : decode cX6_takesOrder 43 = .ok (.iconst 1, 1) := by decide +kernel
theorem dX6_takesOrder_44 : decode cX6_takesOrder 44 = .ok (.iadd, 1) := by decide +kernel
theorem dX6_takesOrder_45 : decode cX6_takesOrder 45 = .ok (.putfield 222, 3) := by decide +kernel
theorem dX6_takesOrder_48 : decode cX6_takesOrder 48 = .ok (.iconst 0, 1) := by decide +kernel
theorem dX6_takesOrder_49 : decode cX6_takesOrder 49 = .ok (.istore_n 3, 1) := by decide +kernel
theorem dX6_takesOrder_50 : decode cX6_takesOrder 50 = .ok (.iload_n 3, 1) := by decide +kernel
theorem dX6_takesOrder_51 : decode cX6_takesOrder 51 = .ok (.iload_n 2, 1) := by decide +kernel
theorem dX6_takesOrder_52 : decode cX6_takesOrder 52 = .ok (.if_icmp .ge 29, 3) := by decide +kernel
theorem dX6_takesOrder_55 : decode cX6_takesOrder 55 = .ok (.aload_n 0, 1) := by decide +kernel
theorem dX6_takesOrder_56 : decode cX6_takesOrder 56 = .ok (.aload_n 0, 1) := by decide +kernel
theorem dX6_takesOrder_57 : decode cX6_takesOrder 57 = .ok (.getfield 46, 3) := by decide +kernel
theorem dX6_takesOrder_60 : decode cX6_takesOrder 60 = .ok (.aload_n 0, 1) := by decide +kernel
theorem dX6_takesOrder_61 : decode cX6_takesOrder 61 = .ok (.getfield 240, 3) := by decide +kernel
theorem dX6_takesOrder_64 : decode cX6_takesOrder 64 = .ok (.iaload, 1) := by decide +kernel
theorem dX6_takesOrder_65 : decode cX6_takesOrder 65 = .ok (.iload_n 3, 1) := by decide +kernel
theorem dX6_takesOrder_66 : decode cX6_takesOrder 66 = .ok (.iadd, 1) := by decide +kernel
theorem dX6_takesOrder_67 : decode cX6_takesOrder 67 = .ok (.invokevirtual 243, 3) := by decide +kernel
theorem dX6_takesOrder_70 : decode cX6_takesOrder 70 = .ok (.ifCond .ne 5, 3) := by decide +kernel
theorem dX6_takesOrder_73 : decode cX6_takesOrder 73 = .ok (.iconst 0, 1) := by decide +kernel
theorem dX6_takesOrder_74 : decode cX6_takesOrder 74 = .ok (.ireturn, 1) := by decide +kernel
theorem dX6_takesOrder_75 : decode cX6_takesOrder 75 = .ok (.iinc 3 1, 3) := by decide +kernel
theorem dX6_takesOrder_78 : decode cX6_takesOrder 78 = .ok (.goto (-28), 3) := by decide +kernel
theorem dX6_takesOrder_81 : decode cX6_takesOrder 81 = .ok (.aload_n 0, 1) := by decide +kernel
theorem dX6_takesOrder_82 : decode cX6_takesOrder 82 = .ok (.invokevirtual 231, 3) := by decide +kernel
theorem dX6_takesOrder_85 : decode cX6_takesOrder 85 = .ok (.aload_n 0, 1) := by decide +kernel
theorem dX6_takesOrder_86 : decode cX6_takesOrder 86 = .ok (.bipush 59, 2) := by decide +kernel
theorem dX6_takesOrder_88 : decode cX6_takesOrder 88 = .ok (.bipush 59, 2) := by decide +kernel
theorem dX6_takesOrder_90 : decode cX6_takesOrder 90 = .ok (.invokevirtual 225, 3) := by decide +kernel
theorem dX6_takesOrder_93 : decode cX6_takesOrder 93 = .ok (.ifCond .ne 12, 3) := by decide +kernel
theorem dX6_takesOrder_96 : decode cX6_takesOrder 96 = .ok (.aload_n 0, 1) := by decide +kernel
theorem dX6_takesOrder_97 : decode cX6_takesOrder 97 = .ok (.aload_n 0, 1) := by decide +kernel
theorem dX6_takesOrder_98 : decode cX6_takesOrder 98 = .ok (.getfield 222, 3) := by decide +kernel
theorem dX6_takesOrder_101 : decode cX6_takesOrder 101 = .ok (.invokevirtual 234, 3) := by decide +kernel
theorem dX6_takesOrder_104 : decode cX6_takesOrder 104 = .ok (.ireturn, 1) := by decide +kernel
theorem dX6_takesOrder_105 : decode cX6_takesOrder 105 = .ok (.aload_n 0, 1) := by decide +kernel
theorem dX6_takesOrder_106 : decode cX6_takesOrder 106 = .ok (.dup, 1) := by decide +kernel
theorem dX6_takesOrder_107 : decode cX6_takesOrder 107 = .ok (.getfield 222, 3) := by decide +kernel
theorem dX6_takesOrder_110 : decode cX6_takesOrder 110 = .ok (.iconst 1, 1) := by decide +kernel
theorem dX6_takesOrder_111 : decode cX6_takesOrder 111 = .ok (.iadd, 1) := by decide +kernel
theorem dX6_takesOrder_112 : decode cX6_takesOrder 112 = .ok (.putfield 222, 3) := by decide +kernel
theorem dX6_takesOrder_115 : decode cX6_takesOrder 115 = .ok (.aload_n 0, 1) := by decide +kernel
theorem dX6_takesOrder_116 : decode cX6_takesOrder 116 = .ok (.dup, 1) := by decide +kernel
theorem dX6_takesOrder_117 : decode cX6_takesOrder 117 = .ok (.getfield 240, 3) := by decide +kernel
theorem dX6_takesOrder_120 : decode cX6_takesOrder 120 = .ok (.iconst 1, 1) := by decide +kernel
theorem dX6_takesOrder_121 : decode cX6_takesOrder 121 = .ok (.iadd, 1) := by decide +kernel
theorem dX6_takesOrder_122 : decode cX6_takesOrder 122 = .ok (.putfield 240, 3) := by decide +kernel
theorem dX6_takesOrder_125 : decode cX6_takesOrder 125 = .ok (.aload_n 0, 1) := by decide +kernel
theorem dX6_takesOrder_126 : decode cX6_takesOrder 126 = .ok (.getfield 46, 3) := by decide +kernel
theorem dX6_takesOrder_129 : decode cX6_takesOrder 129 = .ok (.aload_n 0, 1) := by decide +kernel
theorem dX6_takesOrder_130 : decode cX6_takesOrder 130 = .ok (.getfield 240, 3) := by decide +kernel
theorem dX6_takesOrder_133 : decode cX6_takesOrder 133 = .ok (.aload_n 0, 1) := by decide +kernel
theorem dX6_takesOrder_134 : decode cX6_takesOrder 134 = .ok (.getfield 46, 3) := by decide +kernel
theorem dX6_takesOrder_137 : decode cX6_takesOrder 137 = .ok (.aload_n 0, 1) := by decide +kernel
theorem dX6_takesOrder_138 : decode cX6_takesOrder 138 = .ok (.getfield 240, 3) := by decide +kernel
theorem dX6_takesOrder_141 : decode cX6_takesOrder 141 = .ok (.iconst 1, 1) := by decide +kernel
theorem dX6_takesOrder_142 : decode cX6_takesOrder 142 = .ok (.isub, 1) := by decide +kernel
theorem dX6_takesOrder_143 : decode cX6_takesOrder 143 = .ok (.iaload, 1) := by decide +kernel
theorem dX6_takesOrder_144 : decode cX6_takesOrder 144 = .ok (.iload_n 2, 1) := by decide +kernel
theorem dX6_takesOrder_145 : decode cX6_takesOrder 145 = .ok (.iadd, 1) := by decide +kernel
theorem dX6_takesOrder_146 : decode cX6_takesOrder 146 = .ok (.iastore, 1) := by decide +kernel
theorem dX6_takesOrder_147 : decode cX6_takesOrder 147 = .ok (.iconst 1, 1) := by decide +kernel
theorem dX6_takesOrder_148 : decode cX6_takesOrder 148 = .ok (.ireturn, 1) := by decide +kernel
set_option maxRecDepth 20000 in
theorem ggX6_isRead_X6_blanks : GoodIn wsX6_isRead wsX6_blanks := goodIn_r _ [9, 1, 10, 11, 12, 8, 13, 4, 14, 15, 16, 17, 36, 37, 38, 39, 40, 41, 42, 43, 44, 45, 46, 47, 48, 49, 50, 51, 52, 53, 54, 55, 56] (by decide +kernel) (by decide +kernel)
set_option maxRecDepth 20000 in
theorem gX6_isRead_X6_blanks : GoodIn wsX6_isRead (wsV RX6 231 RX6 yX6_blanks wsX6_blanks) := goodIn_app (goodIn_of _ (by decide +kernel)) ggX6_isRead_X6_blanks
set_option maxRecDepth 20000 in
theorem ggX6_isRead_X6_takesOrder : GoodIn wsX6_isRead wsX6_takesOrder := goodIn_r _ [21, 14, 1, 22, 2, 3, 23, 24, 8, 25, 26, 27, 28, 29, 30, 31, 32, 33, 34, 35, 5, 6, 7, 9, 10, 11, 12, 13, 4, 15, 16, 17, 36, 37, 38, 39, 40, 41, 42, 43, 44, 45, 46, 47, 48, 49, 50, 51, 52, 53, 54, 55, 56] (by decide +kernel) (by decide +kernel)
set_option maxRecDepth 20000 in
theorem gX6_isRead_X6_takesOrder : GoodIn wsX6_isRead (wsV RX6 246 RX6 yX6_takesOrder wsX6_takesOrder) := goodIn_app (goodIn_of _ (by decide +kernel)) ggX6_isRead_X6_takesOrder
set_option maxRecDepth 20000 in
theorem ggX6_isRead_X6_fails : GoodIn wsX6_isRead wsX6_fails := goodIn_r _ [29, 30, 36, 37, 38, 39, 40, 41, 42, 43, 44, 45, 46, 47, 48, 49, 50, 51, 52, 53, 54, 55, 56] (by decide +kernel) (by decide +kernel)
set_option maxRecDepth 20000 in
theorem gX6_isRead_X6_fails : GoodIn wsX6_isRead (wsV RX6 234 RX6 yX6_fails wsX6_fails) := goodIn_app (goodIn_of _ (by decide +kernel)) ggX6_isRead_X6_fails
theorem dX6_isRead_0 : decode cX6_isRead 0 = .ok (.aload_n 0, 1) := by decide +kernel
theorem dX6_isRead_1 : decode cX6_isRead 1 = .ok (.iconst 0, 1) := by decide +kernel
theorem dX6_isRead_2 : decode cX6_isRead 2 = .ok (.putfield 222, 3) := by decide +kernel
theorem dX6_isRead_5 : decode cX6_isRead 5 = .ok (.aload_n 0, 1) := by decide +kernel
theorem dX6_isRead_6 : decode cX6_isRead 6 = .ok (.iconst 0, 1) := by decide +kernel
theorem dX6_isRead_7 : decode cX6_isRead 7 = .ok (.putfield 240, 3) := by decide +kernel
theorem dX6_isRead_10 : decode cX6_isRead 10 = .ok (.aload_n 0, 1) := by decide +kernel
theorem dX6_isRead_11 : decode cX6_isRead 11 = .ok (.getfield 46, 3) := by decide +kernel
theorem dX6_isRead_14 : decode cX6_isRead 14 = .ok (.iconst 0, 1) := by decide +kernel
theorem dX6_isRead_15 : decode cX6_isRead 15 = .ok (.iconst 0, 1) := by decide +kernel
theorem dX6_isRead_16 : decode cX6_isRead 16 = .ok (.iastore, 1) := by decide +kernel
theorem dX6_isRead_17 : decode cX6_isRead 17 = .ok (.aload_n 0, 1) := by decide +kernel
theorem dX6_isRead_18 : decode cX6_isRead 18 = .ok (.invokevirtual 231, 3) := by decide +kernel
theorem dX6_isRead_21 : decode cX6_isRead 21 = .ok (.aload_n 0, 1) := by decide +kernel
theorem dX6_isRead_22 : decode cX6_isRead 22 = .ok (.getfield 222, 3) := by decide +kernel
theorem dX6_isRead_25 : decode cX6_isRead 25 = .ok (.aload_n 0, 1) := by decide +kernel
theorem dX6_isRead_26 : decode cX6_isRead 26 = .ok (.getfield 219, 3) := by decide +kernel
theorem dX6_isRead_29 : decode cX6_isRead 29 = .ok (.if_icmp .ge 19, 3) := by decide +kernel
theorem dX6_isRead_32 : decode cX6_isRead 32 = .ok (.aload_n 0, 1) := by decide +kernel
theorem dX6_isRead_33 : decode cX6_isRead 33 = .ok (.invokevirtual 246, 3) := by decide +kernel
theorem dX6_isRead_36 : decode cX6_isRead 36 = .ok (.ifCond .ne 5, 3) := by decide +kernel
theorem dX6_isRead_39 : decode cX6_isRead 39 = .ok (.iconst 0, 1) := by decide +kernel
theorem dX6_isRead_40 : decode cX6_isRead 40 = .ok (.ireturn, 1) := by decide +kernel
theorem dX6_isRead_41 : decode cX6_isRead 41 = .ok (.aload_n 0, 1) := by decide +kernel
theorem dX6_isRead_42 : decode cX6_isRead 42 = .ok (.invokevirtual 231, 3) := by decide +kernel
theorem dX6_isRead_45 : decode cX6_isRead 45 = .ok (.goto (-24), 3) := by decide +kernel
theorem dX6_isRead_48 : decode cX6_isRead 48 = .ok (.aload_n 0, 1) := by decide +kernel
theorem dX6_isRead_49 : decode cX6_isRead 49 = .ok (.getfield 240, 3) := by decide +kernel
theorem dX6_isRead_52 : decode cX6_isRead 52 = .ok (.ifCond .gt 14, 3) := by decide +kernel
theorem dX6_isRead_55 : decode cX6_isRead 55 = .ok (.aload_n 0, 1) := by decide +kernel
theorem dX6_isRead_56 : decode cX6_isRead 56 = .ok (.aload_n 0, 1) := by decide +kernel
theorem dX6_isRead_57 : decode cX6_isRead 57 = .ok (.getfield 219, 3) := by decide +kernel
theorem dX6_isRead_60 : decode cX6_isRead 60 = .ok (.invokevirtual 234, 3) := by decide +kernel
theorem dX6_isRead_63 : decode cX6_isRead 63 = .ok (.ifCond .eq 7, 3) := by decide +kernel
theorem dX6_isRead_66 : decode cX6_isRead 66 = .ok (.iconst 1, 1) := by decide +kernel
theorem dX6_isRead_67 : decode cX6_isRead 67 = .ok (.goto 4, 3) := by decide +kernel
theorem dX6_isRead_70 : decode cX6_isRead 70 = .ok (.iconst 0, 1) := by decide +kernel
theorem dX6_isRead_71 : decode cX6_isRead 71 = .ok (.ireturn, 1) := by decide +kernel
set_option maxRecDepth 20000 in
theorem ggX6_numberAt_X6_number : GoodIn wsX6_numberAt wsX6_number := goodIn_r _ [5, 6, 7, 4, 8] (by decide +kernel) (by decide +kernel)
set_option maxRecDepth 20000 in
theorem gX6_numberAt_X6_number : GoodIn wsX6_numberAt (va_wsS RX6 64 yX6_number wsX6_number) := goodIn_app (goodIn_of _ (by decide +kernel)) ggX6_numberAt_X6_number
theorem dX6_numberAt_0 : decode cX6_numberAt 0 = .ok (.aload_n 0, 1) := by decide +kernel
theorem dX6_numberAt_1 : decode cX6_numberAt 1 = .ok (.getfield 49, 3) := by decide +kernel
theorem dX6_numberAt_4 : decode cX6_numberAt 4 = .ok (.iload_n 1, 1) := by decide +kernel
theorem dX6_numberAt_5 : decode cX6_numberAt 5 = .ok (.iconst 2, 1) := by decide +kernel
theorem dX6_numberAt_6 : decode cX6_numberAt 6 = .ok (.iload_n 2, 1) := by decide +kernel
theorem dX6_numberAt_7 : decode cX6_numberAt 7 = .ok (.imul, 1) := by decide +kernel
theorem dX6_numberAt_8 : decode cX6_numberAt 8 = .ok (.iadd, 1) := by decide +kernel
theorem dX6_numberAt_9 : decode cX6_numberAt 9 = .ok (.iaload, 1) := by decide +kernel
theorem dX6_numberAt_10 : decode cX6_numberAt 10 = .ok (.aload_n 0, 1) := by decide +kernel
theorem dX6_numberAt_11 : decode cX6_numberAt 11 = .ok (.getfield 49, 3) := by decide +kernel
theorem dX6_numberAt_14 : decode cX6_numberAt 14 = .ok (.iload_n 1, 1) := by decide +kernel
theorem dX6_numberAt_15 : decode cX6_numberAt 15 = .ok (.iconst 2, 1) := by decide +kernel
theorem dX6_numberAt_16 : decode cX6_numberAt 16 = .ok (.iload_n 2, 1) := by decide +kernel
theorem dX6_numberAt_17 : decode cX6_numberAt 17 = .ok (.imul, 1) := by decide +kernel
theorem dX6_numberAt_18 : decode cX6_numberAt 18 = .ok (.iadd, 1) := by decide +kernel
theorem dX6_numberAt_19 : decode cX6_numberAt 19 = .ok (.iconst 1, 1) := by decide +kernel
theorem dX6_numberAt_20 : decode cX6_numberAt 20 = .ok (.iadd, 1) := by decide +kernel
theorem dX6_numberAt_21 : decode cX6_numberAt 21 = .ok (.iaload, 1) := by decide +kernel
theorem dX6_numberAt_22 : decode cX6_numberAt 22 = .ok (.invokestatic 64, 3) := by decide +kernel
theorem dX6_numberAt_25 : decode cX6_numberAt 25 = .ok (.ireturn, 1) := by decide +kernel
set_option maxRecDepth 20000 in
theorem ggX6_comesTold_X6_isPart : GoodIn wsX6_comesTold wsX6_isPart := goodIn_r _ [6, 7, 8, 5, 9] (by decide +kernel) (by decide +kernel)
set_option maxRecDepth 20000 in
theorem gX6_comesTold_X6_isPart : GoodIn wsX6_comesTold (va_wsS RX6 102 yX6_isPart wsX6_isPart) := goodIn_app (goodIn_of _ (by decide +kernel)) ggX6_comesTold_X6_isPart
set_option maxRecDepth 20000 in
theorem ggX6_comesTold_X6_numberAt : GoodIn wsX6_comesTold wsX6_numberAt := goodIn_r _ [13, 2, 14, 15, 5, 16, 17, 18, 19, 28, 29, 30, 31, 32, 33, 34, 35, 36, 37, 38, 39, 40, 41, 42, 43, 44, 45, 46, 47, 48] (by decide +kernel) (by decide +kernel)
set_option maxRecDepth 20000 in
theorem gX6_comesTold_X6_numberAt : GoodIn wsX6_comesTold (wsV RX6 249 RX6 yX6_numberAt wsX6_numberAt) := goodIn_app (goodIn_of _ (by decide +kernel)) ggX6_comesTold_X6_numberAt
set_option maxRecDepth 20000 in
theorem ggX6_comesTold_X6_comes : GoodIn wsX6_comesTold wsX6_comes := goodIn_r _ [23, 1, 24, 25, 26, 5, 27, 28, 29, 30, 31, 32, 33, 34, 35, 36, 37, 38, 39, 40, 41, 42, 43, 44, 45, 46, 47, 48] (by decide +kernel) (by decide +kernel)
set_option maxRecDepth 20000 in
theorem gX6_comesTold_X6_comes : GoodIn wsX6_comesTold (wsV RX6 94 RX6 yX6_comes wsX6_comes) := goodIn_app (goodIn_of _ (by decide +kernel)) ggX6_comesTold_X6_comes
theorem dX6_comesTold_0 : decode cX6_comesTold 0 = .ok (.aload_n 0, 1) := by decide +kernel
theorem dX6_comesTold_1 : decode cX6_comesTold 1 = .ok (.getfield 7, 3) := by decide +kernel
theorem dX6_comesTold_4 : decode cX6_comesTold 4 = .ok (.iconst 0, 1) := by decide +kernel
theorem dX6_comesTold_5 : decode cX6_comesTold 5 = .ok (.iaload, 1) := by decide +kernel
theorem dX6_comesTold_6 : decode cX6_comesTold 6 = .ok (.bipush 8, 2) := by decide +kernel
theorem dX6_comesTold_8 : decode cX6_comesTold 8 = .ok (.if_icmp .ge 7, 3) := by decide +kernel
theorem dX6_comesTold_11 : decode cX6_comesTold 11 = .ok (.iconst 1, 1) := by decide +kernel
theorem dX6_comesTold_12 : decode cX6_comesTold 12 = .ok (.goto 4, 3) := by decide +kernel
theorem dX6_comesTold_15 : decode cX6_comesTold 15 = .ok (.iconst 0, 1) := by decide +kernel
theorem dX6_comesTold_16 : decode cX6_comesTold 16 = .ok (.istore_n 2, 1) := by decide +kernel
theorem dX6_comesTold_17 : decode cX6_comesTold 17 = .ok (.iconst 0, 1) := by decide +kernel
theorem dX6_comesTold_18 : decode cX6_comesTold 18 = .ok (.istore_n 3, 1) := by decide +kernel
theorem dX6_comesTold_19 : decode cX6_comesTold 19 = .ok (.iload_n 3, 1) := by decide +kernel
theorem dX6_comesTold_20 : decode cX6_comesTold 20 = .ok (.bipush 8, 2) := by decide +kernel
theorem dX6_comesTold_22 : decode cX6_comesTold 22 = .ok (.if_icmp .ge 33, 3) := by decide +kernel
theorem dX6_comesTold_25 : decode cX6_comesTold 25 = .ok (.iload_n 2, 1) := by decide +kernel
theorem dX6_comesTold_26 : decode cX6_comesTold 26 = .ok (.ifCond .eq 21, 3) := by decide +kernel
theorem dX6_comesTold_29 : decode cX6_comesTold 29 = .ok (.aload_n 0, 1) := by decide +kernel
theorem dX6_comesTold_30 : decode cX6_comesTold 30 = .ok (.getfield 49, 3) := by decide +kernel
theorem dX6_comesTold_33 : decode cX6_comesTold 33 = .ok (.iload_n 1, 1) := by decide +kernel
theorem dX6_comesTold_34 : decode cX6_comesTold 34 = .ok (.iload_n 3, 1) := by decide +kernel
theorem dX6_comesTold_35 : decode cX6_comesTold 35 = .ok (.iadd, 1) := by decide +kernel
theorem dX6_comesTold_36 : decode cX6_comesTold 36 = .ok (.iaload, 1) := by decide +kernel
theorem dX6_comesTold_37 : decode cX6_comesTold 37 = .ok (.invokestatic 102, 3) := by decide +kernel
theorem dX6_comesTold_40 : decode cX6_comesTold 40 = .ok (.ifCond .eq 7, 3) := by decide +kernel
theorem dX6_comesTold_43 : decode cX6_comesTold 43 = .ok (.iconst 1, 1) := by decide +kernel
theorem dX6_comesTold_44 : decode cX6_comesTold 44 = .ok (.goto 4, 3) := by decide +kernel
theorem dX6_comesTold_47 : decode cX6_comesTold 47 = .ok (.iconst 0, 1) := by decide +kernel
theorem dX6_comesTold_48 : decode cX6_comesTold 48 = .ok (.istore_n 2, 1) := by decide +kernel
theorem dX6_comesTold_49 : decode cX6_comesTold 49 = .ok (.iinc 3 1, 3) := by decide +kernel
theorem dX6_comesTold_52 : decode cX6_comesTold 52 = .ok (.goto (-33), 3) := by decide +kernel
theorem dX6_comesTold_55 : decode cX6_comesTold 55 = .ok (.iload_n 2, 1) := by decide +kernel
theorem dX6_comesTold_56 : decode cX6_comesTold 56 = .ok (.ifCond .eq 38, 3) := by decide +kernel
theorem dX6_comesTold_59 : decode cX6_comesTold 59 = .ok (.aload_n 0, 1) := by decide +kernel
theorem dX6_comesTold_60 : decode cX6_comesTold 60 = .ok (.aload_n 0, 1) := by decide +kernel
theorem dX6_comesTold_61 : decode cX6_comesTold 61 = .ok (.iload_n 1, 1) := by decide +kernel
theorem dX6_comesTold_62 : decode cX6_comesTold 62 = .ok (.iconst 0, 1) := by decide +kernel
theorem dX6_comesTold_63 : decode cX6_comesTold 63 = .ok (.invokevirtual 249, 3) := by decide +kernel
theorem dX6_comesTold_66 : decode cX6_comesTold 66 = .ok (.aload_n 0, 1) := by decide +kernel
theorem dX6_comesTold_67 : decode cX6_comesTold 67 = .ok (.iload_n 1, 1) := by decide +kernel
theorem dX6_comesTold_68 : decode cX6_comesTold 68 = .ok (.iconst 1, 1) := by decide +kernel
theorem dX6_comesTold_69 : decode cX6_comesTold 69 = .ok (.invokevirtual 249, 3) := by decide +kernel
theorem dX6_comesTold_72 : decode cX6_comesTold 72 = .ok (.aload_n 0, 1) := by decide +kernel
theorem dX6_comesTold_73 : decode cX6_comesTold 73 = .ok (.iload_n 1, 1) := by decide +kernel
theorem dX6_comesTold_74 : decode cX6_comesTold 74 = .ok (.iconst 2, 1) := by decide +kernel
theorem dX6_comesTold_75 : decode cX6_comesTold 75 = .ok (.invokevirtual 249, 3) := by decide +kernel
theorem dX6_comesTold_78 : decode cX6_comesTold 78 = .ok (.aload_n 0, 1) := by decide +kernel
theorem dX6_comesTold_79 : decode cX6_comesTold 79 = .ok (.iload_n 1, 1) := by decide +kernel
theorem dX6_comesTold_80 : decode cX6_comesTold 80 = .ok (.iconst 3, 1) := by decide +kernel
theorem dX6_comesTold_81 : decode cX6_comesTold 81 = .ok (.invokevirtual 249, 3) := by decide +kernel
theorem dX6_comesTold_84 : decode cX6_comesTold 84 = .ok (.invokevirtual 94, 3) := by decide +kernel
theorem dX6_comesTold_87 : decode cX6_comesTold 87 = .ok (.ifCond .lt 7, 3) := by decide +kernel
theorem dX6_comesTold_90 : decode cX6_comesTold 90 = .ok (.iconst 1, 1) := by decide +kernel
theorem dX6_comesTold_91 : decode cX6_comesTold 91 = .ok (.goto 4, 3) := by decide +kernel
theorem dX6_comesTold_94 : decode cX6_comesTold 94 = .ok (.iconst 0, 1) := by decide +kernel
theorem dX6_comesTold_95 : decode cX6_comesTold 95 = .ok (.ireturn, 1) := by decide +kernel
set_option maxRecDepth 20000 in
theorem ggX6_errsTold_X6_isError : GoodIn wsX6_errsTold wsX6_isError := goodIn_r _ [5, 6, 7, 4, 8] (by decide +kernel) (by decide +kernel)
set_option maxRecDepth 20000 in
theorem gX6_errsTold_X6_isError : GoodIn wsX6_errsTold (va_wsS RX6 111 yX6_isError wsX6_isError) := goodIn_app (goodIn_of _ (by decide +kernel)) ggX6_errsTold_X6_isError
set_option maxRecDepth 20000 in
theorem ggX6_errsTold_X6_isPart : GoodIn wsX6_errsTold wsX6_isPart := goodIn_r _ [11, 6, 7, 4, 8] (by decide +kernel) (by decide +kernel)
set_option maxRecDepth 20000 in
theorem gX6_errsTold_X6_isPart : GoodIn wsX6_errsTold (va_wsS RX6 102 yX6_isPart wsX6_isPart) := goodIn_app (goodIn_of _ (by decide +kernel)) ggX6_errsTold_X6_isPart
set_option maxRecDepth 20000 in
theorem ggX6_errsTold_X6_number : GoodIn wsX6_errsTold wsX6_number := goodIn_r _ [14, 15, 16, 4, 17] (by decide +kernel) (by decide +kernel)
set_option maxRecDepth 20000 in
theorem gX6_errsTold_X6_number : GoodIn wsX6_errsTold (va_wsS RX6 64 yX6_number wsX6_number) := goodIn_app (goodIn_of _ (by decide +kernel)) ggX6_errsTold_X6_number
theorem dX6_errsTold_0 : decode cX6_errsTold 0 = .ok (.iload_n 1, 1) := by decide +kernel
theorem dX6_errsTold_1 : decode cX6_errsTold 1 = .ok (.invokestatic 111, 3) := by decide +kernel
theorem dX6_errsTold_4 : decode cX6_errsTold 4 = .ok (.ifCond .eq 21, 3) := by decide +kernel
theorem dX6_errsTold_7 : decode cX6_errsTold 7 = .ok (.iload_n 2, 1) := by decide +kernel
theorem dX6_errsTold_8 : decode cX6_errsTold 8 = .ok (.invokestatic 102, 3) := by decide +kernel
theorem dX6_errsTold_11 : decode cX6_errsTold 11 = .ok (.ifCond .eq 14, 3) := by decide +kernel
theorem dX6_errsTold_14 : decode cX6_errsTold 14 = .ok (.iload_n 3, 1) := by decide +kernel
theorem dX6_errsTold_15 : decode cX6_errsTold 15 = .ok (.invokestatic 102, 3) := by decide +kernel
theorem dX6_errsTold_18 : decode cX6_errsTold 18 = .ok (.ifCond .eq 7, 3) := by decide +kernel
theorem dX6_errsTold_21 : decode cX6_errsTold 21 = .ok (.iconst 1, 1) := by decide +kernel
theorem dX6_errsTold_22 : decode cX6_errsTold 22 = .ok (.goto 4, 3) := by decide +kernel
theorem dX6_errsTold_25 : decode cX6_errsTold 25 = .ok (.iconst 0, 1) := by decide +kernel
theorem dX6_errsTold_26 : decode cX6_errsTold 26 = .ok (.istore 4, 2) := by decide +kernel
theorem dX6_errsTold_28 : decode cX6_errsTold 28 = .ok (.iload 4, 2) := by decide +kernel
theorem dX6_errsTold_30 : decode cX6_errsTold 30 = .ok (.ifCond .eq 17, 3) := by decide +kernel
theorem dX6_errsTold_33 : decode cX6_errsTold 33 = .ok (.aload_n 0, 1) := by decide +kernel
theorem dX6_errsTold_34 : decode cX6_errsTold 34 = .ok (.getfield 7, 3) := by decide +kernel
theorem dX6_errsTold_37 : decode cX6_errsTold 37 = .ok (.bipush 33, 2) := by decide +kernel
theorem dX6_errsTold_39 : decode cX6_errsTold 39 = .ok (.iload_n 1, 1) := by decide +kernel
theorem dX6_errsTold_40 : decode cX6_errsTold 40 = .ok (.iadd, 1) := by decide +kernel
theorem dX6_errsTold_41 : decode cX6_errsTold 41 = .ok (.iload_n 2, 1) := by decide +kernel
theorem dX6_errsTold_42 : decode cX6_errsTold 42 = .ok (.iload_n 3, 1) := by decide +kernel
theorem dX6_errsTold_43 : decode cX6_errsTold 43 = .ok (.invokestatic 64, 3) := by decide +kernel
theorem dX6_errsTold_46 : decode cX6_errsTold 46 = .ok (.iastore, 1) := by decide +kernel
theorem dX6_errsTold_47 : decode cX6_errsTold 47 = .ok (.iload 4, 2) := by decide +kernel
theorem dX6_errsTold_49 : decode cX6_errsTold 49 = .ok (.ireturn, 1) := by decide +kernel
set_option maxRecDepth 20000 in
theorem ggX6_comesBy_X6_comes : GoodIn wsX6_comesBy wsX6_comes := goodIn_r _ [7, 1, 8, 9, 10, 6, 11, 12, 13, 14, 15, 16, 17, 18, 19, 20, 21, 22, 23, 24, 25, 26, 27, 28, 29, 30, 31, 32] (by decide +kernel) (by decide +kernel)
set_option maxRecDepth 20000 in
theorem gX6_comesBy_X6_comes : GoodIn wsX6_comesBy (wsV RX6 94 RX6 yX6_comes wsX6_comes) := goodIn_app (goodIn_of _ (by decide +kernel)) ggX6_comesBy_X6_comes
theorem dX6_comesBy_0 : decode cX6_comesBy 0 = .ok (.iload_n 1, 1) := by decide +kernel
theorem dX6_comesBy_1 : decode cX6_comesBy 1 = .ok (.ifCond .eq 49, 3) := by decide +kernel
theorem dX6_comesBy_4 : decode cX6_comesBy 4 = .ok (.aload_n 0, 1) := by decide +kernel
theorem dX6_comesBy_5 : decode cX6_comesBy 5 = .ok (.getfield 7, 3) := by decide +kernel
theorem dX6_comesBy_8 : decode cX6_comesBy 8 = .ok (.iconst 0, 1) := by decide +kernel
theorem dX6_comesBy_9 : decode cX6_comesBy 9 = .ok (.iaload, 1) := by decide +kernel
theorem dX6_comesBy_10 : decode cX6_comesBy 10 = .ok (.bipush 8, 2) := by decide +kernel
theorem dX6_comesBy_12 : decode cX6_comesBy 12 = .ok (.if_icmp .ge 38, 3) := by decide +kernel
theorem dX6_comesBy_15 : decode cX6_comesBy 15 = .ok (.aload_n 0, 1) := by decide +kernel
theorem dX6_comesBy_16 : decode cX6_comesBy 16 = .ok (.aload_n 0, 1) := by decide +kernel
theorem dX6_comesBy_17 : decode cX6_comesBy 17 = .ok (.getfield 31, 3) := by decide +kernel
theorem dX6_comesBy_20 : decode cX6_comesBy 20 = .ok (.iconst 0, 1) := by decide +kernel
theorem dX6_comesBy_21 : decode cX6_comesBy 21 = .ok (.iaload, 1) := by decide +kernel
theorem dX6_comesBy_22 : decode cX6_comesBy 22 = .ok (.aload_n 0, 1) := by decide +kernel
theorem dX6_comesBy_23 : decode cX6_comesBy 23 = .ok (.getfield 31, 3) := by decide +kernel
theorem dX6_comesBy_26 : decode cX6_comesBy 26 = .ok (.iconst 1, 1) := by decide +kernel
theorem dX6_comesBy_27 : decode cX6_comesBy 27 = .ok (.iaload, 1) := by decide +kernel
theorem dX6_comesBy_28 : decode cX6_comesBy 28 = .ok (.aload_n 0, 1) := by decide +kernel
theorem dX6_comesBy_29 : decode cX6_comesBy 29 = .ok (.getfield 31, 3) := by decide +kernel
theorem dX6_comesBy_32 : decode cX6_comesBy 32 = .ok (.iconst 2, 1) := by decide +kernel
theorem dX6_comesBy_33 : decode cX6_comesBy 33 = .ok (.iaload, 1) := by decide +kernel
theorem dX6_comesBy_34 : decode cX6_comesBy 34 = .ok (.aload_n 0, 1) := by decide +kernel
theorem dX6_comesBy_35 : decode cX6_comesBy 35 = .ok (.getfield 31, 3) := by decide +kernel
theorem dX6_comesBy_38 : decode cX6_comesBy 38 = .ok (.iconst 3, 1) := by decide +kernel
theorem dX6_comesBy_39 : decode cX6_comesBy 39 = .ok (.iaload, 1) := by decide +kernel
theorem dX6_comesBy_40 : decode cX6_comesBy 40 = .ok (.invokevirtual 94, 3) := by decide +kernel
theorem dX6_comesBy_43 : decode cX6_comesBy 43 = .ok (.ifCond .lt 7, 3) := by decide +kernel
theorem dX6_comesBy_46 : decode cX6_comesBy 46 = .ok (.iconst 1, 1) := by decide +kernel
theorem dX6_comesBy_47 : decode cX6_comesBy 47 = .ok (.goto 4, 3) := by decide +kernel
theorem dX6_comesBy_50 : decode cX6_comesBy 50 = .ok (.iconst 0, 1) := by decide +kernel
theorem dX6_comesBy_51 : decode cX6_comesBy 51 = .ok (.ireturn, 1) := by decide +kernel
set_option maxRecDepth 20000 in
theorem ggX6_obeys_X6_comesTold : GoodIn wsX6_obeys wsX6_comesTold := goodIn_r _ [8, 9, 2, 10, 11, 7, 12, 13, 14, 15, 16, 17, 18, 19, 20, 21, 22, 23, 24, 25, 26, 27, 28, 29, 30, 31, 32, 33, 150, 151, 152, 153, 154, 155, 156, 157, 158, 159, 160, 161, 162, 163, 164, 165, 166, 167, 168, 169, 170] (by decide +kernel) (by decide +kernel)
set_option maxRecDepth 20000 in
theorem gX6_obeys_X6_comesTold : GoodIn wsX6_obeys (wsV RX6 252 RX6 yX6_comesTold wsX6_comesTold) := goodIn_app (goodIn_of _ (by decide +kernel)) ggX6_obeys_X6_comesTold
set_option maxRecDepth 20000 in
theorem ggX6_obeys_X6_errsTold : GoodIn wsX6_obeys wsX6_errsTold := goodIn_r _ [37, 9, 38, 39, 7, 40, 13, 14, 15, 10, 11, 12, 20, 21, 22, 23, 24, 25, 150, 151, 152, 153, 154, 155, 156, 157, 158, 159, 160, 161, 162, 163, 164, 165, 166, 167, 168, 169, 170] (by decide +kernel) (by decide +kernel)
set_option maxRecDepth 20000 in
theorem gX6_obeys_X6_errsTold : GoodIn wsX6_obeys (wsV RX6 255 RX6 yX6_errsTold wsX6_errsTold) := goodIn_app (goodIn_of _ (by decide +kernel)) ggX6_obeys_X6_errsTold
set_option maxRecDepth 20000 in
theorem ggX6_obeys_X6_canLearn : GoodIn wsX6_obeys wsX6_canLearn := goodIn_r _ [44, 45, 46, 47, 48, 7, 49, 50, 51, 52, 53, 54, 55, 56, 57, 58, 59, 60, 61, 62, 20, 21, 22, 23, 24, 25, 63, 64, 65, 66, 67, 68, 69, 9, 70, 71, 72, 73, 74, 75, 76, 77, 78, 79, 80, 81, 82, 83, 84, 85, 86, 87, 88, 89, 90, 91, 92, 93, 94, 95, 96, 97, 150, 151, 152, 153, 154, 155, 156, 157, 158, 159, 160, 161, 162, 163, 164, 165, 166, 167, 168, 169, 170] (by decide +kernel) (by decide +kernel)
set_option maxRecDepth 20000 in
theorem gX6_obeys_X6_canLearn : GoodIn wsX6_obeys (wsV RX6 155 RX6 yX6_canLearn wsX6_canLearn) := goodIn_app (goodIn_of _ (by decide +kernel)) ggX6_obeys_X6_canLearn
set_option maxRecDepth 20000 in
theorem ggX6_obeys_X6_learnsNow : GoodIn wsX6_obeys wsX6_learnsNow := goodIn_r _ [101, 9, 50, 150, 151, 152, 153, 154, 155, 156, 157, 158, 159, 160, 161, 162, 163, 164, 165, 166, 167, 168, 169, 170] (by decide +kernel) (by decide +kernel)
set_option maxRecDepth 20000 in
theorem gX6_obeys_X6_learnsNow : GoodIn wsX6_obeys (wsV RX6 159 RX6 yX6_learnsNow wsX6_learnsNow) := goodIn_app (goodIn_of _ (by decide +kernel)) ggX6_obeys_X6_learnsNow
set_option maxRecDepth 20000 in
theorem ggX6_obeys_X6_isBox : GoodIn wsX6_obeys wsX6_isBox := goodIn_r _ [105, 9, 13, 14, 7, 15, 150, 151, 152, 153, 154, 155, 156, 157, 158, 159, 160, 161, 162, 163, 164, 165, 166, 167, 168, 169, 170] (by decide +kernel) (by decide +kernel)
set_option maxRecDepth 20000 in
theorem gX6_obeys_X6_isBox : GoodIn wsX6_obeys (wsV RX6 98 RX6 yX6_isBox wsX6_isBox) := goodIn_app (goodIn_of _ (by decide +kernel)) ggX6_obeys_X6_isBox
set_option maxRecDepth 20000 in
theorem ggX6_obeys_X6_canRead : GoodIn wsX6_obeys wsX6_canRead := goodIn_r _ [109, 9, 45, 110, 111, 112, 7, 113, 51, 114, 115, 116, 117, 118, 30, 31, 32, 33, 53, 54, 55, 56, 57, 58, 59, 60, 61, 62, 20, 21, 22, 23, 24, 25, 63, 64, 65, 66, 67, 68, 69, 70, 71, 72, 73, 74, 75, 76, 77, 78, 79, 80, 81, 82, 83, 84, 85, 86, 87, 88, 89, 119, 120, 121, 122, 150, 151, 152, 153, 154, 155, 156, 157, 158, 159, 160, 161, 162, 163, 164, 165, 166, 167, 168, 169, 170] (by decide +kernel) (by decide +kernel)
set_option maxRecDepth 20000 in
theorem gX6_obeys_X6_canRead : GoodIn wsX6_obeys (wsV RX6 168 RX6 yX6_canRead wsX6_canRead) := goodIn_app (goodIn_of _ (by decide +kernel)) ggX6_obeys_X6_canRead
set_option maxRecDepth 20000 in
theorem ggX6_obeys_X6_comesBy : GoodIn wsX6_obeys wsX6_comesBy := goodIn_r _ [126, 9, 114, 26, 27, 28, 7, 29, 30, 31, 32, 33, 150, 151, 152, 153, 154, 155, 156, 157, 158, 159, 160, 161, 162, 163, 164, 165, 166, 167, 168, 169, 170] (by decide +kernel) (by decide +kernel)
set_option maxRecDepth 20000 in
theorem gX6_obeys_X6_comesBy : GoodIn wsX6_obeys (wsV RX6 258 RX6 yX6_comesBy wsX6_comesBy) := goodIn_app (goodIn_of _ (by decide +kernel)) ggX6_obeys_X6_comesBy
set_option maxRecDepth 20000 in
theorem ggX6_obeys_X6_canChain : GoodIn wsX6_obeys wsX6_canChain := goodIn_r _ [130, 45, 131, 132, 133, 134, 135, 7, 136, 9, 30, 31, 32, 33, 137, 138, 139, 140, 57, 58, 59, 60, 61, 62, 20, 21, 22, 23, 24, 25, 63, 64, 65, 80, 81, 82, 83, 84, 85, 86, 87, 88, 89, 141, 142, 143, 144, 145, 73, 74, 75, 146, 147, 148, 149, 114, 150, 151, 152, 153, 154, 155, 156, 157, 158, 159, 160, 161, 162, 163, 164, 165, 166, 167, 168, 169, 170] (by decide +kernel) (by decide +kernel)
set_option maxRecDepth 20000 in
theorem gX6_obeys_X6_canChain : GoodIn wsX6_obeys (wsV RX6 188 RX6 yX6_canChain wsX6_canChain) := goodIn_app (goodIn_of _ (by decide +kernel)) ggX6_obeys_X6_canChain
theorem dX6_obeys_0 : decode cX6_obeys 0 = .ok (.aload_n 0, 1) := by decide +kernel
theorem dX6_obeys_1 : decode cX6_obeys 1 = .ok (.getfield 46, 3) := by decide +kernel
theorem dX6_obeys_4 : decode cX6_obeys 4 = .ok (.iload_n 1, 1) := by decide +kernel
theorem dX6_obeys_5 : decode cX6_obeys 5 = .ok (.iaload, 1) := by decide +kernel
theorem dX6_obeys_6 : decode cX6_obeys 6 = .ok (.istore_n 2, 1) := by decide +kernel
theorem dX6_obeys_7 : decode cX6_obeys 7 = .ok (.aload_n 0, 1) := by decide +kernel
theorem dX6_obeys_8 : decode cX6_obeys 8 = .ok (.getfield 49, 3) := by decide +kernel
theorem dX6_obeys_11 : decode cX6_obeys 11 = .ok (.iload_n 2, 1) := by decide +kernel
theorem dX6_obeys_12 : decode cX6_obeys 12 = .ok (.iaload, 1) := by decide +kernel
theorem dX6_obeys_13 : decode cX6_obeys 13 = .ok (.istore_n 3, 1) := by decide +kernel
theorem dX6_obeys_14 : decode cX6_obeys 14 = .ok (.aload_n 0, 1) := by decide +kernel
theorem dX6_obeys_15 : decode cX6_obeys 15 = .ok (.getfield 49, 3) := by decide +kernel
theorem dX6_obeys_18 : decode cX6_obeys 18 = .ok (.iload_n 2, 1) := by decide +kernel
theorem dX6_obeys_19 : decode cX6_obeys 19 = .ok (.iconst 1, 1) := by decide +kernel
theorem dX6_obeys_20 : decode cX6_obeys 20 = .ok (.iadd, 1) := by decide +kernel
theorem dX6_obeys_21 : decode cX6_obeys 21 = .ok (.iaload, 1) := by decide +kernel
theorem dX6_obeys_22 : decode cX6_obeys 22 = .ok (.istore 4, 2) := by decide +kernel
theorem dX6_obeys_24 : decode cX6_obeys 24 = .ok (.aload_n 0, 1) := by decide +kernel
theorem dX6_obeys_25 : decode cX6_obeys 25 = .ok (.getfield 43, 3) := by decide +kernel
theorem dX6_obeys_28 : decode cX6_obeys 28 = .ok (.iload_n 1, 1) := by decide +kernel
theorem dX6_obeys_29 : decode cX6_obeys 29 = .ok (.iaload, 1) := by decide +kernel
theorem dX6_obeys_30 : decode cX6_obeys 30 = .ok (.lookupswitch 110 #[(98, 42), (101, 48), (108, 64), (114, 84)], 42) := by decide +kernel
theorem dX6_obeys_72 : decode cX6_obeys 72 = .ok (.aload_n 0, 1) := by decide +kernel
theorem dX6_obeys_73 : decode cX6_obeys 73 = .ok (.iload_n 2, 1) := by decide +kernel
theorem dX6_obeys_74 : decode cX6_obeys 74 = .ok (.invokevirtual 252, 3) := by decide +kernel
theorem dX6_obeys_77 : decode cX6_obeys 77 = .ok (.ireturn, 1) := by decide +kernel
theorem dX6_obeys_78 : decode cX6_obeys 78 = .ok (.aload_n 0, 1) := by decide +kernel
theorem dX6_obeys_79 : decode cX6_obeys 79 = .ok (.iload_n 3, 1) := by decide +kernel
theorem dX6_obeys_80 : decode cX6_obeys 80 = .ok (.iload 4, 2) := by decide +kernel
theorem dX6_obeys_82 : decode cX6_obeys 82 = .ok (.aload_n 0, 1) := by decide +kernel
theorem dX6_obeys_83 : decode cX6_obeys 83 = .ok (.getfield 49, 3) := by decide +kernel
theorem dX6_obeys_86 : decode cX6_obeys 86 = .ok (.iload_n 2, 1) := by decide +kernel
theorem dX6_obeys_87 : decode cX6_obeys 87 = .ok (.iconst 2, 1) := by decide +kernel
theorem dX6_obeys_88 : decode cX6_obeys 88 = .ok (.iadd, 1) := by decide +kernel
theorem dX6_obeys_89 : decode cX6_obeys 89 = .ok (.iaload, 1) := by decide +kernel
theorem dX6_obeys_90 : decode cX6_obeys 90 = .ok (.invokevirtual 255, 3) := by decide +kernel
theorem dX6_obeys_93 : decode cX6_obeys 93 = .ok (.ireturn, 1) := by decide +kernel
theorem dX6_obeys_94 : decode cX6_obeys 94 = .ok (.aload_n 0, 1) := by decide +kernel
theorem dX6_obeys_95 : decode cX6_obeys 95 = .ok (.invokevirtual 155, 3) := by decide +kernel
theorem dX6_obeys_98 : decode cX6_obeys 98 = .ok (.ifCond .eq 14, 3) := by decide +kernel
theorem dX6_obeys_101 : decode cX6_obeys 101 = .ok (.aload_n 0, 1) := by decide +kernel
theorem dX6_obeys_102 : decode cX6_obeys 102 = .ok (.invokevirtual 159, 3) := by decide +kernel
theorem dX6_obeys_105 : decode cX6_obeys 105 = .ok (.ifCond .lt 7, 3) := by decide +kernel
theorem dX6_obeys_108 : decode cX6_obeys 108 = .ok (.iconst 1, 1) := by decide +kernel
theorem dX6_obeys_109 : decode cX6_obeys 109 = .ok (.goto 4, 3) := by decide +kernel
theorem dX6_obeys_112 : decode cX6_obeys 112 = .ok (.iconst 0, 1) := by decide +kernel
theorem dX6_obeys_113 : decode cX6_obeys 113 = .ok (.ireturn, 1) := by decide +kernel
theorem dX6_obeys_114 : decode cX6_obeys 114 = .ok (.aload_n 0, 1) := by decide +kernel
theorem dX6_obeys_115 : decode cX6_obeys 115 = .ok (.iload_n 3, 1) := by decide +kernel
theorem dX6_obeys_116 : decode cX6_obeys 116 = .ok (.invokevirtual 98, 3) := by decide +kernel
theorem dX6_obeys_119 : decode cX6_obeys 119 = .ok (.ifCond .eq 19, 3) := by decide +kernel
theorem dX6_obeys_122 : decode cX6_obeys 122 = .ok (.aload_n 0, 1) := by decide +kernel
theorem dX6_obeys_123 : decode cX6_obeys 123 = .ok (.aload_n 0, 1) := by decide +kernel
theorem dX6_obeys_124 : decode cX6_obeys 124 = .ok (.iload_n 3, 1) := by decide +kernel
theorem dX6_obeys_125 : decode cX6_obeys 125 = .ok (.invokevirtual 168, 3) := by decide +kernel
theorem dX6_obeys_128 : decode cX6_obeys 128 = .ok (.invokevirtual 258, 3) := by decide +kernel
theorem dX6_obeys_131 : decode cX6_obeys 131 = .ok (.ifCond .eq 7, 3) := by decide +kernel
theorem dX6_obeys_134 : decode cX6_obeys 134 = .ok (.iconst 1, 1) := by decide +kernel
theorem dX6_obeys_135 : decode cX6_obeys 135 = .ok (.goto 4, 3) := by decide +kernel
theorem dX6_obeys_138 : decode cX6_obeys 138 = .ok (.iconst 0, 1) := by decide +kernel
theorem dX6_obeys_139 : decode cX6_obeys 139 = .ok (.ireturn, 1) := by decide +kernel
theorem dX6_obeys_140 : decode cX6_obeys 140 = .ok (.aload_n 0, 1) := by decide +kernel
theorem dX6_obeys_141 : decode cX6_obeys 141 = .ok (.iload_n 3, 1) := by decide +kernel
theorem dX6_obeys_142 : decode cX6_obeys 142 = .ok (.invokevirtual 98, 3) := by decide +kernel
theorem dX6_obeys_145 : decode cX6_obeys 145 = .ok (.ifCond .eq 30, 3) := by decide +kernel
theorem dX6_obeys_148 : decode cX6_obeys 148 = .ok (.aload_n 0, 1) := by decide +kernel
theorem dX6_obeys_149 : decode cX6_obeys 149 = .ok (.iload 4, 2) := by decide +kernel
theorem dX6_obeys_151 : decode cX6_obeys 151 = .ok (.invokevirtual 98, 3) := by decide +kernel
theorem dX6_obeys_154 : decode cX6_obeys 154 = .ok (.ifCond .eq 21, 3) := by decide +kernel
theorem dX6_obeys_157 : decode cX6_obeys 157 = .ok (.aload_n 0, 1) := by decide +kernel
theorem dX6_obeys_158 : decode cX6_obeys 158 = .ok (.aload_n 0, 1) := by decide +kernel
theorem dX6_obeys_159 : decode cX6_obeys 159 = .ok (.iload_n 3, 1) := by decide +kernel
theorem dX6_obeys_160 : decode cX6_obeys 160 = .ok (.iload 4, 2) := by decide +kernel
theorem dX6_obeys_162 : decode cX6_obeys 162 = .ok (.invokevirtual 188, 3) := by decide +kernel
theorem dX6_obeys_165 : decode cX6_obeys 165 = .ok (.invokevirtual 258, 3) := by decide +kernel
theorem dX6_obeys_168 : decode cX6_obeys 168 = .ok (.ifCond .eq 7, 3) := by decide +kernel
theorem dX6_obeys_171 : decode cX6_obeys 171 = .ok (.iconst 1, 1) := by decide +kernel
theorem dX6_obeys_172 : decode cX6_obeys 172 = .ok (.goto 4, 3) := by decide +kernel
theorem dX6_obeys_175 : decode cX6_obeys 175 = .ok (.iconst 0, 1) := by decide +kernel
theorem dX6_obeys_176 : decode cX6_obeys 176 = .ok (.ireturn, 1) := by decide +kernel
theorem dX6_swapsAside_0 : decode cX6_swapsAside 0 = .ok (.iconst 0, 1) := by decide +kernel
theorem dX6_swapsAside_1 : decode cX6_swapsAside 1 = .ok (.istore_n 1, 1) := by decide +kernel
theorem dX6_swapsAside_2 : decode cX6_swapsAside 2 = .ok (.iload_n 1, 1) := by decide +kernel
theorem dX6_swapsAside_3 : decode cX6_swapsAside 3 = .ok (.bipush 58, 2) := by decide +kernel
theorem dX6_swapsAside_5 : decode cX6_swapsAside 5 = .ok (.if_icmp .ge 35, 3) := by decide +kernel
theorem dX6_swapsAside_8 : decode cX6_swapsAside 8 = .ok (.aload_n 0, 1) := by decide +kernel
theorem dX6_swapsAside_9 : decode cX6_swapsAside 9 = .ok (.getfield 7, 3) := by decide +kernel
theorem dX6_swapsAside_12 : decode cX6_swapsAside 12 = .ok (.iload_n 1, 1) := by decide +kernel
theorem dX6_swapsAside_13 : decode cX6_swapsAside 13 = .ok (.iaload, 1) := by decide +kernel
theorem dX6_swapsAside_14 : decode cX6_swapsAside 14 = .ok (.istore_n 2, 1) := by decide +kernel
theorem dX6_swapsAside_15 : decode cX6_swapsAside 15 = .ok (.aload_n 0, 1) := by decide +kernel
theorem dX6_swapsAside_16 : decode cX6_swapsAside 16 = .ok (.getfield 7, 3) := by decide +kernel
theorem dX6_swapsAside_19 : decode cX6_swapsAside 19 = .ok (.iload_n 1, 1) := by decide +kernel
theorem dX6_swapsAside_20 : decode cX6_swapsAside 20 = .ok (.aload_n 0, 1) := by decide +kernel
theorem dX6_swapsAside_21 : decode cX6_swapsAside 21 = .ok (.getfield 13, 3) := by decide +kernel
theorem dX6_swapsAside_24 : decode cX6_swapsAside 24 = .ok (.iload_n 1, 1) := by decide +kernel
theorem dX6_swapsAside_25 : decode cX6_swapsAside 25 = .ok (.iaload, 1) := by decide +kernel
theorem dX6_swapsAside_26 : decode cX6_swapsAside 26 = .ok (.iastore, 1) := by decide +kernel
theorem dX6_swapsAside_27 : decode cX6_swapsAside 27 = .ok (.aload_n 0, 1) := by decide +kernel
theorem dX6_swapsAside_28 : decode cX6_swapsAside 28 = .ok (.getfield 13, 3) := by decide +kernel
theorem dX6_swapsAside_31 : decode cX6_swapsAside 31 = .ok (.iload_n 1, 1) := by decide +kernel
theorem dX6_swapsAside_32 : decode cX6_swapsAside 32 = .ok (.iload_n 2, 1) := by decide +kernel
theorem dX6_swapsAside_33 : decode cX6_swapsAside 33 = .ok (.iastore, 1) := by decide +kernel
theorem dX6_swapsAside_34 : decode cX6_swapsAside 34 = .ok (.iinc 1 1, 3) := by decide +kernel
theorem dX6_swapsAside_37 : decode cX6_swapsAside 37 = .ok (.goto (-35), 3) := by decide +kernel
theorem dX6_swapsAside_40 : decode cX6_swapsAside 40 = .ok (.return_, 1) := by decide +kernel
set_option maxRecDepth 20000 in
theorem ggX6_does_X6_isRead : GoodIn wsX6_does wsX6_isRead := goodIn_r _ [9, 10, 4, 11, 12, 13, 14, 15, 8, 16, 17, 18, 19, 20, 21, 22, 23, 24, 25, 26, 27, 28, 29, 30, 31, 32, 33, 34, 35, 36, 1, 37, 38, 39, 40, 41, 197, 198, 199, 200, 201, 202, 203, 204, 205, 206, 207, 208, 209, 210, 211, 212, 213, 214, 215, 216, 217] (by decide +kernel) (by decide +kernel)
set_option maxRecDepth 20000 in
theorem gX6_does_X6_isRead : GoodIn wsX6_does (wsV RX6 262 RX6 yX6_isRead wsX6_isRead) := goodIn_app (goodIn_of _ (by decide +kernel)) ggX6_does_X6_isRead
set_option maxRecDepth 20000 in
theorem ggX6_does_X6_obeys : GoodIn wsX6_does wsX6_obeys := goodIn_r _ [45, 11, 41, 29, 46, 47, 48, 8, 49, 3, 50, 51, 52, 22, 23, 24, 53, 54, 55, 56, 57, 58, 59, 60, 61, 62, 63, 64, 65, 66, 67, 68, 69, 70, 71, 72, 73, 74, 75, 76, 77, 78, 79, 80, 81, 82, 83, 84, 85, 86, 87, 88, 89, 90, 91, 92, 93, 94, 95, 96, 97, 98, 99, 100, 101, 102, 103, 104, 105, 106, 107, 108, 109, 110, 111, 112, 113, 114, 115, 116, 117, 118, 119, 120, 121, 122, 123, 124, 125, 126, 127, 128, 129, 130, 131, 132, 133, 134, 135, 136, 137, 138, 139, 140, 141, 142, 143, 144, 145, 146, 147, 148, 149, 150, 151, 152, 153, 154, 155, 156, 157, 158, 159, 160, 161, 162, 163, 164, 165, 166, 167, 168, 169, 170, 171, 172, 173, 174, 175, 176, 177, 178, 179, 180, 181, 182, 183, 184, 185, 186, 197, 198, 199, 200, 201, 202, 203, 204, 205, 206, 207, 208, 209, 210, 211, 212, 213, 214, 215, 216, 217] (by decide +kernel) (by decide +kernel)
set_option maxRecDepth 20000 in
theorem gX6_does_X6_obeys : GoodIn wsX6_does (wsV RX6 265 RX6 yX6_obeys wsX6_obeys) := goodIn_app (goodIn_of _ (by decide +kernel)) ggX6_does_X6_obeys
set_option maxRecDepth 20000 in
theorem ggX6_does_X6_swapsAside : GoodIn wsX6_does wsX6_swapsAside := goodIn_r _ [190, 3, 2, 197, 198, 199, 200, 201, 202, 203, 204, 205, 206, 207, 208, 209, 210, 211, 212, 213, 214, 215, 216, 217] (by decide +kernel) (by decide +kernel)
set_option maxRecDepth 20000 in
theorem gX6_does_X6_swapsAside : GoodIn wsX6_does (wsV RX6 268 RX6 yX6_swapsAside wsX6_swapsAside) := goodIn_app (goodIn_of _ (by decide +kernel)) ggX6_does_X6_swapsAside
set_option maxRecDepth 20000 in
theorem ggX6_does_X6_remembers : GoodIn wsX6_does wsX6_remembers := goodIn_r _ [194, 195, 196, 3, 197, 198, 199, 200, 201, 202, 203, 204, 205, 206, 207, 208, 209, 210, 211, 212, 213, 214, 215, 216, 217] (by decide +kernel) (by decide +kernel)
set_option maxRecDepth 20000 in
theorem gX6_does_X6_remembers : GoodIn wsX6_does (wsV RX6 91 RX6 yX6_remembers wsX6_remembers) := goodIn_app (goodIn_of _ (by decide +kernel)) ggX6_does_X6_remembers
theorem dX6_does_0 : decode cX6_does 0 = .ok (.aload_n 0, 1) := by decide +kernel
theorem dX6_does_1 : decode cX6_does 1 = .ok (.invokevirtual 262, 3) := by decide +kernel
theorem dX6_does_4 : decode cX6_does 4 = .ok (.ifCond .ne 11, 3) := by decide +kernel
theorem dX6_does_7 : decode cX6_does 7 = .ok (.bipush (-10), 2) := by decide +kernel
theorem dX6_does_9 : decode cX6_does 9 = .ok (.aload_n 0, 1) := by decide +kernel
theorem dX6_does_10 : decode cX6_does 10 = .ok (.getfield 228, 3) := by decide +kernel
theorem dX6_does_13 : decode cX6_does 13 = .ok (.isub, 1) := by decide +kernel
theorem dX6_does_14 : decode cX6_does 14 = .ok (.ireturn, 1) := by decide +kernel
theorem dX6_does_15 : decode cX6_does 15 = .ok (.iconst 0, 1) := by decide +kernel
theorem dX6_does_16 : decode cX6_does 16 = .ok (.istore_n 1, 1) := by decide +kernel
theorem dX6_does_17 : decode cX6_does 17 = .ok (.iload_n 1, 1) := by decide +kernel
theorem dX6_does_18 : decode cX6_does 18 = .ok (.bipush 58, 2) := by decide +kernel
theorem dX6_does_20 : decode cX6_does 20 = .ok (.if_icmp .ge 21, 3) := by decide +kernel
theorem dX6_does_23 : decode cX6_does 23 = .ok (.aload_n 0, 1) := by decide +kernel
theorem dX6_does_24 : decode cX6_does 24 = .ok (.getfield 13, 3) := by decide +kernel
theorem dX6_does_27 : decode cX6_does 27 = .ok (.iload_n 1, 1) := by decide +kernel
theorem dX6_does_28 : decode cX6_does 28 = .ok (.aload_n 0, 1) := by decide +kernel
theorem dX6_does_29 : decode cX6_does 29 = .ok (.getfield 7, 3) := by decide +kernel
theorem dX6_does_32 : decode cX6_does 32 = .ok (.iload_n 1, 1) := by decide +kernel
theorem dX6_does_33 : decode cX6_does 33 = .ok (.iaload, 1) := by decide +kernel
theorem dX6_does_34 : decode cX6_does 34 = .ok (.iastore, 1) := by decide +kernel
theorem dX6_does_35 : decode cX6_does 35 = .ok (.iinc 1 1, 3) := by decide +kernel
theorem dX6_does_38 : decode cX6_does 38 = .ok (.goto (-21), 3) := by decide +kernel
theorem dX6_does_41 : decode cX6_does 41 = .ok (.iconst 0, 1) := by decide +kernel
theorem dX6_does_42 : decode cX6_does 42 = .ok (.istore_n 1, 1) := by decide +kernel
theorem dX6_does_43 : decode cX6_does 43 = .ok (.iload_n 1, 1) := by decide +kernel
theorem dX6_does_44 : decode cX6_does 44 = .ok (.aload_n 0, 1) := by decide +kernel
theorem dX6_does_45 : decode cX6_does 45 = .ok (.getfield 240, 3) := by decide +kernel
theorem dX6_does_48 : decode cX6_does 48 = .ok (.if_icmp .ge 27, 3) := by decide +kernel
theorem dX6_does_51 : decode cX6_does 51 = .ok (.aload_n 0, 1) := by decide +kernel
theorem dX6_does_52 : decode cX6_does 52 = .ok (.iload_n 1, 1) := by decide +kernel
theorem dX6_does_53 : decode cX6_does 53 = .ok (.invokevirtual 265, 3) := by decide +kernel
theorem dX6_does_56 : decode cX6_does 56 = .ok (.ifCond .ne 13, 3) := by decide +kernel
theorem dX6_does_59 : decode cX6_does 59 = .ok (.aload_n 0, 1) := by decide +kernel
theorem dX6_does_60 : decode cX6_does 60 = .ok (.invokevirtual 268, 3) := by decide +kernel
theorem dX6_does_63 : decode cX6_does 63 = .ok (.sipush (-1000), 3) := by decide +kernel
theorem dX6_does_66 : decode cX6_does 66 = .ok (.iload_n 1, 1) := by decide +kernel
theorem dX6_does_67 : decode cX6_does 67 = .ok (.isub, 1) := by decide +kernel
theorem dX6_does_68 : decode cX6_does 68 = .ok (.ireturn, 1) := by decide +kernel
theorem dX6_does_69 : decode cX6_does 69 = .ok (.iinc 1 1, 3) := by decide +kernel
theorem dX6_does_72 : decode cX6_does 72 = .ok (.goto (-29), 3) := by decide +kernel
theorem dX6_does_75 : decode cX6_does 75 = .ok (.aload_n 0, 1) := by decide +kernel
theorem dX6_does_76 : decode cX6_does 76 = .ok (.invokevirtual 268, 3) := by decide +kernel
theorem dX6_does_79 : decode cX6_does 79 = .ok (.aload_n 0, 1) := by decide +kernel
theorem dX6_does_80 : decode cX6_does 80 = .ok (.invokevirtual 91, 3) := by decide +kernel
theorem dX6_does_83 : decode cX6_does 83 = .ok (.aload_n 0, 1) := by decide +kernel
theorem dX6_does_84 : decode cX6_does 84 = .ok (.invokevirtual 268, 3) := by decide +kernel
theorem dX6_does_87 : decode cX6_does 87 = .ok (.aload_n 0, 1) := by decide +kernel
theorem dX6_does_88 : decode cX6_does 88 = .ok (.getfield 240, 3) := by decide +kernel
theorem dX6_does_91 : decode cX6_does 91 = .ok (.ireturn, 1) := by decide +kernel
theorem dX6_countOf_0 : decode cX6_countOf 0 = .ok (.iload_n 1, 1) := by decide +kernel
theorem dX6_countOf_1 : decode cX6_countOf 1 = .ok (.tableswitch 68 0 6 #[43, 50, 68, 68, 68, 58, 63], 43) := by decide +kernel
theorem dX6_countOf_44 : decode cX6_countOf 44 = .ok (.aload_n 0, 1) := by decide +kernel
theorem dX6_countOf_45 : decode cX6_countOf 45 = .ok (.getfield 7, 3) := by decide +kernel
theorem dX6_countOf_48 : decode cX6_countOf 48 = .ok (.iconst 0, 1) := by decide +kernel
theorem dX6_countOf_49 : decode cX6_countOf 49 = .ok (.iaload, 1) := by decide +kernel
theorem dX6_countOf_50 : decode cX6_countOf 50 = .ok (.ireturn, 1) := by decide +kernel
theorem dX6_countOf_51 : decode cX6_countOf 51 = .ok (.aload_n 0, 1) := by decide +kernel
theorem dX6_countOf_52 : decode cX6_countOf 52 = .ok (.getfield 7, 3) := by decide +kernel
theorem dX6_countOf_55 : decode cX6_countOf 55 = .ok (.bipush 45, 2) := by decide +kernel
theorem dX6_countOf_57 : decode cX6_countOf 57 = .ok (.iaload, 1) := by decide +kernel
theorem dX6_countOf_58 : decode cX6_countOf 58 = .ok (.ireturn, 1) := by decide +kernel
theorem dX6_countOf_59 : decode cX6_countOf 59 = .ok (.aload_n 0, 1) := by decide +kernel
theorem dX6_countOf_60 : decode cX6_countOf 60 = .ok (.getfield 219, 3) := by decide +kernel
theorem dX6_countOf_63 : decode cX6_countOf 63 = .ok (.ireturn, 1) := by decide +kernel
theorem dX6_countOf_64 : decode cX6_countOf 64 = .ok (.aload_n 0, 1) := by decide +kernel
theorem dX6_countOf_65 : decode cX6_countOf 65 = .ok (.getfield 52, 3) := by decide +kernel
theorem dX6_countOf_68 : decode cX6_countOf 68 = .ok (.ireturn, 1) := by decide +kernel
theorem dX6_countOf_69 : decode cX6_countOf 69 = .ok (.aload_n 0, 1) := by decide +kernel
theorem dX6_countOf_70 : decode cX6_countOf 70 = .ok (.getfield 19, 3) := by decide +kernel
theorem dX6_countOf_73 : decode cX6_countOf 73 = .ok (.iload_n 1, 1) := by decide +kernel
theorem dX6_countOf_74 : decode cX6_countOf 74 = .ok (.iconst 2, 1) := by decide +kernel
theorem dX6_countOf_75 : decode cX6_countOf 75 = .ok (.isub, 1) := by decide +kernel
theorem dX6_countOf_76 : decode cX6_countOf 76 = .ok (.iaload, 1) := by decide +kernel
theorem dX6_countOf_77 : decode cX6_countOf 77 = .ok (.ireturn, 1) := by decide +kernel
set_option maxRecDepth 20000 in
theorem ggX6_count_X6_in : GoodIn wsX6_count wsX6_in := goodIn_r _ [4] (by decide +kernel) (by decide +kernel)
set_option maxRecDepth 20000 in
theorem gX6_count_X6_in : GoodIn wsX6_count (va_wsS RX6 81 yX6_in wsX6_in) := goodIn_app (goodIn_of _ (by decide +kernel)) ggX6_count_X6_in
set_option maxRecDepth 20000 in
theorem ggX6_count_X6_countOf : GoodIn wsX6_count wsX6_countOf := goodIn_r _ [8, 9, 10, 11, 12, 17, 18, 19, 20, 21, 22, 23, 24, 25, 26, 27, 28, 29, 30, 31, 32, 33, 34, 35, 36, 37] (by decide +kernel) (by decide +kernel)
set_option maxRecDepth 20000 in
theorem gX6_count_X6_countOf : GoodIn wsX6_count (wsV RX6 271 RX6 yX6_countOf wsX6_countOf) := goodIn_app (goodIn_of _ (by decide +kernel)) ggX6_count_X6_countOf
set_option maxRecDepth 20000 in
theorem ggX6_count_X6_bad : GoodIn wsX6_count wsX6_bad := goodIn_r _ [16, 12, 17, 18, 19, 20, 21, 22, 23, 24, 25, 26, 27, 28, 29, 30, 31, 32, 33, 34, 35, 36, 37] (by decide +kernel) (by decide +kernel)
set_option maxRecDepth 20000 in
theorem gX6_count_X6_bad : GoodIn wsX6_count (wsV RX6 105 RX6 yX6_bad wsX6_bad) := goodIn_app (goodIn_of _ (by decide +kernel)) ggX6_count_X6_bad
theorem dX6_count_0 : decode cX6_count 0 = .ok (.iload_n 1, 1) := by decide +kernel
theorem dX6_count_1 : decode cX6_count 1 = .ok (.iconst 0, 1) := by decide +kernel
theorem dX6_count_2 : decode cX6_count 2 = .ok (.bipush 6, 2) := by decide +kernel
theorem dX6_count_4 : decode cX6_count 4 = .ok (.invokestatic 81, 3) := by decide +kernel
theorem dX6_count_7 : decode cX6_count 7 = .ok (.ifCond .eq 11, 3) := by decide +kernel
theorem dX6_count_10 : decode cX6_count 10 = .ok (.aload_n 0, 1) := by decide +kernel
theorem dX6_count_11 : decode cX6_count 11 = .ok (.iload_n 1, 1) := by decide +kernel
theorem dX6_count_12 : decode cX6_count 12 = .ok (.invokevirtual 271, 3) := by decide +kernel
theorem dX6_count_15 : decode cX6_count 15 = .ok (.goto 7, 3) := by decide +kernel
theorem dX6_count_18 : decode cX6_count 18 = .ok (.aload_n 0, 1) := by decide +kernel
theorem dX6_count_19 : decode cX6_count 19 = .ok (.invokevirtual 105, 3) := by decide +kernel
theorem dX6_count_22 : decode cX6_count 22 = .ok (.ireturn, 1) := by decide +kernel
theorem dX6_mix_0 : decode cX6_mix 0 = .ok (.aload_n 0, 1) := by decide +kernel
theorem dX6_mix_1 : decode cX6_mix 1 = .ok (.ldc2_w 274, 3) := by decide +kernel
theorem dX6_mix_4 : decode cX6_mix 4 = .ok (.aload_n 0, 1) := by decide +kernel
theorem dX6_mix_5 : decode cX6_mix 5 = .ok (.getfield 276, 3) := by decide +kernel
theorem dX6_mix_8 : decode cX6_mix 8 = .ok (.lmul, 1) := by decide +kernel
theorem dX6_mix_9 : decode cX6_mix 9 = .ok (.lload_n 1, 1) := by decide +kernel
theorem dX6_mix_10 : decode cX6_mix 10 = .ok (.ladd, 1) := by decide +kernel
theorem dX6_mix_11 : decode cX6_mix 11 = .ok (.putfield 276, 3) := by decide +kernel
theorem dX6_mix_14 : decode cX6_mix 14 = .ok (.return_, 1) := by decide +kernel
set_option maxRecDepth 20000 in
theorem ggX6_digest_X6_countOf : GoodIn wsX6_digest wsX6_countOf := goodIn_r _ [9, 3, 10, 11, 12, 63, 64, 65, 66, 67, 68, 69, 70, 71, 72, 73, 74, 75, 76, 77, 78, 79, 80, 81, 82, 83] (by decide +kernel) (by decide +kernel)
set_option maxRecDepth 20000 in
theorem gX6_digest_X6_countOf : GoodIn wsX6_digest (wsV RX6 271 RX6 yX6_countOf wsX6_countOf) := goodIn_app (goodIn_of _ (by decide +kernel)) ggX6_digest_X6_countOf
set_option maxRecDepth 20000 in
theorem ggX6_digest_X6_mix : GoodIn wsX6_digest wsX6_mix := goodIn_r _ [16, 17, 2, 63, 64, 65, 66, 67, 68, 69, 70, 71, 72, 73, 74, 75, 76, 77, 78, 79, 80, 81, 82, 83] (by decide +kernel) (by decide +kernel)
set_option maxRecDepth 20000 in
theorem gX6_digest_X6_mix : GoodIn wsX6_digest (wsV RX6 282 RX6 yX6_mix wsX6_mix) := goodIn_app (goodIn_of _ (by decide +kernel)) ggX6_digest_X6_mix
set_option maxRecDepth 20000 in
theorem ggX6_digest_X6_boxAt : GoodIn wsX6_digest wsX6_boxAt := goodIn_r _ [21] (by decide +kernel) (by decide +kernel)
set_option maxRecDepth 20000 in
theorem gX6_digest_X6_boxAt : GoodIn wsX6_digest (wsV RX6 85 RX6 yX6_boxAt wsX6_boxAt) := goodIn_app (goodIn_of _ (by decide +kernel)) ggX6_digest_X6_boxAt
set_option maxRecDepth 20000 in
theorem ggX6_digest_X6_detBox : GoodIn wsX6_digest wsX6_detBox := goodIn_r _ [25, 3, 18, 19, 20, 8, 21, 26, 27, 28, 29, 30, 31, 32, 33, 34, 35, 36, 37, 38, 39, 40, 63, 64, 65, 66, 67, 68, 69, 70, 71, 72, 73, 74, 75, 76, 77, 78, 79, 80, 81, 82, 83] (by decide +kernel) (by decide +kernel)
set_option maxRecDepth 20000 in
theorem gX6_digest_X6_detBox : GoodIn wsX6_digest (wsV RX6 175 RX6 yX6_detBox wsX6_detBox) := goodIn_app (goodIn_of _ (by decide +kernel)) ggX6_digest_X6_detBox
set_option maxRecDepth 20000 in
theorem ggX6_digest_X6_testOf : GoodIn wsX6_digest wsX6_testOf := goodIn_r _ [44, 18, 19, 20, 8, 21, 45, 46, 47, 48, 3, 49, 50, 51, 52, 53, 54, 55, 32, 33, 34, 35, 36, 37, 29, 30, 31, 56, 57, 58, 63, 64, 65, 66, 67, 68, 69, 70, 71, 72, 73, 74, 75, 76, 77, 78, 79, 80, 81, 82, 83] (by decide +kernel) (by decide +kernel)
set_option maxRecDepth 20000 in
theorem gX6_digest_X6_testOf : GoodIn wsX6_digest (wsV RX6 213 RX6 yX6_testOf wsX6_testOf) := goodIn_app (goodIn_of _ (by decide +kernel)) ggX6_digest_X6_testOf
set_option maxRecDepth 20000 in
theorem ggX6_digest_X6_likeOf : GoodIn wsX6_digest wsX6_likeOf := goodIn_r _ [62, 3, 18, 19, 20, 8, 21, 63, 64, 65, 66, 67, 68, 69, 70, 71, 72, 73, 74, 75, 76, 77, 78, 79, 80, 81, 82, 83] (by decide +kernel) (by decide +kernel)
set_option maxRecDepth 20000 in
theorem gX6_digest_X6_likeOf : GoodIn wsX6_digest (wsV RX6 216 RX6 yX6_likeOf wsX6_likeOf) := goodIn_app (goodIn_of _ (by decide +kernel)) ggX6_digest_X6_likeOf
theorem dX6_digest_0 : decode cX6_digest 0 = .ok (.aload_n 0, 1) := by decide +kernel
theorem dX6_digest_1 : decode cX6_digest 1 = .ok (.ldc2_w 280, 3) := by decide +kernel
theorem dX6_digest_4 : decode cX6_digest 4 = .ok (.putfield 276, 3) := by decide +kernel
theorem dX6_digest_7 : decode cX6_digest 7 = .ok (.iconst 0, 1) := by decide +kernel
theorem dX6_digest_8 : decode cX6_digest 8 = .ok (.istore_n 1, 1) := by decide +kernel
theorem dX6_digest_9 : decode cX6_digest 9 = .ok (.iload_n 1, 1) := by decide +kernel
theorem dX6_digest_10 : decode cX6_digest 10 = .ok (.bipush 7, 2) := by decide +kernel
theorem dX6_digest_12 : decode cX6_digest 12 = .ok (.if_icmp .ge 19, 3) := by decide +kernel
theorem dX6_digest_15 : decode cX6_digest 15 = .ok (.aload_n 0, 1) := by decide +kernel
theorem dX6_digest_16 : decode cX6_digest 16 = .ok (.aload_n 0, 1) := by decide +kernel
theorem dX6_digest_17 : decode cX6_digest 17 = .ok (.iload_n 1, 1) := by decide +kernel
theorem dX6_digest_18 : decode cX6_digest 18 = .ok (.invokevirtual 271, 3) := by decide +kernel
theorem dX6_digest_21 : decode cX6_digest 21 = .ok (.i2l, 1) := by decide +kernel
theorem dX6_digest_22 : decode cX6_digest 22 = .ok (.invokevirtual 282, 3) := by decide +kernel
theorem dX6_digest_25 : decode cX6_digest 25 = .ok (.iinc 1 1, 3) := by decide +kernel
theorem dX6_digest_28 : decode cX6_digest 28 = .ok (.goto (-19), 3) := by decide +kernel
theorem dX6_digest_31 : decode cX6_digest 31 = .ok (.iconst 0, 1) := by decide +kernel
theorem dX6_digest_32 : decode cX6_digest 32 = .ok (.istore_n 1, 1) := by decide +kernel
theorem dX6_digest_33 : decode cX6_digest 33 = .ok (.iload_n 1, 1) := by decide +kernel
theorem dX6_digest_34 : decode cX6_digest 34 = .ok (.aload_n 0, 1) := by decide +kernel
theorem dX6_digest_35 : decode cX6_digest 35 = .ok (.getfield 7, 3) := by decide +kernel
theorem dX6_digest_38 : decode cX6_digest 38 = .ok (.iconst 0, 1) := by decide +kernel
theorem dX6_digest_39 : decode cX6_digest 39 = .ok (.iaload, 1) := by decide +kernel
theorem dX6_digest_40 : decode cX6_digest 40 = .ok (.if_icmp .ge 83, 3) := by decide +kernel
theorem dX6_digest_43 : decode cX6_digest 43 = .ok (.iconst 0, 1) := by decide +kernel
theorem dX6_digest_44 : decode cX6_digest 44 = .ok (.istore_n 2, 1) := by decide +kernel
theorem dX6_digest_45 : decode cX6_digest 45 = .ok (.iload_n 2, 1) := by decide +kernel
theorem dX6_digest_46 : decode cX6_digest 46 = .ok (.iconst 4, 1) := by decide +kernel
theorem dX6_digest_47 : decode cX6_digest 47 = .ok (.if_icmp .ge 26, 3) := by decide +kernel
theorem dX6_digest_50 : decode cX6_digest 50 = .ok (.aload_n 0, 1) := by decide +kernel
theorem dX6_digest_51 : decode cX6_digest 51 = .ok (.aload_n 0, 1) := by decide +kernel
theorem dX6_digest_52 : decode cX6_digest 52 = .ok (.getfield 7, 3) := by decide +kernel
theorem dX6_digest_55 : decode cX6_digest 55 = .ok (.aload_n 0, 1) := by decide +kernel
theorem dX6_digest_56 : decode cX6_digest 56 = .ok (.iload_n 1, 1) := by decide +kernel
theorem dX6_digest_57 : decode cX6_digest 57 = .ok (.invokevirtual 85, 3) := by decide +kernel
theorem dX6_digest_60 : decode cX6_digest 60 = .ok (.iload_n 2, 1) := by decide +kernel
theorem dX6_digest_61 : decode cX6_digest 61 = .ok (.iadd, 1) := by decide +kernel
theorem dX6_digest_62 : decode cX6_digest 62 = .ok (.iaload, 1) := by decide +kernel
theorem dX6_digest_63 : decode cX6_digest 63 = .ok (.i2l, 1) := by decide +kernel
theorem dX6_digest_64 : decode cX6_digest 64 = .ok (.invokevirtual 282, 3) := by decide +kernel
theorem dX6_digest_67 : decode cX6_digest 67 = .ok (.iinc 2 1, 3) := by decide +kernel
theorem dX6_digest_70 : decode cX6_digest 70 = .ok (.goto (-25), 3) := by decide +kernel
theorem dX6_digest_73 : decode cX6_digest 73 = .ok (.aload_n 0, 1) := by decide +kernel
theorem dX6_digest_74 : decode cX6_digest 74 = .ok (.aload_n 0, 1) := by decide +kernel
theorem dX6_digest_75 : decode cX6_digest 75 = .ok (.iload_n 1, 1) := by decide +kernel
theorem dX6_digest_76 : decode cX6_digest 76 = .ok (.invokevirtual 175, 3) := by decide +kernel
theorem dX6_digest_79 : decode cX6_digest 79 = .ok (.i2l, 1) := by decide +kernel
theorem dX6_digest_80 : decode cX6_digest 80 = .ok (.invokevirtual 282, 3) := by decide +kernel
theorem dX6_digest_83 : decode cX6_digest 83 = .ok (.iconst 0, 1) := by decide +kernel
theorem dX6_digest_84 : decode cX6_digest 84 = .ok (.istore_n 2, 1) := by decide +kernel
theorem dX6_digest_85 : decode cX6_digest 85 = .ok (.iload_n 2, 1) := by decide +kernel
theorem dX6_digest_86 : decode cX6_digest 86 = .ok (.iconst 4, 1) := by decide +kernel
theorem dX6_digest_87 : decode cX6_digest 87 = .ok (.if_icmp .ge 20, 3) := by decide +kernel
theorem dX6_digest_90 : decode cX6_digest 90 = .ok (.aload_n 0, 1) := by decide +kernel
theorem dX6_digest_91 : decode cX6_digest 91 = .ok (.aload_n 0, 1) := by decide +kernel
theorem dX6_digest_92 : decode cX6_digest 92 = .ok (.iload_n 1, 1) := by decide +kernel
theorem dX6_digest_93 : decode cX6_digest 93 = .ok (.iload_n 2, 1) := by decide +kernel
theorem dX6_digest_94 : decode cX6_digest 94 = .ok (.invokevirtual 213, 3) := by decide +kernel
theorem dX6_digest_97 : decode cX6_digest 97 = .ok (.i2l, 1) := by decide +kernel
theorem dX6_digest_98 : decode cX6_digest 98 = .ok (.invokevirtual 282, 3) := by decide +kernel
theorem dX6_digest_101 : decode cX6_digest 101 = .ok (.iinc 2 1, 3) := by decide +kernel
theorem dX6_digest_104 : decode cX6_digest 104 = .ok (.goto (-19), 3) := by decide +kernel
theorem dX6_digest_107 : decode cX6_digest 107 = .ok (.aload_n 0, 1) := by decide +kernel
theorem dX6_digest_108 : decode cX6_digest 108 = .ok (.aload_n 0, 1) := by decide +kernel
theorem dX6_digest_109 : decode cX6_digest 109 = .ok (.iload_n 1, 1) := by decide +kernel
theorem dX6_digest_110 : decode cX6_digest 110 = .ok (.invokevirtual 216, 3) := by decide +kernel
theorem dX6_digest_113 : decode cX6_digest 113 = .ok (.i2l, 1) := by decide +kernel
theorem dX6_digest_114 : decode cX6_digest 114 = .ok (.invokevirtual 282, 3) := by decide +kernel
theorem dX6_digest_117 : decode cX6_digest 117 = .ok (.iinc 1 1, 3) := by decide +kernel
theorem dX6_digest_120 : decode cX6_digest 120 = .ok (.goto (-87), 3) := by decide +kernel
theorem dX6_digest_123 : decode cX6_digest 123 = .ok (.iconst 0, 1) := by decide +kernel
theorem dX6_digest_124 : decode cX6_digest 124 = .ok (.istore_n 1, 1) := by decide +kernel
theorem dX6_digest_125 : decode cX6_digest 125 = .ok (.iload_n 1, 1) := by decide +kernel
theorem dX6_digest_126 : decode cX6_digest 126 = .ok (.bipush 12, 2) := by decide +kernel
theorem dX6_digest_128 : decode cX6_digest 128 = .ok (.if_icmp .ge 23, 3) := by decide +kernel
theorem dX6_digest_131 : decode cX6_digest 131 = .ok (.aload_n 0, 1) := by decide +kernel
theorem dX6_digest_132 : decode cX6_digest 132 = .ok (.aload_n 0, 1) := by decide +kernel
theorem dX6_digest_133 : decode cX6_digest 133 = .ok (.getfield 7, 3) := by decide +kernel
theorem dX6_digest_136 : decode cX6_digest 136 = .ok (.bipush 33, 2) := by decide +kernel
theorem dX6_digest_138 : decode cX6_digest 138 = .ok (.iload_n 1, 1) := by decide +kernel
theorem dX6_digest_139 : decode cX6_digest 139 = .ok (.iadd, 1) := by decide +kernel
theorem dX6_digest_140 : decode cX6_digest 140 = .ok (.iaload, 1) := by decide +kernel
theorem dX6_digest_141 : decode cX6_digest 141 = .ok (.i2l, 1) := by decide +kernel
theorem dX6_digest_142 : decode cX6_digest 142 = .ok (.invokevirtual 282, 3) := by decide +kernel
theorem dX6_digest_145 : decode cX6_digest 145 = .ok (.iinc 1 1, 3) := by decide +kernel
theorem dX6_digest_148 : decode cX6_digest 148 = .ok (.goto (-23), 3) := by decide +kernel
theorem dX6_digest_151 : decode cX6_digest 151 = .ok (.iconst 0, 1) := by decide +kernel
theorem dX6_digest_152 : decode cX6_digest 152 = .ok (.istore_n 1, 1) := by decide +kernel
theorem dX6_digest_153 : decode cX6_digest 153 = .ok (.iload_n 1, 1) := by decide +kernel
theorem dX6_digest_154 : decode cX6_digest 154 = .ok (.bipush 12, 2) := by decide +kernel
theorem dX6_digest_156 : decode cX6_digest 156 = .ok (.if_icmp .ge 40, 3) := by decide +kernel
theorem dX6_digest_159 : decode cX6_digest 159 = .ok (.aload_n 0, 1) := by decide +kernel
theorem dX6_digest_160 : decode cX6_digest 160 = .ok (.aload_n 0, 1) := by decide +kernel
theorem dX6_digest_161 : decode cX6_digest 161 = .ok (.getfield 7, 3) := by decide +kernel
theorem dX6_digest_164 : decode cX6_digest 164 = .ok (.bipush 45, 2) := by decide +kernel
theorem dX6_digest_166 : decode cX6_digest 166 = .ok (.iaload, 1) := by decide +kernel
theorem dX6_digest_167 : decode cX6_digest 167 = .ok (.iconst 1, 1) := by decide +kernel
theorem dX6_digest_168 : decode cX6_digest 168 = .ok (.if_icmp .ne 16, 3) := by decide +kernel
theorem dX6_digest_171 : decode cX6_digest 171 = .ok (.aload_n 0, 1) := by decide +kernel
theorem dX6_digest_172 : decode cX6_digest 172 = .ok (.getfield 7, 3) := by decide +kernel
theorem dX6_digest_175 : decode cX6_digest 175 = .ok (.bipush 46, 2) := by decide +kernel
theorem dX6_digest_177 : decode cX6_digest 177 = .ok (.iload_n 1, 1) := by decide +kernel
theorem dX6_digest_178 : decode cX6_digest 178 = .ok (.iadd, 1) := by decide +kernel
theorem dX6_digest_179 : decode cX6_digest 179 = .ok (.iaload, 1) := by decide +kernel
theorem dX6_digest_180 : decode cX6_digest 180 = .ok (.i2l, 1) := by decide +kernel
theorem dX6_digest_181 : decode cX6_digest 181 = .ok (.goto 6, 3) := by decide +kernel
theorem dX6_digest_184 : decode cX6_digest 184 = .ok (.ldc2_w 286, 3) := by decide +kernel
theorem dX6_digest_187 : decode cX6_digest 187 = .ok (.invokevirtual 282, 3) := by decide +kernel
theorem dX6_digest_190 : decode cX6_digest 190 = .ok (.iinc 1 1, 3) := by decide +kernel
theorem dX6_digest_193 : decode cX6_digest 193 = .ok (.goto (-40), 3) := by decide +kernel
theorem dX6_digest_196 : decode cX6_digest 196 = .ok (.aload_n 0, 1) := by decide +kernel
theorem dX6_digest_197 : decode cX6_digest 197 = .ok (.getfield 276, 3) := by decide +kernel
theorem dX6_digest_200 : decode cX6_digest 200 = .ok (.lreturn, 1) := by decide +kernel
