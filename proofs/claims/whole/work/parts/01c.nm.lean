theorem dX4_formNumber_50 : decode cX4_formNumber 50 = .ok (.goto 41, 3) := by decide +kernel
theorem dX4_formNumber_53 : decode cX4_formNumber 53 = .ok (.aload_n 0, 1) := by decide +kernel
theorem dX4_formNumber_54 : decode cX4_formNumber 54 = .ok (.getfield 24, 3) := by decide +kernel
theorem dX4_formNumber_57 : decode cX4_formNumber 57 = .ok (.aload_n 1, 1) := by decide +kernel
theorem dX4_formNumber_58 : decode cX4_formNumber 58 = .ok (.getfield 73, 3) := by decide +kernel
theorem dX4_formNumber_61 : decode cX4_formNumber 61 = .ok (.iload_n 2, 1) := by decide +kernel
theorem dX4_formNumber_62 : decode cX4_formNumber 62 = .ok (.aaload, 1) := by decide +kernel
theorem dX4_formNumber_63 : decode cX4_formNumber 63 = .ok (.invokevirtual 108, 3) := by decide +kernel
theorem dX4_formNumber_66 : decode cX4_formNumber 66 = .ok (.ifCond .eq 22, 3) := by decide +kernel
theorem dX4_formNumber_69 : decode cX4_formNumber 69 = .ok (.iload_n 3, 1) := by decide +kernel
theorem dX4_formNumber_70 : decode cX4_formNumber 70 = .ok (.iconst 2, 1) := by decide +kernel
theorem dX4_formNumber_71 : decode cX4_formNumber 71 = .ok (.if_icmp .eq 13, 3) := by decide +kernel
theorem dX4_formNumber_74 : decode cX4_formNumber 74 = .ok (.aload_n 0, 1) := by decide +kernel
theorem dX4_formNumber_75 : decode cX4_formNumber 75 = .ok (.getfield 24, 3) := by decide +kernel
theorem dX4_formNumber_78 : decode cX4_formNumber 78 = .ok (.invokevirtual 101, 3) := by decide +kernel
theorem dX4_formNumber_81 : decode cX4_formNumber 81 = .ok (.ifCond .eq 7, 3) := by decide +kernel
theorem dX4_formNumber_84 : decode cX4_formNumber 84 = .ok (.iconst 1, 1) := by decide +kernel
theorem dX4_formNumber_85 : decode cX4_formNumber 85 = .ok (.goto 4, 3) := by decide +kernel
theorem dX4_formNumber_88 : decode cX4_formNumber 88 = .ok (.iconst 0, 1) := by decide +kernel
theorem dX4_formNumber_89 : decode cX4_formNumber 89 = .ok (.istore 5, 2) := by decide +kernel
theorem dX4_formNumber_91 : decode cX4_formNumber 91 = .ok (.iload 5, 2) := by decide +kernel
theorem dX4_formNumber_93 : decode cX4_formNumber 93 = .ok (.ifCond .eq 15, 3) := by decide +kernel
theorem dX4_formNumber_96 : decode cX4_formNumber 96 = .ok (.aload_n 0, 1) := by decide +kernel
theorem dX4_formNumber_97 : decode cX4_formNumber 97 = .ok (.getfield 24, 3) := by decide +kernel
theorem dX4_formNumber_100 : decode cX4_formNumber 100 = .ok (.iload 4, 2) := by decide +kernel
theorem dX4_formNumber_102 : decode cX4_formNumber 102 = .ok (.invokevirtual 111, 3) := by decide +kernel
theorem dX4_formNumber_105 : decode cX4_formNumber 105 = .ok (.goto 5, 3) := by decide +kernel
theorem dX4_formNumber_108 : decode cX4_formNumber 108 = .ok (.bipush (-3), 2) := by decide +kernel
theorem dX4_formNumber_110 : decode cX4_formNumber 110 = .ok (.ireturn, 1) := by decide +kernel
set_option maxRecDepth 20000 in
theorem ggX4_toldNumber_X2_hasBox : GoodIn wsX4_toldNumber wsX2_hasBox := goodIn_r _ [8, 9, 10, 11, 12, 60, 61, 62, 63, 64] (by decide +kernel) (by decide +kernel)
set_option maxRecDepth 20000 in
theorem gX4_toldNumber_X2_hasBox : GoodIn wsX4_toldNumber (wsV RX4 69 RX2 yX2_hasBox wsX2_hasBox) := goodIn_app (goodIn_of _ (by decide +kernel)) ggX4_toldNumber_X2_hasBox
set_option maxRecDepth 20000 in
theorem ggX4_toldNumber_X5_isBelow : GoodIn wsX4_toldNumber wsX5_isBelow := goodIn_r _ [12] (by decide +kernel) (by decide +kernel)
set_option maxRecDepth 20000 in
theorem gX4_toldNumber_X5_isBelow_n105 : GoodIn wsX4_toldNumber (wsX5_isBelow) := ggX4_toldNumber_X5_isBelow
set_option maxRecDepth 20000 in
theorem ggX4_toldNumber_X4_tells : GoodIn wsX4_toldNumber wsX4_tells := goodIn_r _ [17, 18, 19, 3, 20, 21, 22, 23, 24, 25, 26, 27, 28, 29, 30, 31, 32, 33, 34, 35, 36, 37, 38, 39, 40, 41, 42, 43, 44, 45, 46, 47, 48, 49, 50, 51, 52, 53, 54, 55, 73, 74, 75, 76, 65, 66, 67, 68, 69, 70, 71, 72] (by decide +kernel) (by decide +kernel)
set_option maxRecDepth 20000 in
theorem gX4_toldNumber_X4_tells : GoodIn wsX4_toldNumber (wsV RX4 118 RX4 yX4_tells wsX4_tells) := goodIn_app (goodIn_of _ (by decide +kernel)) ggX4_toldNumber_X4_tells
set_option maxRecDepth 20000 in
theorem ggX4_toldNumber_X0_at : GoodIn wsX4_toldNumber wsX0_at := goodIn_r _ [59, 27, 29, 30, 28, 73, 74, 75, 76] (by decide +kernel) (by decide +kernel)
set_option maxRecDepth 20000 in
theorem gX4_toldNumber_X0_at : GoodIn wsX4_toldNumber (wsV RX4 111 RX0 yX0_at wsX0_at) := goodIn_app (goodIn_of _ (by decide +kernel)) ggX4_toldNumber_X0_at
theorem dX4_toldNumber_0 : decode cX4_toldNumber 0 = .ok (.aload_n 1, 1) := by decide +kernel
theorem dX4_toldNumber_1 : decode cX4_toldNumber 1 = .ok (.iload_n 2, 1) := by decide +kernel
theorem dX4_toldNumber_2 : decode cX4_toldNumber 2 = .ok (.invokevirtual 69, 3) := by decide +kernel
theorem dX4_toldNumber_5 : decode cX4_toldNumber 5 = .ok (.ifCond .eq 11, 3) := by decide +kernel
theorem dX4_toldNumber_8 : decode cX4_toldNumber 8 = .ok (.iload_n 3, 1) := by decide +kernel
theorem dX4_toldNumber_9 : decode cX4_toldNumber 9 = .ok (.iconst 4, 1) := by decide +kernel
theorem dX4_toldNumber_10 : decode cX4_toldNumber 10 = .ok (.invokestatic 105, 3) := by decide +kernel
theorem dX4_toldNumber_13 : decode cX4_toldNumber 13 = .ok (.ifCond .ne 6, 3) := by decide +kernel
theorem dX4_toldNumber_16 : decode cX4_toldNumber 16 = .ok (.bipush (-2), 2) := by decide +kernel
theorem dX4_toldNumber_18 : decode cX4_toldNumber 18 = .ok (.ireturn, 1) := by decide +kernel
theorem dX4_toldNumber_19 : decode cX4_toldNumber 19 = .ok (.aload_n 0, 1) := by decide +kernel
theorem dX4_toldNumber_20 : decode cX4_toldNumber 20 = .ok (.aload_n 1, 1) := by decide +kernel
theorem dX4_toldNumber_21 : decode cX4_toldNumber 21 = .ok (.getfield 115, 3) := by decide +kernel
theorem dX4_toldNumber_24 : decode cX4_toldNumber 24 = .ok (.aload_n 1, 1) := by decide +kernel
theorem dX4_toldNumber_25 : decode cX4_toldNumber 25 = .ok (.getfield 73, 3) := by decide +kernel
theorem dX4_toldNumber_28 : decode cX4_toldNumber 28 = .ok (.iload_n 2, 1) := by decide +kernel
theorem dX4_toldNumber_29 : decode cX4_toldNumber 29 = .ok (.aaload, 1) := by decide +kernel
theorem dX4_toldNumber_30 : decode cX4_toldNumber 30 = .ok (.invokevirtual 118, 3) := by decide +kernel
theorem dX4_toldNumber_33 : decode cX4_toldNumber 33 = .ok (.ifCond .eq 14, 3) := by decide +kernel
theorem dX4_toldNumber_36 : decode cX4_toldNumber 36 = .ok (.aload_n 0, 1) := by decide +kernel
theorem dX4_toldNumber_37 : decode cX4_toldNumber 37 = .ok (.getfield 18, 3) := by decide +kernel
theorem dX4_toldNumber_40 : decode cX4_toldNumber 40 = .ok (.iload_n 3, 1) := by decide +kernel
theorem dX4_toldNumber_41 : decode cX4_toldNumber 41 = .ok (.invokevirtual 111, 3) := by decide +kernel
theorem dX4_toldNumber_44 : decode cX4_toldNumber 44 = .ok (.goto 5, 3) := by decide +kernel
theorem dX4_toldNumber_47 : decode cX4_toldNumber 47 = .ok (.bipush (-3), 2) := by decide +kernel
theorem dX4_toldNumber_49 : decode cX4_toldNumber 49 = .ok (.ireturn, 1) := by decide +kernel
set_option maxRecDepth 20000 in
theorem ggX4_addReading_X2_hasBox : GoodIn wsX4_addReading wsX2_hasBox := goodIn_r _ [10, 11, 12, 13, 14, 83, 84, 85, 86, 87] (by decide +kernel) (by decide +kernel)
set_option maxRecDepth 20000 in
theorem gX4_addReading_X2_hasBox : GoodIn wsX4_addReading (wsV RX4 69 RX2 yX2_hasBox wsX2_hasBox) := goodIn_app (goodIn_of _ (by decide +kernel)) ggX4_addReading_X2_hasBox
set_option maxRecDepth 20000 in
theorem ggX4_addReading_X4_tells : GoodIn wsX4_addReading wsX4_tells := goodIn_r _ [19, 20, 21, 22, 23, 24, 25, 26, 27, 28, 29, 30, 31, 32, 33, 34, 35, 36, 37, 38, 39, 40, 41, 42, 43, 44, 45, 46, 47, 48, 49, 50, 51, 52, 53, 54, 55, 56, 57, 58, 96, 97, 98, 99, 88, 89, 90, 91, 92, 93, 94, 95] (by decide +kernel) (by decide +kernel)
set_option maxRecDepth 20000 in
theorem gX4_addReading_X4_tells : GoodIn wsX4_addReading (wsV RX4 118 RX4 yX4_tells wsX4_tells) := goodIn_app (goodIn_of _ (by decide +kernel)) ggX4_addReading_X4_tells
set_option maxRecDepth 20000 in
theorem ggX4_addReading_X4_strip : GoodIn wsX4_addReading wsX4_strip := goodIn_r _ [62, 63, 22, 20, 23, 24, 21, 45, 42, 36, 43, 38, 39, 40, 49, 50, 51, 52, 53, 54, 55, 56, 57, 28, 58, 30, 32, 33, 31, 88, 89, 90, 91, 92, 93, 94, 95, 96, 97, 98, 99] (by decide +kernel) (by decide +kernel)
set_option maxRecDepth 20000 in
theorem gX4_addReading_X4_strip : GoodIn wsX4_addReading (wsV RX4 129 RX4 yX4_strip wsX4_strip) := goodIn_app (goodIn_of _ (by decide +kernel)) ggX4_addReading_X4_strip
set_option maxRecDepth 20000 in
theorem ggX4_addReading_X4_solve : GoodIn wsX4_addReading wsX4_solve := goodIn_r _ [67, 63, 20, 21, 24, 23, 5, 44, 35, 36, 37, 38, 39, 40, 46, 47, 48, 45, 42, 43, 55, 56, 57, 28, 58, 30, 32, 33, 31, 68, 69, 70, 71, 72, 50, 51, 52, 53, 54, 34, 73, 88, 89, 90, 91, 92, 93, 94, 95, 96, 97, 98, 99] (by decide +kernel) (by decide +kernel)
set_option maxRecDepth 20000 in
theorem gX4_addReading_X4_solve : GoodIn wsX4_addReading (wsV RX4 133 RX4 yX4_solve wsX4_solve) := goodIn_app (goodIn_of _ (by decide +kernel)) ggX4_addReading_X4_solve
set_option maxRecDepth 20000 in
theorem ggX4_addReading_X2_addBox : GoodIn wsX4_addReading wsX2_addBox := goodIn_r _ [77, 11, 78, 12, 13, 14, 79, 80, 81, 28, 82, 30, 32, 33, 31, 73, 56, 57, 58, 83, 84, 85, 86, 87, 96, 97, 98, 99] (by decide +kernel) (by decide +kernel)
set_option maxRecDepth 20000 in
theorem gX4_addReading_X2_addBox : GoodIn wsX4_addReading (wsV RX4 44 RX2 yX2_addBox wsX2_addBox) := goodIn_app (goodIn_of _ (by decide +kernel)) ggX4_addReading_X2_addBox
theorem dX4_addReading_0 : decode cX4_addReading 0 = .ok (.aload_n 1, 1) := by decide +kernel
theorem dX4_addReading_1 : decode cX4_addReading 1 = .ok (.iload_n 2, 1) := by decide +kernel
theorem dX4_addReading_2 : decode cX4_addReading 2 = .ok (.invokevirtual 69, 3) := by decide +kernel
theorem dX4_addReading_5 : decode cX4_addReading 5 = .ok (.ifCond .ne 6, 3) := by decide +kernel
theorem dX4_addReading_8 : decode cX4_addReading 8 = .ok (.bipush (-2), 2) := by decide +kernel
theorem dX4_addReading_10 : decode cX4_addReading 10 = .ok (.ireturn, 1) := by decide +kernel
theorem dX4_addReading_11 : decode cX4_addReading 11 = .ok (.aload_n 1, 1) := by decide +kernel
theorem dX4_addReading_12 : decode cX4_addReading 12 = .ok (.getfield 122, 3) := by decide +kernel
theorem dX4_addReading_15 : decode cX4_addReading 15 = .ok (.ifCond .eq 42, 3) := by decide +kernel
theorem dX4_addReading_18 : decode cX4_addReading 18 = .ok (.aload_n 0, 1) := by decide +kernel
theorem dX4_addReading_19 : decode cX4_addReading 19 = .ok (.aload_n 1, 1) := by decide +kernel
theorem dX4_addReading_20 : decode cX4_addReading 20 = .ok (.getfield 115, 3) := by decide +kernel
theorem dX4_addReading_23 : decode cX4_addReading 23 = .ok (.aload_n 1, 1) := by decide +kernel
theorem dX4_addReading_24 : decode cX4_addReading 24 = .ok (.getfield 73, 3) := by decide +kernel
theorem dX4_addReading_27 : decode cX4_addReading 27 = .ok (.iload_n 2, 1) := by decide +kernel
theorem dX4_addReading_28 : decode cX4_addReading 28 = .ok (.aaload, 1) := by decide +kernel
theorem dX4_addReading_29 : decode cX4_addReading 29 = .ok (.invokevirtual 118, 3) := by decide +kernel
theorem dX4_addReading_32 : decode cX4_addReading 32 = .ok (.ifCond .eq 25, 3) := by decide +kernel
theorem dX4_addReading_35 : decode cX4_addReading 35 = .ok (.aload_n 0, 1) := by decide +kernel
theorem dX4_addReading_36 : decode cX4_addReading 36 = .ok (.aload_n 1, 1) := by decide +kernel
theorem dX4_addReading_37 : decode cX4_addReading 37 = .ok (.getfield 126, 3) := by decide +kernel
theorem dX4_addReading_40 : decode cX4_addReading 40 = .ok (.invokevirtual 129, 3) := by decide +kernel
theorem dX4_addReading_43 : decode cX4_addReading 43 = .ok (.ifCond .eq 14, 3) := by decide +kernel
theorem dX4_addReading_46 : decode cX4_addReading 46 = .ok (.aload_n 0, 1) := by decide +kernel
theorem dX4_addReading_47 : decode cX4_addReading 47 = .ok (.aload_n 1, 1) := by decide +kernel
theorem dX4_addReading_48 : decode cX4_addReading 48 = .ok (.getfield 126, 3) := by decide +kernel
theorem dX4_addReading_51 : decode cX4_addReading 51 = .ok (.invokevirtual 133, 3) := by decide +kernel
theorem dX4_addReading_54 : decode cX4_addReading 54 = .ok (.ifCond .ne 6, 3) := by decide +kernel
theorem dX4_addReading_57 : decode cX4_addReading 57 = .ok (.bipush (-3), 2) := by decide +kernel
theorem dX4_addReading_59 : decode cX4_addReading 59 = .ok (.ireturn, 1) := by decide +kernel
theorem dX4_addReading_60 : decode cX4_addReading 60 = .ok (.aload_n 1, 1) := by decide +kernel
theorem dX4_addReading_61 : decode cX4_addReading 61 = .ok (.aload_n 0, 1) := by decide +kernel
theorem dX4_addReading_62 : decode cX4_addReading 62 = .ok (.getfield 33, 3) := by decide +kernel
theorem dX4_addReading_65 : decode cX4_addReading 65 = .ok (.invokevirtual 44, 3) := by decide +kernel
theorem dX4_addReading_68 : decode cX4_addReading 68 = .ok (.ireturn, 1) := by decide +kernel
set_option maxRecDepth 20000 in
theorem ggX4_learnErrors_X4_learnLoad : GoodIn wsX4_learnErrors wsX4_learnLoad := goodIn_r _ [13, 14, 2, 15, 16, 17, 18, 19, 20, 21, 22, 23, 24, 25, 26, 27, 28, 29, 30, 31, 12, 32, 33, 34, 35, 36, 37, 38, 39, 40, 41, 42, 43, 44, 45, 46, 47, 48, 49, 50, 51, 52, 53, 54, 55, 56, 57, 84, 85, 86, 87, 88, 89, 90, 91, 92, 93, 94, 95] (by decide +kernel) (by decide +kernel)
set_option maxRecDepth 20000 in
theorem gX4_learnErrors_X4_learnLoad : GoodIn wsX4_learnErrors (wsV RX4 136 RX4 yX4_learnLoad wsX4_learnLoad) := goodIn_app (goodIn_of _ (by decide +kernel)) ggX4_learnErrors_X4_learnLoad
set_option maxRecDepth 20000 in
theorem ggX4_learnErrors_X4_learnEnds : GoodIn wsX4_learnErrors wsX4_learnEnds := goodIn_r _ [61, 14, 2, 62, 63, 64, 65, 12, 66, 20, 21, 22, 23, 24, 25, 26, 27, 28, 29, 30, 31, 32, 16, 18, 15, 19, 17, 33, 34, 35, 36, 37, 38, 39, 40, 41, 42, 43, 44, 45, 46, 47, 48, 49, 50, 51, 52, 53, 54, 55, 56, 57, 67, 68, 69, 70, 84, 85, 86, 87, 88, 89, 90, 91, 92, 93, 94, 95] (by decide +kernel) (by decide +kernel)
set_option maxRecDepth 20000 in
theorem gX4_learnErrors_X4_learnEnds : GoodIn wsX4_learnErrors (wsV RX4 139 RX4 yX4_learnEnds wsX4_learnEnds) := goodIn_app (goodIn_of _ (by decide +kernel)) ggX4_learnErrors_X4_learnEnds
set_option maxRecDepth 20000 in
theorem ggX4_learnErrors_X4_learnThrough : GoodIn wsX4_learnErrors wsX4_learnThrough := goodIn_r _ [74, 14, 15, 17, 19, 20, 21, 22, 23, 24, 25, 26, 27, 28, 29, 30, 31, 12, 32, 16, 18, 33, 34, 35, 36, 37, 38, 39, 40, 41, 42, 43, 44, 45, 46, 47, 48, 49, 50, 51, 52, 53, 54, 55, 56, 57, 75, 76, 77, 78, 2, 67, 68, 69, 70, 84, 85, 86, 87, 88, 89, 90, 91, 92, 93, 94, 95] (by decide +kernel) (by decide +kernel)
set_option maxRecDepth 20000 in
theorem gX4_learnErrors_X4_learnThrough : GoodIn wsX4_learnErrors (wsV RX4 143 RX4 yX4_learnThrough wsX4_learnThrough) := goodIn_app (goodIn_of _ (by decide +kernel)) ggX4_learnErrors_X4_learnThrough
theorem dX4_learnErrors_0 : decode cX4_learnErrors 0 = .ok (.aload_n 0, 1) := by decide +kernel
theorem dX4_learnErrors_1 : decode cX4_learnErrors 1 = .ok (.aload_n 1, 1) := by decide +kernel
theorem dX4_learnErrors_2 : decode cX4_learnErrors 2 = .ok (.getfield 115, 3) := by decide +kernel
theorem dX4_learnErrors_5 : decode cX4_learnErrors 5 = .ok (.invokevirtual 136, 3) := by decide +kernel
theorem dX4_learnErrors_8 : decode cX4_learnErrors 8 = .ok (.ifCond .eq 38, 3) := by decide +kernel
theorem dX4_learnErrors_11 : decode cX4_learnErrors 11 = .ok (.aload_n 0, 1) := by decide +kernel
theorem dX4_learnErrors_12 : decode cX4_learnErrors 12 = .ok (.aload_n 1, 1) := by decide +kernel
theorem dX4_learnErrors_13 : decode cX4_learnErrors 13 = .ok (.getfield 115, 3) := by decide +kernel
theorem dX4_learnErrors_16 : decode cX4_learnErrors 16 = .ok (.iconst 0, 1) := by decide +kernel
theorem dX4_learnErrors_17 : decode cX4_learnErrors 17 = .ok (.invokevirtual 139, 3) := by decide +kernel
theorem dX4_learnErrors_20 : decode cX4_learnErrors 20 = .ok (.ifCond .eq 26, 3) := by decide +kernel
theorem dX4_learnErrors_23 : decode cX4_learnErrors 23 = .ok (.aload_n 0, 1) := by decide +kernel
theorem dX4_learnErrors_24 : decode cX4_learnErrors 24 = .ok (.aload_n 1, 1) := by decide +kernel
theorem dX4_learnErrors_25 : decode cX4_learnErrors 25 = .ok (.getfield 115, 3) := by decide +kernel
theorem dX4_learnErrors_28 : decode cX4_learnErrors 28 = .ok (.iconst 1, 1) := by decide +kernel
theorem dX4_learnErrors_29 : decode cX4_learnErrors 29 = .ok (.invokevirtual 139, 3) := by decide +kernel
theorem dX4_learnErrors_32 : decode cX4_learnErrors 32 = .ok (.ifCond .eq 14, 3) := by decide +kernel
theorem dX4_learnErrors_35 : decode cX4_learnErrors 35 = .ok (.aload_n 0, 1) := by decide +kernel
theorem dX4_learnErrors_36 : decode cX4_learnErrors 36 = .ok (.aload_n 1, 1) := by decide +kernel
theorem dX4_learnErrors_37 : decode cX4_learnErrors 37 = .ok (.getfield 115, 3) := by decide +kernel
theorem dX4_learnErrors_40 : decode cX4_learnErrors 40 = .ok (.invokevirtual 143, 3) := by decide +kernel
theorem dX4_learnErrors_43 : decode cX4_learnErrors 43 = .ok (.ifCond .ne 6, 3) := by decide +kernel
theorem dX4_learnErrors_46 : decode cX4_learnErrors 46 = .ok (.bipush (-3), 2) := by decide +kernel
theorem dX4_learnErrors_48 : decode cX4_learnErrors 48 = .ok (.ireturn, 1) := by decide +kernel
theorem dX4_learnErrors_49 : decode cX4_learnErrors 49 = .ok (.aload_n 0, 1) := by decide +kernel
theorem dX4_learnErrors_50 : decode cX4_learnErrors 50 = .ok (.getfield 36, 3) := by decide +kernel
theorem dX4_learnErrors_53 : decode cX4_learnErrors 53 = .ok (.iconst 0, 1) := by decide +kernel
theorem dX4_learnErrors_54 : decode cX4_learnErrors 54 = .ok (.aload_n 1, 1) := by decide +kernel
theorem dX4_learnErrors_55 : decode cX4_learnErrors 55 = .ok (.getfield 126, 3) := by decide +kernel
theorem dX4_learnErrors_58 : decode cX4_learnErrors 58 = .ok (.iconst 0, 1) := by decide +kernel
theorem dX4_learnErrors_59 : decode cX4_learnErrors 59 = .ok (.bipush 12, 2) := by decide +kernel
theorem dX4_learnErrors_61 : decode cX4_learnErrors 61 = .ok (.invokestatic 146, 3) := by decide +kernel
theorem dX4_learnErrors_64 : decode cX4_learnErrors 64 = .ok (.aload_n 1, 1) := by decide +kernel
theorem dX4_learnErrors_65 : decode cX4_learnErrors 65 = .ok (.iconst 1, 1) := by decide +kernel
theorem dX4_learnErrors_66 : decode cX4_learnErrors 66 = .ok (.putfield 122, 3) := by decide +kernel
theorem dX4_learnErrors_69 : decode cX4_learnErrors 69 = .ok (.iconst 0, 1) := by decide +kernel
theorem dX4_learnErrors_70 : decode cX4_learnErrors 70 = .ok (.istore_n 2, 1) := by decide +kernel
theorem dX4_learnErrors_71 : decode cX4_learnErrors 71 = .ok (.iconst 0, 1) := by decide +kernel
theorem dX4_learnErrors_72 : decode cX4_learnErrors 72 = .ok (.istore_n 3, 1) := by decide +kernel
theorem dX4_learnErrors_73 : decode cX4_learnErrors 73 = .ok (.iload_n 3, 1) := by decide +kernel
theorem dX4_learnErrors_74 : decode cX4_learnErrors 74 = .ok (.bipush 12, 2) := by decide +kernel
theorem dX4_learnErrors_76 : decode cX4_learnErrors 76 = .ok (.if_icmp .ge 27, 3) := by decide +kernel
theorem dX4_learnErrors_79 : decode cX4_learnErrors 79 = .ok (.aload_n 1, 1) := by decide +kernel
theorem dX4_learnErrors_80 : decode cX4_learnErrors 80 = .ok (.getfield 126, 3) := by decide +kernel
theorem dX4_learnErrors_83 : decode cX4_learnErrors 83 = .ok (.iload_n 3, 1) := by decide +kernel
theorem dX4_learnErrors_84 : decode cX4_learnErrors 84 = .ok (.iaload, 1) := by decide +kernel
theorem dX4_learnErrors_85 : decode cX4_learnErrors 85 = .ok (.aload_n 1, 1) := by decide +kernel
theorem dX4_learnErrors_86 : decode cX4_learnErrors 86 = .ok (.getfield 115, 3) := by decide +kernel
theorem dX4_learnErrors_89 : decode cX4_learnErrors 89 = .ok (.iload_n 3, 1) := by decide +kernel
theorem dX4_learnErrors_90 : decode cX4_learnErrors 90 = .ok (.iaload, 1) := by decide +kernel
theorem dX4_learnErrors_91 : decode cX4_learnErrors 91 = .ok (.if_icmp .ne 6, 3) := by decide +kernel
theorem dX4_learnErrors_94 : decode cX4_learnErrors 94 = .ok (.iinc 2 1, 3) := by decide +kernel
theorem dX4_learnErrors_97 : decode cX4_learnErrors 97 = .ok (.iinc 3 1, 3) := by decide +kernel
theorem dX4_learnErrors_100 : decode cX4_learnErrors 100 = .ok (.goto (-27), 3) := by decide +kernel
theorem dX4_learnErrors_103 : decode cX4_learnErrors 103 = .ok (.iload_n 2, 1) := by decide +kernel
theorem dX4_learnErrors_104 : decode cX4_learnErrors 104 = .ok (.ireturn, 1) := by decide +kernel
set_option maxRecDepth 20000 in
theorem ggX4_tells_X0_determinant : GoodIn wsX4_tells wsX0_determinant := goodIn_r _ [10, 11, 12, 13, 14, 15, 16, 17, 18, 19, 20, 21, 22, 23, 24, 40, 41, 42, 43] (by decide +kernel) (by decide +kernel)
set_option maxRecDepth 20000 in
theorem gX4_tells_X0_determinant : GoodIn wsX4_tells (wsV RX4 152 RX0 yX0_determinant wsX0_determinant) := goodIn_app (goodIn_of _ (by decide +kernel)) ggX4_tells_X0_determinant
set_option maxRecDepth 20000 in
theorem ggX4_tells_X1_times : GoodIn wsX4_tells wsX1_times := goodIn_r _ [18, 19, 20, 17, 21] (by decide +kernel) (by decide +kernel)
set_option maxRecDepth 20000 in
theorem gX4_tells_X1_times : GoodIn wsX4_tells (va_wsS RX4 156 yX1_times wsX1_times) := goodIn_app (goodIn_of _ (by decide +kernel)) ggX4_tells_X1_times
set_option maxRecDepth 20000 in
theorem ggX4_tells_X1_minus : GoodIn wsX4_tells wsX1_minus := goodIn_r _ [24, 19, 20, 17, 21] (by decide +kernel) (by decide +kernel)
set_option maxRecDepth 20000 in
theorem gX4_tells_X1_minus : GoodIn wsX4_tells (va_wsS RX4 159 yX1_minus wsX1_minus) := goodIn_app (goodIn_of _ (by decide +kernel)) ggX4_tells_X1_minus
set_option maxRecDepth 20000 in
theorem ggX4_tells_X1_plus : GoodIn wsX4_tells wsX1_plus := goodIn_r _ [29, 19, 20, 17, 21] (by decide +kernel) (by decide +kernel)
set_option maxRecDepth 20000 in
theorem gX4_tells_X1_plus : GoodIn wsX4_tells (va_wsS RX4 162 yX1_plus wsX1_plus) := goodIn_app (goodIn_of _ (by decide +kernel)) ggX4_tells_X1_plus
set_option maxRecDepth 20000 in
theorem ggX4_tells_X1_over : GoodIn wsX4_tells wsX1_over := goodIn_r _ [32, 33, 34, 17, 35, 19, 20, 21] (by decide +kernel) (by decide +kernel)
set_option maxRecDepth 20000 in
theorem gX4_tells_X1_over : GoodIn wsX4_tells (va_wsS RX4 165 yX1_over wsX1_over) := goodIn_app (goodIn_of _ (by decide +kernel)) ggX4_tells_X1_over
set_option maxRecDepth 20000 in
theorem ggX4_tells_X0_fill : GoodIn wsX4_tells wsX0_fill := goodIn_r _ [39, 11, 13, 14, 12, 40, 41, 42, 43] (by decide +kernel) (by decide +kernel)
set_option maxRecDepth 20000 in
theorem gX4_tells_X0_fill : GoodIn wsX4_tells (wsV RX4 40 RX0 yX0_fill wsX0_fill) := goodIn_app (goodIn_of _ (by decide +kernel)) ggX4_tells_X0_fill
theorem dX4_tells_0 : decode cX4_tells 0 = .ok (.aload_n 2, 1) := by decide +kernel
theorem dX4_tells_1 : decode cX4_tells 1 = .ok (.invokevirtual 152, 3) := by decide +kernel
theorem dX4_tells_4 : decode cX4_tells 4 = .ok (.istore_n 3, 1) := by decide +kernel
theorem dX4_tells_5 : decode cX4_tells 5 = .ok (.sipush 10007, 3) := by decide +kernel
theorem dX4_tells_8 : decode cX4_tells 8 = .ok (.aload_n 1, 1) := by decide +kernel
theorem dX4_tells_9 : decode cX4_tells 9 = .ok (.iconst 1, 1) := by decide +kernel
theorem dX4_tells_10 : decode cX4_tells 10 = .ok (.iaload, 1) := by decide +kernel
theorem dX4_tells_11 : decode cX4_tells 11 = .ok (.aload_n 2, 1) := by decide +kernel
theorem dX4_tells_12 : decode cX4_tells 12 = .ok (.getfield 87, 3) := by decide +kernel
theorem dX4_tells_15 : decode cX4_tells 15 = .ok (.invokestatic 156, 3) := by decide +kernel
theorem dX4_tells_18 : decode cX4_tells 18 = .ok (.invokestatic 159, 3) := by decide +kernel
theorem dX4_tells_21 : decode cX4_tells 21 = .ok (.aload_n 1, 1) := by decide +kernel
theorem dX4_tells_22 : decode cX4_tells 22 = .ok (.iconst 4, 1) := by decide +kernel
theorem dX4_tells_23 : decode cX4_tells 23 = .ok (.iaload, 1) := by decide +kernel
theorem dX4_tells_24 : decode cX4_tells 24 = .ok (.aload_n 2, 1) := by decide +kernel
theorem dX4_tells_25 : decode cX4_tells 25 = .ok (.getfield 77, 3) := by decide +kernel
theorem dX4_tells_28 : decode cX4_tells 28 = .ok (.invokestatic 156, 3) := by decide +kernel
theorem dX4_tells_31 : decode cX4_tells 31 = .ok (.invokestatic 159, 3) := by decide +kernel
theorem dX4_tells_34 : decode cX4_tells 34 = .ok (.istore 4, 2) := by decide +kernel
theorem dX4_tells_36 : decode cX4_tells 36 = .ok (.sipush 10007, 3) := by decide +kernel
theorem dX4_tells_39 : decode cX4_tells 39 = .ok (.aload_n 1, 1) := by decide +kernel
theorem dX4_tells_40 : decode cX4_tells 40 = .ok (.bipush 10, 2) := by decide +kernel
theorem dX4_tells_42 : decode cX4_tells 42 = .ok (.iaload, 1) := by decide +kernel
theorem dX4_tells_43 : decode cX4_tells 43 = .ok (.aload_n 2, 1) := by decide +kernel
theorem dX4_tells_44 : decode cX4_tells 44 = .ok (.getfield 87, 3) := by decide +kernel
theorem dX4_tells_47 : decode cX4_tells 47 = .ok (.invokestatic 156, 3) := by decide +kernel
theorem dX4_tells_50 : decode cX4_tells 50 = .ok (.invokestatic 159, 3) := by decide +kernel
theorem dX4_tells_53 : decode cX4_tells 53 = .ok (.aload_n 1, 1) := by decide +kernel
theorem dX4_tells_54 : decode cX4_tells 54 = .ok (.bipush 7, 2) := by decide +kernel
theorem dX4_tells_56 : decode cX4_tells 56 = .ok (.iaload, 1) := by decide +kernel
theorem dX4_tells_57 : decode cX4_tells 57 = .ok (.aload_n 2, 1) := by decide +kernel
theorem dX4_tells_58 : decode cX4_tells 58 = .ok (.getfield 77, 3) := by decide +kernel
theorem dX4_tells_61 : decode cX4_tells 61 = .ok (.invokestatic 156, 3) := by decide +kernel
theorem dX4_tells_64 : decode cX4_tells 64 = .ok (.invokestatic 159, 3) := by decide +kernel
theorem dX4_tells_67 : decode cX4_tells 67 = .ok (.istore 5, 2) := by decide +kernel
theorem dX4_tells_69 : decode cX4_tells 69 = .ok (.iload 4, 2) := by decide +kernel
theorem dX4_tells_71 : decode cX4_tells 71 = .ok (.aload_n 1, 1) := by decide +kernel
theorem dX4_tells_72 : decode cX4_tells 72 = .ok (.iconst 1, 1) := by decide +kernel
theorem dX4_tells_73 : decode cX4_tells 73 = .ok (.iaload, 1) := by decide +kernel
theorem dX4_tells_74 : decode cX4_tells 74 = .ok (.aload_n 1, 1) := by decide +kernel
theorem dX4_tells_75 : decode cX4_tells 75 = .ok (.iconst 4, 1) := by decide +kernel
theorem dX4_tells_76 : decode cX4_tells 76 = .ok (.iaload, 1) := by decide +kernel
theorem dX4_tells_77 : decode cX4_tells 77 = .ok (.invokestatic 156, 3) := by decide +kernel
theorem dX4_tells_80 : decode cX4_tells 80 = .ok (.iload_n 3, 1) := by decide +kernel
theorem dX4_tells_81 : decode cX4_tells 81 = .ok (.invokestatic 156, 3) := by decide +kernel
theorem dX4_tells_84 : decode cX4_tells 84 = .ok (.invokestatic 162, 3) := by decide +kernel
theorem dX4_tells_87 : decode cX4_tells 87 = .ok (.istore 6, 2) := by decide +kernel
theorem dX4_tells_89 : decode cX4_tells 89 = .ok (.iload 5, 2) := by decide +kernel
theorem dX4_tells_91 : decode cX4_tells 91 = .ok (.aload_n 1, 1) := by decide +kernel
theorem dX4_tells_92 : decode cX4_tells 92 = .ok (.bipush 10, 2) := by decide +kernel
theorem dX4_tells_94 : decode cX4_tells 94 = .ok (.iaload, 1) := by decide +kernel
theorem dX4_tells_95 : decode cX4_tells 95 = .ok (.aload_n 1, 1) := by decide +kernel
theorem dX4_tells_96 : decode cX4_tells 96 = .ok (.bipush 7, 2) := by decide +kernel
theorem dX4_tells_98 : decode cX4_tells 98 = .ok (.iaload, 1) := by decide +kernel
theorem dX4_tells_99 : decode cX4_tells 99 = .ok (.invokestatic 156, 3) := by decide +kernel
theorem dX4_tells_102 : decode cX4_tells 102 = .ok (.iload_n 3, 1) := by decide +kernel
theorem dX4_tells_103 : decode cX4_tells 103 = .ok (.invokestatic 156, 3) := by decide +kernel
theorem dX4_tells_106 : decode cX4_tells 106 = .ok (.invokestatic 162, 3) := by decide +kernel
theorem dX4_tells_109 : decode cX4_tells 109 = .ok (.istore 7, 2) := by decide +kernel
theorem dX4_tells_111 : decode cX4_tells 111 = .ok (.iload 6, 2) := by decide +kernel
theorem dX4_tells_113 : decode cX4_tells 113 = .ok (.ifCond .eq 8, 3) := by decide +kernel
theorem dX4_tells_116 : decode cX4_tells 116 = .ok (.iload 7, 2) := by decide +kernel
theorem dX4_tells_118 : decode cX4_tells 118 = .ok (.ifCond .ne 5, 3) := by decide +kernel
theorem dX4_tells_121 : decode cX4_tells 121 = .ok (.iconst 0, 1) := by decide +kernel
theorem dX4_tells_122 : decode cX4_tells 122 = .ok (.ireturn, 1) := by decide +kernel
theorem dX4_tells_123 : decode cX4_tells 123 = .ok (.aload_n 1, 1) := by decide +kernel
theorem dX4_tells_124 : decode cX4_tells 124 = .ok (.iconst 2, 1) := by decide +kernel
theorem dX4_tells_125 : decode cX4_tells 125 = .ok (.iaload, 1) := by decide +kernel
theorem dX4_tells_126 : decode cX4_tells 126 = .ok (.aload_n 2, 1) := by decide +kernel
theorem dX4_tells_127 : decode cX4_tells 127 = .ok (.getfield 87, 3) := by decide +kernel
theorem dX4_tells_130 : decode cX4_tells 130 = .ok (.aload_n 1, 1) := by decide +kernel
theorem dX4_tells_131 : decode cX4_tells 131 = .ok (.iconst 4, 1) := by decide +kernel
theorem dX4_tells_132 : decode cX4_tells 132 = .ok (.iaload, 1) := by decide +kernel
theorem dX4_tells_133 : decode cX4_tells 133 = .ok (.iload_n 3, 1) := by decide +kernel
theorem dX4_tells_134 : decode cX4_tells 134 = .ok (.invokestatic 156, 3) := by decide +kernel
theorem dX4_tells_137 : decode cX4_tells 137 = .ok (.invokestatic 159, 3) := by decide +kernel
theorem dX4_tells_140 : decode cX4_tells 140 = .ok (.invokestatic 156, 3) := by decide +kernel
theorem dX4_tells_143 : decode cX4_tells 143 = .ok (.istore 8, 2) := by decide +kernel
theorem dX4_tells_145 : decode cX4_tells 145 = .ok (.aload_n 1, 1) := by decide +kernel
theorem dX4_tells_146 : decode cX4_tells 146 = .ok (.bipush 8, 2) := by decide +kernel
theorem dX4_tells_148 : decode cX4_tells 148 = .ok (.iaload, 1) := by decide +kernel
theorem dX4_tells_149 : decode cX4_tells 149 = .ok (.aload_n 2, 1) := by decide +kernel
theorem dX4_tells_150 : decode cX4_tells 150 = .ok (.getfield 77, 3) := by decide +kernel
theorem dX4_tells_153 : decode cX4_tells 153 = .ok (.aload_n 1, 1) := by decide +kernel
theorem dX4_tells_154 : decode cX4_tells 154 = .ok (.bipush 10, 2) := by decide +kernel
theorem dX4_tells_156 : decode cX4_tells 156 = .ok (.iaload, 1) := by decide +kernel
theorem dX4_tells_157 : decode cX4_tells 157 = .ok (.iload_n 3, 1) := by decide +kernel
theorem dX4_tells_158 : decode cX4_tells 158 = .ok (.invokestatic 156, 3) := by decide +kernel
theorem dX4_tells_161 : decode cX4_tells 161 = .ok (.invokestatic 159, 3) := by decide +kernel
theorem dX4_tells_164 : decode cX4_tells 164 = .ok (.invokestatic 156, 3) := by decide +kernel
theorem dX4_tells_167 : decode cX4_tells 167 = .ok (.istore 9, 2) := by decide +kernel
theorem dX4_tells_169 : decode cX4_tells 169 = .ok (.aload_n 0, 1) := by decide +kernel
theorem dX4_tells_170 : decode cX4_tells 170 = .ok (.getfield 18, 3) := by decide +kernel
theorem dX4_tells_173 : decode cX4_tells 173 = .ok (.aload_n 1, 1) := by decide +kernel
theorem dX4_tells_174 : decode cX4_tells 174 = .ok (.iconst 0, 1) := by decide +kernel
theorem dX4_tells_175 : decode cX4_tells 175 = .ok (.iaload, 1) := by decide +kernel
theorem dX4_tells_176 : decode cX4_tells 176 = .ok (.iload 8, 2) := by decide +kernel
theorem dX4_tells_178 : decode cX4_tells 178 = .ok (.iload 6, 2) := by decide +kernel
theorem dX4_tells_180 : decode cX4_tells 180 = .ok (.invokestatic 165, 3) := by decide +kernel
theorem dX4_tells_183 : decode cX4_tells 183 = .ok (.invokestatic 162, 3) := by decide +kernel
theorem dX4_tells_186 : decode cX4_tells 186 = .ok (.aload_n 1, 1) := by decide +kernel
theorem dX4_tells_187 : decode cX4_tells 187 = .ok (.bipush 9, 2) := by decide +kernel
theorem dX4_tells_189 : decode cX4_tells 189 = .ok (.iaload, 1) := by decide +kernel
theorem dX4_tells_190 : decode cX4_tells 190 = .ok (.aload_n 1, 1) := by decide +kernel
theorem dX4_tells_191 : decode cX4_tells 191 = .ok (.bipush 11, 2) := by decide +kernel
theorem dX4_tells_193 : decode cX4_tells 193 = .ok (.iaload, 1) := by decide +kernel
theorem dX4_tells_194 : decode cX4_tells 194 = .ok (.aload_n 2, 1) := by decide +kernel
theorem dX4_tells_195 : decode cX4_tells 195 = .ok (.getfield 84, 3) := by decide +kernel
theorem dX4_tells_198 : decode cX4_tells 198 = .ok (.invokestatic 156, 3) := by decide +kernel
theorem dX4_tells_201 : decode cX4_tells 201 = .ok (.iload 7, 2) := by decide +kernel
theorem dX4_tells_203 : decode cX4_tells 203 = .ok (.invokestatic 165, 3) := by decide +kernel
theorem dX4_tells_206 : decode cX4_tells 206 = .ok (.invokestatic 162, 3) := by decide +kernel
theorem dX4_tells_209 : decode cX4_tells 209 = .ok (.aload_n 1, 1) := by decide +kernel
theorem dX4_tells_210 : decode cX4_tells 210 = .ok (.iconst 3, 1) := by decide +kernel
theorem dX4_tells_211 : decode cX4_tells 211 = .ok (.iaload, 1) := by decide +kernel
theorem dX4_tells_212 : decode cX4_tells 212 = .ok (.aload_n 1, 1) := by decide +kernel
theorem dX4_tells_213 : decode cX4_tells 213 = .ok (.iconst 5, 1) := by decide +kernel
theorem dX4_tells_214 : decode cX4_tells 214 = .ok (.iaload, 1) := by decide +kernel
theorem dX4_tells_215 : decode cX4_tells 215 = .ok (.aload_n 2, 1) := by decide +kernel
theorem dX4_tells_216 : decode cX4_tells 216 = .ok (.getfield 81, 3) := by decide +kernel
theorem dX4_tells_219 : decode cX4_tells 219 = .ok (.invokestatic 156, 3) := by decide +kernel
theorem dX4_tells_222 : decode cX4_tells 222 = .ok (.iload 6, 2) := by decide +kernel
theorem dX4_tells_224 : decode cX4_tells 224 = .ok (.invokestatic 165, 3) := by decide +kernel
theorem dX4_tells_227 : decode cX4_tells 227 = .ok (.invokestatic 162, 3) := by decide +kernel
theorem dX4_tells_230 : decode cX4_tells 230 = .ok (.aload_n 1, 1) := by decide +kernel
theorem dX4_tells_231 : decode cX4_tells 231 = .ok (.bipush 6, 2) := by decide +kernel
theorem dX4_tells_233 : decode cX4_tells 233 = .ok (.iaload, 1) := by decide +kernel
theorem dX4_tells_234 : decode cX4_tells 234 = .ok (.iload 9, 2) := by decide +kernel
theorem dX4_tells_236 : decode cX4_tells 236 = .ok (.iload 7, 2) := by decide +kernel
theorem dX4_tells_238 : decode cX4_tells 238 = .ok (.invokestatic 165, 3) := by decide +kernel
theorem dX4_tells_241 : decode cX4_tells 241 = .ok (.invokestatic 162, 3) := by decide +kernel
theorem dX4_tells_244 : decode cX4_tells 244 = .ok (.invokevirtual 40, 3) := by decide +kernel
theorem dX4_tells_247 : decode cX4_tells 247 = .ok (.iconst 1, 1) := by decide +kernel
theorem dX4_tells_248 : decode cX4_tells 248 = .ok (.ireturn, 1) := by decide +kernel
set_option maxRecDepth 20000 in
theorem ggX4_learnLoad_X0_fill : GoodIn wsX4_learnLoad wsX0_fill := goodIn_r _ [12, 13, 14, 15, 16, 55, 56, 57, 58] (by decide +kernel) (by decide +kernel)
set_option maxRecDepth 20000 in
theorem gX4_learnLoad_X0_fill : GoodIn wsX4_learnLoad (wsV RX4 40 RX0 yX0_fill wsX0_fill) := goodIn_app (goodIn_of _ (by decide +kernel)) ggX4_learnLoad_X0_fill
set_option maxRecDepth 20000 in
theorem ggX4_learnLoad_X4_tells : GoodIn wsX4_learnLoad wsX4_tells := goodIn_r _ [21, 4, 6, 3, 7, 5, 22, 23, 24, 11, 25, 13, 16, 14, 15, 26, 27, 28, 29, 30, 31, 32, 33, 34, 35, 36, 37, 38, 39, 40, 41, 42, 43, 44, 45, 46, 8, 9, 10, 12, 55, 56, 57, 58, 47, 48, 49, 50, 51, 52, 53, 54] (by decide +kernel) (by decide +kernel)
set_option maxRecDepth 20000 in
theorem gX4_learnLoad_X4_tells : GoodIn wsX4_learnLoad (wsV RX4 118 RX4 yX4_tells wsX4_tells) := goodIn_app (goodIn_of _ (by decide +kernel)) ggX4_learnLoad_X4_tells
theorem dX4_learnLoad_0 : decode cX4_learnLoad 0 = .ok (.aload_n 0, 1) := by decide +kernel
theorem dX4_learnLoad_1 : decode cX4_learnLoad 1 = .ok (.getfield 12, 3) := by decide +kernel
theorem dX4_learnLoad_4 : decode cX4_learnLoad 4 = .ok (.iconst 0, 1) := by decide +kernel
theorem dX4_learnLoad_5 : decode cX4_learnLoad 5 = .ok (.iconst 0, 1) := by decide +kernel
theorem dX4_learnLoad_6 : decode cX4_learnLoad 6 = .ok (.iconst 0, 1) := by decide +kernel
theorem dX4_learnLoad_7 : decode cX4_learnLoad 7 = .ok (.iconst 0, 1) := by decide +kernel
theorem dX4_learnLoad_8 : decode cX4_learnLoad 8 = .ok (.invokevirtual 40, 3) := by decide +kernel
theorem dX4_learnLoad_11 : decode cX4_learnLoad 11 = .ok (.aload_n 0, 1) := by decide +kernel
theorem dX4_learnLoad_12 : decode cX4_learnLoad 12 = .ok (.aload_n 1, 1) := by decide +kernel
theorem dX4_learnLoad_13 : decode cX4_learnLoad 13 = .ok (.aload_n 0, 1) := by decide +kernel
theorem dX4_learnLoad_14 : decode cX4_learnLoad 14 = .ok (.getfield 12, 3) := by decide +kernel
theorem dX4_learnLoad_17 : decode cX4_learnLoad 17 = .ok (.invokevirtual 118, 3) := by decide +kernel
theorem dX4_learnLoad_20 : decode cX4_learnLoad 20 = .ok (.ifCond .ne 5, 3) := by decide +kernel
theorem dX4_learnLoad_23 : decode cX4_learnLoad 23 = .ok (.iconst 0, 1) := by decide +kernel
theorem dX4_learnLoad_24 : decode cX4_learnLoad 24 = .ok (.ireturn, 1) := by decide +kernel
theorem dX4_learnLoad_25 : decode cX4_learnLoad 25 = .ok (.aload_n 0, 1) := by decide +kernel
theorem dX4_learnLoad_26 : decode cX4_learnLoad 26 = .ok (.getfield 36, 3) := by decide +kernel
theorem dX4_learnLoad_29 : decode cX4_learnLoad 29 = .ok (.iconst 0, 1) := by decide +kernel
theorem dX4_learnLoad_30 : decode cX4_learnLoad 30 = .ok (.aload_n 0, 1) := by decide +kernel
theorem dX4_learnLoad_31 : decode cX4_learnLoad 31 = .ok (.getfield 18, 3) := by decide +kernel
theorem dX4_learnLoad_34 : decode cX4_learnLoad 34 = .ok (.getfield 87, 3) := by decide +kernel
theorem dX4_learnLoad_37 : decode cX4_learnLoad 37 = .ok (.iastore, 1) := by decide +kernel
theorem dX4_learnLoad_38 : decode cX4_learnLoad 38 = .ok (.aload_n 0, 1) := by decide +kernel
theorem dX4_learnLoad_39 : decode cX4_learnLoad 39 = .ok (.getfield 36, 3) := by decide +kernel
theorem dX4_learnLoad_42 : decode cX4_learnLoad 42 = .ok (.iconst 3, 1) := by decide +kernel
theorem dX4_learnLoad_43 : decode cX4_learnLoad 43 = .ok (.aload_n 0, 1) := by decide +kernel
theorem dX4_learnLoad_44 : decode cX4_learnLoad 44 = .ok (.getfield 18, 3) := by decide +kernel
theorem dX4_learnLoad_47 : decode cX4_learnLoad 47 = .ok (.getfield 81, 3) := by decide +kernel
theorem dX4_learnLoad_50 : decode cX4_learnLoad 50 = .ok (.iastore, 1) := by decide +kernel
theorem dX4_learnLoad_51 : decode cX4_learnLoad 51 = .ok (.aload_n 0, 1) := by decide +kernel
theorem dX4_learnLoad_52 : decode cX4_learnLoad 52 = .ok (.getfield 36, 3) := by decide +kernel
theorem dX4_learnLoad_55 : decode cX4_learnLoad 55 = .ok (.bipush 6, 2) := by decide +kernel
theorem dX4_learnLoad_57 : decode cX4_learnLoad 57 = .ok (.aload_n 0, 1) := by decide +kernel
theorem dX4_learnLoad_58 : decode cX4_learnLoad 58 = .ok (.getfield 18, 3) := by decide +kernel
theorem dX4_learnLoad_61 : decode cX4_learnLoad 61 = .ok (.getfield 77, 3) := by decide +kernel
theorem dX4_learnLoad_64 : decode cX4_learnLoad 64 = .ok (.iastore, 1) := by decide +kernel
theorem dX4_learnLoad_65 : decode cX4_learnLoad 65 = .ok (.aload_n 0, 1) := by decide +kernel
theorem dX4_learnLoad_66 : decode cX4_learnLoad 66 = .ok (.getfield 36, 3) := by decide +kernel
theorem dX4_learnLoad_69 : decode cX4_learnLoad 69 = .ok (.bipush 9, 2) := by decide +kernel
theorem dX4_learnLoad_71 : decode cX4_learnLoad 71 = .ok (.aload_n 0, 1) := by decide +kernel
theorem dX4_learnLoad_72 : decode cX4_learnLoad 72 = .ok (.getfield 18, 3) := by decide +kernel
theorem dX4_learnLoad_75 : decode cX4_learnLoad 75 = .ok (.getfield 84, 3) := by decide +kernel
theorem dX4_learnLoad_78 : decode cX4_learnLoad 78 = .ok (.iastore, 1) := by decide +kernel
theorem dX4_learnLoad_79 : decode cX4_learnLoad 79 = .ok (.iconst 1, 1) := by decide +kernel
theorem dX4_learnLoad_80 : decode cX4_learnLoad 80 = .ok (.ireturn, 1) := by decide +kernel
set_option maxRecDepth 20000 in
theorem ggX4_learnEnds_X4_endStandard : GoodIn wsX4_learnEnds wsX4_endStandard := goodIn_r _ [8, 1, 9, 10, 11, 12, 13, 14, 15, 16, 17, 56, 57, 58, 59, 60, 61, 62, 63, 64, 65, 66, 67] (by decide +kernel) (by decide +kernel)
set_option maxRecDepth 20000 in
theorem gX4_learnEnds_X4_endStandard : GoodIn wsX4_learnEnds (wsV RX4 168 RX4 yX4_endStandard wsX4_endStandard) := goodIn_app (goodIn_of _ (by decide +kernel)) ggX4_learnEnds_X4_endStandard
set_option maxRecDepth 20000 in
theorem ggX4_learnEnds_X4_tells : GoodIn wsX4_learnEnds wsX4_tells := goodIn_r _ [21, 22, 23, 24, 25, 26, 27, 28, 29, 12, 30, 14, 17, 15, 16, 31, 32, 33, 34, 35, 36, 37, 38, 39, 40, 41, 42, 43, 44, 45, 46, 47, 48, 49, 50, 51, 9, 10, 11, 13, 64, 65, 66, 67, 56, 57, 58, 59, 60, 61, 62, 63] (by decide +kernel) (by decide +kernel)
set_option maxRecDepth 20000 in
theorem gX4_learnEnds_X4_tells : GoodIn wsX4_learnEnds (wsV RX4 118 RX4 yX4_tells wsX4_tells) := goodIn_app (goodIn_of _ (by decide +kernel)) ggX4_learnEnds_X4_tells
set_option maxRecDepth 20000 in
theorem ggX4_learnEnds_X4_seenAt : GoodIn wsX4_learnEnds wsX4_seenAt := goodIn_r _ [55, 24, 22, 23, 56, 57, 58, 59, 60, 61, 62, 63, 64, 65, 66, 67] (by decide +kernel) (by decide +kernel)
set_option maxRecDepth 20000 in
theorem gX4_learnEnds_X4_seenAt : GoodIn wsX4_learnEnds (wsV RX4 171 RX4 yX4_seenAt wsX4_seenAt) := goodIn_app (goodIn_of _ (by decide +kernel)) ggX4_learnEnds_X4_seenAt
set_option maxRecDepth 20000 in
theorem ggX4_learnEnds_X1_minus : GoodIn wsX4_learnEnds wsX1_minus := goodIn_r _ [40, 35, 36, 33, 37] (by decide +kernel) (by decide +kernel)
set_option maxRecDepth 20000 in
theorem gX4_learnEnds_X1_minus : GoodIn wsX4_learnEnds (va_wsS RX4 159 yX1_minus wsX1_minus) := goodIn_app (goodIn_of _ (by decide +kernel)) ggX4_learnEnds_X1_minus
set_option maxRecDepth 20000 in
theorem ggX4_learnEnds_X1_plus : GoodIn wsX4_learnEnds wsX1_plus := goodIn_r _ [45, 35, 36, 33, 37] (by decide +kernel) (by decide +kernel)
set_option maxRecDepth 20000 in
theorem gX4_learnEnds_X1_plus : GoodIn wsX4_learnEnds (va_wsS RX4 162 yX1_plus wsX1_plus) := goodIn_app (goodIn_of _ (by decide +kernel)) ggX4_learnEnds_X1_plus
set_option maxRecDepth 20000 in
theorem ggX4_learnEnds_X1_over : GoodIn wsX4_learnEnds wsX1_over := goodIn_r _ [48, 49, 50, 33, 51, 35, 36, 37] (by decide +kernel) (by decide +kernel)
set_option maxRecDepth 20000 in
theorem gX4_learnEnds_X1_over : GoodIn wsX4_learnEnds (va_wsS RX4 165 yX1_over wsX1_over) := goodIn_app (goodIn_of _ (by decide +kernel)) ggX4_learnEnds_X1_over
set_option maxRecDepth 20000 in
theorem ggX4_learnEnds_X1_times : GoodIn wsX4_learnEnds wsX1_times := goodIn_r _ [34, 35, 36, 33, 37] (by decide +kernel) (by decide +kernel)
set_option maxRecDepth 20000 in
theorem gX4_learnEnds_X1_times : GoodIn wsX4_learnEnds (va_wsS RX4 156 yX1_times wsX1_times) := goodIn_app (goodIn_of _ (by decide +kernel)) ggX4_learnEnds_X1_times
theorem dX4_learnEnds_0 : decode cX4_learnEnds 0 = .ok (.bipush 6, 2) := by decide +kernel
theorem dX4_learnEnds_2 : decode cX4_learnEnds 2 = .ok (.iload_n 2, 1) := by decide +kernel
theorem dX4_learnEnds_3 : decode cX4_learnEnds 3 = .ok (.imul, 1) := by decide +kernel
theorem dX4_learnEnds_4 : decode cX4_learnEnds 4 = .ok (.istore_n 3, 1) := by decide +kernel
theorem dX4_learnEnds_5 : decode cX4_learnEnds 5 = .ok (.aload_n 0, 1) := by decide +kernel
theorem dX4_learnEnds_6 : decode cX4_learnEnds 6 = .ok (.iload_n 2, 1) := by decide +kernel
theorem dX4_learnEnds_7 : decode cX4_learnEnds 7 = .ok (.sipush 10007, 3) := by decide +kernel
theorem dX4_learnEnds_10 : decode cX4_learnEnds 10 = .ok (.invokevirtual 168, 3) := by decide +kernel
theorem dX4_learnEnds_13 : decode cX4_learnEnds 13 = .ok (.aload_n 0, 1) := by decide +kernel
theorem dX4_learnEnds_14 : decode cX4_learnEnds 14 = .ok (.aload_n 1, 1) := by decide +kernel
theorem dX4_learnEnds_15 : decode cX4_learnEnds 15 = .ok (.aload_n 0, 1) := by decide +kernel
theorem dX4_learnEnds_16 : decode cX4_learnEnds 16 = .ok (.getfield 12, 3) := by decide +kernel
theorem dX4_learnEnds_19 : decode cX4_learnEnds 19 = .ok (.invokevirtual 118, 3) := by decide +kernel
theorem dX4_learnEnds_22 : decode cX4_learnEnds 22 = .ok (.ifCond .ne 5, 3) := by decide +kernel
theorem dX4_learnEnds_25 : decode cX4_learnEnds 25 = .ok (.iconst 0, 1) := by decide +kernel
theorem dX4_learnEnds_26 : decode cX4_learnEnds 26 = .ok (.ireturn, 1) := by decide +kernel
theorem dX4_learnEnds_27 : decode cX4_learnEnds 27 = .ok (.aload_n 0, 1) := by decide +kernel
theorem dX4_learnEnds_28 : decode cX4_learnEnds 28 = .ok (.iload_n 2, 1) := by decide +kernel
theorem dX4_learnEnds_29 : decode cX4_learnEnds 29 = .ok (.invokevirtual 171, 3) := by decide +kernel
theorem dX4_learnEnds_32 : decode cX4_learnEnds 32 = .ok (.aload_n 0, 1) := by decide +kernel
theorem dX4_learnEnds_33 : decode cX4_learnEnds 33 = .ok (.getfield 36, 3) := by decide +kernel
theorem dX4_learnEnds_36 : decode cX4_learnEnds 36 = .ok (.iload_n 3, 1) := by decide +kernel
theorem dX4_learnEnds_37 : decode cX4_learnEnds 37 = .ok (.iaload, 1) := by decide +kernel
theorem dX4_learnEnds_38 : decode cX4_learnEnds 38 = .ok (.invokestatic 159, 3) := by decide +kernel
theorem dX4_learnEnds_41 : decode cX4_learnEnds 41 = .ok (.istore 4, 2) := by decide +kernel
theorem dX4_learnEnds_43 : decode cX4_learnEnds 43 = .ok (.aload_n 0, 1) := by decide +kernel
theorem dX4_learnEnds_44 : decode cX4_learnEnds 44 = .ok (.iload_n 2, 1) := by decide +kernel
theorem dX4_learnEnds_45 : decode cX4_learnEnds 45 = .ok (.ldc 174, 2) := by decide +kernel
theorem dX4_learnEnds_47 : decode cX4_learnEnds 47 = .ok (.invokevirtual 168, 3) := by decide +kernel
theorem dX4_learnEnds_50 : decode cX4_learnEnds 50 = .ok (.aload_n 0, 1) := by decide +kernel
theorem dX4_learnEnds_51 : decode cX4_learnEnds 51 = .ok (.aload_n 1, 1) := by decide +kernel
theorem dX4_learnEnds_52 : decode cX4_learnEnds 52 = .ok (.aload_n 0, 1) := by decide +kernel
theorem dX4_learnEnds_53 : decode cX4_learnEnds 53 = .ok (.getfield 12, 3) := by decide +kernel
theorem dX4_learnEnds_56 : decode cX4_learnEnds 56 = .ok (.invokevirtual 118, 3) := by decide +kernel
theorem dX4_learnEnds_59 : decode cX4_learnEnds 59 = .ok (.ifCond .ne 5, 3) := by decide +kernel
theorem dX4_learnEnds_62 : decode cX4_learnEnds 62 = .ok (.iconst 0, 1) := by decide +kernel
theorem dX4_learnEnds_63 : decode cX4_learnEnds 63 = .ok (.ireturn, 1) := by decide +kernel
theorem dX4_learnEnds_64 : decode cX4_learnEnds 64 = .ok (.aload_n 0, 1) := by decide +kernel
theorem dX4_learnEnds_65 : decode cX4_learnEnds 65 = .ok (.iload_n 2, 1) := by decide +kernel
theorem dX4_learnEnds_66 : decode cX4_learnEnds 66 = .ok (.invokevirtual 171, 3) := by decide +kernel
theorem dX4_learnEnds_69 : decode cX4_learnEnds 69 = .ok (.aload_n 0, 1) := by decide +kernel
theorem dX4_learnEnds_70 : decode cX4_learnEnds 70 = .ok (.getfield 36, 3) := by decide +kernel
theorem dX4_learnEnds_73 : decode cX4_learnEnds 73 = .ok (.iload_n 3, 1) := by decide +kernel
theorem dX4_learnEnds_74 : decode cX4_learnEnds 74 = .ok (.iaload, 1) := by decide +kernel
theorem dX4_learnEnds_75 : decode cX4_learnEnds 75 = .ok (.invokestatic 159, 3) := by decide +kernel
theorem dX4_learnEnds_78 : decode cX4_learnEnds 78 = .ok (.istore 5, 2) := by decide +kernel
theorem dX4_learnEnds_80 : decode cX4_learnEnds 80 = .ok (.iload 4, 2) := by decide +kernel
theorem dX4_learnEnds_82 : decode cX4_learnEnds 82 = .ok (.iload 5, 2) := by decide +kernel
theorem dX4_learnEnds_84 : decode cX4_learnEnds 84 = .ok (.invokestatic 159, 3) := by decide +kernel
theorem dX4_learnEnds_87 : decode cX4_learnEnds 87 = .ok (.istore 6, 2) := by decide +kernel
theorem dX4_learnEnds_89 : decode cX4_learnEnds 89 = .ok (.iload 6, 2) := by decide +kernel
theorem dX4_learnEnds_91 : decode cX4_learnEnds 91 = .ok (.ifCond .ne 5, 3) := by decide +kernel
theorem dX4_learnEnds_94 : decode cX4_learnEnds 94 = .ok (.iconst 0, 1) := by decide +kernel
theorem dX4_learnEnds_95 : decode cX4_learnEnds 95 = .ok (.ireturn, 1) := by decide +kernel
theorem dX4_learnEnds_96 : decode cX4_learnEnds 96 = .ok (.aload_n 0, 1) := by decide +kernel
theorem dX4_learnEnds_97 : decode cX4_learnEnds 97 = .ok (.getfield 36, 3) := by decide +kernel
theorem dX4_learnEnds_100 : decode cX4_learnEnds 100 = .ok (.iload_n 3, 1) := by decide +kernel
theorem dX4_learnEnds_101 : decode cX4_learnEnds 101 = .ok (.iconst 1, 1) := by decide +kernel
theorem dX4_learnEnds_102 : decode cX4_learnEnds 102 = .ok (.iadd, 1) := by decide +kernel
theorem dX4_learnEnds_103 : decode cX4_learnEnds 103 = .ok (.iload 4, 2) := by decide +kernel
theorem dX4_learnEnds_105 : decode cX4_learnEnds 105 = .ok (.iload 5, 2) := by decide +kernel
theorem dX4_learnEnds_107 : decode cX4_learnEnds 107 = .ok (.invokestatic 162, 3) := by decide +kernel
theorem dX4_learnEnds_110 : decode cX4_learnEnds 110 = .ok (.iload 6, 2) := by decide +kernel
theorem dX4_learnEnds_112 : decode cX4_learnEnds 112 = .ok (.invokestatic 165, 3) := by decide +kernel
theorem dX4_learnEnds_115 : decode cX4_learnEnds 115 = .ok (.iastore, 1) := by decide +kernel
theorem dX4_learnEnds_116 : decode cX4_learnEnds 116 = .ok (.aload_n 0, 1) := by decide +kernel
theorem dX4_learnEnds_117 : decode cX4_learnEnds 117 = .ok (.getfield 36, 3) := by decide +kernel
theorem dX4_learnEnds_120 : decode cX4_learnEnds 120 = .ok (.iload_n 3, 1) := by decide +kernel
theorem dX4_learnEnds_121 : decode cX4_learnEnds 121 = .ok (.iconst 2, 1) := by decide +kernel
theorem dX4_learnEnds_122 : decode cX4_learnEnds 122 = .ok (.iadd, 1) := by decide +kernel
theorem dX4_learnEnds_123 : decode cX4_learnEnds 123 = .ok (.iload 4, 2) := by decide +kernel
theorem dX4_learnEnds_125 : decode cX4_learnEnds 125 = .ok (.sipush 10007, 3) := by decide +kernel
theorem dX4_learnEnds_128 : decode cX4_learnEnds 128 = .ok (.aload_n 0, 1) := by decide +kernel
theorem dX4_learnEnds_129 : decode cX4_learnEnds 129 = .ok (.getfield 36, 3) := by decide +kernel
theorem dX4_learnEnds_132 : decode cX4_learnEnds 132 = .ok (.iload_n 3, 1) := by decide +kernel
theorem dX4_learnEnds_133 : decode cX4_learnEnds 133 = .ok (.iconst 1, 1) := by decide +kernel
theorem dX4_learnEnds_134 : decode cX4_learnEnds 134 = .ok (.iadd, 1) := by decide +kernel
theorem dX4_learnEnds_135 : decode cX4_learnEnds 135 = .ok (.iaload, 1) := by decide +kernel
theorem dX4_learnEnds_136 : decode cX4_learnEnds 136 = .ok (.invokestatic 159, 3) := by decide +kernel
theorem dX4_learnEnds_139 : decode cX4_learnEnds 139 = .ok (.invokestatic 156, 3) := by decide +kernel
theorem dX4_learnEnds_142 : decode cX4_learnEnds 142 = .ok (.iastore, 1) := by decide +kernel
theorem dX4_learnEnds_143 : decode cX4_learnEnds 143 = .ok (.iconst 1, 1) := by decide +kernel
theorem dX4_learnEnds_144 : decode cX4_learnEnds 144 = .ok (.ireturn, 1) := by decide +kernel
set_option maxRecDepth 20000 in
theorem ggX4_endStandard_X0_fill : GoodIn wsX4_endStandard wsX0_fill := goodIn_r _ [6, 7, 8, 9, 10, 19, 20, 21, 22] (by decide +kernel) (by decide +kernel)
set_option maxRecDepth 20000 in
theorem gX4_endStandard_X0_fill : GoodIn wsX4_endStandard (wsV RX4 40 RX0 yX0_fill wsX0_fill) := goodIn_app (goodIn_of _ (by decide +kernel)) ggX4_endStandard_X0_fill
theorem dX4_endStandard_0 : decode cX4_endStandard 0 = .ok (.aload_n 0, 1) := by decide +kernel
theorem dX4_endStandard_1 : decode cX4_endStandard 1 = .ok (.getfield 12, 3) := by decide +kernel
theorem dX4_endStandard_4 : decode cX4_endStandard 4 = .ok (.iload_n 1, 1) := by decide +kernel
theorem dX4_endStandard_5 : decode cX4_endStandard 5 = .ok (.ifCond .ne 7, 3) := by decide +kernel
theorem dX4_endStandard_8 : decode cX4_endStandard 8 = .ok (.iload_n 2, 1) := by decide +kernel
theorem dX4_endStandard_9 : decode cX4_endStandard 9 = .ok (.goto 4, 3) := by decide +kernel
theorem dX4_endStandard_12 : decode cX4_endStandard 12 = .ok (.iconst 0, 1) := by decide +kernel
theorem dX4_endStandard_13 : decode cX4_endStandard 13 = .ok (.iconst 0, 1) := by decide +kernel
theorem dX4_endStandard_14 : decode cX4_endStandard 14 = .ok (.iconst 0, 1) := by decide +kernel
theorem dX4_endStandard_15 : decode cX4_endStandard 15 = .ok (.iload_n 1, 1) := by decide +kernel
theorem dX4_endStandard_16 : decode cX4_endStandard 16 = .ok (.ifCond .ne 7, 3) := by decide +kernel
theorem dX4_endStandard_19 : decode cX4_endStandard 19 = .ok (.iconst 0, 1) := by decide +kernel
theorem dX4_endStandard_20 : decode cX4_endStandard 20 = .ok (.goto 4, 3) := by decide +kernel
theorem dX4_endStandard_23 : decode cX4_endStandard 23 = .ok (.iload_n 2, 1) := by decide +kernel
theorem dX4_endStandard_24 : decode cX4_endStandard 24 = .ok (.invokevirtual 40, 3) := by decide +kernel
theorem dX4_endStandard_27 : decode cX4_endStandard 27 = .ok (.return_, 1) := by decide +kernel
theorem dX4_seenAt_0 : decode cX4_seenAt 0 = .ok (.iload_n 1, 1) := by decide +kernel
theorem dX4_seenAt_1 : decode cX4_seenAt 1 = .ok (.ifCond .ne 13, 3) := by decide +kernel
theorem dX4_seenAt_4 : decode cX4_seenAt 4 = .ok (.aload_n 0, 1) := by decide +kernel
theorem dX4_seenAt_5 : decode cX4_seenAt 5 = .ok (.getfield 18, 3) := by decide +kernel
theorem dX4_seenAt_8 : decode cX4_seenAt 8 = .ok (.getfield 87, 3) := by decide +kernel
theorem dX4_seenAt_11 : decode cX4_seenAt 11 = .ok (.goto 10, 3) := by decide +kernel
theorem dX4_seenAt_14 : decode cX4_seenAt 14 = .ok (.aload_n 0, 1) := by decide +kernel
theorem dX4_seenAt_15 : decode cX4_seenAt 15 = .ok (.getfield 18, 3) := by decide +kernel
theorem dX4_seenAt_18 : decode cX4_seenAt 18 = .ok (.getfield 77, 3) := by decide +kernel
theorem dX4_seenAt_21 : decode cX4_seenAt 21 = .ok (.ireturn, 1) := by decide +kernel
set_option maxRecDepth 20000 in
theorem ggX4_learnThrough_X0_fill : GoodIn wsX4_learnThrough wsX0_fill := goodIn_r _ [9, 10, 11, 12, 13, 63, 64, 65, 66] (by decide +kernel) (by decide +kernel)
set_option maxRecDepth 20000 in
theorem gX4_learnThrough_X0_fill : GoodIn wsX4_learnThrough (wsV RX4 40 RX0 yX0_fill wsX0_fill) := goodIn_app (goodIn_of _ (by decide +kernel)) ggX4_learnThrough_X0_fill
set_option maxRecDepth 20000 in
theorem ggX4_learnThrough_X4_tells : GoodIn wsX4_learnThrough wsX4_tells := goodIn_r _ [18, 19, 20, 2, 4, 3, 21, 22, 23, 8, 24, 10, 13, 11, 12, 25, 26, 27, 28, 29, 30, 31, 32, 33, 34, 35, 36, 37, 38, 39, 40, 41, 42, 43, 44, 45, 5, 6, 7, 9, 63, 64, 65, 66, 55, 56, 57, 58, 59, 60, 61, 62] (by decide +kernel) (by decide +kernel)
set_option maxRecDepth 20000 in
theorem gX4_learnThrough_X4_tells : GoodIn wsX4_learnThrough (wsV RX4 118 RX4 yX4_tells wsX4_tells) := goodIn_app (goodIn_of _ (by decide +kernel)) ggX4_learnThrough_X4_tells
set_option maxRecDepth 20000 in
theorem ggX4_learnThrough_X4_learnCrossing : GoodIn wsX4_learnThrough wsX4_learnCrossing := goodIn_r _ [49, 50, 51, 52, 53, 17, 54, 2, 19, 20, 36, 33, 27, 34, 29, 30, 31, 35, 26, 28, 37, 38, 39, 40, 41, 42, 43, 44, 45, 55, 56, 57, 58, 59, 60, 61, 62, 63, 64, 65, 66] (by decide +kernel) (by decide +kernel)
set_option maxRecDepth 20000 in
theorem gX4_learnThrough_X4_learnCrossing : GoodIn wsX4_learnThrough (wsV RX4 175 RX4 yX4_learnCrossing wsX4_learnCrossing) := goodIn_app (goodIn_of _ (by decide +kernel)) ggX4_learnThrough_X4_learnCrossing
theorem dX4_learnThrough_0 : decode cX4_learnThrough 0 = .ok (.aload_n 0, 1) := by decide +kernel
theorem dX4_learnThrough_1 : decode cX4_learnThrough 1 = .ok (.getfield 12, 3) := by decide +kernel
theorem dX4_learnThrough_4 : decode cX4_learnThrough 4 = .ok (.iconst 0, 1) := by decide +kernel
theorem dX4_learnThrough_5 : decode cX4_learnThrough 5 = .ok (.sipush 10007, 3) := by decide +kernel
theorem dX4_learnThrough_8 : decode cX4_learnThrough 8 = .ok (.sipush 10007, 3) := by decide +kernel
theorem dX4_learnThrough_11 : decode cX4_learnThrough 11 = .ok (.iconst 0, 1) := by decide +kernel
theorem dX4_learnThrough_12 : decode cX4_learnThrough 12 = .ok (.invokevirtual 40, 3) := by decide +kernel
theorem dX4_learnThrough_15 : decode cX4_learnThrough 15 = .ok (.aload_n 0, 1) := by decide +kernel
theorem dX4_learnThrough_16 : decode cX4_learnThrough 16 = .ok (.aload_n 1, 1) := by decide +kernel
theorem dX4_learnThrough_17 : decode cX4_learnThrough 17 = .ok (.aload_n 0, 1) := by decide +kernel
theorem dX4_learnThrough_18 : decode cX4_learnThrough 18 = .ok (.getfield 12, 3) := by decide +kernel
theorem dX4_learnThrough_21 : decode cX4_learnThrough 21 = .ok (.invokevirtual 118, 3) := by decide +kernel
theorem dX4_learnThrough_24 : decode cX4_learnThrough 24 = .ok (.ifCond .eq 37, 3) := by decide +kernel
theorem dX4_learnThrough_27 : decode cX4_learnThrough 27 = .ok (.aload_n 0, 1) := by decide +kernel
theorem dX4_learnThrough_28 : decode cX4_learnThrough 28 = .ok (.iconst 0, 1) := by decide +kernel
theorem dX4_learnThrough_29 : decode cX4_learnThrough 29 = .ok (.aload_n 0, 1) := by decide +kernel
theorem dX4_learnThrough_30 : decode cX4_learnThrough 30 = .ok (.getfield 18, 3) := by decide +kernel
theorem dX4_learnThrough_33 : decode cX4_learnThrough 33 = .ok (.getfield 81, 3) := by decide +kernel
theorem dX4_learnThrough_36 : decode cX4_learnThrough 36 = .ok (.invokevirtual 175, 3) := by decide +kernel
theorem dX4_learnThrough_39 : decode cX4_learnThrough 39 = .ok (.ifCond .eq 22, 3) := by decide +kernel
theorem dX4_learnThrough_42 : decode cX4_learnThrough 42 = .ok (.aload_n 0, 1) := by decide +kernel
theorem dX4_learnThrough_43 : decode cX4_learnThrough 43 = .ok (.iconst 1, 1) := by decide +kernel
theorem dX4_learnThrough_44 : decode cX4_learnThrough 44 = .ok (.aload_n 0, 1) := by decide +kernel
theorem dX4_learnThrough_45 : decode cX4_learnThrough 45 = .ok (.getfield 18, 3) := by decide +kernel
theorem dX4_learnThrough_48 : decode cX4_learnThrough 48 = .ok (.getfield 84, 3) := by decide +kernel
theorem dX4_learnThrough_51 : decode cX4_learnThrough 51 = .ok (.invokevirtual 175, 3) := by decide +kernel
theorem dX4_learnThrough_54 : decode cX4_learnThrough 54 = .ok (.ifCond .eq 7, 3) := by decide +kernel
theorem dX4_learnThrough_57 : decode cX4_learnThrough 57 = .ok (.iconst 1, 1) := by decide +kernel
theorem dX4_learnThrough_58 : decode cX4_learnThrough 58 = .ok (.goto 4, 3) := by decide +kernel
theorem dX4_learnThrough_61 : decode cX4_learnThrough 61 = .ok (.iconst 0, 1) := by decide +kernel
theorem dX4_learnThrough_62 : decode cX4_learnThrough 62 = .ok (.ireturn, 1) := by decide +kernel
set_option maxRecDepth 20000 in
theorem ggX4_learnCrossing_X4_seenAt : GoodIn wsX4_learnCrossing wsX4_seenAt := goodIn_r _ [6, 7, 8, 9, 29, 30, 31, 32, 33, 34, 35, 36, 37, 38, 39, 40] (by decide +kernel) (by decide +kernel)
set_option maxRecDepth 20000 in
theorem gX4_learnCrossing_X4_seenAt : GoodIn wsX4_learnCrossing (wsV RX4 171 RX4 yX4_seenAt wsX4_seenAt) := goodIn_app (goodIn_of _ (by decide +kernel)) ggX4_learnCrossing_X4_seenAt
set_option maxRecDepth 20000 in
theorem ggX4_learnCrossing_X1_minus : GoodIn wsX4_learnCrossing wsX1_minus := goodIn_r _ [13, 14, 15, 12, 16] (by decide +kernel) (by decide +kernel)
set_option maxRecDepth 20000 in
theorem gX4_learnCrossing_X1_minus : GoodIn wsX4_learnCrossing (va_wsS RX4 159 yX1_minus wsX1_minus) := goodIn_app (goodIn_of _ (by decide +kernel)) ggX4_learnCrossing_X1_minus
set_option maxRecDepth 20000 in
theorem ggX4_learnCrossing_X1_times : GoodIn wsX4_learnCrossing wsX1_times := goodIn_r _ [19, 14, 15, 12, 16] (by decide +kernel) (by decide +kernel)
set_option maxRecDepth 20000 in
theorem gX4_learnCrossing_X1_times : GoodIn wsX4_learnCrossing (va_wsS RX4 156 yX1_times wsX1_times) := goodIn_app (goodIn_of _ (by decide +kernel)) ggX4_learnCrossing_X1_times
set_option maxRecDepth 20000 in
theorem ggX4_learnCrossing_X1_plus : GoodIn wsX4_learnCrossing wsX1_plus := goodIn_r _ [22, 14, 15, 12, 16] (by decide +kernel) (by decide +kernel)
set_option maxRecDepth 20000 in
theorem gX4_learnCrossing_X1_plus : GoodIn wsX4_learnCrossing (va_wsS RX4 162 yX1_plus wsX1_plus) := goodIn_app (goodIn_of _ (by decide +kernel)) ggX4_learnCrossing_X1_plus
set_option maxRecDepth 20000 in
theorem ggX4_learnCrossing_X1_over : GoodIn wsX4_learnCrossing wsX1_over := goodIn_r _ [25, 26, 27, 12, 28, 14, 15, 16] (by decide +kernel) (by decide +kernel)
set_option maxRecDepth 20000 in
theorem gX4_learnCrossing_X1_over : GoodIn wsX4_learnCrossing (va_wsS RX4 165 yX1_over wsX1_over) := goodIn_app (goodIn_of _ (by decide +kernel)) ggX4_learnCrossing_X1_over
theorem dX4_learnCrossing_0 : decode cX4_learnCrossing 0 = .ok (.bipush 6, 2) := by decide +kernel
theorem dX4_learnCrossing_2 : decode cX4_learnCrossing 2 = .ok (.iload_n 1, 1) := by decide +kernel
theorem dX4_learnCrossing_3 : decode cX4_learnCrossing 3 = .ok (.imul, 1) := by decide +kernel
theorem dX4_learnCrossing_4 : decode cX4_learnCrossing 4 = .ok (.istore_n 3, 1) := by decide +kernel
theorem dX4_learnCrossing_5 : decode cX4_learnCrossing 5 = .ok (.aload_n 0, 1) := by decide +kernel
theorem dX4_learnCrossing_6 : decode cX4_learnCrossing 6 = .ok (.iload_n 1, 1) := by decide +kernel
theorem dX4_learnCrossing_7 : decode cX4_learnCrossing 7 = .ok (.invokevirtual 171, 3) := by decide +kernel
theorem dX4_learnCrossing_10 : decode cX4_learnCrossing 10 = .ok (.aload_n 0, 1) := by decide +kernel
theorem dX4_learnCrossing_11 : decode cX4_learnCrossing 11 = .ok (.getfield 36, 3) := by decide +kernel
theorem dX4_learnCrossing_14 : decode cX4_learnCrossing 14 = .ok (.iload_n 3, 1) := by decide +kernel
theorem dX4_learnCrossing_15 : decode cX4_learnCrossing 15 = .ok (.iaload, 1) := by decide +kernel
theorem dX4_learnCrossing_16 : decode cX4_learnCrossing 16 = .ok (.invokestatic 159, 3) := by decide +kernel
theorem dX4_learnCrossing_19 : decode cX4_learnCrossing 19 = .ok (.istore 4, 2) := by decide +kernel
theorem dX4_learnCrossing_21 : decode cX4_learnCrossing 21 = .ok (.aload_n 0, 1) := by decide +kernel
theorem dX4_learnCrossing_22 : decode cX4_learnCrossing 22 = .ok (.getfield 36, 3) := by decide +kernel
theorem dX4_learnCrossing_25 : decode cX4_learnCrossing 25 = .ok (.iload_n 3, 1) := by decide +kernel
theorem dX4_learnCrossing_26 : decode cX4_learnCrossing 26 = .ok (.iconst 2, 1) := by decide +kernel
theorem dX4_learnCrossing_27 : decode cX4_learnCrossing 27 = .ok (.iadd, 1) := by decide +kernel
theorem dX4_learnCrossing_28 : decode cX4_learnCrossing 28 = .ok (.iaload, 1) := by decide +kernel
theorem dX4_learnCrossing_29 : decode cX4_learnCrossing 29 = .ok (.iload 4, 2) := by decide +kernel
theorem dX4_learnCrossing_31 : decode cX4_learnCrossing 31 = .ok (.aload_n 0, 1) := by decide +kernel
theorem dX4_learnCrossing_32 : decode cX4_learnCrossing 32 = .ok (.getfield 36, 3) := by decide +kernel
theorem dX4_learnCrossing_35 : decode cX4_learnCrossing 35 = .ok (.iload_n 3, 1) := by decide +kernel
theorem dX4_learnCrossing_36 : decode cX4_learnCrossing 36 = .ok (.iconst 1, 1) := by decide +kernel
theorem dX4_learnCrossing_37 : decode cX4_learnCrossing 37 = .ok (.iadd, 1) := by decide +kernel
theorem dX4_learnCrossing_38 : decode cX4_learnCrossing 38 = .ok (.iaload, 1) := by decide +kernel
theorem dX4_learnCrossing_39 : decode cX4_learnCrossing 39 = .ok (.invokestatic 156, 3) := by decide +kernel
theorem dX4_learnCrossing_42 : decode cX4_learnCrossing 42 = .ok (.invokestatic 162, 3) := by decide +kernel
theorem dX4_learnCrossing_45 : decode cX4_learnCrossing 45 = .ok (.istore 5, 2) := by decide +kernel
theorem dX4_learnCrossing_47 : decode cX4_learnCrossing 47 = .ok (.iload 5, 2) := by decide +kernel
theorem dX4_learnCrossing_49 : decode cX4_learnCrossing 49 = .ok (.ifCond .ne 5, 3) := by decide +kernel
theorem dX4_learnCrossing_52 : decode cX4_learnCrossing 52 = .ok (.iconst 0, 1) := by decide +kernel
theorem dX4_learnCrossing_53 : decode cX4_learnCrossing 53 = .ok (.ireturn, 1) := by decide +kernel
theorem dX4_learnCrossing_54 : decode cX4_learnCrossing 54 = .ok (.aload_n 0, 1) := by decide +kernel
theorem dX4_learnCrossing_55 : decode cX4_learnCrossing 55 = .ok (.getfield 36, 3) := by decide +kernel
theorem dX4_learnCrossing_58 : decode cX4_learnCrossing 58 = .ok (.iload_n 3, 1) := by decide +kernel
theorem dX4_learnCrossing_59 : decode cX4_learnCrossing 59 = .ok (.iconst 4, 1) := by decide +kernel
theorem dX4_learnCrossing_60 : decode cX4_learnCrossing 60 = .ok (.iadd, 1) := by decide +kernel
theorem dX4_learnCrossing_61 : decode cX4_learnCrossing 61 = .ok (.iload 4, 2) := by decide +kernel
theorem dX4_learnCrossing_63 : decode cX4_learnCrossing 63 = .ok (.iload 5, 2) := by decide +kernel
theorem dX4_learnCrossing_65 : decode cX4_learnCrossing 65 = .ok (.invokestatic 165, 3) := by decide +kernel
theorem dX4_learnCrossing_68 : decode cX4_learnCrossing 68 = .ok (.iastore, 1) := by decide +kernel
theorem dX4_learnCrossing_69 : decode cX4_learnCrossing 69 = .ok (.sipush 10007, 3) := by decide +kernel
theorem dX4_learnCrossing_72 : decode cX4_learnCrossing 72 = .ok (.aload_n 0, 1) := by decide +kernel
theorem dX4_learnCrossing_73 : decode cX4_learnCrossing 73 = .ok (.getfield 36, 3) := by decide +kernel
theorem dX4_learnCrossing_76 : decode cX4_learnCrossing 76 = .ok (.iload_n 3, 1) := by decide +kernel
theorem dX4_learnCrossing_77 : decode cX4_learnCrossing 77 = .ok (.iconst 1, 1) := by decide +kernel
theorem dX4_learnCrossing_78 : decode cX4_learnCrossing 78 = .ok (.iadd, 1) := by decide +kernel
theorem dX4_learnCrossing_79 : decode cX4_learnCrossing 79 = .ok (.iaload, 1) := by decide +kernel
theorem dX4_learnCrossing_80 : decode cX4_learnCrossing 80 = .ok (.aload_n 0, 1) := by decide +kernel
theorem dX4_learnCrossing_81 : decode cX4_learnCrossing 81 = .ok (.getfield 36, 3) := by decide +kernel
theorem dX4_learnCrossing_84 : decode cX4_learnCrossing 84 = .ok (.iload_n 3, 1) := by decide +kernel
theorem dX4_learnCrossing_85 : decode cX4_learnCrossing 85 = .ok (.iconst 4, 1) := by decide +kernel
theorem dX4_learnCrossing_86 : decode cX4_learnCrossing 86 = .ok (.iadd, 1) := by decide +kernel
theorem dX4_learnCrossing_87 : decode cX4_learnCrossing 87 = .ok (.iaload, 1) := by decide +kernel
theorem dX4_learnCrossing_88 : decode cX4_learnCrossing 88 = .ok (.invokestatic 156, 3) := by decide +kernel
theorem dX4_learnCrossing_91 : decode cX4_learnCrossing 91 = .ok (.invokestatic 159, 3) := by decide +kernel
theorem dX4_learnCrossing_94 : decode cX4_learnCrossing 94 = .ok (.istore 6, 2) := by decide +kernel
theorem dX4_learnCrossing_96 : decode cX4_learnCrossing 96 = .ok (.aload_n 0, 1) := by decide +kernel
theorem dX4_learnCrossing_97 : decode cX4_learnCrossing 97 = .ok (.getfield 36, 3) := by decide +kernel
theorem dX4_learnCrossing_100 : decode cX4_learnCrossing 100 = .ok (.iload_n 3, 1) := by decide +kernel
theorem dX4_learnCrossing_101 : decode cX4_learnCrossing 101 = .ok (.iconst 5, 1) := by decide +kernel
theorem dX4_learnCrossing_102 : decode cX4_learnCrossing 102 = .ok (.iadd, 1) := by decide +kernel
theorem dX4_learnCrossing_103 : decode cX4_learnCrossing 103 = .ok (.iload_n 2, 1) := by decide +kernel
theorem dX4_learnCrossing_104 : decode cX4_learnCrossing 104 = .ok (.aload_n 0, 1) := by decide +kernel
theorem dX4_learnCrossing_105 : decode cX4_learnCrossing 105 = .ok (.getfield 36, 3) := by decide +kernel
theorem dX4_learnCrossing_108 : decode cX4_learnCrossing 108 = .ok (.iload_n 3, 1) := by decide +kernel
theorem dX4_learnCrossing_109 : decode cX4_learnCrossing 109 = .ok (.iconst 3, 1) := by decide +kernel
theorem dX4_learnCrossing_110 : decode cX4_learnCrossing 110 = .ok (.iadd, 1) := by decide +kernel
theorem dX4_learnCrossing_111 : decode cX4_learnCrossing 111 = .ok (.iaload, 1) := by decide +kernel
theorem dX4_learnCrossing_112 : decode cX4_learnCrossing 112 = .ok (.invokestatic 159, 3) := by decide +kernel
theorem dX4_learnCrossing_115 : decode cX4_learnCrossing 115 = .ok (.iload 6, 2) := by decide +kernel
theorem dX4_learnCrossing_117 : decode cX4_learnCrossing 117 = .ok (.invokestatic 156, 3) := by decide +kernel
theorem dX4_learnCrossing_120 : decode cX4_learnCrossing 120 = .ok (.iastore, 1) := by decide +kernel
theorem dX4_learnCrossing_121 : decode cX4_learnCrossing 121 = .ok (.iconst 1, 1) := by decide +kernel
theorem dX4_learnCrossing_122 : decode cX4_learnCrossing 122 = .ok (.ireturn, 1) := by decide +kernel
set_option maxRecDepth 20000 in
theorem ggX4_strip_X1_minus : GoodIn wsX4_strip wsX1_minus := goodIn_r _ [10, 11, 12, 9, 13] (by decide +kernel) (by decide +kernel)
set_option maxRecDepth 20000 in
theorem gX4_strip_X1_minus : GoodIn wsX4_strip (va_wsS RX4 159 yX1_minus wsX1_minus) := goodIn_app (goodIn_of _ (by decide +kernel)) ggX4_strip_X1_minus
set_option maxRecDepth 20000 in
theorem ggX4_strip_X1_over : GoodIn wsX4_strip wsX1_over := goodIn_r _ [16, 17, 18, 9, 19, 11, 12, 13] (by decide +kernel) (by decide +kernel)
set_option maxRecDepth 20000 in
theorem gX4_strip_X1_over : GoodIn wsX4_strip (va_wsS RX4 165 yX1_over wsX1_over) := goodIn_app (goodIn_of _ (by decide +kernel)) ggX4_strip_X1_over
set_option maxRecDepth 20000 in
theorem ggX4_strip_X0_fill : GoodIn wsX4_strip wsX0_fill := goodIn_r _ [24, 25, 26, 27, 28, 37, 38, 39, 40] (by decide +kernel) (by decide +kernel)
set_option maxRecDepth 20000 in
theorem gX4_strip_X0_fill : GoodIn wsX4_strip (wsV RX4 40 RX0 yX0_fill wsX0_fill) := goodIn_app (goodIn_of _ (by decide +kernel)) ggX4_strip_X0_fill
theorem dX4_strip_0 : decode cX4_strip 0 = .ok (.aload_n 1, 1) := by decide +kernel
theorem dX4_strip_1 : decode cX4_strip 1 = .ok (.iconst 2, 1) := by decide +kernel
theorem dX4_strip_2 : decode cX4_strip 2 = .ok (.iaload, 1) := by decide +kernel
theorem dX4_strip_3 : decode cX4_strip 3 = .ok (.ifCond .eq 23, 3) := by decide +kernel
theorem dX4_strip_6 : decode cX4_strip 6 = .ok (.aload_n 1, 1) := by decide +kernel
theorem dX4_strip_7 : decode cX4_strip 7 = .ok (.iconst 5, 1) := by decide +kernel
theorem dX4_strip_8 : decode cX4_strip 8 = .ok (.iaload, 1) := by decide +kernel
theorem dX4_strip_9 : decode cX4_strip 9 = .ok (.ifCond .eq 17, 3) := by decide +kernel
theorem dX4_strip_12 : decode cX4_strip 12 = .ok (.aload_n 1, 1) := by decide +kernel
theorem dX4_strip_13 : decode cX4_strip 13 = .ok (.bipush 8, 2) := by decide +kernel
theorem dX4_strip_15 : decode cX4_strip 15 = .ok (.iaload, 1) := by decide +kernel
theorem dX4_strip_16 : decode cX4_strip 16 = .ok (.ifCond .eq 10, 3) := by decide +kernel
theorem dX4_strip_19 : decode cX4_strip 19 = .ok (.aload_n 1, 1) := by decide +kernel
theorem dX4_strip_20 : decode cX4_strip 20 = .ok (.bipush 11, 2) := by decide +kernel
theorem dX4_strip_22 : decode cX4_strip 22 = .ok (.iaload, 1) := by decide +kernel
theorem dX4_strip_23 : decode cX4_strip 23 = .ok (.ifCond .ne 5, 3) := by decide +kernel
theorem dX4_strip_26 : decode cX4_strip 26 = .ok (.iconst 0, 1) := by decide +kernel
theorem dX4_strip_27 : decode cX4_strip 27 = .ok (.ireturn, 1) := by decide +kernel
theorem dX4_strip_28 : decode cX4_strip 28 = .ok (.aload_n 0, 1) := by decide +kernel
theorem dX4_strip_29 : decode cX4_strip 29 = .ok (.getfield 21, 3) := by decide +kernel
theorem dX4_strip_32 : decode cX4_strip 32 = .ok (.aload_n 0, 1) := by decide +kernel
theorem dX4_strip_33 : decode cX4_strip 33 = .ok (.getfield 18, 3) := by decide +kernel
theorem dX4_strip_36 : decode cX4_strip 36 = .ok (.getfield 87, 3) := by decide +kernel
theorem dX4_strip_39 : decode cX4_strip 39 = .ok (.aload_n 1, 1) := by decide +kernel
theorem dX4_strip_40 : decode cX4_strip 40 = .ok (.iconst 0, 1) := by decide +kernel
theorem dX4_strip_41 : decode cX4_strip 41 = .ok (.iaload, 1) := by decide +kernel
theorem dX4_strip_42 : decode cX4_strip 42 = .ok (.invokestatic 159, 3) := by decide +kernel
theorem dX4_strip_45 : decode cX4_strip 45 = .ok (.aload_n 1, 1) := by decide +kernel
theorem dX4_strip_46 : decode cX4_strip 46 = .ok (.iconst 2, 1) := by decide +kernel
theorem dX4_strip_47 : decode cX4_strip 47 = .ok (.iaload, 1) := by decide +kernel
theorem dX4_strip_48 : decode cX4_strip 48 = .ok (.invokestatic 165, 3) := by decide +kernel
theorem dX4_strip_51 : decode cX4_strip 51 = .ok (.aload_n 0, 1) := by decide +kernel
theorem dX4_strip_52 : decode cX4_strip 52 = .ok (.getfield 18, 3) := by decide +kernel
theorem dX4_strip_55 : decode cX4_strip 55 = .ok (.getfield 84, 3) := by decide +kernel
theorem dX4_strip_58 : decode cX4_strip 58 = .ok (.aload_n 1, 1) := by decide +kernel
theorem dX4_strip_59 : decode cX4_strip 59 = .ok (.bipush 9, 2) := by decide +kernel
theorem dX4_strip_61 : decode cX4_strip 61 = .ok (.iaload, 1) := by decide +kernel
theorem dX4_strip_62 : decode cX4_strip 62 = .ok (.invokestatic 159, 3) := by decide +kernel
theorem dX4_strip_65 : decode cX4_strip 65 = .ok (.aload_n 1, 1) := by decide +kernel
theorem dX4_strip_66 : decode cX4_strip 66 = .ok (.bipush 11, 2) := by decide +kernel
theorem dX4_strip_68 : decode cX4_strip 68 = .ok (.iaload, 1) := by decide +kernel
theorem dX4_strip_69 : decode cX4_strip 69 = .ok (.invokestatic 165, 3) := by decide +kernel
theorem dX4_strip_72 : decode cX4_strip 72 = .ok (.aload_n 0, 1) := by decide +kernel
theorem dX4_strip_73 : decode cX4_strip 73 = .ok (.getfield 18, 3) := by decide +kernel
theorem dX4_strip_76 : decode cX4_strip 76 = .ok (.getfield 81, 3) := by decide +kernel
theorem dX4_strip_79 : decode cX4_strip 79 = .ok (.aload_n 1, 1) := by decide +kernel
theorem dX4_strip_80 : decode cX4_strip 80 = .ok (.iconst 3, 1) := by decide +kernel
theorem dX4_strip_81 : decode cX4_strip 81 = .ok (.iaload, 1) := by decide +kernel
theorem dX4_strip_82 : decode cX4_strip 82 = .ok (.invokestatic 159, 3) := by decide +kernel
theorem dX4_strip_85 : decode cX4_strip 85 = .ok (.aload_n 1, 1) := by decide +kernel
theorem dX4_strip_86 : decode cX4_strip 86 = .ok (.iconst 5, 1) := by decide +kernel
theorem dX4_strip_87 : decode cX4_strip 87 = .ok (.iaload, 1) := by decide +kernel
theorem dX4_strip_88 : decode cX4_strip 88 = .ok (.invokestatic 165, 3) := by decide +kernel
theorem dX4_strip_91 : decode cX4_strip 91 = .ok (.aload_n 0, 1) := by decide +kernel
theorem dX4_strip_92 : decode cX4_strip 92 = .ok (.getfield 18, 3) := by decide +kernel
theorem dX4_strip_95 : decode cX4_strip 95 = .ok (.getfield 77, 3) := by decide +kernel
theorem dX4_strip_98 : decode cX4_strip 98 = .ok (.aload_n 1, 1) := by decide +kernel
theorem dX4_strip_99 : decode cX4_strip 99 = .ok (.bipush 6, 2) := by decide +kernel
theorem dX4_strip_101 : decode cX4_strip 101 = .ok (.iaload, 1) := by decide +kernel
theorem dX4_strip_102 : decode cX4_strip 102 = .ok (.invokestatic 159, 3) := by decide +kernel
theorem dX4_strip_105 : decode cX4_strip 105 = .ok (.aload_n 1, 1) := by decide +kernel
theorem dX4_strip_106 : decode cX4_strip 106 = .ok (.bipush 8, 2) := by decide +kernel
theorem dX4_strip_108 : decode cX4_strip 108 = .ok (.iaload, 1) := by decide +kernel
theorem dX4_strip_109 : decode cX4_strip 109 = .ok (.invokestatic 165, 3) := by decide +kernel
theorem dX4_strip_112 : decode cX4_strip 112 = .ok (.invokevirtual 40, 3) := by decide +kernel
theorem dX4_strip_115 : decode cX4_strip 115 = .ok (.iconst 1, 1) := by decide +kernel
theorem dX4_strip_116 : decode cX4_strip 116 = .ok (.ireturn, 1) := by decide +kernel
set_option maxRecDepth 20000 in
theorem ggX4_solve_X1_times : GoodIn wsX4_solve wsX1_times := goodIn_r _ [10, 11, 12, 9, 13] (by decide +kernel) (by decide +kernel)
set_option maxRecDepth 20000 in
theorem gX4_solve_X1_times : GoodIn wsX4_solve (va_wsS RX4 156 yX1_times wsX1_times) := goodIn_app (goodIn_of _ (by decide +kernel)) ggX4_solve_X1_times
set_option maxRecDepth 20000 in
theorem ggX4_solve_X1_plus : GoodIn wsX4_solve wsX1_plus := goodIn_r _ [16, 11, 12, 9, 13] (by decide +kernel) (by decide +kernel)
set_option maxRecDepth 20000 in
theorem gX4_solve_X1_plus : GoodIn wsX4_solve (va_wsS RX4 162 yX1_plus wsX1_plus) := goodIn_app (goodIn_of _ (by decide +kernel)) ggX4_solve_X1_plus
set_option maxRecDepth 20000 in
theorem ggX4_solve_X1_minus : GoodIn wsX4_solve wsX1_minus := goodIn_r _ [19, 11, 12, 9, 13] (by decide +kernel) (by decide +kernel)
set_option maxRecDepth 20000 in
theorem gX4_solve_X1_minus : GoodIn wsX4_solve (va_wsS RX4 159 yX1_minus wsX1_minus) := goodIn_app (goodIn_of _ (by decide +kernel)) ggX4_solve_X1_minus
set_option maxRecDepth 20000 in
theorem ggX4_solve_X0_fill : GoodIn wsX4_solve wsX0_fill := goodIn_r _ [24, 25, 26, 27, 28, 49, 50, 51, 52] (by decide +kernel) (by decide +kernel)
set_option maxRecDepth 20000 in
theorem gX4_solve_X0_fill : GoodIn wsX4_solve (wsV RX4 40 RX0 yX0_fill wsX0_fill) := goodIn_app (goodIn_of _ (by decide +kernel)) ggX4_solve_X0_fill
set_option maxRecDepth 20000 in
theorem ggX4_solve_X0_divideBy : GoodIn wsX4_solve wsX0_divideBy := goodIn_r _ [32, 25, 26, 27, 28, 33, 34, 9, 35, 36, 37, 38, 11, 12, 13, 39, 8, 10, 40, 21, 22, 23, 24, 49, 50, 51, 52] (by decide +kernel) (by decide +kernel)
set_option maxRecDepth 20000 in
theorem gX4_solve_X0_divideBy : GoodIn wsX4_solve (wsV RX4 178 RX0 yX0_divideBy wsX0_divideBy) := goodIn_app (goodIn_of _ (by decide +kernel)) ggX4_solve_X0_divideBy
theorem dX4_solve_0 : decode cX4_solve 0 = .ok (.sipush 10007, 3) := by decide +kernel
theorem dX4_solve_3 : decode cX4_solve 3 = .ok (.aload_n 0, 1) := by decide +kernel
theorem dX4_solve_4 : decode cX4_solve 4 = .ok (.getfield 21, 3) := by decide +kernel
theorem dX4_solve_7 : decode cX4_solve 7 = .ok (.getfield 87, 3) := by decide +kernel
theorem dX4_solve_10 : decode cX4_solve 10 = .ok (.aload_n 1, 1) := by decide +kernel
theorem dX4_solve_11 : decode cX4_solve 11 = .ok (.iconst 1, 1) := by decide +kernel
theorem dX4_solve_12 : decode cX4_solve 12 = .ok (.iaload, 1) := by decide +kernel
theorem dX4_solve_13 : decode cX4_solve 13 = .ok (.invokestatic 156, 3) := by decide +kernel
theorem dX4_solve_16 : decode cX4_solve 16 = .ok (.invokestatic 162, 3) := by decide +kernel
theorem dX4_solve_19 : decode cX4_solve 19 = .ok (.istore_n 2, 1) := by decide +kernel
theorem dX4_solve_20 : decode cX4_solve 20 = .ok (.sipush 10007, 3) := by decide +kernel
theorem dX4_solve_23 : decode cX4_solve 23 = .ok (.aload_n 0, 1) := by decide +kernel
theorem dX4_solve_24 : decode cX4_solve 24 = .ok (.getfield 21, 3) := by decide +kernel
theorem dX4_solve_27 : decode cX4_solve 27 = .ok (.getfield 77, 3) := by decide +kernel
theorem dX4_solve_30 : decode cX4_solve 30 = .ok (.aload_n 1, 1) := by decide +kernel
theorem dX4_solve_31 : decode cX4_solve 31 = .ok (.bipush 7, 2) := by decide +kernel
theorem dX4_solve_33 : decode cX4_solve 33 = .ok (.iaload, 1) := by decide +kernel
theorem dX4_solve_34 : decode cX4_solve 34 = .ok (.invokestatic 156, 3) := by decide +kernel
theorem dX4_solve_37 : decode cX4_solve 37 = .ok (.invokestatic 162, 3) := by decide +kernel
theorem dX4_solve_40 : decode cX4_solve 40 = .ok (.istore_n 3, 1) := by decide +kernel
theorem dX4_solve_41 : decode cX4_solve 41 = .ok (.aload_n 0, 1) := by decide +kernel
theorem dX4_solve_42 : decode cX4_solve 42 = .ok (.getfield 21, 3) := by decide +kernel
theorem dX4_solve_45 : decode cX4_solve 45 = .ok (.getfield 81, 3) := by decide +kernel
theorem dX4_solve_48 : decode cX4_solve 48 = .ok (.aload_n 0, 1) := by decide +kernel
theorem dX4_solve_49 : decode cX4_solve 49 = .ok (.getfield 21, 3) := by decide +kernel
theorem dX4_solve_52 : decode cX4_solve 52 = .ok (.getfield 84, 3) := by decide +kernel
theorem dX4_solve_55 : decode cX4_solve 55 = .ok (.invokestatic 156, 3) := by decide +kernel
theorem dX4_solve_58 : decode cX4_solve 58 = .ok (.istore 4, 2) := by decide +kernel
theorem dX4_solve_60 : decode cX4_solve 60 = .ok (.iload_n 2, 1) := by decide +kernel
theorem dX4_solve_61 : decode cX4_solve 61 = .ok (.iload_n 3, 1) := by decide +kernel
theorem dX4_solve_62 : decode cX4_solve 62 = .ok (.invokestatic 156, 3) := by decide +kernel
theorem dX4_solve_65 : decode cX4_solve 65 = .ok (.iload 4, 2) := by decide +kernel
theorem dX4_solve_67 : decode cX4_solve 67 = .ok (.aload_n 1, 1) := by decide +kernel
theorem dX4_solve_68 : decode cX4_solve 68 = .ok (.iconst 4, 1) := by decide +kernel
theorem dX4_solve_69 : decode cX4_solve 69 = .ok (.iaload, 1) := by decide +kernel
theorem dX4_solve_70 : decode cX4_solve 70 = .ok (.aload_n 1, 1) := by decide +kernel
theorem dX4_solve_71 : decode cX4_solve 71 = .ok (.bipush 10, 2) := by decide +kernel
theorem dX4_solve_73 : decode cX4_solve 73 = .ok (.iaload, 1) := by decide +kernel
theorem dX4_solve_74 : decode cX4_solve 74 = .ok (.invokestatic 156, 3) := by decide +kernel
theorem dX4_solve_77 : decode cX4_solve 77 = .ok (.invokestatic 156, 3) := by decide +kernel
theorem dX4_solve_80 : decode cX4_solve 80 = .ok (.invokestatic 159, 3) := by decide +kernel
theorem dX4_solve_83 : decode cX4_solve 83 = .ok (.istore 5, 2) := by decide +kernel
theorem dX4_solve_85 : decode cX4_solve 85 = .ok (.iload 5, 2) := by decide +kernel
theorem dX4_solve_87 : decode cX4_solve 87 = .ok (.ifCond .ne 5, 3) := by decide +kernel
theorem dX4_solve_90 : decode cX4_solve 90 = .ok (.iconst 0, 1) := by decide +kernel
theorem dX4_solve_91 : decode cX4_solve 91 = .ok (.ireturn, 1) := by decide +kernel
theorem dX4_solve_92 : decode cX4_solve 92 = .ok (.sipush 10007, 3) := by decide +kernel
theorem dX4_solve_95 : decode cX4_solve 95 = .ok (.aload_n 0, 1) := by decide +kernel
theorem dX4_solve_96 : decode cX4_solve 96 = .ok (.getfield 21, 3) := by decide +kernel
theorem dX4_solve_99 : decode cX4_solve 99 = .ok (.getfield 87, 3) := by decide +kernel
theorem dX4_solve_102 : decode cX4_solve 102 = .ok (.aload_n 1, 1) := by decide +kernel
theorem dX4_solve_103 : decode cX4_solve 103 = .ok (.iconst 1, 1) := by decide +kernel
theorem dX4_solve_104 : decode cX4_solve 104 = .ok (.iaload, 1) := by decide +kernel
theorem dX4_solve_105 : decode cX4_solve 105 = .ok (.aload_n 1, 1) := by decide +kernel
theorem dX4_solve_106 : decode cX4_solve 106 = .ok (.bipush 10, 2) := by decide +kernel
theorem dX4_solve_108 : decode cX4_solve 108 = .ok (.iaload, 1) := by decide +kernel
theorem dX4_solve_109 : decode cX4_solve 109 = .ok (.invokestatic 159, 3) := by decide +kernel
theorem dX4_solve_112 : decode cX4_solve 112 = .ok (.invokestatic 156, 3) := by decide +kernel
theorem dX4_solve_115 : decode cX4_solve 115 = .ok (.invokestatic 162, 3) := by decide +kernel
theorem dX4_solve_118 : decode cX4_solve 118 = .ok (.istore 6, 2) := by decide +kernel
theorem dX4_solve_120 : decode cX4_solve 120 = .ok (.sipush 10007, 3) := by decide +kernel
theorem dX4_solve_123 : decode cX4_solve 123 = .ok (.aload_n 0, 1) := by decide +kernel
theorem dX4_solve_124 : decode cX4_solve 124 = .ok (.getfield 21, 3) := by decide +kernel
theorem dX4_solve_127 : decode cX4_solve 127 = .ok (.getfield 77, 3) := by decide +kernel
theorem dX4_solve_130 : decode cX4_solve 130 = .ok (.aload_n 1, 1) := by decide +kernel
theorem dX4_solve_131 : decode cX4_solve 131 = .ok (.bipush 7, 2) := by decide +kernel
theorem dX4_solve_133 : decode cX4_solve 133 = .ok (.iaload, 1) := by decide +kernel
theorem dX4_solve_134 : decode cX4_solve 134 = .ok (.aload_n 1, 1) := by decide +kernel
theorem dX4_solve_135 : decode cX4_solve 135 = .ok (.iconst 4, 1) := by decide +kernel
theorem dX4_solve_136 : decode cX4_solve 136 = .ok (.iaload, 1) := by decide +kernel
theorem dX4_solve_137 : decode cX4_solve 137 = .ok (.invokestatic 159, 3) := by decide +kernel
theorem dX4_solve_140 : decode cX4_solve 140 = .ok (.invokestatic 156, 3) := by decide +kernel
theorem dX4_solve_143 : decode cX4_solve 143 = .ok (.invokestatic 162, 3) := by decide +kernel
theorem dX4_solve_146 : decode cX4_solve 146 = .ok (.istore 7, 2) := by decide +kernel
theorem dX4_solve_148 : decode cX4_solve 148 = .ok (.aload_n 0, 1) := by decide +kernel
theorem dX4_solve_149 : decode cX4_solve 149 = .ok (.getfield 33, 3) := by decide +kernel
theorem dX4_solve_152 : decode cX4_solve 152 = .ok (.aload_n 0, 1) := by decide +kernel
theorem dX4_solve_153 : decode cX4_solve 153 = .ok (.getfield 21, 3) := by decide +kernel
theorem dX4_solve_156 : decode cX4_solve 156 = .ok (.getfield 87, 3) := by decide +kernel
theorem dX4_solve_159 : decode cX4_solve 159 = .ok (.iload_n 3, 1) := by decide +kernel
theorem dX4_solve_160 : decode cX4_solve 160 = .ok (.invokestatic 156, 3) := by decide +kernel
theorem dX4_solve_163 : decode cX4_solve 163 = .ok (.aload_n 1, 1) := by decide +kernel
theorem dX4_solve_164 : decode cX4_solve 164 = .ok (.iconst 4, 1) := by decide +kernel
theorem dX4_solve_165 : decode cX4_solve 165 = .ok (.iaload, 1) := by decide +kernel
theorem dX4_solve_166 : decode cX4_solve 166 = .ok (.iload 4, 2) := by decide +kernel
theorem dX4_solve_168 : decode cX4_solve 168 = .ok (.invokestatic 156, 3) := by decide +kernel
theorem dX4_solve_171 : decode cX4_solve 171 = .ok (.invokestatic 159, 3) := by decide +kernel
theorem dX4_solve_174 : decode cX4_solve 174 = .ok (.iload 6, 2) := by decide +kernel
theorem dX4_solve_176 : decode cX4_solve 176 = .ok (.aload_n 0, 1) := by decide +kernel
theorem dX4_solve_177 : decode cX4_solve 177 = .ok (.getfield 21, 3) := by decide +kernel
theorem dX4_solve_180 : decode cX4_solve 180 = .ok (.getfield 84, 3) := by decide +kernel
theorem dX4_solve_183 : decode cX4_solve 183 = .ok (.invokestatic 156, 3) := by decide +kernel
theorem dX4_solve_186 : decode cX4_solve 186 = .ok (.iload 7, 2) := by decide +kernel
theorem dX4_solve_188 : decode cX4_solve 188 = .ok (.aload_n 0, 1) := by decide +kernel
theorem dX4_solve_189 : decode cX4_solve 189 = .ok (.getfield 21, 3) := by decide +kernel
theorem dX4_solve_192 : decode cX4_solve 192 = .ok (.getfield 81, 3) := by decide +kernel
theorem dX4_solve_195 : decode cX4_solve 195 = .ok (.invokestatic 156, 3) := by decide +kernel
theorem dX4_solve_198 : decode cX4_solve 198 = .ok (.aload_n 0, 1) := by decide +kernel
theorem dX4_solve_199 : decode cX4_solve 199 = .ok (.getfield 21, 3) := by decide +kernel
theorem dX4_solve_202 : decode cX4_solve 202 = .ok (.getfield 77, 3) := by decide +kernel
theorem dX4_solve_205 : decode cX4_solve 205 = .ok (.iload_n 2, 1) := by decide +kernel
theorem dX4_solve_206 : decode cX4_solve 206 = .ok (.invokestatic 156, 3) := by decide +kernel
theorem dX4_solve_209 : decode cX4_solve 209 = .ok (.aload_n 1, 1) := by decide +kernel
theorem dX4_solve_210 : decode cX4_solve 210 = .ok (.bipush 10, 2) := by decide +kernel
theorem dX4_solve_212 : decode cX4_solve 212 = .ok (.iaload, 1) := by decide +kernel
theorem dX4_solve_213 : decode cX4_solve 213 = .ok (.iload 4, 2) := by decide +kernel
theorem dX4_solve_215 : decode cX4_solve 215 = .ok (.invokestatic 156, 3) := by decide +kernel
theorem dX4_solve_218 : decode cX4_solve 218 = .ok (.invokestatic 159, 3) := by decide +kernel
theorem dX4_solve_221 : decode cX4_solve 221 = .ok (.invokevirtual 40, 3) := by decide +kernel
theorem dX4_solve_224 : decode cX4_solve 224 = .ok (.aload_n 0, 1) := by decide +kernel
theorem dX4_solve_225 : decode cX4_solve 225 = .ok (.getfield 33, 3) := by decide +kernel
theorem dX4_solve_228 : decode cX4_solve 228 = .ok (.iload 5, 2) := by decide +kernel
theorem dX4_solve_230 : decode cX4_solve 230 = .ok (.invokevirtual 178, 3) := by decide +kernel
theorem dX4_solve_233 : decode cX4_solve 233 = .ok (.iconst 1, 1) := by decide +kernel
theorem dX4_solve_234 : decode cX4_solve 234 = .ok (.ireturn, 1) := by decide +kernel
set_option maxRecDepth 20000 in
theorem ggX5_init_X4_init : GoodIn wsX5_init wsX4_init := goodIn_r _ [19, 20, 2, 3, 21, 22, 23, 24, 25, 26, 27, 28, 29, 30, 31, 32, 33, 34, 35, 82, 83, 84, 85, 52, 53, 54, 55, 56, 57, 58, 59] (by decide +kernel) (by decide +kernel)
set_option maxRecDepth 20000 in
theorem gX5_init_X4_init_n11 : GoodIn wsX5_init (wsX4_init) := ggX5_init_X4_init
set_option maxRecDepth 20000 in
theorem ggX5_init_X3_init : GoodIn wsX5_init wsX3_init := goodIn_r _ [37, 38, 2, 3, 39, 40, 41, 31, 42, 43, 69, 70, 71, 72, 73, 74, 75, 76] (by decide +kernel) (by decide +kernel)
set_option maxRecDepth 20000 in
theorem gX5_init_X3_init_n18 : GoodIn wsX5_init (wsX3_init) := ggX5_init_X3_init
set_option maxRecDepth 20000 in
theorem ggX5_init_X2_init : GoodIn wsX5_init wsX2_init := goodIn_r _ [46, 47, 2, 3, 48, 49, 22, 23, 31, 50, 51, 33, 34, 35, 77, 78, 79, 80, 81, 82, 83, 84, 85] (by decide +kernel) (by decide +kernel)
set_option maxRecDepth 20000 in
theorem gX5_init_X2_init : GoodIn wsX5_init (wsX2_init) := ggX5_init_X2_init
theorem dX5_init_0 : decode cX5_init 0 = .ok (.aload_n 0, 1) := by decide +kernel
theorem dX5_init_1 : decode cX5_init 1 = .ok (.invokespecial 3, 3) := by decide +kernel
theorem dX5_init_4 : decode cX5_init 4 = .ok (.aload_n 0, 1) := by decide +kernel
theorem dX5_init_5 : decode cX5_init 5 = .ok (.new 9, 3) := by decide +kernel
theorem dX5_init_8 : decode cX5_init 8 = .ok (.dup, 1) := by decide +kernel
theorem dX5_init_9 : decode cX5_init 9 = .ok (.invokespecial 11, 3) := by decide +kernel
theorem dX5_init_12 : decode cX5_init 12 = .ok (.putfield 12, 3) := by decide +kernel
theorem dX5_init_15 : decode cX5_init 15 = .ok (.aload_n 0, 1) := by decide +kernel
theorem dX5_init_16 : decode cX5_init 16 = .ok (.new 16, 3) := by decide +kernel
theorem dX5_init_19 : decode cX5_init 19 = .ok (.dup, 1) := by decide +kernel
theorem dX5_init_20 : decode cX5_init 20 = .ok (.invokespecial 18, 3) := by decide +kernel
theorem dX5_init_23 : decode cX5_init 23 = .ok (.putfield 19, 3) := by decide +kernel
theorem dX5_init_26 : decode cX5_init 26 = .ok (.aload_n 0, 1) := by decide +kernel
theorem dX5_init_27 : decode cX5_init 27 = .ok (.new 23, 3) := by decide +kernel
theorem dX5_init_30 : decode cX5_init 30 = .ok (.dup, 1) := by decide +kernel
theorem dX5_init_31 : decode cX5_init 31 = .ok (.invokespecial 25, 3) := by decide +kernel
theorem dX5_init_34 : decode cX5_init 34 = .ok (.putfield 26, 3) := by decide +kernel
theorem dX5_init_37 : decode cX5_init 37 = .ok (.aload_n 0, 1) := by decide +kernel
theorem dX5_init_38 : decode cX5_init 38 = .ok (.new 23, 3) := by decide +kernel
theorem dX5_init_41 : decode cX5_init 41 = .ok (.dup, 1) := by decide +kernel
theorem dX5_init_42 : decode cX5_init 42 = .ok (.invokespecial 25, 3) := by decide +kernel
theorem dX5_init_45 : decode cX5_init 45 = .ok (.putfield 30, 3) := by decide +kernel
theorem dX5_init_48 : decode cX5_init 48 = .ok (.aload_n 0, 1) := by decide +kernel
theorem dX5_init_49 : decode cX5_init 49 = .ok (.iconst 5, 1) := by decide +kernel
theorem dX5_init_50 : decode cX5_init 50 = .ok (.anewarray 23, 3) := by decide +kernel
theorem dX5_init_53 : decode cX5_init 53 = .ok (.putfield 33, 3) := by decide +kernel
theorem dX5_init_56 : decode cX5_init 56 = .ok (.iconst 0, 1) := by decide +kernel
theorem dX5_init_57 : decode cX5_init 57 = .ok (.istore_n 1, 1) := by decide +kernel
theorem dX5_init_58 : decode cX5_init 58 = .ok (.iload_n 1, 1) := by decide +kernel
theorem dX5_init_59 : decode cX5_init 59 = .ok (.iconst 5, 1) := by decide +kernel
theorem dX5_init_60 : decode cX5_init 60 = .ok (.if_icmp .ge 22, 3) := by decide +kernel
theorem dX5_init_63 : decode cX5_init 63 = .ok (.aload_n 0, 1) := by decide +kernel
theorem dX5_init_64 : decode cX5_init 64 = .ok (.getfield 33, 3) := by decide +kernel
theorem dX5_init_67 : decode cX5_init 67 = .ok (.iload_n 1, 1) := by decide +kernel
theorem dX5_init_68 : decode cX5_init 68 = .ok (.new 23, 3) := by decide +kernel
theorem dX5_init_71 : decode cX5_init 71 = .ok (.dup, 1) := by decide +kernel
theorem dX5_init_72 : decode cX5_init 72 = .ok (.invokespecial 25, 3) := by decide +kernel
theorem dX5_init_75 : decode cX5_init 75 = .ok (.aastore, 1) := by decide +kernel
theorem dX5_init_76 : decode cX5_init 76 = .ok (.iinc 1 1, 3) := by decide +kernel
theorem dX5_init_79 : decode cX5_init 79 = .ok (.goto (-21), 3) := by decide +kernel
theorem dX5_init_82 : decode cX5_init 82 = .ok (.return_, 1) := by decide +kernel
set_option maxRecDepth 20000 in
theorem ggX5_box_X5_drafted : GoodIn wsX5_box wsX5_drafted := goodIn_r _ [6, 7, 8, 9, 10, 11, 12, 13, 14, 15, 16, 17, 18, 19, 20, 21, 22, 23, 24, 25, 26, 27, 28, 29, 30, 31, 32, 33, 34, 35, 66, 67, 68, 69, 70, 71, 72, 73, 74, 75, 76, 77, 78, 79, 80, 81, 82, 83] (by decide +kernel) (by decide +kernel)
set_option maxRecDepth 20000 in
theorem gX5_box_X5_drafted : GoodIn wsX5_box (wsV RX5 37 RX5 yX5_drafted wsX5_drafted) := goodIn_app (goodIn_of _ (by decide +kernel)) ggX5_box_X5_drafted
set_option maxRecDepth 20000 in
theorem ggX5_box_X4_addThrough : GoodIn wsX5_box wsX4_addThrough := goodIn_r _ [40, 41, 42, 33, 34, 26, 35, 28, 29, 30, 31, 43, 44, 45, 12, 46, 21, 14, 47, 5, 48, 23, 24, 25, 27, 32, 84, 85, 86, 87, 88, 89, 90, 91, 80, 81, 82, 83, 75, 76, 77, 78, 79] (by decide +kernel) (by decide +kernel)
set_option maxRecDepth 20000 in
theorem gX5_box_X4_addThrough : GoodIn wsX5_box (wsV RX5 41 RX4 yX4_addThrough wsX4_addThrough) := goodIn_app (goodIn_of _ (by decide +kernel)) ggX5_box_X4_addThrough
set_option maxRecDepth 20000 in
theorem ggX5_box_X5_settled : GoodIn wsX5_box wsX5_settled := goodIn_r _ [52, 53, 54, 55, 5, 56, 57, 58, 59, 60, 61, 62, 63, 64, 65, 8, 7, 66, 67, 68, 69, 70, 71, 72, 73, 74] (by decide +kernel) (by decide +kernel)
set_option maxRecDepth 20000 in
theorem gX5_box_X5_settled : GoodIn wsX5_box (wsV RX5 45 RX5 yX5_settled wsX5_settled) := goodIn_app (goodIn_of _ (by decide +kernel)) ggX5_box_X5_settled
theorem dX5_box_0 : decode cX5_box 0 = .ok (.aload_n 0, 1) := by decide +kernel
theorem dX5_box_1 : decode cX5_box 1 = .ok (.aload_n 0, 1) := by decide +kernel
theorem dX5_box_2 : decode cX5_box 2 = .ok (.getfield 12, 3) := by decide +kernel
theorem dX5_box_5 : decode cX5_box 5 = .ok (.aload_n 0, 1) := by decide +kernel
theorem dX5_box_6 : decode cX5_box 6 = .ok (.invokevirtual 37, 3) := by decide +kernel
theorem dX5_box_9 : decode cX5_box 9 = .ok (.invokevirtual 41, 3) := by decide +kernel
theorem dX5_box_12 : decode cX5_box 12 = .ok (.invokevirtual 45, 3) := by decide +kernel
theorem dX5_box_15 : decode cX5_box 15 = .ok (.ireturn, 1) := by decide +kernel
set_option maxRecDepth 20000 in
theorem ggX5_sets_X5_drafted : GoodIn wsX5_sets wsX5_drafted := goodIn_r _ [5, 6, 7, 8, 9, 10, 11, 12, 13, 14, 15, 16, 17, 18, 19, 20, 21, 22, 23, 24, 25, 26, 27, 28, 29, 30, 31, 32, 33, 34, 77, 78, 79, 80, 81, 82, 83, 84, 85, 86, 87, 88, 89, 90, 91, 92, 93, 94] (by decide +kernel) (by decide +kernel)
set_option maxRecDepth 20000 in
theorem gX5_sets_X5_drafted : GoodIn wsX5_sets (wsV RX5 37 RX5 yX5_drafted wsX5_drafted) := goodIn_app (goodIn_of _ (by decide +kernel)) ggX5_sets_X5_drafted
set_option maxRecDepth 20000 in
theorem ggX5_sets_X2_putNumber : GoodIn wsX5_sets wsX2_putNumber := goodIn_r _ [38, 13, 39, 40, 41, 11, 42, 20, 43, 4, 44, 45, 46, 47, 48, 49, 50, 51, 25, 52, 27, 28, 29, 30, 53, 54, 55, 56, 57, 58, 59, 86, 87, 88, 89, 90, 91, 92, 93, 94] (by decide +kernel) (by decide +kernel)
set_option maxRecDepth 20000 in
theorem gX5_sets_X2_putNumber : GoodIn wsX5_sets (wsV RX5 49 RX2 yX2_putNumber wsX2_putNumber) := goodIn_app (goodIn_of _ (by decide +kernel)) ggX5_sets_X2_putNumber
set_option maxRecDepth 20000 in
theorem ggX5_sets_X5_settled : GoodIn wsX5_sets wsX5_settled := goodIn_r _ [63, 64, 65, 66, 4, 67, 68, 69, 70, 71, 72, 73, 74, 75, 76, 7, 6, 77, 78, 79, 80, 81, 82, 83, 84, 85] (by decide +kernel) (by decide +kernel)
set_option maxRecDepth 20000 in
theorem gX5_sets_X5_settled : GoodIn wsX5_sets (wsV RX5 45 RX5 yX5_settled wsX5_settled) := goodIn_app (goodIn_of _ (by decide +kernel)) ggX5_sets_X5_settled
theorem dX5_sets_0 : decode cX5_sets 0 = .ok (.aload_n 0, 1) := by decide +kernel
theorem dX5_sets_1 : decode cX5_sets 1 = .ok (.aload_n 0, 1) := by decide +kernel
theorem dX5_sets_2 : decode cX5_sets 2 = .ok (.invokevirtual 37, 3) := by decide +kernel
theorem dX5_sets_5 : decode cX5_sets 5 = .ok (.iload_n 1, 1) := by decide +kernel
theorem dX5_sets_6 : decode cX5_sets 6 = .ok (.iload_n 2, 1) := by decide +kernel
theorem dX5_sets_7 : decode cX5_sets 7 = .ok (.iload_n 3, 1) := by decide +kernel
theorem dX5_sets_8 : decode cX5_sets 8 = .ok (.iload 4, 2) := by decide +kernel
theorem dX5_sets_10 : decode cX5_sets 10 = .ok (.invokevirtual 49, 3) := by decide +kernel
theorem dX5_sets_13 : decode cX5_sets 13 = .ok (.invokevirtual 45, 3) := by decide +kernel
theorem dX5_sets_16 : decode cX5_sets 16 = .ok (.ireturn, 1) := by decide +kernel
set_option maxRecDepth 20000 in
theorem ggX5_errs_X5_drafted : GoodIn wsX5_errs wsX5_drafted := goodIn_r _ [5, 6, 7, 8, 9, 10, 11, 12, 13, 14, 15, 16, 17, 18, 19, 20, 21, 22, 23, 24, 25, 26, 27, 28, 29, 30, 31, 32, 33, 34, 65, 66, 67, 68, 69, 70, 71, 72, 73, 74, 75, 76, 77, 78, 79, 80, 81, 82] (by decide +kernel) (by decide +kernel)
set_option maxRecDepth 20000 in
theorem gX5_errs_X5_drafted : GoodIn wsX5_errs (wsV RX5 37 RX5 yX5_drafted wsX5_drafted) := goodIn_app (goodIn_of _ (by decide +kernel)) ggX5_errs_X5_drafted
set_option maxRecDepth 20000 in
theorem ggX5_errs_X2_putError : GoodIn wsX5_errs wsX2_putError := goodIn_r _ [38, 14, 39, 4, 40, 41, 42, 43, 44, 45, 46, 47, 74, 75, 76, 77, 78] (by decide +kernel) (by decide +kernel)
set_option maxRecDepth 20000 in
theorem gX5_errs_X2_putError : GoodIn wsX5_errs (wsV RX5 53 RX2 yX2_putError wsX2_putError) := goodIn_app (goodIn_of _ (by decide +kernel)) ggX5_errs_X2_putError
set_option maxRecDepth 20000 in
theorem ggX5_errs_X5_settled : GoodIn wsX5_errs wsX5_settled := goodIn_r _ [51, 52, 53, 54, 4, 55, 56, 57, 58, 59, 60, 61, 62, 63, 64, 7, 6, 65, 66, 67, 68, 69, 70, 71, 72, 73] (by decide +kernel) (by decide +kernel)
set_option maxRecDepth 20000 in
theorem gX5_errs_X5_settled : GoodIn wsX5_errs (wsV RX5 45 RX5 yX5_settled wsX5_settled) := goodIn_app (goodIn_of _ (by decide +kernel)) ggX5_errs_X5_settled
theorem dX5_errs_0 : decode cX5_errs 0 = .ok (.aload_n 0, 1) := by decide +kernel
theorem dX5_errs_1 : decode cX5_errs 1 = .ok (.aload_n 0, 1) := by decide +kernel
theorem dX5_errs_2 : decode cX5_errs 2 = .ok (.invokevirtual 37, 3) := by decide +kernel
theorem dX5_errs_5 : decode cX5_errs 5 = .ok (.iload_n 1, 1) := by decide +kernel
theorem dX5_errs_6 : decode cX5_errs 6 = .ok (.iload_n 2, 1) := by decide +kernel
theorem dX5_errs_7 : decode cX5_errs 7 = .ok (.iload_n 3, 1) := by decide +kernel
theorem dX5_errs_8 : decode cX5_errs 8 = .ok (.invokevirtual 53, 3) := by decide +kernel
theorem dX5_errs_11 : decode cX5_errs 11 = .ok (.invokevirtual 45, 3) := by decide +kernel
theorem dX5_errs_14 : decode cX5_errs 14 = .ok (.ireturn, 1) := by decide +kernel
set_option maxRecDepth 20000 in
theorem ggX5_drops_X5_drafted : GoodIn wsX5_drops wsX5_drafted := goodIn_r _ [5, 6, 7, 8, 9, 10, 11, 12, 13, 14, 15, 16, 17, 18, 19, 20, 21, 22, 23, 24, 25, 26, 27, 28, 29, 30, 31, 32, 33, 34, 62, 63, 64, 65, 66, 67, 68, 69, 70, 71, 72, 73, 74, 75, 76, 77, 78, 79] (by decide +kernel) (by decide +kernel)
set_option maxRecDepth 20000 in
theorem gX5_drops_X5_drafted : GoodIn wsX5_drops (wsV RX5 37 RX5 yX5_drafted wsX5_drafted) := goodIn_app (goodIn_of _ (by decide +kernel)) ggX5_drops_X5_drafted
set_option maxRecDepth 20000 in
theorem ggX5_drops_X2_removeBox : GoodIn wsX5_drops wsX2_removeBox := goodIn_r _ [38, 13, 20, 39, 40, 41, 11, 42, 43, 4, 44, 22, 23, 24, 25, 26, 27, 28, 29, 30, 31, 32, 33, 34, 71, 72, 73, 74, 75, 76, 77, 78, 79] (by decide +kernel) (by decide +kernel)
set_option maxRecDepth 20000 in
theorem gX5_drops_X2_removeBox : GoodIn wsX5_drops (wsV RX5 57 RX2 yX2_removeBox wsX2_removeBox) := goodIn_app (goodIn_of _ (by decide +kernel)) ggX5_drops_X2_removeBox
set_option maxRecDepth 20000 in
theorem ggX5_drops_X5_settled : GoodIn wsX5_drops wsX5_settled := goodIn_r _ [48, 49, 50, 51, 4, 52, 53, 54, 55, 56, 57, 58, 59, 60, 61, 7, 6, 62, 63, 64, 65, 66, 67, 68, 69, 70] (by decide +kernel) (by decide +kernel)
set_option maxRecDepth 20000 in
theorem gX5_drops_X5_settled : GoodIn wsX5_drops (wsV RX5 45 RX5 yX5_settled wsX5_settled) := goodIn_app (goodIn_of _ (by decide +kernel)) ggX5_drops_X5_settled
theorem dX5_drops_0 : decode cX5_drops 0 = .ok (.aload_n 0, 1) := by decide +kernel
theorem dX5_drops_1 : decode cX5_drops 1 = .ok (.aload_n 0, 1) := by decide +kernel
theorem dX5_drops_2 : decode cX5_drops 2 = .ok (.invokevirtual 37, 3) := by decide +kernel
theorem dX5_drops_5 : decode cX5_drops 5 = .ok (.iload_n 1, 1) := by decide +kernel
theorem dX5_drops_6 : decode cX5_drops 6 = .ok (.invokevirtual 57, 3) := by decide +kernel
theorem dX5_drops_9 : decode cX5_drops 9 = .ok (.invokevirtual 45, 3) := by decide +kernel
theorem dX5_drops_12 : decode cX5_drops 12 = .ok (.ireturn, 1) := by decide +kernel
set_option maxRecDepth 20000 in
theorem ggX5_of_X2_hasBox : GoodIn wsX5_of wsX2_hasBox := goodIn_r _ [7, 8, 9, 10, 11, 38, 39, 40, 41, 42] (by decide +kernel) (by decide +kernel)
set_option maxRecDepth 20000 in
theorem gX5_of_X2_hasBox : GoodIn wsX5_of (wsV RX5 60 RX2 yX2_hasBox wsX2_hasBox) := goodIn_app (goodIn_of _ (by decide +kernel)) ggX5_of_X2_hasBox
set_option maxRecDepth 20000 in
theorem ggX5_of_X5_isBelow : GoodIn wsX5_of wsX5_isBelow := goodIn_r _ [11] (by decide +kernel) (by decide +kernel)
set_option maxRecDepth 20000 in
theorem gX5_of_X5_isBelow : GoodIn wsX5_of (va_wsS RX5 64 yX5_isBelow wsX5_isBelow) := goodIn_app (goodIn_of _ (by decide +kernel)) ggX5_of_X5_isBelow
set_option maxRecDepth 20000 in
theorem ggX5_of_X5_noted : GoodIn wsX5_of wsX5_noted := goodIn_r _ [16, 17, 18, 19, 29, 30, 31, 32, 33, 34, 35, 36, 37] (by decide +kernel) (by decide +kernel)
set_option maxRecDepth 20000 in
theorem gX5_of_X5_noted : GoodIn wsX5_of (wsV RX5 68 RX5 yX5_noted wsX5_noted) := goodIn_app (goodIn_of _ (by decide +kernel)) ggX5_of_X5_noted
set_option maxRecDepth 20000 in
theorem ggX5_of_X0_at : GoodIn wsX5_of wsX0_at := goodIn_r _ [24, 25, 26, 27, 28, 43, 44, 45, 46] (by decide +kernel) (by decide +kernel)
set_option maxRecDepth 20000 in
theorem gX5_of_X0_at : GoodIn wsX5_of (wsV RX5 75 RX0 yX0_at wsX0_at) := goodIn_app (goodIn_of _ (by decide +kernel)) ggX5_of_X0_at
theorem dX5_of_0 : decode cX5_of 0 = .ok (.aload_n 0, 1) := by decide +kernel
theorem dX5_of_1 : decode cX5_of 1 = .ok (.getfield 26, 3) := by decide +kernel
theorem dX5_of_4 : decode cX5_of 4 = .ok (.iload_n 1, 1) := by decide +kernel
theorem dX5_of_5 : decode cX5_of 5 = .ok (.invokevirtual 60, 3) := by decide +kernel
theorem dX5_of_8 : decode cX5_of 8 = .ok (.ifCond .eq 11, 3) := by decide +kernel
theorem dX5_of_11 : decode cX5_of 11 = .ok (.iload_n 2, 1) := by decide +kernel
theorem dX5_of_12 : decode cX5_of 12 = .ok (.iconst 4, 1) := by decide +kernel
theorem dX5_of_13 : decode cX5_of 13 = .ok (.invokestatic 64, 3) := by decide +kernel
theorem dX5_of_16 : decode cX5_of 16 = .ok (.ifCond .ne 10, 3) := by decide +kernel
theorem dX5_of_19 : decode cX5_of 19 = .ok (.aload_n 0, 1) := by decide +kernel
theorem dX5_of_20 : decode cX5_of 20 = .ok (.bipush (-2), 2) := by decide +kernel
theorem dX5_of_22 : decode cX5_of 22 = .ok (.invokevirtual 68, 3) := by decide +kernel
theorem dX5_of_25 : decode cX5_of 25 = .ok (.ireturn, 1) := by decide +kernel
theorem dX5_of_26 : decode cX5_of 26 = .ok (.aload_n 0, 1) := by decide +kernel
theorem dX5_of_27 : decode cX5_of 27 = .ok (.getfield 26, 3) := by decide +kernel
theorem dX5_of_30 : decode cX5_of 30 = .ok (.getfield 71, 3) := by decide +kernel
theorem dX5_of_33 : decode cX5_of 33 = .ok (.iload_n 1, 1) := by decide +kernel
theorem dX5_of_34 : decode cX5_of 34 = .ok (.aaload, 1) := by decide +kernel
theorem dX5_of_35 : decode cX5_of 35 = .ok (.iload_n 2, 1) := by decide +kernel
theorem dX5_of_36 : decode cX5_of 36 = .ok (.invokevirtual 75, 3) := by decide +kernel
theorem dX5_of_39 : decode cX5_of 39 = .ok (.ireturn, 1) := by decide +kernel
set_option maxRecDepth 20000 in
theorem ggX5_error_X5_isBelow : GoodIn wsX5_error wsX5_isBelow := goodIn_r _ [6] (by decide +kernel) (by decide +kernel)
set_option maxRecDepth 20000 in
theorem gX5_error_X5_isBelow : GoodIn wsX5_error (va_wsS RX5 64 yX5_isBelow wsX5_isBelow) := goodIn_app (goodIn_of _ (by decide +kernel)) ggX5_error_X5_isBelow
set_option maxRecDepth 20000 in
theorem ggX5_error_X5_noted : GoodIn wsX5_error wsX5_noted := goodIn_r _ [10, 11, 12, 13, 14, 15, 16, 17, 18, 19, 20, 21, 22] (by decide +kernel) (by decide +kernel)
set_option maxRecDepth 20000 in
theorem gX5_error_X5_noted : GoodIn wsX5_error (wsV RX5 68 RX5 yX5_noted wsX5_noted) := goodIn_app (goodIn_of _ (by decide +kernel)) ggX5_error_X5_noted
theorem dX5_error_0 : decode cX5_error 0 = .ok (.iload_n 1, 1) := by decide +kernel
theorem dX5_error_1 : decode cX5_error 1 = .ok (.bipush 12, 2) := by decide +kernel
theorem dX5_error_3 : decode cX5_error 3 = .ok (.invokestatic 64, 3) := by decide +kernel
theorem dX5_error_6 : decode cX5_error 6 = .ok (.ifCond .ne 10, 3) := by decide +kernel
theorem dX5_error_9 : decode cX5_error 9 = .ok (.aload_n 0, 1) := by decide +kernel
theorem dX5_error_10 : decode cX5_error 10 = .ok (.bipush (-2), 2) := by decide +kernel
theorem dX5_error_12 : decode cX5_error 12 = .ok (.invokevirtual 68, 3) := by decide +kernel
theorem dX5_error_15 : decode cX5_error 15 = .ok (.ireturn, 1) := by decide +kernel
theorem dX5_error_16 : decode cX5_error 16 = .ok (.aload_n 0, 1) := by decide +kernel
theorem dX5_error_17 : decode cX5_error 17 = .ok (.getfield 26, 3) := by decide +kernel
theorem dX5_error_20 : decode cX5_error 20 = .ok (.getfield 80, 3) := by decide +kernel
theorem dX5_error_23 : decode cX5_error 23 = .ok (.iload_n 1, 1) := by decide +kernel
theorem dX5_error_24 : decode cX5_error 24 = .ok (.iaload, 1) := by decide +kernel
theorem dX5_error_25 : decode cX5_error 25 = .ok (.ireturn, 1) := by decide +kernel
set_option maxRecDepth 20000 in
theorem ggX5_told_X4_toldNumber : GoodIn wsX5_told wsX4_toldNumber := goodIn_r _ [7, 8, 9, 10, 11, 12, 13, 14, 15, 16, 17, 18, 19, 20, 21, 22, 6, 23, 24, 25, 26, 27, 28, 29, 30, 31, 32, 33, 34, 35, 36, 37, 38, 39, 40, 41, 42, 43, 44, 45, 46, 47, 48, 49, 50, 51, 52, 53, 54, 55, 56, 57, 58, 59, 60, 61, 62, 63, 64, 65, 82, 83, 84, 85, 86, 87, 88, 89, 90, 91, 92, 93, 94, 95, 96, 97, 98] (by decide +kernel) (by decide +kernel)
set_option maxRecDepth 20000 in
theorem gX5_told_X4_toldNumber : GoodIn wsX5_told (wsV RX5 84 RX4 yX4_toldNumber wsX4_toldNumber) := goodIn_app (goodIn_of _ (by decide +kernel)) ggX5_told_X4_toldNumber
set_option maxRecDepth 20000 in
theorem ggX5_told_X5_noted : GoodIn wsX5_told wsX5_noted := goodIn_r _ [69, 70, 71, 72, 73, 74, 75, 76, 77, 78, 79, 80, 81] (by decide +kernel) (by decide +kernel)
set_option maxRecDepth 20000 in
theorem gX5_told_X5_noted : GoodIn wsX5_told (wsV RX5 68 RX5 yX5_noted wsX5_noted) := goodIn_app (goodIn_of _ (by decide +kernel)) ggX5_told_X5_noted
theorem dX5_told_0 : decode cX5_told 0 = .ok (.aload_n 0, 1) := by decide +kernel
theorem dX5_told_1 : decode cX5_told 1 = .ok (.aload_n 0, 1) := by decide +kernel
theorem dX5_told_2 : decode cX5_told 2 = .ok (.getfield 12, 3) := by decide +kernel
theorem dX5_told_5 : decode cX5_told 5 = .ok (.aload_n 0, 1) := by decide +kernel
theorem dX5_told_6 : decode cX5_told 6 = .ok (.getfield 26, 3) := by decide +kernel
theorem dX5_told_9 : decode cX5_told 9 = .ok (.iload_n 1, 1) := by decide +kernel
theorem dX5_told_10 : decode cX5_told 10 = .ok (.iload_n 2, 1) := by decide +kernel
theorem dX5_told_11 : decode cX5_told 11 = .ok (.invokevirtual 84, 3) := by decide +kernel
theorem dX5_told_14 : decode cX5_told 14 = .ok (.invokevirtual 68, 3) := by decide +kernel
theorem dX5_told_17 : decode cX5_told 17 = .ok (.ireturn, 1) := by decide +kernel
set_option maxRecDepth 20000 in
theorem ggX5_learns_X5_drafted : GoodIn wsX5_learns wsX5_drafted := goodIn_r _ [6, 7, 8, 9, 10, 11, 12, 13, 14, 15, 16, 17, 18, 19, 20, 21, 22, 23, 24, 25, 26, 27, 28, 29, 30, 31, 32, 33, 34, 35, 124, 125, 126, 127, 128, 129, 130, 131, 132, 133, 134, 135, 136, 137, 138, 139, 140, 141] (by decide +kernel) (by decide +kernel)
set_option maxRecDepth 20000 in
theorem gX5_learns_X5_drafted : GoodIn wsX5_learns (wsV RX5 37 RX5 yX5_drafted wsX5_drafted) := goodIn_app (goodIn_of _ (by decide +kernel)) ggX5_learns_X5_drafted
set_option maxRecDepth 20000 in
theorem ggX5_learns_X4_learnErrors : GoodIn wsX5_learns wsX4_learnErrors := goodIn_r _ [40, 41, 42, 43, 44, 17, 18, 19, 45, 46, 47, 48, 39, 49, 50, 51, 52, 53, 54, 55, 56, 33, 34, 26, 35, 28, 29, 30, 31, 57, 58, 59, 60, 61, 62, 63, 64, 65, 66, 67, 68, 69, 70, 71, 72, 73, 74, 75, 76, 77, 78, 79, 80, 81, 82, 83, 84, 85, 86, 87, 88, 89, 90, 91, 92, 93, 94, 95, 96, 97, 98, 99, 100, 101, 102, 103, 104, 105, 106, 133, 134, 135, 136, 137, 142, 143, 144, 145, 146, 147, 148, 149, 138, 139, 140, 141] (by decide +kernel) (by decide +kernel)
set_option maxRecDepth 20000 in
theorem gX5_learns_X4_learnErrors : GoodIn wsX5_learns (wsV RX5 88 RX4 yX4_learnErrors wsX4_learnErrors) := goodIn_app (goodIn_of _ (by decide +kernel)) ggX5_learns_X4_learnErrors
set_option maxRecDepth 20000 in
theorem ggX5_learns_X5_settled : GoodIn wsX5_learns wsX5_settled := goodIn_r _ [110, 111, 112, 113, 5, 114, 115, 116, 117, 118, 119, 120, 121, 122, 123, 8, 7, 124, 125, 126, 127, 128, 129, 130, 131, 132] (by decide +kernel) (by decide +kernel)
set_option maxRecDepth 20000 in
theorem gX5_learns_X5_settled : GoodIn wsX5_learns (wsV RX5 45 RX5 yX5_settled wsX5_settled) := goodIn_app (goodIn_of _ (by decide +kernel)) ggX5_learns_X5_settled
theorem dX5_learns_0 : decode cX5_learns 0 = .ok (.aload_n 0, 1) := by decide +kernel
theorem dX5_learns_1 : decode cX5_learns 1 = .ok (.aload_n 0, 1) := by decide +kernel
theorem dX5_learns_2 : decode cX5_learns 2 = .ok (.getfield 12, 3) := by decide +kernel
theorem dX5_learns_5 : decode cX5_learns 5 = .ok (.aload_n 0, 1) := by decide +kernel
theorem dX5_learns_6 : decode cX5_learns 6 = .ok (.invokevirtual 37, 3) := by decide +kernel
theorem dX5_learns_9 : decode cX5_learns 9 = .ok (.invokevirtual 88, 3) := by decide +kernel
theorem dX5_learns_12 : decode cX5_learns 12 = .ok (.invokevirtual 45, 3) := by decide +kernel
theorem dX5_learns_15 : decode cX5_learns 15 = .ok (.ireturn, 1) := by decide +kernel
set_option maxRecDepth 20000 in
theorem ggX5_learnt_X5_isBelow : GoodIn wsX5_learnt wsX5_isBelow := goodIn_r _ [7] (by decide +kernel) (by decide +kernel)
set_option maxRecDepth 20000 in
theorem gX5_learnt_X5_isBelow : GoodIn wsX5_learnt (va_wsS RX5 64 yX5_isBelow wsX5_isBelow) := goodIn_app (goodIn_of _ (by decide +kernel)) ggX5_learnt_X5_isBelow
set_option maxRecDepth 20000 in
theorem ggX5_learnt_X5_noted : GoodIn wsX5_learnt wsX5_noted := goodIn_r _ [11, 12, 13, 14, 15, 16, 17, 18, 19, 20, 21, 22, 23] (by decide +kernel) (by decide +kernel)
set_option maxRecDepth 20000 in
theorem gX5_learnt_X5_noted : GoodIn wsX5_learnt (wsV RX5 68 RX5 yX5_noted wsX5_noted) := goodIn_app (goodIn_of _ (by decide +kernel)) ggX5_learnt_X5_noted
theorem dX5_learnt_0 : decode cX5_learnt 0 = .ok (.iload_n 1, 1) := by decide +kernel
theorem dX5_learnt_1 : decode cX5_learnt 1 = .ok (.bipush 12, 2) := by decide +kernel
theorem dX5_learnt_3 : decode cX5_learnt 3 = .ok (.invokestatic 64, 3) := by decide +kernel
theorem dX5_learnt_6 : decode cX5_learnt 6 = .ok (.ifCond .ne 10, 3) := by decide +kernel
theorem dX5_learnt_9 : decode cX5_learnt 9 = .ok (.aload_n 0, 1) := by decide +kernel
theorem dX5_learnt_10 : decode cX5_learnt 10 = .ok (.bipush (-2), 2) := by decide +kernel
theorem dX5_learnt_12 : decode cX5_learnt 12 = .ok (.invokevirtual 68, 3) := by decide +kernel
theorem dX5_learnt_15 : decode cX5_learnt 15 = .ok (.ireturn, 1) := by decide +kernel
theorem dX5_learnt_16 : decode cX5_learnt 16 = .ok (.aload_n 0, 1) := by decide +kernel
theorem dX5_learnt_17 : decode cX5_learnt 17 = .ok (.getfield 26, 3) := by decide +kernel
theorem dX5_learnt_20 : decode cX5_learnt 20 = .ok (.getfield 91, 3) := by decide +kernel
theorem dX5_learnt_23 : decode cX5_learnt 23 = .ok (.ifCond .eq 15, 3) := by decide +kernel
theorem dX5_learnt_26 : decode cX5_learnt 26 = .ok (.aload_n 0, 1) := by decide +kernel
theorem dX5_learnt_27 : decode cX5_learnt 27 = .ok (.getfield 26, 3) := by decide +kernel
theorem dX5_learnt_30 : decode cX5_learnt 30 = .ok (.getfield 95, 3) := by decide +kernel
theorem dX5_learnt_33 : decode cX5_learnt 33 = .ok (.iload_n 1, 1) := by decide +kernel
theorem dX5_learnt_34 : decode cX5_learnt 34 = .ok (.iaload, 1) := by decide +kernel
theorem dX5_learnt_35 : decode cX5_learnt 35 = .ok (.goto 4, 3) := by decide +kernel
theorem dX5_learnt_38 : decode cX5_learnt 38 = .ok (.iconst (-1), 1) := by decide +kernel
theorem dX5_learnt_39 : decode cX5_learnt 39 = .ok (.ireturn, 1) := by decide +kernel
set_option maxRecDepth 20000 in
theorem ggX5_reads_X5_drafted : GoodIn wsX5_reads wsX5_drafted := goodIn_r _ [6, 7, 8, 9, 10, 11, 12, 13, 14, 15, 16, 17, 18, 19, 20, 21, 22, 23, 24, 25, 26, 27, 28, 29, 30, 31, 32, 33, 34, 35, 122, 123, 124, 125, 126, 127, 128, 129, 130, 131, 132, 133, 134, 135, 136, 137, 138, 139] (by decide +kernel) (by decide +kernel)
set_option maxRecDepth 20000 in
theorem gX5_reads_X5_drafted : GoodIn wsX5_reads (wsV RX5 37 RX5 yX5_drafted wsX5_drafted) := goodIn_app (goodIn_of _ (by decide +kernel)) ggX5_reads_X5_drafted
set_option maxRecDepth 20000 in
theorem ggX5_reads_X4_addReading : GoodIn wsX5_reads wsX4_addReading := goodIn_r _ [40, 41, 42, 43, 44, 45, 46, 47, 48, 12, 49, 21, 50, 5, 51, 52, 53, 54, 39, 55, 56, 57, 58, 59, 60, 61, 62, 63, 26, 64, 28, 31, 29, 30, 65, 66, 67, 68, 69, 70, 71, 72, 73, 74, 75, 76, 77, 78, 79, 80, 81, 82, 83, 84, 85, 86, 33, 34, 35, 87, 88, 89, 90, 91, 92, 93, 94, 95, 96, 97, 98, 99, 100, 32, 101, 102, 103, 104, 14, 23, 24, 25, 27, 131, 132, 133, 134, 135, 140, 141, 142, 143, 144, 145, 146, 147, 136, 137, 138, 139] (by decide +kernel) (by decide +kernel)
set_option maxRecDepth 20000 in
theorem gX5_reads_X4_addReading : GoodIn wsX5_reads (wsV RX5 98 RX4 yX4_addReading wsX4_addReading) := goodIn_app (goodIn_of _ (by decide +kernel)) ggX5_reads_X4_addReading
set_option maxRecDepth 20000 in
theorem ggX5_reads_X5_settled : GoodIn wsX5_reads wsX5_settled := goodIn_r _ [108, 109, 110, 111, 5, 112, 113, 114, 115, 116, 117, 118, 119, 120, 121, 8, 7, 122, 123, 124, 125, 126, 127, 128, 129, 130] (by decide +kernel) (by decide +kernel)
set_option maxRecDepth 20000 in
theorem gX5_reads_X5_settled : GoodIn wsX5_reads (wsV RX5 45 RX5 yX5_settled wsX5_settled) := goodIn_app (goodIn_of _ (by decide +kernel)) ggX5_reads_X5_settled
theorem dX5_reads_0 : decode cX5_reads 0 = .ok (.aload_n 0, 1) := by decide +kernel
theorem dX5_reads_1 : decode cX5_reads 1 = .ok (.aload_n 0, 1) := by decide +kernel
theorem dX5_reads_2 : decode cX5_reads 2 = .ok (.getfield 12, 3) := by decide +kernel
theorem dX5_reads_5 : decode cX5_reads 5 = .ok (.aload_n 0, 1) := by decide +kernel
theorem dX5_reads_6 : decode cX5_reads 6 = .ok (.invokevirtual 37, 3) := by decide +kernel
theorem dX5_reads_9 : decode cX5_reads 9 = .ok (.iload_n 1, 1) := by decide +kernel
theorem dX5_reads_10 : decode cX5_reads 10 = .ok (.invokevirtual 98, 3) := by decide +kernel
theorem dX5_reads_13 : decode cX5_reads 13 = .ok (.invokevirtual 45, 3) := by decide +kernel
theorem dX5_reads_16 : decode cX5_reads 16 = .ok (.ireturn, 1) := by decide +kernel
set_option maxRecDepth 20000 in
theorem ggX5_chains_X5_drafted : GoodIn wsX5_chains wsX5_drafted := goodIn_r _ [6, 7, 8, 9, 10, 11, 12, 13, 14, 15, 16, 17, 18, 19, 20, 21, 22, 23, 24, 25, 26, 27, 28, 29, 30, 31, 32, 33, 34, 35, 116, 117, 118, 119, 120, 121, 122, 123, 124, 125, 126, 127, 128, 129, 130, 131, 132, 133] (by decide +kernel) (by decide +kernel)
set_option maxRecDepth 20000 in
theorem gX5_chains_X5_drafted : GoodIn wsX5_chains (wsV RX5 37 RX5 yX5_drafted wsX5_drafted) := goodIn_app (goodIn_of _ (by decide +kernel)) ggX5_chains_X5_drafted
set_option maxRecDepth 20000 in
theorem ggX5_chains_X4_addChain : GoodIn wsX5_chains wsX4_addChain := goodIn_r _ [40, 41, 42, 43, 44, 45, 46, 47, 48, 12, 49, 21, 50, 5, 51, 52, 53, 54, 26, 55, 30, 28, 31, 56, 57, 58, 59, 29, 60, 61, 62, 63, 64, 65, 66, 67, 68, 69, 32, 33, 34, 35, 70, 71, 72, 73, 74, 75, 76, 77, 78, 79, 80, 81, 82, 83, 84, 85, 86, 87, 88, 89, 90, 91, 92, 93, 94, 95, 96, 97, 98, 14, 23, 24, 25, 27, 134, 135, 136, 137, 138, 139, 140, 141, 125, 126, 127, 128, 129, 130, 131, 132, 133] (by decide +kernel) (by decide +kernel)
set_option maxRecDepth 20000 in
theorem gX5_chains_X4_addChain : GoodIn wsX5_chains (wsV RX5 102 RX4 yX4_addChain wsX4_addChain) := goodIn_app (goodIn_of _ (by decide +kernel)) ggX5_chains_X4_addChain
set_option maxRecDepth 20000 in
theorem ggX5_chains_X5_settled : GoodIn wsX5_chains wsX5_settled := goodIn_r _ [102, 103, 104, 105, 5, 106, 107, 108, 109, 110, 111, 112, 113, 114, 115, 8, 7, 116, 117, 118, 119, 120, 121, 122, 123, 124] (by decide +kernel) (by decide +kernel)
set_option maxRecDepth 20000 in
theorem gX5_chains_X5_settled : GoodIn wsX5_chains (wsV RX5 45 RX5 yX5_settled wsX5_settled) := goodIn_app (goodIn_of _ (by decide +kernel)) ggX5_chains_X5_settled
theorem dX5_chains_0 : decode cX5_chains 0 = .ok (.aload_n 0, 1) := by decide +kernel
theorem dX5_chains_1 : decode cX5_chains 1 = .ok (.aload_n 0, 1) := by decide +kernel
theorem dX5_chains_2 : decode cX5_chains 2 = .ok (.getfield 12, 3) := by decide +kernel
theorem dX5_chains_5 : decode cX5_chains 5 = .ok (.aload_n 0, 1) := by decide +kernel
theorem dX5_chains_6 : decode cX5_chains 6 = .ok (.invokevirtual 37, 3) := by decide +kernel
theorem dX5_chains_9 : decode cX5_chains 9 = .ok (.iload_n 1, 1) := by decide +kernel
theorem dX5_chains_10 : decode cX5_chains 10 = .ok (.iload_n 2, 1) := by decide +kernel
theorem dX5_chains_11 : decode cX5_chains 11 = .ok (.invokevirtual 102, 3) := by decide +kernel
theorem dX5_chains_14 : decode cX5_chains 14 = .ok (.invokevirtual 45, 3) := by decide +kernel
theorem dX5_chains_17 : decode cX5_chains 17 = .ok (.ireturn, 1) := by decide +kernel
set_option maxRecDepth 20000 in
theorem ggX5_peels_X5_drafted : GoodIn wsX5_peels wsX5_drafted := goodIn_r _ [6, 7, 8, 9, 10, 11, 12, 13, 14, 15, 16, 17, 18, 19, 20, 21, 22, 23, 24, 25, 26, 27, 28, 29, 30, 31, 32, 33, 34, 35, 120, 121, 122, 123, 124, 125, 126, 127, 128, 129, 130, 131, 132, 133, 134, 135, 136, 137] (by decide +kernel) (by decide +kernel)
set_option maxRecDepth 20000 in
theorem gX5_peels_X5_drafted : GoodIn wsX5_peels (wsV RX5 37 RX5 yX5_drafted wsX5_drafted) := goodIn_app (goodIn_of _ (by decide +kernel)) ggX5_peels_X5_drafted
set_option maxRecDepth 20000 in
theorem ggX5_peels_X4_addPeeled : GoodIn wsX5_peels wsX4_addPeeled := goodIn_r _ [40, 41, 42, 43, 44, 45, 46, 47, 48, 12, 49, 21, 50, 5, 51, 52, 53, 54, 26, 55, 30, 28, 31, 56, 57, 58, 59, 29, 60, 61, 62, 63, 64, 65, 66, 67, 68, 69, 32, 33, 34, 35, 70, 71, 72, 73, 74, 75, 76, 77, 78, 79, 80, 81, 82, 83, 84, 85, 86, 87, 88, 89, 90, 91, 92, 93, 94, 95, 96, 97, 98, 99, 100, 101, 102, 14, 23, 24, 25, 27, 138, 139, 140, 141, 142, 143, 144, 145, 129, 130, 131, 132, 133, 134, 135, 136, 137] (by decide +kernel) (by decide +kernel)
set_option maxRecDepth 20000 in
theorem gX5_peels_X4_addPeeled : GoodIn wsX5_peels (wsV RX5 105 RX4 yX4_addPeeled wsX4_addPeeled) := goodIn_app (goodIn_of _ (by decide +kernel)) ggX5_peels_X4_addPeeled
set_option maxRecDepth 20000 in
theorem ggX5_peels_X5_settled : GoodIn wsX5_peels wsX5_settled := goodIn_r _ [106, 107, 108, 109, 5, 110, 111, 112, 113, 114, 115, 116, 117, 118, 119, 8, 7, 120, 121, 122, 123, 124, 125, 126, 127, 128] (by decide +kernel) (by decide +kernel)
set_option maxRecDepth 20000 in
theorem gX5_peels_X5_settled : GoodIn wsX5_peels (wsV RX5 45 RX5 yX5_settled wsX5_settled) := goodIn_app (goodIn_of _ (by decide +kernel)) ggX5_peels_X5_settled
theorem dX5_peels_0 : decode cX5_peels 0 = .ok (.aload_n 0, 1) := by decide +kernel
theorem dX5_peels_1 : decode cX5_peels 1 = .ok (.aload_n 0, 1) := by decide +kernel
theorem dX5_peels_2 : decode cX5_peels 2 = .ok (.getfield 12, 3) := by decide +kernel
theorem dX5_peels_5 : decode cX5_peels 5 = .ok (.aload_n 0, 1) := by decide +kernel
theorem dX5_peels_6 : decode cX5_peels 6 = .ok (.invokevirtual 37, 3) := by decide +kernel
theorem dX5_peels_9 : decode cX5_peels 9 = .ok (.iload_n 1, 1) := by decide +kernel
theorem dX5_peels_10 : decode cX5_peels 10 = .ok (.iload_n 2, 1) := by decide +kernel
theorem dX5_peels_11 : decode cX5_peels 11 = .ok (.iload_n 3, 1) := by decide +kernel
theorem dX5_peels_12 : decode cX5_peels 12 = .ok (.invokevirtual 105, 3) := by decide +kernel
theorem dX5_peels_15 : decode cX5_peels 15 = .ok (.invokevirtual 45, 3) := by decide +kernel
theorem dX5_peels_18 : decode cX5_peels 18 = .ok (.ireturn, 1) := by decide +kernel
set_option maxRecDepth 20000 in
theorem ggX5_turns_X5_drafted : GoodIn wsX5_turns wsX5_drafted := goodIn_r _ [6, 7, 8, 9, 10, 11, 12, 13, 14, 15, 16, 17, 18, 19, 20, 21, 22, 23, 24, 25, 26, 27, 28, 29, 30, 31, 32, 33, 34, 35, 75, 76, 77, 78, 79, 80, 81, 82, 83, 84, 85, 86, 87, 88, 89, 90, 91, 92] (by decide +kernel) (by decide +kernel)
set_option maxRecDepth 20000 in
theorem gX5_turns_X5_drafted : GoodIn wsX5_turns (wsV RX5 37 RX5 yX5_drafted wsX5_drafted) := goodIn_app (goodIn_of _ (by decide +kernel)) ggX5_turns_X5_drafted
set_option maxRecDepth 20000 in
theorem ggX5_turns_X4_addTurned : GoodIn wsX5_turns wsX4_addTurned := goodIn_r _ [40, 41, 42, 43, 44, 45, 46, 47, 48, 49, 12, 50, 21, 51, 5, 52, 53, 33, 34, 26, 35, 28, 29, 30, 31, 54, 55, 56, 57, 14, 23, 24, 25, 27, 32, 84, 85, 86, 87, 88, 93, 94, 95, 96, 97, 98, 99, 100, 89, 90, 91, 92] (by decide +kernel) (by decide +kernel)
set_option maxRecDepth 20000 in
theorem gX5_turns_X4_addTurned : GoodIn wsX5_turns (wsV RX5 109 RX4 yX4_addTurned wsX4_addTurned) := goodIn_app (goodIn_of _ (by decide +kernel)) ggX5_turns_X4_addTurned
set_option maxRecDepth 20000 in
theorem ggX5_turns_X5_settled : GoodIn wsX5_turns wsX5_settled := goodIn_r _ [61, 62, 63, 64, 5, 65, 66, 67, 68, 69, 70, 71, 72, 73, 74, 8, 7, 75, 76, 77, 78, 79, 80, 81, 82, 83] (by decide +kernel) (by decide +kernel)
set_option maxRecDepth 20000 in
theorem gX5_turns_X5_settled : GoodIn wsX5_turns (wsV RX5 45 RX5 yX5_settled wsX5_settled) := goodIn_app (goodIn_of _ (by decide +kernel)) ggX5_turns_X5_settled
theorem dX5_turns_0 : decode cX5_turns 0 = .ok (.aload_n 0, 1) := by decide +kernel
theorem dX5_turns_1 : decode cX5_turns 1 = .ok (.aload_n 0, 1) := by decide +kernel
theorem dX5_turns_2 : decode cX5_turns 2 = .ok (.getfield 12, 3) := by decide +kernel
theorem dX5_turns_5 : decode cX5_turns 5 = .ok (.aload_n 0, 1) := by decide +kernel
theorem dX5_turns_6 : decode cX5_turns 6 = .ok (.invokevirtual 37, 3) := by decide +kernel
theorem dX5_turns_9 : decode cX5_turns 9 = .ok (.iload_n 1, 1) := by decide +kernel
theorem dX5_turns_10 : decode cX5_turns 10 = .ok (.invokevirtual 109, 3) := by decide +kernel
theorem dX5_turns_13 : decode cX5_turns 13 = .ok (.invokevirtual 45, 3) := by decide +kernel
theorem dX5_turns_16 : decode cX5_turns 16 = .ok (.ireturn, 1) := by decide +kernel
set_option maxRecDepth 20000 in
theorem ggX5_form_X4_formNumber : GoodIn wsX5_form wsX4_formNumber := goodIn_r _ [7, 8, 9, 10, 11, 12, 13, 14, 15, 16, 17, 18, 19, 20, 21, 22, 23, 24, 25, 26, 27, 28, 29, 30, 31, 32, 33, 34, 35, 36, 37, 38, 39, 40, 41, 42, 43, 44, 45, 46, 47, 48, 49, 50, 51, 52, 53, 54, 55, 56, 57, 58, 59, 60, 61, 62, 63, 64, 65, 66, 67, 68, 69, 70, 87, 88, 89, 90, 91, 92, 93, 94, 95, 96, 97, 98, 99, 100, 101, 102, 103] (by decide +kernel) (by decide +kernel)
set_option maxRecDepth 20000 in
theorem gX5_form_X4_formNumber : GoodIn wsX5_form (wsV RX5 112 RX4 yX4_formNumber wsX4_formNumber) := goodIn_app (goodIn_of _ (by decide +kernel)) ggX5_form_X4_formNumber
set_option maxRecDepth 20000 in
theorem ggX5_form_X5_noted : GoodIn wsX5_form wsX5_noted := goodIn_r _ [74, 75, 76, 77, 78, 79, 80, 81, 82, 83, 84, 85, 86] (by decide +kernel) (by decide +kernel)
set_option maxRecDepth 20000 in
theorem gX5_form_X5_noted : GoodIn wsX5_form (wsV RX5 68 RX5 yX5_noted wsX5_noted) := goodIn_app (goodIn_of _ (by decide +kernel)) ggX5_form_X5_noted
theorem dX5_form_0 : decode cX5_form 0 = .ok (.aload_n 0, 1) := by decide +kernel
theorem dX5_form_1 : decode cX5_form 1 = .ok (.aload_n 0, 1) := by decide +kernel
theorem dX5_form_2 : decode cX5_form 2 = .ok (.getfield 12, 3) := by decide +kernel
theorem dX5_form_5 : decode cX5_form 5 = .ok (.aload_n 0, 1) := by decide +kernel
theorem dX5_form_6 : decode cX5_form 6 = .ok (.getfield 26, 3) := by decide +kernel
theorem dX5_form_9 : decode cX5_form 9 = .ok (.iload_n 1, 1) := by decide +kernel
theorem dX5_form_10 : decode cX5_form 10 = .ok (.iload_n 2, 1) := by decide +kernel
theorem dX5_form_11 : decode cX5_form 11 = .ok (.iload_n 3, 1) := by decide +kernel
theorem dX5_form_12 : decode cX5_form 12 = .ok (.invokevirtual 112, 3) := by decide +kernel
theorem dX5_form_15 : decode cX5_form 15 = .ok (.invokevirtual 68, 3) := by decide +kernel
theorem dX5_form_18 : decode cX5_form 18 = .ok (.ireturn, 1) := by decide +kernel
set_option maxRecDepth 20000 in
theorem ggX5_det_X2_hasBox : GoodIn wsX5_det wsX2_hasBox := goodIn_r _ [7, 8, 9, 10, 11, 47, 48, 49, 50, 51] (by decide +kernel) (by decide +kernel)
set_option maxRecDepth 20000 in
theorem gX5_det_X2_hasBox : GoodIn wsX5_det (wsV RX5 60 RX2 yX2_hasBox wsX2_hasBox) := goodIn_app (goodIn_of _ (by decide +kernel)) ggX5_det_X2_hasBox
set_option maxRecDepth 20000 in
theorem ggX5_det_X5_noted : GoodIn wsX5_det wsX5_noted := goodIn_r _ [15, 16, 17, 18, 38, 39, 40, 41, 42, 43, 44, 45, 46] (by decide +kernel) (by decide +kernel)
set_option maxRecDepth 20000 in
theorem gX5_det_X5_noted : GoodIn wsX5_det (wsV RX5 68 RX5 yX5_noted wsX5_noted) := goodIn_app (goodIn_of _ (by decide +kernel)) ggX5_det_X5_noted
set_option maxRecDepth 20000 in
theorem ggX5_det_X0_determinant : GoodIn wsX5_det wsX0_determinant := goodIn_r _ [23, 24, 25, 26, 27, 28, 29, 30, 31, 32, 33, 34, 35, 36, 37, 52, 53, 54, 55] (by decide +kernel) (by decide +kernel)
set_option maxRecDepth 20000 in
theorem gX5_det_X0_determinant : GoodIn wsX5_det (wsV RX5 115 RX0 yX0_determinant wsX0_determinant) := goodIn_app (goodIn_of _ (by decide +kernel)) ggX5_det_X0_determinant
theorem dX5_det_0 : decode cX5_det 0 = .ok (.aload_n 0, 1) := by decide +kernel
theorem dX5_det_1 : decode cX5_det 1 = .ok (.getfield 26, 3) := by decide +kernel
theorem dX5_det_4 : decode cX5_det 4 = .ok (.iload_n 1, 1) := by decide +kernel
theorem dX5_det_5 : decode cX5_det 5 = .ok (.invokevirtual 60, 3) := by decide +kernel
theorem dX5_det_8 : decode cX5_det 8 = .ok (.ifCond .ne 10, 3) := by decide +kernel
theorem dX5_det_11 : decode cX5_det 11 = .ok (.aload_n 0, 1) := by decide +kernel
theorem dX5_det_12 : decode cX5_det 12 = .ok (.bipush (-2), 2) := by decide +kernel
theorem dX5_det_14 : decode cX5_det 14 = .ok (.invokevirtual 68, 3) := by decide +kernel
theorem dX5_det_17 : decode cX5_det 17 = .ok (.ireturn, 1) := by decide +kernel
theorem dX5_det_18 : decode cX5_det 18 = .ok (.aload_n 0, 1) := by decide +kernel
theorem dX5_det_19 : decode cX5_det 19 = .ok (.getfield 26, 3) := by decide +kernel
theorem dX5_det_22 : decode cX5_det 22 = .ok (.getfield 71, 3) := by decide +kernel
theorem dX5_det_25 : decode cX5_det 25 = .ok (.iload_n 1, 1) := by decide +kernel
theorem dX5_det_26 : decode cX5_det 26 = .ok (.aaload, 1) := by decide +kernel
theorem dX5_det_27 : decode cX5_det 27 = .ok (.invokevirtual 115, 3) := by decide +kernel
theorem dX5_det_30 : decode cX5_det 30 = .ok (.ireturn, 1) := by decide +kernel
set_option maxRecDepth 20000 in
theorem ggX5_ends_X2_hasBox : GoodIn wsX5_ends wsX2_hasBox := goodIn_r _ [7, 8, 9, 10, 11, 59, 60, 61, 62, 63] (by decide +kernel) (by decide +kernel)
set_option maxRecDepth 20000 in
theorem gX5_ends_X2_hasBox : GoodIn wsX5_ends (wsV RX5 60 RX2 yX2_hasBox wsX2_hasBox) := goodIn_app (goodIn_of _ (by decide +kernel)) ggX5_ends_X2_hasBox
set_option maxRecDepth 20000 in
theorem ggX5_ends_X5_isBelow : GoodIn wsX5_ends wsX5_isBelow := goodIn_r _ [11] (by decide +kernel) (by decide +kernel)
set_option maxRecDepth 20000 in
theorem gX5_ends_X5_isBelow : GoodIn wsX5_ends (va_wsS RX5 64 yX5_isBelow wsX5_isBelow) := goodIn_app (goodIn_of _ (by decide +kernel)) ggX5_ends_X5_isBelow
set_option maxRecDepth 20000 in
theorem ggX5_ends_X1_isGiven : GoodIn wsX5_ends wsX1_isGiven := goodIn_r _ [16, 9, 10, 11] (by decide +kernel) (by decide +kernel)
set_option maxRecDepth 20000 in
theorem gX5_ends_X1_isGiven : GoodIn wsX5_ends (va_wsS RX5 119 yX1_isGiven wsX1_isGiven) := goodIn_app (goodIn_of _ (by decide +kernel)) ggX5_ends_X1_isGiven
set_option maxRecDepth 20000 in
theorem ggX5_ends_X5_noted : GoodIn wsX5_ends wsX5_noted := goodIn_r _ [20, 21, 22, 23, 50, 51, 52, 53, 54, 55, 56, 57, 58] (by decide +kernel) (by decide +kernel)
set_option maxRecDepth 20000 in
theorem gX5_ends_X5_noted : GoodIn wsX5_ends (wsV RX5 68 RX5 yX5_noted wsX5_noted) := goodIn_app (goodIn_of _ (by decide +kernel)) ggX5_ends_X5_noted
set_option maxRecDepth 20000 in
theorem ggX5_ends_X1_made : GoodIn wsX5_ends wsX1_made := goodIn_r _ [26] (by decide +kernel) (by decide +kernel)
set_option maxRecDepth 20000 in
theorem gX5_ends_X1_made : GoodIn wsX5_ends (va_wsS RX5 124 yX1_made wsX1_made) := goodIn_app (goodIn_of _ (by decide +kernel)) ggX5_ends_X1_made
set_option maxRecDepth 20000 in
theorem ggX5_ends_X5_seenInto : GoodIn wsX5_ends wsX5_seenInto := goodIn_r _ [29, 30, 31, 32, 33, 34, 35, 15, 36, 37, 25, 26, 38, 39, 40, 41, 42, 43, 44, 45, 46, 47, 48, 49, 64, 65, 66, 67] (by decide +kernel) (by decide +kernel)
set_option maxRecDepth 20000 in
theorem gX5_ends_X5_seenInto : GoodIn wsX5_ends (va_wsS RX5 128 yX5_seenInto wsX5_seenInto) := goodIn_app (goodIn_of _ (by decide +kernel)) ggX5_ends_X5_seenInto
theorem dX5_ends_0 : decode cX5_ends 0 = .ok (.aload_n 0, 1) := by decide +kernel
theorem dX5_ends_1 : decode cX5_ends 1 = .ok (.getfield 26, 3) := by decide +kernel
theorem dX5_ends_4 : decode cX5_ends 4 = .ok (.iload_n 1, 1) := by decide +kernel
theorem dX5_ends_5 : decode cX5_ends 5 = .ok (.invokevirtual 60, 3) := by decide +kernel
theorem dX5_ends_8 : decode cX5_ends 8 = .ok (.ifCond .eq 20, 3) := by decide +kernel
theorem dX5_ends_11 : decode cX5_ends 11 = .ok (.iload_n 2, 1) := by decide +kernel
theorem dX5_ends_12 : decode cX5_ends 12 = .ok (.iconst 2, 1) := by decide +kernel
theorem dX5_ends_13 : decode cX5_ends 13 = .ok (.invokestatic 64, 3) := by decide +kernel
theorem dX5_ends_16 : decode cX5_ends 16 = .ok (.ifCond .eq 12, 3) := by decide +kernel
theorem dX5_ends_19 : decode cX5_ends 19 = .ok (.iload_n 3, 1) := by decide +kernel
theorem dX5_ends_20 : decode cX5_ends 20 = .ok (.iload 4, 2) := by decide +kernel
theorem dX5_ends_22 : decode cX5_ends 22 = .ok (.invokestatic 119, 3) := by decide +kernel
theorem dX5_ends_25 : decode cX5_ends 25 = .ok (.ifCond .ne 10, 3) := by decide +kernel
theorem dX5_ends_28 : decode cX5_ends 28 = .ok (.aload_n 0, 1) := by decide +kernel
theorem dX5_ends_29 : decode cX5_ends 29 = .ok (.bipush (-2), 2) := by decide +kernel
theorem dX5_ends_31 : decode cX5_ends 31 = .ok (.invokevirtual 68, 3) := by decide +kernel
theorem dX5_ends_34 : decode cX5_ends 34 = .ok (.ireturn, 1) := by decide +kernel
theorem dX5_ends_35 : decode cX5_ends 35 = .ok (.aload_n 0, 1) := by decide +kernel
theorem dX5_ends_36 : decode cX5_ends 36 = .ok (.aload_n 0, 1) := by decide +kernel
theorem dX5_ends_37 : decode cX5_ends 37 = .ok (.getfield 26, 3) := by decide +kernel
theorem dX5_ends_40 : decode cX5_ends 40 = .ok (.getfield 71, 3) := by decide +kernel
theorem dX5_ends_43 : decode cX5_ends 43 = .ok (.iload_n 1, 1) := by decide +kernel
theorem dX5_ends_44 : decode cX5_ends 44 = .ok (.aaload, 1) := by decide +kernel
theorem dX5_ends_45 : decode cX5_ends 45 = .ok (.iload_n 2, 1) := by decide +kernel
theorem dX5_ends_46 : decode cX5_ends 46 = .ok (.iload_n 3, 1) := by decide +kernel
theorem dX5_ends_47 : decode cX5_ends 47 = .ok (.iload 4, 2) := by decide +kernel
theorem dX5_ends_49 : decode cX5_ends 49 = .ok (.invokestatic 124, 3) := by decide +kernel
theorem dX5_ends_52 : decode cX5_ends 52 = .ok (.invokestatic 128, 3) := by decide +kernel
theorem dX5_ends_55 : decode cX5_ends 55 = .ok (.invokevirtual 68, 3) := by decide +kernel
theorem dX5_ends_58 : decode cX5_ends 58 = .ok (.ireturn, 1) := by decide +kernel
set_option maxRecDepth 20000 in
theorem ggX5_test_X2_hasBox : GoodIn wsX5_test wsX2_hasBox := goodIn_r _ [7, 8, 9, 10, 11, 55, 56, 57, 58, 59] (by decide +kernel) (by decide +kernel)
set_option maxRecDepth 20000 in
theorem gX5_test_X2_hasBox : GoodIn wsX5_test (wsV RX5 60 RX2 yX2_hasBox wsX2_hasBox) := goodIn_app (goodIn_of _ (by decide +kernel)) ggX5_test_X2_hasBox
set_option maxRecDepth 20000 in
theorem ggX5_test_X5_isBelow : GoodIn wsX5_test wsX5_isBelow := goodIn_r _ [11] (by decide +kernel) (by decide +kernel)
set_option maxRecDepth 20000 in
theorem gX5_test_X5_isBelow : GoodIn wsX5_test (va_wsS RX5 64 yX5_isBelow wsX5_isBelow) := goodIn_app (goodIn_of _ (by decide +kernel)) ggX5_test_X5_isBelow
set_option maxRecDepth 20000 in
theorem ggX5_test_X5_noted : GoodIn wsX5_test wsX5_noted := goodIn_r _ [16, 17, 18, 19, 46, 47, 48, 49, 50, 51, 52, 53, 54] (by decide +kernel) (by decide +kernel)
set_option maxRecDepth 20000 in
theorem gX5_test_X5_noted : GoodIn wsX5_test (wsV RX5 68 RX5 yX5_noted wsX5_noted) := goodIn_app (goodIn_of _ (by decide +kernel)) ggX5_test_X5_noted
set_option maxRecDepth 20000 in
theorem ggX5_test_X5_passed : GoodIn wsX5_test wsX5_passed := goodIn_r _ [22, 23, 24, 25, 26, 27, 28, 10, 29, 30, 31, 32, 33, 34, 35, 36, 37, 38, 39, 40, 41, 42, 43, 44, 45, 60, 61, 62, 63] (by decide +kernel) (by decide +kernel)
set_option maxRecDepth 20000 in
theorem gX5_test_X5_passed : GoodIn wsX5_test (va_wsS RX5 132 yX5_passed wsX5_passed) := goodIn_app (goodIn_of _ (by decide +kernel)) ggX5_test_X5_passed
theorem dX5_test_0 : decode cX5_test 0 = .ok (.aload_n 0, 1) := by decide +kernel
theorem dX5_test_1 : decode cX5_test 1 = .ok (.getfield 26, 3) := by decide +kernel
theorem dX5_test_4 : decode cX5_test 4 = .ok (.iload_n 1, 1) := by decide +kernel
theorem dX5_test_5 : decode cX5_test 5 = .ok (.invokevirtual 60, 3) := by decide +kernel
theorem dX5_test_8 : decode cX5_test 8 = .ok (.ifCond .eq 11, 3) := by decide +kernel
theorem dX5_test_11 : decode cX5_test 11 = .ok (.iload_n 2, 1) := by decide +kernel
theorem dX5_test_12 : decode cX5_test 12 = .ok (.iconst 4, 1) := by decide +kernel
theorem dX5_test_13 : decode cX5_test 13 = .ok (.invokestatic 64, 3) := by decide +kernel
theorem dX5_test_16 : decode cX5_test 16 = .ok (.ifCond .ne 10, 3) := by decide +kernel
theorem dX5_test_19 : decode cX5_test 19 = .ok (.aload_n 0, 1) := by decide +kernel
theorem dX5_test_20 : decode cX5_test 20 = .ok (.bipush (-2), 2) := by decide +kernel
theorem dX5_test_22 : decode cX5_test 22 = .ok (.invokevirtual 68, 3) := by decide +kernel
theorem dX5_test_25 : decode cX5_test 25 = .ok (.ireturn, 1) := by decide +kernel
theorem dX5_test_26 : decode cX5_test 26 = .ok (.aload_n 0, 1) := by decide +kernel
theorem dX5_test_27 : decode cX5_test 27 = .ok (.getfield 26, 3) := by decide +kernel
theorem dX5_test_30 : decode cX5_test 30 = .ok (.getfield 71, 3) := by decide +kernel
theorem dX5_test_33 : decode cX5_test 33 = .ok (.iload_n 1, 1) := by decide +kernel
theorem dX5_test_34 : decode cX5_test 34 = .ok (.aaload, 1) := by decide +kernel
theorem dX5_test_35 : decode cX5_test 35 = .ok (.iload_n 2, 1) := by decide +kernel
theorem dX5_test_36 : decode cX5_test 36 = .ok (.invokestatic 132, 3) := by decide +kernel
theorem dX5_test_39 : decode cX5_test 39 = .ok (.ireturn, 1) := by decide +kernel
set_option maxRecDepth 20000 in
theorem ggX5_like_X2_hasBox : GoodIn wsX5_like wsX2_hasBox := goodIn_r _ [6, 7, 8, 9, 10, 41, 42, 43, 44, 45] (by decide +kernel) (by decide +kernel)
set_option maxRecDepth 20000 in
theorem gX5_like_X2_hasBox : GoodIn wsX5_like (wsV RX5 60 RX2 yX2_hasBox wsX2_hasBox) := goodIn_app (goodIn_of _ (by decide +kernel)) ggX5_like_X2_hasBox
set_option maxRecDepth 20000 in
theorem ggX5_like_X5_noted : GoodIn wsX5_like wsX5_noted := goodIn_r _ [14, 15, 16, 17, 32, 33, 34, 35, 36, 37, 38, 39, 40] (by decide +kernel) (by decide +kernel)
set_option maxRecDepth 20000 in
theorem gX5_like_X5_noted : GoodIn wsX5_like (wsV RX5 68 RX5 yX5_noted wsX5_noted) := goodIn_app (goodIn_of _ (by decide +kernel)) ggX5_like_X5_noted
set_option maxRecDepth 20000 in
theorem ggX5_like_X2_leastAlike : GoodIn wsX5_like wsX2_leastAlike := goodIn_r _ [21, 22, 23, 24, 25, 26, 27, 28, 29, 30, 31, 41, 42, 43, 44, 45, 46, 47, 48, 49] (by decide +kernel) (by decide +kernel)
set_option maxRecDepth 20000 in
theorem gX5_like_X2_leastAlike : GoodIn wsX5_like (wsV RX5 136 RX2 yX2_leastAlike wsX2_leastAlike) := goodIn_app (goodIn_of _ (by decide +kernel)) ggX5_like_X2_leastAlike
theorem dX5_like_0 : decode cX5_like 0 = .ok (.aload_n 0, 1) := by decide +kernel
theorem dX5_like_1 : decode cX5_like 1 = .ok (.getfield 26, 3) := by decide +kernel
theorem dX5_like_4 : decode cX5_like 4 = .ok (.iload_n 1, 1) := by decide +kernel
theorem dX5_like_5 : decode cX5_like 5 = .ok (.invokevirtual 60, 3) := by decide +kernel
theorem dX5_like_8 : decode cX5_like 8 = .ok (.ifCond .ne 10, 3) := by decide +kernel
theorem dX5_like_11 : decode cX5_like 11 = .ok (.aload_n 0, 1) := by decide +kernel
theorem dX5_like_12 : decode cX5_like 12 = .ok (.bipush (-2), 2) := by decide +kernel
theorem dX5_like_14 : decode cX5_like 14 = .ok (.invokevirtual 68, 3) := by decide +kernel
theorem dX5_like_17 : decode cX5_like 17 = .ok (.ireturn, 1) := by decide +kernel
theorem dX5_like_18 : decode cX5_like 18 = .ok (.aload_n 0, 1) := by decide +kernel
theorem dX5_like_19 : decode cX5_like 19 = .ok (.getfield 26, 3) := by decide +kernel
theorem dX5_like_22 : decode cX5_like 22 = .ok (.iload_n 1, 1) := by decide +kernel
theorem dX5_like_23 : decode cX5_like 23 = .ok (.invokevirtual 136, 3) := by decide +kernel
theorem dX5_like_26 : decode cX5_like 26 = .ok (.ireturn, 1) := by decide +kernel
set_option maxRecDepth 20000 in
theorem ggX5_type_X3_takeByte : GoodIn wsX5_type wsX3_takeByte := goodIn_r _ [6, 7, 8, 9, 10, 11, 28, 29, 30, 31, 32, 33, 34, 35] (by decide +kernel) (by decide +kernel)
set_option maxRecDepth 20000 in
theorem gX5_type_X3_takeByte : GoodIn wsX5_type (wsV RX5 139 RX3 yX3_takeByte wsX3_takeByte) := goodIn_app (goodIn_of _ (by decide +kernel)) ggX5_type_X3_takeByte
set_option maxRecDepth 20000 in
theorem ggX5_type_X5_noted : GoodIn wsX5_type wsX5_noted := goodIn_r _ [15, 16, 17, 18, 19, 20, 21, 22, 23, 24, 25, 26, 27] (by decide +kernel) (by decide +kernel)
set_option maxRecDepth 20000 in
theorem gX5_type_X5_noted : GoodIn wsX5_type (wsV RX5 68 RX5 yX5_noted wsX5_noted) := goodIn_app (goodIn_of _ (by decide +kernel)) ggX5_type_X5_noted
theorem dX5_type_0 : decode cX5_type 0 = .ok (.aload_n 0, 1) := by decide +kernel
theorem dX5_type_1 : decode cX5_type 1 = .ok (.aload_n 0, 1) := by decide +kernel
theorem dX5_type_2 : decode cX5_type 2 = .ok (.getfield 19, 3) := by decide +kernel
theorem dX5_type_5 : decode cX5_type 5 = .ok (.iload_n 1, 1) := by decide +kernel
theorem dX5_type_6 : decode cX5_type 6 = .ok (.invokevirtual 139, 3) := by decide +kernel
theorem dX5_type_9 : decode cX5_type 9 = .ok (.invokevirtual 68, 3) := by decide +kernel
theorem dX5_type_12 : decode cX5_type 12 = .ok (.ireturn, 1) := by decide +kernel
set_option maxRecDepth 20000 in
theorem ggX5_clear_X3_empty : GoodIn wsX5_clear wsX3_empty := goodIn_r _ [6, 7, 17, 18, 19, 20, 21, 22, 23, 24] (by decide +kernel) (by decide +kernel)
set_option maxRecDepth 20000 in
theorem gX5_clear_X3_empty : GoodIn wsX5_clear (wsV RX5 142 RX3 yX3_empty wsX3_empty) := goodIn_app (goodIn_of _ (by decide +kernel)) ggX5_clear_X3_empty
theorem dX5_clear_0 : decode cX5_clear 0 = .ok (.aload_n 0, 1) := by decide +kernel
theorem dX5_clear_1 : decode cX5_clear 1 = .ok (.getfield 19, 3) := by decide +kernel
theorem dX5_clear_4 : decode cX5_clear 4 = .ok (.invokevirtual 142, 3) := by decide +kernel
theorem dX5_clear_7 : decode cX5_clear 7 = .ok (.ireturn, 1) := by decide +kernel
set_option maxRecDepth 20000 in
theorem ggX5_does_X3_readOrders : GoodIn wsX5_does wsX3_readOrders := goodIn_r _ [7, 8, 9, 10, 11, 12, 13, 14, 6, 15, 16, 17, 18, 19, 20, 21, 22, 23, 24, 25, 26, 27, 28, 29, 30, 31, 32, 33, 34, 35, 36, 37, 38, 39, 40, 246, 247, 248, 249, 250, 251, 252, 253] (by decide +kernel) (by decide +kernel)
set_option maxRecDepth 20000 in
theorem gX5_does_X3_readOrders : GoodIn wsX5_does (wsV RX5 145 RX3 yX3_readOrders wsX3_readOrders) := goodIn_app (goodIn_of _ (by decide +kernel)) ggX5_does_X3_readOrders
set_option maxRecDepth 20000 in
theorem ggX5_does_X5_drafted : GoodIn wsX5_does wsX5_drafted := goodIn_r _ [44, 45, 46, 47, 48, 49, 50, 51, 52, 53, 54, 55, 56, 57, 58, 59, 60, 61, 62, 63, 64, 65, 66, 67, 68, 69, 70, 71, 72, 73, 237, 238, 239, 240, 241, 242, 243, 244, 245, 254, 255, 256, 257, 258, 259, 260, 261, 262] (by decide +kernel) (by decide +kernel)
set_option maxRecDepth 20000 in
theorem gX5_does_X5_drafted : GoodIn wsX5_does (wsV RX5 37 RX5 yX5_drafted wsX5_drafted) := goodIn_app (goodIn_of _ (by decide +kernel)) ggX5_does_X5_drafted
set_option maxRecDepth 20000 in
theorem ggX5_does_X5_obeyed : GoodIn wsX5_does wsX5_obeyed := goodIn_r _ [77, 1, 78, 79, 80, 81, 6, 82, 28, 21, 22, 23, 83, 84, 85, 86, 87, 88, 89, 90, 91, 92, 29, 37, 93, 94, 95, 96, 97, 98, 99, 100, 101, 102, 64, 103, 66, 67, 68, 69, 104, 105, 106, 50, 107, 59, 52, 61, 62, 63, 65, 70, 71, 72, 73, 108, 109, 110, 111, 112, 53, 113, 114, 115, 116, 117, 118, 119, 120, 121, 122, 55, 56, 57, 123, 124, 125, 126, 127, 128, 129, 130, 131, 132, 133, 134, 135, 136, 137, 138, 139, 140, 141, 142, 143, 144, 145, 146, 147, 148, 149, 150, 151, 152, 153, 154, 155, 156, 157, 158, 159, 160, 161, 162, 163, 164, 165, 166, 167, 168, 169, 170, 171, 172, 173, 174, 175, 176, 177, 178, 179, 180, 181, 182, 183, 184, 185, 186, 187, 188, 189, 190, 191, 192, 193, 194, 195, 196, 197, 198, 199, 200, 201, 202, 203, 204, 205, 206, 207, 208, 209, 210, 211, 212, 213, 214, 215, 216, 217, 218, 219, 220, 221, 222, 223, 224, 225, 226, 227, 228, 229, 230, 237, 238, 239, 240, 241, 242, 243, 244, 245, 246, 247, 248, 249, 250, 251, 252, 253, 263, 264, 265, 266, 267, 268, 269, 270, 259, 260, 261, 262, 254, 255, 256, 257, 258] (by decide +kernel) (by decide +kernel)
set_option maxRecDepth 20000 in
theorem gX5_does_X5_obeyed : GoodIn wsX5_does (wsV RX5 152 RX5 yX5_obeyed wsX5_obeyed) := goodIn_app (goodIn_of _ (by decide +kernel)) ggX5_does_X5_obeyed
set_option maxRecDepth 20000 in
theorem ggX5_does_X5_keepDraft : GoodIn wsX5_does wsX5_keepDraft := goodIn_r _ [234, 235, 236, 46, 45, 237, 238, 239, 240, 241, 242, 243, 244, 245] (by decide +kernel) (by decide +kernel)
set_option maxRecDepth 20000 in
theorem gX5_does_X5_keepDraft : GoodIn wsX5_does (wsV RX5 155 RX5 yX5_keepDraft wsX5_keepDraft) := goodIn_app (goodIn_of _ (by decide +kernel)) ggX5_does_X5_keepDraft
theorem dX5_does_0 : decode cX5_does 0 = .ok (.aload_n 0, 1) := by decide +kernel
theorem dX5_does_1 : decode cX5_does 1 = .ok (.getfield 19, 3) := by decide +kernel
theorem dX5_does_4 : decode cX5_does 4 = .ok (.invokevirtual 145, 3) := by decide +kernel
theorem dX5_does_7 : decode cX5_does 7 = .ok (.istore_n 1, 1) := by decide +kernel
theorem dX5_does_8 : decode cX5_does 8 = .ok (.iload_n 1, 1) := by decide +kernel
theorem dX5_does_9 : decode cX5_does 9 = .ok (.iconst (-1), 1) := by decide +kernel
theorem dX5_does_10 : decode cX5_does 10 = .ok (.if_icmp .eq 8, 3) := by decide +kernel
theorem dX5_does_13 : decode cX5_does 13 = .ok (.bipush (-10), 2) := by decide +kernel
theorem dX5_does_15 : decode cX5_does 15 = .ok (.iload_n 1, 1) := by decide +kernel
theorem dX5_does_16 : decode cX5_does 16 = .ok (.isub, 1) := by decide +kernel
theorem dX5_does_17 : decode cX5_does 17 = .ok (.ireturn, 1) := by decide +kernel
theorem dX5_does_18 : decode cX5_does 18 = .ok (.aload_n 0, 1) := by decide +kernel
theorem dX5_does_19 : decode cX5_does 19 = .ok (.invokevirtual 37, 3) := by decide +kernel
theorem dX5_does_22 : decode cX5_does 22 = .ok (.astore_n 2, 1) := by decide +kernel
theorem dX5_does_23 : decode cX5_does 23 = .ok (.iconst 0, 1) := by decide +kernel
theorem dX5_does_24 : decode cX5_does 24 = .ok (.istore_n 3, 1) := by decide +kernel
theorem dX5_does_25 : decode cX5_does 25 = .ok (.iload_n 3, 1) := by decide +kernel
theorem dX5_does_26 : decode cX5_does 26 = .ok (.aload_n 0, 1) := by decide +kernel
theorem dX5_does_27 : decode cX5_does 27 = .ok (.getfield 19, 3) := by decide +kernel
theorem dX5_does_30 : decode cX5_does 30 = .ok (.getfield 148, 3) := by decide +kernel
theorem dX5_does_33 : decode cX5_does 33 = .ok (.if_icmp .ge 24, 3) := by decide +kernel
theorem dX5_does_36 : decode cX5_does 36 = .ok (.aload_n 0, 1) := by decide +kernel
theorem dX5_does_37 : decode cX5_does 37 = .ok (.aload_n 2, 1) := by decide +kernel
theorem dX5_does_38 : decode cX5_does 38 = .ok (.iload_n 3, 1) := by decide +kernel
theorem dX5_does_39 : decode cX5_does 39 = .ok (.invokevirtual 152, 3) := by decide +kernel
theorem dX5_does_42 : decode cX5_does 42 = .ok (.ifCond .ge 9, 3) := by decide +kernel
theorem dX5_does_45 : decode cX5_does 45 = .ok (.sipush (-1000), 3) := by decide +kernel
theorem dX5_does_48 : decode cX5_does 48 = .ok (.iload_n 3, 1) := by decide +kernel
theorem dX5_does_49 : decode cX5_does 49 = .ok (.isub, 1) := by decide +kernel
theorem dX5_does_50 : decode cX5_does 50 = .ok (.ireturn, 1) := by decide +kernel
theorem dX5_does_51 : decode cX5_does 51 = .ok (.iinc 3 1, 3) := by decide +kernel
theorem dX5_does_54 : decode cX5_does 54 = .ok (.goto (-29), 3) := by decide +kernel
theorem dX5_does_57 : decode cX5_does 57 = .ok (.aload_n 0, 1) := by decide +kernel
theorem dX5_does_58 : decode cX5_does 58 = .ok (.invokevirtual 155, 3) := by decide +kernel
theorem dX5_does_61 : decode cX5_does 61 = .ok (.aload_n 0, 1) := by decide +kernel
theorem dX5_does_62 : decode cX5_does 62 = .ok (.getfield 19, 3) := by decide +kernel
theorem dX5_does_65 : decode cX5_does 65 = .ok (.getfield 148, 3) := by decide +kernel
theorem dX5_does_68 : decode cX5_does 68 = .ok (.ireturn, 1) := by decide +kernel
set_option maxRecDepth 20000 in
theorem ggX5_back_X5_noted : GoodIn wsX5_back wsX5_noted := goodIn_r _ [8, 9, 10, 11, 12, 13, 14, 15, 16, 17, 18, 19, 20] (by decide +kernel) (by decide +kernel)
set_option maxRecDepth 20000 in
theorem gX5_back_X5_noted : GoodIn wsX5_back (wsV RX5 68 RX5 yX5_noted wsX5_noted) := goodIn_app (goodIn_of _ (by decide +kernel)) ggX5_back_X5_noted
theorem dX5_back_0 : decode cX5_back 0 = .ok (.aload_n 0, 1) := by decide +kernel
theorem dX5_back_1 : decode cX5_back 1 = .ok (.getfield 158, 3) := by decide +kernel
theorem dX5_back_4 : decode cX5_back 4 = .ok (.ifCond .gt 10, 3) := by decide +kernel
theorem dX5_back_7 : decode cX5_back 7 = .ok (.aload_n 0, 1) := by decide +kernel
theorem dX5_back_8 : decode cX5_back 8 = .ok (.bipush (-3), 2) := by decide +kernel
theorem dX5_back_10 : decode cX5_back 10 = .ok (.invokevirtual 68, 3) := by decide +kernel
theorem dX5_back_13 : decode cX5_back 13 = .ok (.ireturn, 1) := by decide +kernel
theorem dX5_back_14 : decode cX5_back 14 = .ok (.aload_n 0, 1) := by decide +kernel
theorem dX5_back_15 : decode cX5_back 15 = .ok (.dup, 1) := by decide +kernel
theorem dX5_back_16 : decode cX5_back 16 = .ok (.getfield 158, 3) := by decide +kernel
theorem dX5_back_19 : decode cX5_back 19 = .ok (.iconst 1, 1) := by decide +kernel
theorem dX5_back_20 : decode cX5_back 20 = .ok (.isub, 1) := by decide +kernel
theorem dX5_back_21 : decode cX5_back 21 = .ok (.putfield 158, 3) := by decide +kernel
theorem dX5_back_24 : decode cX5_back 24 = .ok (.aload_n 0, 1) := by decide +kernel
theorem dX5_back_25 : decode cX5_back 25 = .ok (.getfield 26, 3) := by decide +kernel
theorem dX5_back_28 : decode cX5_back 28 = .ok (.astore_n 1, 1) := by decide +kernel
theorem dX5_back_29 : decode cX5_back 29 = .ok (.aload_n 0, 1) := by decide +kernel
theorem dX5_back_30 : decode cX5_back 30 = .ok (.aload_n 0, 1) := by decide +kernel
theorem dX5_back_31 : decode cX5_back 31 = .ok (.getfield 33, 3) := by decide +kernel
theorem dX5_back_34 : decode cX5_back 34 = .ok (.aload_n 0, 1) := by decide +kernel
theorem dX5_back_35 : decode cX5_back 35 = .ok (.getfield 158, 3) := by decide +kernel
theorem dX5_back_38 : decode cX5_back 38 = .ok (.aaload, 1) := by decide +kernel
theorem dX5_back_39 : decode cX5_back 39 = .ok (.putfield 26, 3) := by decide +kernel
theorem dX5_back_42 : decode cX5_back 42 = .ok (.aload_n 0, 1) := by decide +kernel
theorem dX5_back_43 : decode cX5_back 43 = .ok (.getfield 33, 3) := by decide +kernel
theorem dX5_back_46 : decode cX5_back 46 = .ok (.aload_n 0, 1) := by decide +kernel
theorem dX5_back_47 : decode cX5_back 47 = .ok (.getfield 158, 3) := by decide +kernel
theorem dX5_back_50 : decode cX5_back 50 = .ok (.aload_n 1, 1) := by decide +kernel
theorem dX5_back_51 : decode cX5_back 51 = .ok (.aastore, 1) := by decide +kernel
theorem dX5_back_52 : decode cX5_back 52 = .ok (.aload_n 0, 1) := by decide +kernel
theorem dX5_back_53 : decode cX5_back 53 = .ok (.getfield 158, 3) := by decide +kernel
theorem dX5_back_56 : decode cX5_back 56 = .ok (.ireturn, 1) := by decide +kernel
set_option maxRecDepth 20000 in
theorem ggX5_count_X5_noted : GoodIn wsX5_count wsX5_noted := goodIn_r _ [14, 4, 5, 6, 15, 16, 17, 18, 19, 20, 21, 22, 23] (by decide +kernel) (by decide +kernel)
set_option maxRecDepth 20000 in
theorem gX5_count_X5_noted : GoodIn wsX5_count (wsV RX5 68 RX5 yX5_noted wsX5_noted) := goodIn_app (goodIn_of _ (by decide +kernel)) ggX5_count_X5_noted
theorem dX5_count_0 : decode cX5_count 0 = .ok (.iload_n 1, 1) := by decide +kernel
theorem dX5_count_1 : decode cX5_count 1 = .ok (.tableswitch 95 0 6 #[43, 51, 67, 72, 77, 82, 90], 43) := by decide +kernel
theorem dX5_count_44 : decode cX5_count 44 = .ok (.aload_n 0, 1) := by decide +kernel
theorem dX5_count_45 : decode cX5_count 45 = .ok (.getfield 26, 3) := by decide +kernel
theorem dX5_count_48 : decode cX5_count 48 = .ok (.getfield 161, 3) := by decide +kernel
theorem dX5_count_51 : decode cX5_count 51 = .ok (.ireturn, 1) := by decide +kernel
theorem dX5_count_52 : decode cX5_count 52 = .ok (.aload_n 0, 1) := by decide +kernel
theorem dX5_count_53 : decode cX5_count 53 = .ok (.getfield 26, 3) := by decide +kernel
theorem dX5_count_56 : decode cX5_count 56 = .ok (.getfield 91, 3) := by decide +kernel
theorem dX5_count_59 : decode cX5_count 59 = .ok (.ifCond .eq 7, 3) := by decide +kernel
theorem dX5_count_62 : decode cX5_count 62 = .ok (.iconst 1, 1) := by decide +kernel
theorem dX5_count_63 : decode cX5_count 63 = .ok (.goto 4, 3) := by decide +kernel
theorem dX5_count_66 : decode cX5_count 66 = .ok (.iconst 0, 1) := by decide +kernel
theorem dX5_count_67 : decode cX5_count 67 = .ok (.ireturn, 1) := by decide +kernel
theorem dX5_count_68 : decode cX5_count 68 = .ok (.aload_n 0, 1) := by decide +kernel
theorem dX5_count_69 : decode cX5_count 69 = .ok (.getfield 164, 3) := by decide +kernel
theorem dX5_count_72 : decode cX5_count 72 = .ok (.ireturn, 1) := by decide +kernel
theorem dX5_count_73 : decode cX5_count 73 = .ok (.aload_n 0, 1) := by decide +kernel
theorem dX5_count_74 : decode cX5_count 74 = .ok (.getfield 167, 3) := by decide +kernel
theorem dX5_count_77 : decode cX5_count 77 = .ok (.ireturn, 1) := by decide +kernel
theorem dX5_count_78 : decode cX5_count 78 = .ok (.aload_n 0, 1) := by decide +kernel
theorem dX5_count_79 : decode cX5_count 79 = .ok (.getfield 170, 3) := by decide +kernel
theorem dX5_count_82 : decode cX5_count 82 = .ok (.ireturn, 1) := by decide +kernel
theorem dX5_count_83 : decode cX5_count 83 = .ok (.aload_n 0, 1) := by decide +kernel
theorem dX5_count_84 : decode cX5_count 84 = .ok (.getfield 19, 3) := by decide +kernel
theorem dX5_count_87 : decode cX5_count 87 = .ok (.getfield 173, 3) := by decide +kernel
theorem dX5_count_90 : decode cX5_count 90 = .ok (.ireturn, 1) := by decide +kernel
theorem dX5_count_91 : decode cX5_count 91 = .ok (.aload_n 0, 1) := by decide +kernel
theorem dX5_count_92 : decode cX5_count 92 = .ok (.getfield 158, 3) := by decide +kernel
theorem dX5_count_95 : decode cX5_count 95 = .ok (.ireturn, 1) := by decide +kernel
theorem dX5_count_96 : decode cX5_count 96 = .ok (.aload_n 0, 1) := by decide +kernel
theorem dX5_count_97 : decode cX5_count 97 = .ok (.bipush (-2), 2) := by decide +kernel
theorem dX5_count_99 : decode cX5_count 99 = .ok (.invokevirtual 68, 3) := by decide +kernel
theorem dX5_count_102 : decode cX5_count 102 = .ok (.ireturn, 1) := by decide +kernel
set_option maxRecDepth 20000 in
theorem ggX5_digest_X5_count : GoodIn wsX5_digest wsX5_count := goodIn_r _ [9, 3, 4, 10, 11, 12, 13, 14, 15, 16, 17, 18, 19, 8, 20, 92, 93, 94, 95, 96, 97, 98, 99, 100, 101, 102, 103, 104, 105, 106, 107, 108, 109, 110, 111, 112, 113] (by decide +kernel) (by decide +kernel)
set_option maxRecDepth 20000 in
theorem gX5_digest_X5_count : GoodIn wsX5_digest (wsV RX5 180 RX5 yX5_count wsX5_count) := goodIn_app (goodIn_of _ (by decide +kernel)) ggX5_digest_X5_count
set_option maxRecDepth 20000 in
theorem ggX5_digest_X5_boxDigest : GoodIn wsX5_digest wsX5_boxDigest := goodIn_r _ [24, 3, 25, 2, 26, 27, 28, 29, 30, 31, 32, 33, 34, 35, 36, 37, 38, 39, 40, 41, 42, 43, 44, 45, 46, 47, 48, 49, 50, 8, 51, 52, 53, 54, 55, 56, 57, 58, 59, 60, 61, 62, 63, 64, 65, 66, 67, 68, 69, 70, 71, 72, 73, 74, 75, 76, 77, 78, 92, 93, 94, 95, 96, 97, 98, 99, 100, 101, 102, 103, 104, 105, 114, 115, 116, 117] (by decide +kernel) (by decide +kernel)
set_option maxRecDepth 20000 in
theorem gX5_digest_X5_boxDigest : GoodIn wsX5_digest (wsV RX5 183 RX5 yX5_boxDigest wsX5_boxDigest) := goodIn_app (goodIn_of _ (by decide +kernel)) ggX5_digest_X5_boxDigest
set_option maxRecDepth 20000 in
theorem ggX5_digest_X5_error : GoodIn wsX5_digest wsX5_error := goodIn_r _ [82, 3, 83, 84, 85, 8, 86, 17, 18, 19, 20, 11, 12, 13, 92, 93, 94, 95, 96, 97, 98, 99, 100, 101, 102, 103, 104, 105] (by decide +kernel) (by decide +kernel)
set_option maxRecDepth 20000 in
theorem gX5_digest_X5_error : GoodIn wsX5_digest (wsV RX5 187 RX5 yX5_error wsX5_error) := goodIn_app (goodIn_of _ (by decide +kernel)) ggX5_digest_X5_error
set_option maxRecDepth 20000 in
theorem ggX5_digest_X5_learnt : GoodIn wsX5_digest wsX5_learnt := goodIn_r _ [90, 3, 10, 91, 84, 85, 8, 86, 17, 18, 19, 20, 11, 12, 13, 92, 93, 94, 95, 96, 97, 98, 99, 100, 101, 102, 103, 104, 105] (by decide +kernel) (by decide +kernel)
set_option maxRecDepth 20000 in
theorem gX5_digest_X5_learnt : GoodIn wsX5_digest (wsV RX5 190 RX5 yX5_learnt wsX5_learnt) := goodIn_app (goodIn_of _ (by decide +kernel)) ggX5_digest_X5_learnt
theorem dX5_digest_0 : decode cX5_digest 0 = .ok (.ldc2_w 176, 3) := by decide +kernel
theorem dX5_digest_3 : decode cX5_digest 3 = .ok (.lstore_n 1, 1) := by decide +kernel
theorem dX5_digest_4 : decode cX5_digest 4 = .ok (.iconst 0, 1) := by decide +kernel
theorem dX5_digest_5 : decode cX5_digest 5 = .ok (.istore_n 3, 1) := by decide +kernel
theorem dX5_digest_6 : decode cX5_digest 6 = .ok (.iload_n 3, 1) := by decide +kernel
theorem dX5_digest_7 : decode cX5_digest 7 = .ok (.bipush 7, 2) := by decide +kernel
theorem dX5_digest_9 : decode cX5_digest 9 = .ok (.if_icmp .ge 22, 3) := by decide +kernel
theorem dX5_digest_12 : decode cX5_digest 12 = .ok (.ldc2_w 178, 3) := by decide +kernel
theorem dX5_digest_15 : decode cX5_digest 15 = .ok (.lload_n 1, 1) := by decide +kernel
theorem dX5_digest_16 : decode cX5_digest 16 = .ok (.lmul, 1) := by decide +kernel
theorem dX5_digest_17 : decode cX5_digest 17 = .ok (.aload_n 0, 1) := by decide +kernel
theorem dX5_digest_18 : decode cX5_digest 18 = .ok (.iload_n 3, 1) := by decide +kernel
theorem dX5_digest_19 : decode cX5_digest 19 = .ok (.invokevirtual 180, 3) := by decide +kernel
theorem dX5_digest_22 : decode cX5_digest 22 = .ok (.i2l, 1) := by decide +kernel
theorem dX5_digest_23 : decode cX5_digest 23 = .ok (.ladd, 1) := by decide +kernel
theorem dX5_digest_24 : decode cX5_digest 24 = .ok (.lstore_n 1, 1) := by decide +kernel
theorem dX5_digest_25 : decode cX5_digest 25 = .ok (.iinc 3 1, 3) := by decide +kernel
theorem dX5_digest_28 : decode cX5_digest 28 = .ok (.goto (-22), 3) := by decide +kernel
theorem dX5_digest_31 : decode cX5_digest 31 = .ok (.iconst 0, 1) := by decide +kernel
theorem dX5_digest_32 : decode cX5_digest 32 = .ok (.istore_n 3, 1) := by decide +kernel
theorem dX5_digest_33 : decode cX5_digest 33 = .ok (.iload_n 3, 1) := by decide +kernel
theorem dX5_digest_34 : decode cX5_digest 34 = .ok (.bipush 8, 2) := by decide +kernel
theorem dX5_digest_36 : decode cX5_digest 36 = .ok (.if_icmp .ge 27, 3) := by decide +kernel
theorem dX5_digest_39 : decode cX5_digest 39 = .ok (.iload_n 3, 1) := by decide +kernel
theorem dX5_digest_40 : decode cX5_digest 40 = .ok (.aload_n 0, 1) := by decide +kernel
theorem dX5_digest_41 : decode cX5_digest 41 = .ok (.getfield 26, 3) := by decide +kernel
theorem dX5_digest_44 : decode cX5_digest 44 = .ok (.getfield 161, 3) := by decide +kernel
theorem dX5_digest_47 : decode cX5_digest 47 = .ok (.if_icmp .ge 16, 3) := by decide +kernel
theorem dX5_digest_50 : decode cX5_digest 50 = .ok (.aload_n 0, 1) := by decide +kernel
theorem dX5_digest_51 : decode cX5_digest 51 = .ok (.lload_n 1, 1) := by decide +kernel
theorem dX5_digest_52 : decode cX5_digest 52 = .ok (.iload_n 3, 1) := by decide +kernel
theorem dX5_digest_53 : decode cX5_digest 53 = .ok (.invokevirtual 183, 3) := by decide +kernel
theorem dX5_digest_56 : decode cX5_digest 56 = .ok (.lstore_n 1, 1) := by decide +kernel
theorem dX5_digest_57 : decode cX5_digest 57 = .ok (.iinc 3 1, 3) := by decide +kernel
theorem dX5_digest_60 : decode cX5_digest 60 = .ok (.goto (-27), 3) := by decide +kernel
theorem dX5_digest_63 : decode cX5_digest 63 = .ok (.iconst 0, 1) := by decide +kernel
theorem dX5_digest_64 : decode cX5_digest 64 = .ok (.istore_n 3, 1) := by decide +kernel
theorem dX5_digest_65 : decode cX5_digest 65 = .ok (.iload_n 3, 1) := by decide +kernel
theorem dX5_digest_66 : decode cX5_digest 66 = .ok (.bipush 12, 2) := by decide +kernel
theorem dX5_digest_68 : decode cX5_digest 68 = .ok (.if_icmp .ge 22, 3) := by decide +kernel
theorem dX5_digest_71 : decode cX5_digest 71 = .ok (.ldc2_w 178, 3) := by decide +kernel
theorem dX5_digest_74 : decode cX5_digest 74 = .ok (.lload_n 1, 1) := by decide +kernel
theorem dX5_digest_75 : decode cX5_digest 75 = .ok (.lmul, 1) := by decide +kernel
theorem dX5_digest_76 : decode cX5_digest 76 = .ok (.aload_n 0, 1) := by decide +kernel
theorem dX5_digest_77 : decode cX5_digest 77 = .ok (.iload_n 3, 1) := by decide +kernel
theorem dX5_digest_78 : decode cX5_digest 78 = .ok (.invokevirtual 187, 3) := by decide +kernel
theorem dX5_digest_81 : decode cX5_digest 81 = .ok (.i2l, 1) := by decide +kernel
theorem dX5_digest_82 : decode cX5_digest 82 = .ok (.ladd, 1) := by decide +kernel
theorem dX5_digest_83 : decode cX5_digest 83 = .ok (.lstore_n 1, 1) := by decide +kernel
theorem dX5_digest_84 : decode cX5_digest 84 = .ok (.iinc 3 1, 3) := by decide +kernel
theorem dX5_digest_87 : decode cX5_digest 87 = .ok (.goto (-22), 3) := by decide +kernel
theorem dX5_digest_90 : decode cX5_digest 90 = .ok (.iconst 0, 1) := by decide +kernel
theorem dX5_digest_91 : decode cX5_digest 91 = .ok (.istore_n 3, 1) := by decide +kernel
theorem dX5_digest_92 : decode cX5_digest 92 = .ok (.iload_n 3, 1) := by decide +kernel
theorem dX5_digest_93 : decode cX5_digest 93 = .ok (.bipush 12, 2) := by decide +kernel
theorem dX5_digest_95 : decode cX5_digest 95 = .ok (.if_icmp .ge 22, 3) := by decide +kernel
theorem dX5_digest_98 : decode cX5_digest 98 = .ok (.ldc2_w 178, 3) := by decide +kernel
theorem dX5_digest_101 : decode cX5_digest 101 = .ok (.lload_n 1, 1) := by decide +kernel
theorem dX5_digest_102 : decode cX5_digest 102 = .ok (.lmul, 1) := by decide +kernel
theorem dX5_digest_103 : decode cX5_digest 103 = .ok (.aload_n 0, 1) := by decide +kernel
theorem dX5_digest_104 : decode cX5_digest 104 = .ok (.iload_n 3, 1) := by decide +kernel
theorem dX5_digest_105 : decode cX5_digest 105 = .ok (.invokevirtual 190, 3) := by decide +kernel
theorem dX5_digest_108 : decode cX5_digest 108 = .ok (.i2l, 1) := by decide +kernel
theorem dX5_digest_109 : decode cX5_digest 109 = .ok (.ladd, 1) := by decide +kernel
theorem dX5_digest_110 : decode cX5_digest 110 = .ok (.lstore_n 1, 1) := by decide +kernel
theorem dX5_digest_111 : decode cX5_digest 111 = .ok (.iinc 3 1, 3) := by decide +kernel
theorem dX5_digest_114 : decode cX5_digest 114 = .ok (.goto (-22), 3) := by decide +kernel
theorem dX5_digest_117 : decode cX5_digest 117 = .ok (.lload_n 1, 1) := by decide +kernel
theorem dX5_digest_118 : decode cX5_digest 118 = .ok (.lreturn, 1) := by decide +kernel
theorem dX5_noted_0 : decode cX5_noted 0 = .ok (.iload_n 1, 1) := by decide +kernel
theorem dX5_noted_1 : decode cX5_noted 1 = .ok (.bipush (-2), 2) := by decide +kernel
theorem dX5_noted_3 : decode cX5_noted 3 = .ok (.if_icmp .ne 16, 3) := by decide +kernel
theorem dX5_noted_6 : decode cX5_noted 6 = .ok (.aload_n 0, 1) := by decide +kernel
theorem dX5_noted_7 : decode cX5_noted 7 = .ok (.dup, 1) := by decide +kernel
theorem dX5_noted_8 : decode cX5_noted 8 = .ok (.getfield 164, 3) := by decide +kernel
theorem dX5_noted_11 : decode cX5_noted 11 = .ok (.iconst 1, 1) := by decide +kernel
theorem dX5_noted_12 : decode cX5_noted 12 = .ok (.iadd, 1) := by decide +kernel
theorem dX5_noted_13 : decode cX5_noted 13 = .ok (.putfield 164, 3) := by decide +kernel
theorem dX5_noted_16 : decode cX5_noted 16 = .ok (.goto 38, 3) := by decide +kernel
theorem dX5_noted_19 : decode cX5_noted 19 = .ok (.iload_n 1, 1) := by decide +kernel
theorem dX5_noted_20 : decode cX5_noted 20 = .ok (.bipush (-3), 2) := by decide +kernel
theorem dX5_noted_22 : decode cX5_noted 22 = .ok (.if_icmp .ne 16, 3) := by decide +kernel
theorem dX5_noted_25 : decode cX5_noted 25 = .ok (.aload_n 0, 1) := by decide +kernel
theorem dX5_noted_26 : decode cX5_noted 26 = .ok (.dup, 1) := by decide +kernel
theorem dX5_noted_27 : decode cX5_noted 27 = .ok (.getfield 167, 3) := by decide +kernel
theorem dX5_noted_30 : decode cX5_noted 30 = .ok (.iconst 1, 1) := by decide +kernel
theorem dX5_noted_31 : decode cX5_noted 31 = .ok (.iadd, 1) := by decide +kernel
theorem dX5_noted_32 : decode cX5_noted 32 = .ok (.putfield 167, 3) := by decide +kernel
theorem dX5_noted_35 : decode cX5_noted 35 = .ok (.goto 19, 3) := by decide +kernel
theorem dX5_noted_38 : decode cX5_noted 38 = .ok (.iload_n 1, 1) := by decide +kernel
theorem dX5_noted_39 : decode cX5_noted 39 = .ok (.bipush (-4), 2) := by decide +kernel
theorem dX5_noted_41 : decode cX5_noted 41 = .ok (.if_icmp .ne 13, 3) := by decide +kernel
theorem dX5_noted_44 : decode cX5_noted 44 = .ok (.aload_n 0, 1) := by decide +kernel
theorem dX5_noted_45 : decode cX5_noted 45 = .ok (.dup, 1) := by decide +kernel
theorem dX5_noted_46 : decode cX5_noted 46 = .ok (.getfield 170, 3) := by decide +kernel
theorem dX5_noted_49 : decode cX5_noted 49 = .ok (.iconst 1, 1) := by decide +kernel
theorem dX5_noted_50 : decode cX5_noted 50 = .ok (.iadd, 1) := by decide +kernel
theorem dX5_noted_51 : decode cX5_noted 51 = .ok (.putfield 170, 3) := by decide +kernel
theorem dX5_noted_54 : decode cX5_noted 54 = .ok (.iload_n 1, 1) := by decide +kernel
theorem dX5_noted_55 : decode cX5_noted 55 = .ok (.ireturn, 1) := by decide +kernel
set_option maxRecDepth 20000 in
theorem ggX5_drafted_X2_copyFrom : GoodIn wsX5_drafted wsX2_copyFrom := goodIn_r _ [7, 8, 9, 10, 11, 12, 13, 14, 15, 16, 17, 18, 19, 20, 21, 22, 23, 24, 25, 26, 27, 28, 29, 39, 40, 41, 42, 43, 44, 45, 46, 47] (by decide +kernel) (by decide +kernel)
set_option maxRecDepth 20000 in
theorem gX5_drafted_X2_copyFrom : GoodIn wsX5_drafted (wsV RX5 193 RX2 yX2_copyFrom wsX2_copyFrom) := goodIn_app (goodIn_of _ (by decide +kernel)) ggX5_drafted_X2_copyFrom
theorem dX5_drafted_0 : decode cX5_drafted 0 = .ok (.aload_n 0, 1) := by decide +kernel
theorem dX5_drafted_1 : decode cX5_drafted 1 = .ok (.getfield 30, 3) := by decide +kernel
theorem dX5_drafted_4 : decode cX5_drafted 4 = .ok (.aload_n 0, 1) := by decide +kernel
theorem dX5_drafted_5 : decode cX5_drafted 5 = .ok (.getfield 26, 3) := by decide +kernel
theorem dX5_drafted_8 : decode cX5_drafted 8 = .ok (.invokevirtual 193, 3) := by decide +kernel
theorem dX5_drafted_11 : decode cX5_drafted 11 = .ok (.aload_n 0, 1) := by decide +kernel
theorem dX5_drafted_12 : decode cX5_drafted 12 = .ok (.getfield 30, 3) := by decide +kernel
theorem dX5_drafted_15 : decode cX5_drafted 15 = .ok (.areturn, 1) := by decide +kernel
set_option maxRecDepth 20000 in
theorem ggX5_settled_X5_noted : GoodIn wsX5_settled wsX5_noted := goodIn_r _ [5, 6, 7, 8, 17, 18, 19, 20, 21, 22, 23, 24, 25] (by decide +kernel) (by decide +kernel)
set_option maxRecDepth 20000 in
theorem gX5_settled_X5_noted : GoodIn wsX5_settled (wsV RX5 68 RX5 yX5_noted wsX5_noted) := goodIn_app (goodIn_of _ (by decide +kernel)) ggX5_settled_X5_noted
set_option maxRecDepth 20000 in
theorem ggX5_settled_X5_keepDraft : GoodIn wsX5_settled wsX5_keepDraft := goodIn_r _ [12, 13, 14, 15, 16, 17, 18, 19, 20, 21, 22, 23, 24, 25] (by decide +kernel) (by decide +kernel)
set_option maxRecDepth 20000 in
theorem gX5_settled_X5_keepDraft : GoodIn wsX5_settled (wsV RX5 155 RX5 yX5_keepDraft wsX5_keepDraft) := goodIn_app (goodIn_of _ (by decide +kernel)) ggX5_settled_X5_keepDraft
theorem dX5_settled_0 : decode cX5_settled 0 = .ok (.iload_n 1, 1) := by decide +kernel
theorem dX5_settled_1 : decode cX5_settled 1 = .ok (.ifCond .ge 9, 3) := by decide +kernel
theorem dX5_settled_4 : decode cX5_settled 4 = .ok (.aload_n 0, 1) := by decide +kernel
