theorem dX6_learnsAll_197 : decode cX6_learnsAll 197 = .ok (.iconst 2, 1) := by decide +kernel
theorem dX6_learnsAll_198 : decode cX6_learnsAll 198 = .ok (.iaload, 1) := by decide +kernel
theorem dX6_learnsAll_199 : decode cX6_learnsAll 199 = .ok (.aload_n 0, 1) := by decide +kernel
theorem dX6_learnsAll_200 : decode cX6_learnsAll 200 = .ok (.getfield 28, 3) := by decide +kernel
theorem dX6_learnsAll_203 : decode cX6_learnsAll 203 = .ok (.iconst 3, 1) := by decide +kernel
theorem dX6_learnsAll_204 : decode cX6_learnsAll 204 = .ok (.iaload, 1) := by decide +kernel
theorem dX6_learnsAll_205 : decode cX6_learnsAll 205 = .ok (.invokevirtual 149, 3) := by decide +kernel
theorem dX6_learnsAll_208 : decode cX6_learnsAll 208 = .ok (.aload_n 0, 1) := by decide +kernel
theorem dX6_learnsAll_209 : decode cX6_learnsAll 209 = .ok (.aload_n 0, 1) := by decide +kernel
theorem dX6_learnsAll_210 : decode cX6_learnsAll 210 = .ok (.getfield 25, 3) := by decide +kernel
theorem dX6_learnsAll_213 : decode cX6_learnsAll 213 = .ok (.iconst 3, 1) := by decide +kernel
theorem dX6_learnsAll_214 : decode cX6_learnsAll 214 = .ok (.iaload, 1) := by decide +kernel
theorem dX6_learnsAll_215 : decode cX6_learnsAll 215 = .ok (.bipush 7, 2) := by decide +kernel
theorem dX6_learnsAll_217 : decode cX6_learnsAll 217 = .ok (.aload_n 0, 1) := by decide +kernel
theorem dX6_learnsAll_218 : decode cX6_learnsAll 218 = .ok (.getfield 25, 3) := by decide +kernel
theorem dX6_learnsAll_221 : decode cX6_learnsAll 221 = .ok (.iconst 1, 1) := by decide +kernel
theorem dX6_learnsAll_222 : decode cX6_learnsAll 222 = .ok (.iaload, 1) := by decide +kernel
theorem dX6_learnsAll_223 : decode cX6_learnsAll 223 = .ok (.aload_n 0, 1) := by decide +kernel
theorem dX6_learnsAll_224 : decode cX6_learnsAll 224 = .ok (.getfield 28, 3) := by decide +kernel
theorem dX6_learnsAll_227 : decode cX6_learnsAll 227 = .ok (.bipush 9, 2) := by decide +kernel
theorem dX6_learnsAll_229 : decode cX6_learnsAll 229 = .ok (.iaload, 1) := by decide +kernel
theorem dX6_learnsAll_230 : decode cX6_learnsAll 230 = .ok (.invokevirtual 149, 3) := by decide +kernel
theorem dX6_learnsAll_233 : decode cX6_learnsAll 233 = .ok (.return_, 1) := by decide +kernel
theorem dX6_learnsNow_0 : decode cX6_learnsNow 0 = .ok (.iconst 0, 1) := by decide +kernel
theorem dX6_learnsNow_1 : decode cX6_learnsNow 1 = .ok (.istore_n 1, 1) := by decide +kernel
theorem dX6_learnsNow_2 : decode cX6_learnsNow 2 = .ok (.aload_n 0, 1) := by decide +kernel
theorem dX6_learnsNow_3 : decode cX6_learnsNow 3 = .ok (.getfield 7, 3) := by decide +kernel
theorem dX6_learnsNow_6 : decode cX6_learnsNow 6 = .ok (.bipush 45, 2) := by decide +kernel
theorem dX6_learnsNow_8 : decode cX6_learnsNow 8 = .ok (.iconst 1, 1) := by decide +kernel
theorem dX6_learnsNow_9 : decode cX6_learnsNow 9 = .ok (.iastore, 1) := by decide +kernel
theorem dX6_learnsNow_10 : decode cX6_learnsNow 10 = .ok (.iconst 0, 1) := by decide +kernel
theorem dX6_learnsNow_11 : decode cX6_learnsNow 11 = .ok (.istore_n 2, 1) := by decide +kernel
theorem dX6_learnsNow_12 : decode cX6_learnsNow 12 = .ok (.iload_n 2, 1) := by decide +kernel
theorem dX6_learnsNow_13 : decode cX6_learnsNow 13 = .ok (.bipush 12, 2) := by decide +kernel
theorem dX6_learnsNow_15 : decode cX6_learnsNow 15 = .ok (.if_icmp .ge 50, 3) := by decide +kernel
theorem dX6_learnsNow_18 : decode cX6_learnsNow 18 = .ok (.aload_n 0, 1) := by decide +kernel
theorem dX6_learnsNow_19 : decode cX6_learnsNow 19 = .ok (.getfield 7, 3) := by decide +kernel
theorem dX6_learnsNow_22 : decode cX6_learnsNow 22 = .ok (.bipush 46, 2) := by decide +kernel
theorem dX6_learnsNow_24 : decode cX6_learnsNow 24 = .ok (.iload_n 2, 1) := by decide +kernel
theorem dX6_learnsNow_25 : decode cX6_learnsNow 25 = .ok (.iadd, 1) := by decide +kernel
theorem dX6_learnsNow_26 : decode cX6_learnsNow 26 = .ok (.aload_n 0, 1) := by decide +kernel
theorem dX6_learnsNow_27 : decode cX6_learnsNow 27 = .ok (.getfield 28, 3) := by decide +kernel
theorem dX6_learnsNow_30 : decode cX6_learnsNow 30 = .ok (.iload_n 2, 1) := by decide +kernel
theorem dX6_learnsNow_31 : decode cX6_learnsNow 31 = .ok (.iaload, 1) := by decide +kernel
theorem dX6_learnsNow_32 : decode cX6_learnsNow 32 = .ok (.iastore, 1) := by decide +kernel
theorem dX6_learnsNow_33 : decode cX6_learnsNow 33 = .ok (.iload_n 1, 1) := by decide +kernel
theorem dX6_learnsNow_34 : decode cX6_learnsNow 34 = .ok (.aload_n 0, 1) := by decide +kernel
theorem dX6_learnsNow_35 : decode cX6_learnsNow 35 = .ok (.getfield 28, 3) := by decide +kernel
theorem dX6_learnsNow_38 : decode cX6_learnsNow 38 = .ok (.iload_n 2, 1) := by decide +kernel
theorem dX6_learnsNow_39 : decode cX6_learnsNow 39 = .ok (.iaload, 1) := by decide +kernel
theorem dX6_learnsNow_40 : decode cX6_learnsNow 40 = .ok (.aload_n 0, 1) := by decide +kernel
theorem dX6_learnsNow_41 : decode cX6_learnsNow 41 = .ok (.getfield 7, 3) := by decide +kernel
theorem dX6_learnsNow_44 : decode cX6_learnsNow 44 = .ok (.bipush 33, 2) := by decide +kernel
theorem dX6_learnsNow_46 : decode cX6_learnsNow 46 = .ok (.iload_n 2, 1) := by decide +kernel
theorem dX6_learnsNow_47 : decode cX6_learnsNow 47 = .ok (.iadd, 1) := by decide +kernel
theorem dX6_learnsNow_48 : decode cX6_learnsNow 48 = .ok (.iaload, 1) := by decide +kernel
theorem dX6_learnsNow_49 : decode cX6_learnsNow 49 = .ok (.if_icmp .ne 7, 3) := by decide +kernel
theorem dX6_learnsNow_52 : decode cX6_learnsNow 52 = .ok (.iconst 1, 1) := by decide +kernel
theorem dX6_learnsNow_53 : decode cX6_learnsNow 53 = .ok (.goto 4, 3) := by decide +kernel
theorem dX6_learnsNow_56 : decode cX6_learnsNow 56 = .ok (.iconst 0, 1) := by decide +kernel
theorem dX6_learnsNow_57 : decode cX6_learnsNow 57 = .ok (.iadd, 1) := by decide +kernel
theorem dX6_learnsNow_58 : decode cX6_learnsNow 58 = .ok (.istore_n 1, 1) := by decide +kernel
theorem dX6_learnsNow_59 : decode cX6_learnsNow 59 = .ok (.iinc 2 1, 3) := by decide +kernel
theorem dX6_learnsNow_62 : decode cX6_learnsNow 62 = .ok (.goto (-50), 3) := by decide +kernel
theorem dX6_learnsNow_65 : decode cX6_learnsNow 65 = .ok (.iload_n 1, 1) := by decide +kernel
theorem dX6_learnsNow_66 : decode cX6_learnsNow 66 = .ok (.ireturn, 1) := by decide +kernel
set_option maxRecDepth 20000 in
theorem ggX6_canLearn_X6_learnsAll : GoodIn wsX6_canLearn wsX6_learnsAll := goodIn_r _ [6, 7, 8, 9, 10, 11, 12, 5, 13, 14, 15, 16, 17, 18, 19, 20, 21, 22, 23, 24, 25, 26, 27, 28, 29, 30, 31, 32, 33, 34, 35, 36, 37, 38, 39, 40, 41, 42, 43, 44, 45, 46, 47, 1, 48, 49, 50, 51, 52, 53, 54, 55, 56, 57, 58, 59, 60, 61, 62, 63, 64, 65, 66, 67, 68, 69, 70, 71, 72, 73, 74, 75, 76, 77, 78, 79, 80, 81, 82] (by decide +kernel) (by decide +kernel)
set_option maxRecDepth 20000 in
theorem gX6_canLearn_X6_learnsAll : GoodIn wsX6_canLearn (wsV RX6 152 RX6 yX6_learnsAll wsX6_learnsAll) := goodIn_app (goodIn_of _ (by decide +kernel)) ggX6_canLearn_X6_learnsAll
theorem dX6_canLearn_0 : decode cX6_canLearn 0 = .ok (.aload_n 0, 1) := by decide +kernel
theorem dX6_canLearn_1 : decode cX6_canLearn 1 = .ok (.iconst 0, 1) := by decide +kernel
theorem dX6_canLearn_2 : decode cX6_canLearn 2 = .ok (.putfield 68, 3) := by decide +kernel
theorem dX6_canLearn_5 : decode cX6_canLearn 5 = .ok (.aload_n 0, 1) := by decide +kernel
theorem dX6_canLearn_6 : decode cX6_canLearn 6 = .ok (.invokevirtual 152, 3) := by decide +kernel
theorem dX6_canLearn_9 : decode cX6_canLearn 9 = .ok (.aload_n 0, 1) := by decide +kernel
theorem dX6_canLearn_10 : decode cX6_canLearn 10 = .ok (.getfield 68, 3) := by decide +kernel
theorem dX6_canLearn_13 : decode cX6_canLearn 13 = .ok (.ifCond .ne 7, 3) := by decide +kernel
theorem dX6_canLearn_16 : decode cX6_canLearn 16 = .ok (.iconst 1, 1) := by decide +kernel
theorem dX6_canLearn_17 : decode cX6_canLearn 17 = .ok (.goto 4, 3) := by decide +kernel
theorem dX6_canLearn_20 : decode cX6_canLearn 20 = .ok (.iconst 0, 1) := by decide +kernel
theorem dX6_canLearn_21 : decode cX6_canLearn 21 = .ok (.ireturn, 1) := by decide +kernel
set_option maxRecDepth 20000 in
theorem ggX6_learns_X6_canLearn : GoodIn wsX6_learns wsX6_canLearn := goodIn_r _ [5, 6, 7, 8, 9, 4, 10, 11, 12, 13, 14, 15, 16, 17, 18, 19, 20, 21, 22, 23, 24, 25, 26, 27, 28, 29, 30, 31, 32, 33, 34, 35, 36, 37, 38, 39, 40, 41, 42, 43, 44, 45, 46, 47, 48, 49, 50, 51, 52, 53, 54, 55, 56, 57, 58, 59, 60, 61, 62, 63, 64, 65, 81, 82, 83, 84, 85, 86, 87, 88, 89, 90, 91, 92, 93, 94, 95, 96, 97, 98, 99, 100, 101] (by decide +kernel) (by decide +kernel)
set_option maxRecDepth 20000 in
theorem gX6_learns_X6_canLearn : GoodIn wsX6_learns (wsV RX6 155 RX6 yX6_canLearn wsX6_canLearn) := goodIn_app (goodIn_of _ (by decide +kernel)) ggX6_learns_X6_canLearn
set_option maxRecDepth 20000 in
theorem ggX6_learns_X6_no : GoodIn wsX6_learns wsX6_no := goodIn_r _ [69, 70, 81, 82, 83, 84, 85, 86, 87, 88, 89, 90, 91, 92, 93, 94, 95, 96, 97, 98, 99, 100, 101] (by decide +kernel) (by decide +kernel)
set_option maxRecDepth 20000 in
theorem gX6_learns_X6_no : GoodIn wsX6_learns (wsV RX6 56 RX6 yX6_no wsX6_no) := goodIn_app (goodIn_of _ (by decide +kernel)) ggX6_learns_X6_no
set_option maxRecDepth 20000 in
theorem ggX6_learns_X6_remembers : GoodIn wsX6_learns wsX6_remembers := goodIn_r _ [74, 75, 76, 37, 81, 82, 83, 84, 85, 86, 87, 88, 89, 90, 91, 92, 93, 94, 95, 96, 97, 98, 99, 100, 101] (by decide +kernel) (by decide +kernel)
set_option maxRecDepth 20000 in
theorem gX6_learns_X6_remembers : GoodIn wsX6_learns (wsV RX6 91 RX6 yX6_remembers wsX6_remembers) := goodIn_app (goodIn_of _ (by decide +kernel)) ggX6_learns_X6_remembers
set_option maxRecDepth 20000 in
theorem ggX6_learns_X6_learnsNow : GoodIn wsX6_learns wsX6_learnsNow := goodIn_r _ [80, 37, 11, 81, 82, 83, 84, 85, 86, 87, 88, 89, 90, 91, 92, 93, 94, 95, 96, 97, 98, 99, 100, 101] (by decide +kernel) (by decide +kernel)
set_option maxRecDepth 20000 in
theorem gX6_learns_X6_learnsNow : GoodIn wsX6_learns (wsV RX6 159 RX6 yX6_learnsNow wsX6_learnsNow) := goodIn_app (goodIn_of _ (by decide +kernel)) ggX6_learns_X6_learnsNow
theorem dX6_learns_0 : decode cX6_learns 0 = .ok (.aload_n 0, 1) := by decide +kernel
theorem dX6_learns_1 : decode cX6_learns 1 = .ok (.invokevirtual 155, 3) := by decide +kernel
theorem dX6_learns_4 : decode cX6_learns 4 = .ok (.ifCond .ne 8, 3) := by decide +kernel
theorem dX6_learns_7 : decode cX6_learns 7 = .ok (.aload_n 0, 1) := by decide +kernel
theorem dX6_learns_8 : decode cX6_learns 8 = .ok (.invokevirtual 56, 3) := by decide +kernel
theorem dX6_learns_11 : decode cX6_learns 11 = .ok (.ireturn, 1) := by decide +kernel
theorem dX6_learns_12 : decode cX6_learns 12 = .ok (.aload_n 0, 1) := by decide +kernel
theorem dX6_learns_13 : decode cX6_learns 13 = .ok (.invokevirtual 91, 3) := by decide +kernel
theorem dX6_learns_16 : decode cX6_learns 16 = .ok (.aload_n 0, 1) := by decide +kernel
theorem dX6_learns_17 : decode cX6_learns 17 = .ok (.invokevirtual 159, 3) := by decide +kernel
theorem dX6_learns_20 : decode cX6_learns 20 = .ok (.ireturn, 1) := by decide +kernel
set_option maxRecDepth 20000 in
theorem ggX6_learnt_X6_isError : GoodIn wsX6_learnt wsX6_isError := goodIn_r _ [5, 6, 7, 4, 8] (by decide +kernel) (by decide +kernel)
set_option maxRecDepth 20000 in
theorem gX6_learnt_X6_isError : GoodIn wsX6_learnt (va_wsS RX6 111 yX6_isError wsX6_isError) := goodIn_app (goodIn_of _ (by decide +kernel)) ggX6_learnt_X6_isError
set_option maxRecDepth 20000 in
theorem ggX6_learnt_X6_bad : GoodIn wsX6_learnt wsX6_bad := goodIn_r _ [12, 13, 14, 15, 16, 17, 18, 19, 20, 21, 22, 23, 24, 25, 26, 27, 28, 29, 30, 31, 32, 33, 34] (by decide +kernel) (by decide +kernel)
set_option maxRecDepth 20000 in
theorem gX6_learnt_X6_bad : GoodIn wsX6_learnt (wsV RX6 105 RX6 yX6_bad wsX6_bad) := goodIn_app (goodIn_of _ (by decide +kernel)) ggX6_learnt_X6_bad
theorem dX6_learnt_0 : decode cX6_learnt 0 = .ok (.iload_n 1, 1) := by decide +kernel
theorem dX6_learnt_1 : decode cX6_learnt 1 = .ok (.invokestatic 111, 3) := by decide +kernel
theorem dX6_learnt_4 : decode cX6_learnt 4 = .ok (.ifCond .ne 8, 3) := by decide +kernel
theorem dX6_learnt_7 : decode cX6_learnt 7 = .ok (.aload_n 0, 1) := by decide +kernel
theorem dX6_learnt_8 : decode cX6_learnt 8 = .ok (.invokevirtual 105, 3) := by decide +kernel
theorem dX6_learnt_11 : decode cX6_learnt 11 = .ok (.ireturn, 1) := by decide +kernel
theorem dX6_learnt_12 : decode cX6_learnt 12 = .ok (.aload_n 0, 1) := by decide +kernel
theorem dX6_learnt_13 : decode cX6_learnt 13 = .ok (.getfield 7, 3) := by decide +kernel
theorem dX6_learnt_16 : decode cX6_learnt 16 = .ok (.bipush 45, 2) := by decide +kernel
theorem dX6_learnt_18 : decode cX6_learnt 18 = .ok (.iaload, 1) := by decide +kernel
theorem dX6_learnt_19 : decode cX6_learnt 19 = .ok (.iconst 1, 1) := by decide +kernel
theorem dX6_learnt_20 : decode cX6_learnt 20 = .ok (.if_icmp .ne 15, 3) := by decide +kernel
theorem dX6_learnt_23 : decode cX6_learnt 23 = .ok (.aload_n 0, 1) := by decide +kernel
theorem dX6_learnt_24 : decode cX6_learnt 24 = .ok (.getfield 7, 3) := by decide +kernel
theorem dX6_learnt_27 : decode cX6_learnt 27 = .ok (.bipush 46, 2) := by decide +kernel
theorem dX6_learnt_29 : decode cX6_learnt 29 = .ok (.iload_n 1, 1) := by decide +kernel
theorem dX6_learnt_30 : decode cX6_learnt 30 = .ok (.iadd, 1) := by decide +kernel
theorem dX6_learnt_31 : decode cX6_learnt 31 = .ok (.iaload, 1) := by decide +kernel
theorem dX6_learnt_32 : decode cX6_learnt 32 = .ok (.goto 4, 3) := by decide +kernel
theorem dX6_learnt_35 : decode cX6_learnt 35 = .ok (.iconst (-1), 1) := by decide +kernel
theorem dX6_learnt_36 : decode cX6_learnt 36 = .ok (.ireturn, 1) := by decide +kernel
theorem dX6_lrn_0 : decode cX6_lrn 0 = .ok (.aload_n 0, 1) := by decide +kernel
theorem dX6_lrn_1 : decode cX6_lrn 1 = .ok (.getfield 7, 3) := by decide +kernel
theorem dX6_lrn_4 : decode cX6_lrn 4 = .ok (.bipush 46, 2) := by decide +kernel
theorem dX6_lrn_6 : decode cX6_lrn 6 = .ok (.iload_n 1, 1) := by decide +kernel
theorem dX6_lrn_7 : decode cX6_lrn 7 = .ok (.iadd, 1) := by decide +kernel
theorem dX6_lrn_8 : decode cX6_lrn 8 = .ok (.iaload, 1) := by decide +kernel
theorem dX6_lrn_9 : decode cX6_lrn 9 = .ok (.ireturn, 1) := by decide +kernel
set_option maxRecDepth 20000 in
theorem ggX6_readsBox_X6_tellsBox : GoodIn wsX6_readsBox wsX6_tellsBox := goodIn_r _ [7, 8, 9, 10, 11, 6, 12, 13, 14, 15, 16, 1, 17, 18, 19, 20, 21, 22, 23, 24, 25, 26, 27, 28, 29, 30, 31, 32, 33, 34, 35, 36, 37, 38, 39, 40, 41, 42, 43, 44, 45, 46, 47, 48, 49, 50, 51, 52, 53, 54, 55, 56, 61, 62, 63, 64, 65, 66, 67, 68, 69, 70, 71, 72, 73, 74, 75, 76, 77, 78, 79, 80, 81] (by decide +kernel) (by decide +kernel)
set_option maxRecDepth 20000 in
theorem gX6_readsBox_X6_tellsBox : GoodIn wsX6_readsBox (wsV RX6 140 RX6 yX6_tellsBox wsX6_tellsBox) := goodIn_app (goodIn_of _ (by decide +kernel)) ggX6_readsBox_X6_tellsBox
set_option maxRecDepth 20000 in
theorem ggX6_readsBox_X6_lrn : GoodIn wsX6_readsBox wsX6_lrn := goodIn_r _ [60, 8, 61, 62, 63, 64, 65, 66, 67, 68, 69, 70, 71, 72, 73, 74, 75, 76, 77, 78, 79, 80, 81] (by decide +kernel) (by decide +kernel)
set_option maxRecDepth 20000 in
theorem gX6_readsBox_X6_lrn : GoodIn wsX6_readsBox (wsV RX6 162 RX6 yX6_lrn wsX6_lrn) := goodIn_app (goodIn_of _ (by decide +kernel)) ggX6_readsBox_X6_lrn
set_option maxRecDepth 20000 in
theorem ggX6_readsBox_X6_less : GoodIn wsX6_readsBox wsX6_less := goodIn_r _ [31, 23, 24, 6, 25, 26, 27, 28] (by decide +kernel) (by decide +kernel)
set_option maxRecDepth 20000 in
theorem gX6_readsBox_X6_less : GoodIn wsX6_readsBox (va_wsS RX6 114 yX6_less wsX6_less) := goodIn_app (goodIn_of _ (by decide +kernel)) ggX6_readsBox_X6_less
set_option maxRecDepth 20000 in
theorem ggX6_readsBox_X6_over : GoodIn wsX6_readsBox wsX6_over := goodIn_r _ [49, 50, 51, 52, 6, 53, 54, 55, 56, 23, 24, 25, 26, 27, 28, 20, 21, 22, 61, 62, 63, 64, 65, 66, 67, 68, 69, 70, 71, 72, 73, 74, 75, 76, 77, 78, 79, 80, 81] (by decide +kernel) (by decide +kernel)
set_option maxRecDepth 20000 in
theorem gX6_readsBox_X6_over : GoodIn wsX6_readsBox (wsV RX6 123 RX6 yX6_over wsX6_over) := goodIn_app (goodIn_of _ (by decide +kernel)) ggX6_readsBox_X6_over
set_option maxRecDepth 20000 in
theorem ggX6_readsBox_X6_by : GoodIn wsX6_readsBox wsX6_by := goodIn_r _ [22, 23, 24, 6, 25, 26, 27, 28] (by decide +kernel) (by decide +kernel)
set_option maxRecDepth 20000 in
theorem gX6_readsBox_X6_by : GoodIn wsX6_readsBox (va_wsS RX6 78 yX6_by wsX6_by) := goodIn_app (goodIn_of _ (by decide +kernel)) ggX6_readsBox_X6_by
set_option maxRecDepth 20000 in
theorem ggX6_readsBox_X6_plus : GoodIn wsX6_readsBox wsX6_plus := goodIn_r _ [41, 23, 24, 6, 25, 26, 27, 28] (by decide +kernel) (by decide +kernel)
set_option maxRecDepth 20000 in
theorem gX6_readsBox_X6_plus : GoodIn wsX6_readsBox (va_wsS RX6 117 yX6_plus wsX6_plus) := goodIn_app (goodIn_of _ (by decide +kernel)) ggX6_readsBox_X6_plus
theorem dX6_readsBox_0 : decode cX6_readsBox 0 = .ok (.aload_n 0, 1) := by decide +kernel
theorem dX6_readsBox_1 : decode cX6_readsBox 1 = .ok (.iload_n 1, 1) := by decide +kernel
theorem dX6_readsBox_2 : decode cX6_readsBox 2 = .ok (.invokevirtual 140, 3) := by decide +kernel
theorem dX6_readsBox_5 : decode cX6_readsBox 5 = .ok (.aload_n 0, 1) := by decide +kernel
theorem dX6_readsBox_6 : decode cX6_readsBox 6 = .ok (.aload_n 0, 1) := by decide +kernel
theorem dX6_readsBox_7 : decode cX6_readsBox 7 = .ok (.getfield 25, 3) := by decide +kernel
theorem dX6_readsBox_10 : decode cX6_readsBox 10 = .ok (.iconst 0, 1) := by decide +kernel
theorem dX6_readsBox_11 : decode cX6_readsBox 11 = .ok (.iaload, 1) := by decide +kernel
theorem dX6_readsBox_12 : decode cX6_readsBox 12 = .ok (.aload_n 0, 1) := by decide +kernel
theorem dX6_readsBox_13 : decode cX6_readsBox 13 = .ok (.iconst 0, 1) := by decide +kernel
theorem dX6_readsBox_14 : decode cX6_readsBox 14 = .ok (.invokevirtual 162, 3) := by decide +kernel
theorem dX6_readsBox_17 : decode cX6_readsBox 17 = .ok (.invokestatic 114, 3) := by decide +kernel
theorem dX6_readsBox_20 : decode cX6_readsBox 20 = .ok (.aload_n 0, 1) := by decide +kernel
theorem dX6_readsBox_21 : decode cX6_readsBox 21 = .ok (.iconst 2, 1) := by decide +kernel
theorem dX6_readsBox_22 : decode cX6_readsBox 22 = .ok (.invokevirtual 162, 3) := by decide +kernel
theorem dX6_readsBox_25 : decode cX6_readsBox 25 = .ok (.invokevirtual 123, 3) := by decide +kernel
theorem dX6_readsBox_28 : decode cX6_readsBox 28 = .ok (.istore_n 2, 1) := by decide +kernel
theorem dX6_readsBox_29 : decode cX6_readsBox 29 = .ok (.aload_n 0, 1) := by decide +kernel
theorem dX6_readsBox_30 : decode cX6_readsBox 30 = .ok (.aload_n 0, 1) := by decide +kernel
theorem dX6_readsBox_31 : decode cX6_readsBox 31 = .ok (.getfield 25, 3) := by decide +kernel
theorem dX6_readsBox_34 : decode cX6_readsBox 34 = .ok (.iconst 2, 1) := by decide +kernel
theorem dX6_readsBox_35 : decode cX6_readsBox 35 = .ok (.iaload, 1) := by decide +kernel
theorem dX6_readsBox_36 : decode cX6_readsBox 36 = .ok (.aload_n 0, 1) := by decide +kernel
theorem dX6_readsBox_37 : decode cX6_readsBox 37 = .ok (.iconst 3, 1) := by decide +kernel
theorem dX6_readsBox_38 : decode cX6_readsBox 38 = .ok (.invokevirtual 162, 3) := by decide +kernel
theorem dX6_readsBox_41 : decode cX6_readsBox 41 = .ok (.invokestatic 114, 3) := by decide +kernel
theorem dX6_readsBox_44 : decode cX6_readsBox 44 = .ok (.aload_n 0, 1) := by decide +kernel
theorem dX6_readsBox_45 : decode cX6_readsBox 45 = .ok (.iconst 5, 1) := by decide +kernel
theorem dX6_readsBox_46 : decode cX6_readsBox 46 = .ok (.invokevirtual 162, 3) := by decide +kernel
theorem dX6_readsBox_49 : decode cX6_readsBox 49 = .ok (.invokevirtual 123, 3) := by decide +kernel
theorem dX6_readsBox_52 : decode cX6_readsBox 52 = .ok (.istore_n 3, 1) := by decide +kernel
theorem dX6_readsBox_53 : decode cX6_readsBox 53 = .ok (.aload_n 0, 1) := by decide +kernel
theorem dX6_readsBox_54 : decode cX6_readsBox 54 = .ok (.aload_n 0, 1) := by decide +kernel
theorem dX6_readsBox_55 : decode cX6_readsBox 55 = .ok (.getfield 25, 3) := by decide +kernel
theorem dX6_readsBox_58 : decode cX6_readsBox 58 = .ok (.iconst 3, 1) := by decide +kernel
theorem dX6_readsBox_59 : decode cX6_readsBox 59 = .ok (.iaload, 1) := by decide +kernel
theorem dX6_readsBox_60 : decode cX6_readsBox 60 = .ok (.aload_n 0, 1) := by decide +kernel
theorem dX6_readsBox_61 : decode cX6_readsBox 61 = .ok (.bipush 6, 2) := by decide +kernel
theorem dX6_readsBox_63 : decode cX6_readsBox 63 = .ok (.invokevirtual 162, 3) := by decide +kernel
theorem dX6_readsBox_66 : decode cX6_readsBox 66 = .ok (.invokestatic 114, 3) := by decide +kernel
theorem dX6_readsBox_69 : decode cX6_readsBox 69 = .ok (.aload_n 0, 1) := by decide +kernel
theorem dX6_readsBox_70 : decode cX6_readsBox 70 = .ok (.bipush 8, 2) := by decide +kernel
theorem dX6_readsBox_72 : decode cX6_readsBox 72 = .ok (.invokevirtual 162, 3) := by decide +kernel
theorem dX6_readsBox_75 : decode cX6_readsBox 75 = .ok (.invokevirtual 123, 3) := by decide +kernel
theorem dX6_readsBox_78 : decode cX6_readsBox 78 = .ok (.istore 4, 2) := by decide +kernel
theorem dX6_readsBox_80 : decode cX6_readsBox 80 = .ok (.aload_n 0, 1) := by decide +kernel
theorem dX6_readsBox_81 : decode cX6_readsBox 81 = .ok (.aload_n 0, 1) := by decide +kernel
theorem dX6_readsBox_82 : decode cX6_readsBox 82 = .ok (.getfield 25, 3) := by decide +kernel
theorem dX6_readsBox_85 : decode cX6_readsBox 85 = .ok (.iconst 1, 1) := by decide +kernel
theorem dX6_readsBox_86 : decode cX6_readsBox 86 = .ok (.iaload, 1) := by decide +kernel
theorem dX6_readsBox_87 : decode cX6_readsBox 87 = .ok (.aload_n 0, 1) := by decide +kernel
theorem dX6_readsBox_88 : decode cX6_readsBox 88 = .ok (.bipush 9, 2) := by decide +kernel
theorem dX6_readsBox_90 : decode cX6_readsBox 90 = .ok (.invokevirtual 162, 3) := by decide +kernel
theorem dX6_readsBox_93 : decode cX6_readsBox 93 = .ok (.invokestatic 114, 3) := by decide +kernel
theorem dX6_readsBox_96 : decode cX6_readsBox 96 = .ok (.aload_n 0, 1) := by decide +kernel
theorem dX6_readsBox_97 : decode cX6_readsBox 97 = .ok (.bipush 11, 2) := by decide +kernel
theorem dX6_readsBox_99 : decode cX6_readsBox 99 = .ok (.invokevirtual 162, 3) := by decide +kernel
theorem dX6_readsBox_102 : decode cX6_readsBox 102 = .ok (.invokevirtual 123, 3) := by decide +kernel
theorem dX6_readsBox_105 : decode cX6_readsBox 105 = .ok (.istore 5, 2) := by decide +kernel
theorem dX6_readsBox_107 : decode cX6_readsBox 107 = .ok (.sipush 10007, 3) := by decide +kernel
theorem dX6_readsBox_110 : decode cX6_readsBox 110 = .ok (.iload_n 2, 1) := by decide +kernel
theorem dX6_readsBox_111 : decode cX6_readsBox 111 = .ok (.aload_n 0, 1) := by decide +kernel
theorem dX6_readsBox_112 : decode cX6_readsBox 112 = .ok (.iconst 1, 1) := by decide +kernel
theorem dX6_readsBox_113 : decode cX6_readsBox 113 = .ok (.invokevirtual 162, 3) := by decide +kernel
theorem dX6_readsBox_116 : decode cX6_readsBox 116 = .ok (.invokestatic 78, 3) := by decide +kernel
theorem dX6_readsBox_119 : decode cX6_readsBox 119 = .ok (.invokestatic 117, 3) := by decide +kernel
theorem dX6_readsBox_122 : decode cX6_readsBox 122 = .ok (.istore 6, 2) := by decide +kernel
theorem dX6_readsBox_124 : decode cX6_readsBox 124 = .ok (.sipush 10007, 3) := by decide +kernel
theorem dX6_readsBox_127 : decode cX6_readsBox 127 = .ok (.iload 4, 2) := by decide +kernel
theorem dX6_readsBox_129 : decode cX6_readsBox 129 = .ok (.aload_n 0, 1) := by decide +kernel
theorem dX6_readsBox_130 : decode cX6_readsBox 130 = .ok (.bipush 7, 2) := by decide +kernel
theorem dX6_readsBox_132 : decode cX6_readsBox 132 = .ok (.invokevirtual 162, 3) := by decide +kernel
theorem dX6_readsBox_135 : decode cX6_readsBox 135 = .ok (.invokestatic 78, 3) := by decide +kernel
theorem dX6_readsBox_138 : decode cX6_readsBox 138 = .ok (.invokestatic 117, 3) := by decide +kernel
theorem dX6_readsBox_141 : decode cX6_readsBox 141 = .ok (.istore 7, 2) := by decide +kernel
theorem dX6_readsBox_143 : decode cX6_readsBox 143 = .ok (.iload_n 3, 1) := by decide +kernel
theorem dX6_readsBox_144 : decode cX6_readsBox 144 = .ok (.iload 5, 2) := by decide +kernel
theorem dX6_readsBox_146 : decode cX6_readsBox 146 = .ok (.invokestatic 78, 3) := by decide +kernel
theorem dX6_readsBox_149 : decode cX6_readsBox 149 = .ok (.istore 8, 2) := by decide +kernel
theorem dX6_readsBox_151 : decode cX6_readsBox 151 = .ok (.iload 6, 2) := by decide +kernel
theorem dX6_readsBox_153 : decode cX6_readsBox 153 = .ok (.iload 7, 2) := by decide +kernel
theorem dX6_readsBox_155 : decode cX6_readsBox 155 = .ok (.invokestatic 78, 3) := by decide +kernel
theorem dX6_readsBox_158 : decode cX6_readsBox 158 = .ok (.iload 8, 2) := by decide +kernel
theorem dX6_readsBox_160 : decode cX6_readsBox 160 = .ok (.aload_n 0, 1) := by decide +kernel
theorem dX6_readsBox_161 : decode cX6_readsBox 161 = .ok (.iconst 4, 1) := by decide +kernel
theorem dX6_readsBox_162 : decode cX6_readsBox 162 = .ok (.invokevirtual 162, 3) := by decide +kernel
theorem dX6_readsBox_165 : decode cX6_readsBox 165 = .ok (.aload_n 0, 1) := by decide +kernel
theorem dX6_readsBox_166 : decode cX6_readsBox 166 = .ok (.bipush 10, 2) := by decide +kernel
theorem dX6_readsBox_168 : decode cX6_readsBox 168 = .ok (.invokevirtual 162, 3) := by decide +kernel
theorem dX6_readsBox_171 : decode cX6_readsBox 171 = .ok (.invokestatic 78, 3) := by decide +kernel
theorem dX6_readsBox_174 : decode cX6_readsBox 174 = .ok (.invokestatic 78, 3) := by decide +kernel
theorem dX6_readsBox_177 : decode cX6_readsBox 177 = .ok (.invokestatic 114, 3) := by decide +kernel
theorem dX6_readsBox_180 : decode cX6_readsBox 180 = .ok (.istore 9, 2) := by decide +kernel
theorem dX6_readsBox_182 : decode cX6_readsBox 182 = .ok (.aload_n 0, 1) := by decide +kernel
theorem dX6_readsBox_183 : decode cX6_readsBox 183 = .ok (.getfield 31, 3) := by decide +kernel
theorem dX6_readsBox_186 : decode cX6_readsBox 186 = .ok (.iconst 0, 1) := by decide +kernel
theorem dX6_readsBox_187 : decode cX6_readsBox 187 = .ok (.aload_n 0, 1) := by decide +kernel
theorem dX6_readsBox_188 : decode cX6_readsBox 188 = .ok (.iload_n 2, 1) := by decide +kernel
theorem dX6_readsBox_189 : decode cX6_readsBox 189 = .ok (.iload 7, 2) := by decide +kernel
theorem dX6_readsBox_191 : decode cX6_readsBox 191 = .ok (.invokestatic 78, 3) := by decide +kernel
theorem dX6_readsBox_194 : decode cX6_readsBox 194 = .ok (.aload_n 0, 1) := by decide +kernel
theorem dX6_readsBox_195 : decode cX6_readsBox 195 = .ok (.iconst 4, 1) := by decide +kernel
theorem dX6_readsBox_196 : decode cX6_readsBox 196 = .ok (.invokevirtual 162, 3) := by decide +kernel
theorem dX6_readsBox_199 : decode cX6_readsBox 199 = .ok (.iload 8, 2) := by decide +kernel
theorem dX6_readsBox_201 : decode cX6_readsBox 201 = .ok (.invokestatic 78, 3) := by decide +kernel
theorem dX6_readsBox_204 : decode cX6_readsBox 204 = .ok (.invokestatic 114, 3) := by decide +kernel
theorem dX6_readsBox_207 : decode cX6_readsBox 207 = .ok (.iload 9, 2) := by decide +kernel
theorem dX6_readsBox_209 : decode cX6_readsBox 209 = .ok (.invokevirtual 123, 3) := by decide +kernel
theorem dX6_readsBox_212 : decode cX6_readsBox 212 = .ok (.iastore, 1) := by decide +kernel
theorem dX6_readsBox_213 : decode cX6_readsBox 213 = .ok (.sipush 10007, 3) := by decide +kernel
theorem dX6_readsBox_216 : decode cX6_readsBox 216 = .ok (.iload 4, 2) := by decide +kernel
theorem dX6_readsBox_218 : decode cX6_readsBox 218 = .ok (.aload_n 0, 1) := by decide +kernel
theorem dX6_readsBox_219 : decode cX6_readsBox 219 = .ok (.bipush 7, 2) := by decide +kernel
theorem dX6_readsBox_221 : decode cX6_readsBox 221 = .ok (.invokevirtual 162, 3) := by decide +kernel
theorem dX6_readsBox_224 : decode cX6_readsBox 224 = .ok (.aload_n 0, 1) := by decide +kernel
theorem dX6_readsBox_225 : decode cX6_readsBox 225 = .ok (.iconst 4, 1) := by decide +kernel
theorem dX6_readsBox_226 : decode cX6_readsBox 226 = .ok (.invokevirtual 162, 3) := by decide +kernel
theorem dX6_readsBox_229 : decode cX6_readsBox 229 = .ok (.invokestatic 114, 3) := by decide +kernel
theorem dX6_readsBox_232 : decode cX6_readsBox 232 = .ok (.invokestatic 78, 3) := by decide +kernel
theorem dX6_readsBox_235 : decode cX6_readsBox 235 = .ok (.invokestatic 117, 3) := by decide +kernel
theorem dX6_readsBox_238 : decode cX6_readsBox 238 = .ok (.istore 10, 2) := by decide +kernel
theorem dX6_readsBox_240 : decode cX6_readsBox 240 = .ok (.aload_n 0, 1) := by decide +kernel
theorem dX6_readsBox_241 : decode cX6_readsBox 241 = .ok (.getfield 31, 3) := by decide +kernel
theorem dX6_readsBox_244 : decode cX6_readsBox 244 = .ok (.iconst 2, 1) := by decide +kernel
theorem dX6_readsBox_245 : decode cX6_readsBox 245 = .ok (.aload_n 0, 1) := by decide +kernel
theorem dX6_readsBox_246 : decode cX6_readsBox 246 = .ok (.iload 10, 2) := by decide +kernel
theorem dX6_readsBox_248 : decode cX6_readsBox 248 = .ok (.iload_n 3, 1) := by decide +kernel
theorem dX6_readsBox_249 : decode cX6_readsBox 249 = .ok (.invokestatic 78, 3) := by decide +kernel
theorem dX6_readsBox_252 : decode cX6_readsBox 252 = .ok (.iload 9, 2) := by decide +kernel
theorem dX6_readsBox_254 : decode cX6_readsBox 254 = .ok (.invokevirtual 123, 3) := by decide +kernel
theorem dX6_readsBox_257 : decode cX6_readsBox 257 = .ok (.iastore, 1) := by decide +kernel
theorem dX6_readsBox_258 : decode cX6_readsBox 258 = .ok (.sipush 10007, 3) := by decide +kernel
theorem dX6_readsBox_261 : decode cX6_readsBox 261 = .ok (.iload_n 2, 1) := by decide +kernel
theorem dX6_readsBox_262 : decode cX6_readsBox 262 = .ok (.aload_n 0, 1) := by decide +kernel
theorem dX6_readsBox_263 : decode cX6_readsBox 263 = .ok (.iconst 1, 1) := by decide +kernel
theorem dX6_readsBox_264 : decode cX6_readsBox 264 = .ok (.invokevirtual 162, 3) := by decide +kernel
theorem dX6_readsBox_267 : decode cX6_readsBox 267 = .ok (.aload_n 0, 1) := by decide +kernel
theorem dX6_readsBox_268 : decode cX6_readsBox 268 = .ok (.bipush 10, 2) := by decide +kernel
theorem dX6_readsBox_270 : decode cX6_readsBox 270 = .ok (.invokevirtual 162, 3) := by decide +kernel
theorem dX6_readsBox_273 : decode cX6_readsBox 273 = .ok (.invokestatic 114, 3) := by decide +kernel
theorem dX6_readsBox_276 : decode cX6_readsBox 276 = .ok (.invokestatic 78, 3) := by decide +kernel
theorem dX6_readsBox_279 : decode cX6_readsBox 279 = .ok (.invokestatic 117, 3) := by decide +kernel
theorem dX6_readsBox_282 : decode cX6_readsBox 282 = .ok (.istore 10, 2) := by decide +kernel
theorem dX6_readsBox_284 : decode cX6_readsBox 284 = .ok (.aload_n 0, 1) := by decide +kernel
theorem dX6_readsBox_285 : decode cX6_readsBox 285 = .ok (.getfield 31, 3) := by decide +kernel
theorem dX6_readsBox_288 : decode cX6_readsBox 288 = .ok (.iconst 1, 1) := by decide +kernel
theorem dX6_readsBox_289 : decode cX6_readsBox 289 = .ok (.aload_n 0, 1) := by decide +kernel
theorem dX6_readsBox_290 : decode cX6_readsBox 290 = .ok (.iload 10, 2) := by decide +kernel
theorem dX6_readsBox_292 : decode cX6_readsBox 292 = .ok (.iload 5, 2) := by decide +kernel
theorem dX6_readsBox_294 : decode cX6_readsBox 294 = .ok (.invokestatic 78, 3) := by decide +kernel
theorem dX6_readsBox_297 : decode cX6_readsBox 297 = .ok (.iload 9, 2) := by decide +kernel
theorem dX6_readsBox_299 : decode cX6_readsBox 299 = .ok (.invokevirtual 123, 3) := by decide +kernel
theorem dX6_readsBox_302 : decode cX6_readsBox 302 = .ok (.iastore, 1) := by decide +kernel
theorem dX6_readsBox_303 : decode cX6_readsBox 303 = .ok (.aload_n 0, 1) := by decide +kernel
theorem dX6_readsBox_304 : decode cX6_readsBox 304 = .ok (.getfield 31, 3) := by decide +kernel
theorem dX6_readsBox_307 : decode cX6_readsBox 307 = .ok (.iconst 3, 1) := by decide +kernel
theorem dX6_readsBox_308 : decode cX6_readsBox 308 = .ok (.aload_n 0, 1) := by decide +kernel
theorem dX6_readsBox_309 : decode cX6_readsBox 309 = .ok (.iload 4, 2) := by decide +kernel
theorem dX6_readsBox_311 : decode cX6_readsBox 311 = .ok (.iload 6, 2) := by decide +kernel
theorem dX6_readsBox_313 : decode cX6_readsBox 313 = .ok (.invokestatic 78, 3) := by decide +kernel
theorem dX6_readsBox_316 : decode cX6_readsBox 316 = .ok (.aload_n 0, 1) := by decide +kernel
theorem dX6_readsBox_317 : decode cX6_readsBox 317 = .ok (.bipush 10, 2) := by decide +kernel
theorem dX6_readsBox_319 : decode cX6_readsBox 319 = .ok (.invokevirtual 162, 3) := by decide +kernel
theorem dX6_readsBox_322 : decode cX6_readsBox 322 = .ok (.iload 8, 2) := by decide +kernel
theorem dX6_readsBox_324 : decode cX6_readsBox 324 = .ok (.invokestatic 78, 3) := by decide +kernel
theorem dX6_readsBox_327 : decode cX6_readsBox 327 = .ok (.invokestatic 114, 3) := by decide +kernel
theorem dX6_readsBox_330 : decode cX6_readsBox 330 = .ok (.iload 9, 2) := by decide +kernel
theorem dX6_readsBox_332 : decode cX6_readsBox 332 = .ok (.invokevirtual 123, 3) := by decide +kernel
theorem dX6_readsBox_335 : decode cX6_readsBox 335 = .ok (.iastore, 1) := by decide +kernel
theorem dX6_readsBox_336 : decode cX6_readsBox 336 = .ok (.return_, 1) := by decide +kernel
set_option maxRecDepth 20000 in
theorem ggX6_canRead_X6_readsBox : GoodIn wsX6_canRead wsX6_readsBox := goodIn_r _ [7, 8, 9, 10, 11, 12, 6, 13, 1, 14, 15, 16, 17, 18, 19, 20, 21, 22, 23, 24, 25, 26, 27, 28, 29, 30, 31, 32, 33, 34, 35, 36, 37, 38, 39, 40, 41, 42, 43, 44, 45, 46, 47, 48, 49, 50, 51, 52, 53, 54, 2, 55, 56, 57, 58, 59, 60, 61, 62, 63, 64, 65, 66, 67, 68, 69, 70, 71, 72, 73, 74, 75, 76, 77, 78, 79, 80, 81, 82, 83, 84, 85] (by decide +kernel) (by decide +kernel)
set_option maxRecDepth 20000 in
theorem gX6_canRead_X6_readsBox : GoodIn wsX6_canRead (wsV RX6 165 RX6 yX6_readsBox wsX6_readsBox) := goodIn_app (goodIn_of _ (by decide +kernel)) ggX6_canRead_X6_readsBox
theorem dX6_canRead_0 : decode cX6_canRead 0 = .ok (.aload_n 0, 1) := by decide +kernel
theorem dX6_canRead_1 : decode cX6_canRead 1 = .ok (.aload_n 0, 1) := by decide +kernel
theorem dX6_canRead_2 : decode cX6_canRead 2 = .ok (.getfield 7, 3) := by decide +kernel
theorem dX6_canRead_5 : decode cX6_canRead 5 = .ok (.bipush 45, 2) := by decide +kernel
theorem dX6_canRead_7 : decode cX6_canRead 7 = .ok (.iaload, 1) := by decide +kernel
theorem dX6_canRead_8 : decode cX6_canRead 8 = .ok (.ifCond .ne 7, 3) := by decide +kernel
theorem dX6_canRead_11 : decode cX6_canRead 11 = .ok (.iconst 1, 1) := by decide +kernel
theorem dX6_canRead_12 : decode cX6_canRead 12 = .ok (.goto 4, 3) := by decide +kernel
theorem dX6_canRead_15 : decode cX6_canRead 15 = .ok (.iconst 0, 1) := by decide +kernel
theorem dX6_canRead_16 : decode cX6_canRead 16 = .ok (.putfield 68, 3) := by decide +kernel
theorem dX6_canRead_19 : decode cX6_canRead 19 = .ok (.aload_n 0, 1) := by decide +kernel
theorem dX6_canRead_20 : decode cX6_canRead 20 = .ok (.getfield 68, 3) := by decide +kernel
theorem dX6_canRead_23 : decode cX6_canRead 23 = .ok (.ifCond .ne 8, 3) := by decide +kernel
theorem dX6_canRead_26 : decode cX6_canRead 26 = .ok (.aload_n 0, 1) := by decide +kernel
theorem dX6_canRead_27 : decode cX6_canRead 27 = .ok (.iload_n 1, 1) := by decide +kernel
theorem dX6_canRead_28 : decode cX6_canRead 28 = .ok (.invokevirtual 165, 3) := by decide +kernel
theorem dX6_canRead_31 : decode cX6_canRead 31 = .ok (.aload_n 0, 1) := by decide +kernel
theorem dX6_canRead_32 : decode cX6_canRead 32 = .ok (.getfield 68, 3) := by decide +kernel
theorem dX6_canRead_35 : decode cX6_canRead 35 = .ok (.ifCond .ne 7, 3) := by decide +kernel
theorem dX6_canRead_38 : decode cX6_canRead 38 = .ok (.iconst 1, 1) := by decide +kernel
theorem dX6_canRead_39 : decode cX6_canRead 39 = .ok (.goto 4, 3) := by decide +kernel
theorem dX6_canRead_42 : decode cX6_canRead 42 = .ok (.iconst 0, 1) := by decide +kernel
theorem dX6_canRead_43 : decode cX6_canRead 43 = .ok (.ireturn, 1) := by decide +kernel
set_option maxRecDepth 20000 in
theorem ggX6_comesMade_X6_no : GoodIn wsX6_comesMade wsX6_no := goodIn_r _ [7, 8, 27, 28, 29, 30, 31, 32, 33, 34, 35, 36, 37, 38, 39, 40, 41, 42, 43, 44, 45, 46, 47] (by decide +kernel) (by decide +kernel)
set_option maxRecDepth 20000 in
theorem gX6_comesMade_X6_no : GoodIn wsX6_comesMade (wsV RX6 56 RX6 yX6_no wsX6_no) := goodIn_app (goodIn_of _ (by decide +kernel)) ggX6_comesMade_X6_no
set_option maxRecDepth 20000 in
theorem ggX6_comesMade_X6_full : GoodIn wsX6_comesMade wsX6_full := goodIn_r _ [12, 8, 27, 28, 29, 30, 31, 32, 33, 34, 35, 36, 37, 38, 39, 40, 41, 42, 43, 44, 45, 46, 47] (by decide +kernel) (by decide +kernel)
set_option maxRecDepth 20000 in
theorem gX6_comesMade_X6_full : GoodIn wsX6_comesMade (wsV RX6 88 RX6 yX6_full wsX6_full) := goodIn_app (goodIn_of _ (by decide +kernel)) ggX6_comesMade_X6_full
set_option maxRecDepth 20000 in
theorem ggX6_comesMade_X6_remembers : GoodIn wsX6_comesMade wsX6_remembers := goodIn_r _ [16, 17, 18, 1, 27, 28, 29, 30, 31, 32, 33, 34, 35, 36, 37, 38, 39, 40, 41, 42, 43, 44, 45, 46, 47] (by decide +kernel) (by decide +kernel)
set_option maxRecDepth 20000 in
theorem gX6_comesMade_X6_remembers : GoodIn wsX6_comesMade (wsV RX6 91 RX6 yX6_remembers wsX6_remembers) := goodIn_app (goodIn_of _ (by decide +kernel)) ggX6_comesMade_X6_remembers
set_option maxRecDepth 20000 in
theorem ggX6_comesMade_X6_comes : GoodIn wsX6_comesMade wsX6_comes := goodIn_r _ [22, 1, 23, 24, 25, 6, 26, 27, 28, 29, 30, 31, 32, 33, 34, 35, 36, 37, 38, 39, 40, 41, 42, 43, 44, 45, 46, 47] (by decide +kernel) (by decide +kernel)
set_option maxRecDepth 20000 in
theorem gX6_comesMade_X6_comes : GoodIn wsX6_comesMade (wsV RX6 94 RX6 yX6_comes wsX6_comes) := goodIn_app (goodIn_of _ (by decide +kernel)) ggX6_comesMade_X6_comes
theorem dX6_comesMade_0 : decode cX6_comesMade 0 = .ok (.iload_n 1, 1) := by decide +kernel
theorem dX6_comesMade_1 : decode cX6_comesMade 1 = .ok (.ifCond .ne 8, 3) := by decide +kernel
theorem dX6_comesMade_4 : decode cX6_comesMade 4 = .ok (.aload_n 0, 1) := by decide +kernel
theorem dX6_comesMade_5 : decode cX6_comesMade 5 = .ok (.invokevirtual 56, 3) := by decide +kernel
theorem dX6_comesMade_8 : decode cX6_comesMade 8 = .ok (.ireturn, 1) := by decide +kernel
theorem dX6_comesMade_9 : decode cX6_comesMade 9 = .ok (.aload_n 0, 1) := by decide +kernel
theorem dX6_comesMade_10 : decode cX6_comesMade 10 = .ok (.getfield 7, 3) := by decide +kernel
theorem dX6_comesMade_13 : decode cX6_comesMade 13 = .ok (.iconst 0, 1) := by decide +kernel
theorem dX6_comesMade_14 : decode cX6_comesMade 14 = .ok (.iaload, 1) := by decide +kernel
theorem dX6_comesMade_15 : decode cX6_comesMade 15 = .ok (.bipush 8, 2) := by decide +kernel
theorem dX6_comesMade_17 : decode cX6_comesMade 17 = .ok (.if_icmp .ne 8, 3) := by decide +kernel
theorem dX6_comesMade_20 : decode cX6_comesMade 20 = .ok (.aload_n 0, 1) := by decide +kernel
theorem dX6_comesMade_21 : decode cX6_comesMade 21 = .ok (.invokevirtual 88, 3) := by decide +kernel
theorem dX6_comesMade_24 : decode cX6_comesMade 24 = .ok (.ireturn, 1) := by decide +kernel
theorem dX6_comesMade_25 : decode cX6_comesMade 25 = .ok (.aload_n 0, 1) := by decide +kernel
theorem dX6_comesMade_26 : decode cX6_comesMade 26 = .ok (.invokevirtual 91, 3) := by decide +kernel
theorem dX6_comesMade_29 : decode cX6_comesMade 29 = .ok (.aload_n 0, 1) := by decide +kernel
theorem dX6_comesMade_30 : decode cX6_comesMade 30 = .ok (.aload_n 0, 1) := by decide +kernel
theorem dX6_comesMade_31 : decode cX6_comesMade 31 = .ok (.getfield 31, 3) := by decide +kernel
theorem dX6_comesMade_34 : decode cX6_comesMade 34 = .ok (.iconst 0, 1) := by decide +kernel
theorem dX6_comesMade_35 : decode cX6_comesMade 35 = .ok (.iaload, 1) := by decide +kernel
theorem dX6_comesMade_36 : decode cX6_comesMade 36 = .ok (.aload_n 0, 1) := by decide +kernel
theorem dX6_comesMade_37 : decode cX6_comesMade 37 = .ok (.getfield 31, 3) := by decide +kernel
theorem dX6_comesMade_40 : decode cX6_comesMade 40 = .ok (.iconst 1, 1) := by decide +kernel
theorem dX6_comesMade_41 : decode cX6_comesMade 41 = .ok (.iaload, 1) := by decide +kernel
theorem dX6_comesMade_42 : decode cX6_comesMade 42 = .ok (.aload_n 0, 1) := by decide +kernel
theorem dX6_comesMade_43 : decode cX6_comesMade 43 = .ok (.getfield 31, 3) := by decide +kernel
theorem dX6_comesMade_46 : decode cX6_comesMade 46 = .ok (.iconst 2, 1) := by decide +kernel
theorem dX6_comesMade_47 : decode cX6_comesMade 47 = .ok (.iaload, 1) := by decide +kernel
theorem dX6_comesMade_48 : decode cX6_comesMade 48 = .ok (.aload_n 0, 1) := by decide +kernel
theorem dX6_comesMade_49 : decode cX6_comesMade 49 = .ok (.getfield 31, 3) := by decide +kernel
theorem dX6_comesMade_52 : decode cX6_comesMade 52 = .ok (.iconst 3, 1) := by decide +kernel
theorem dX6_comesMade_53 : decode cX6_comesMade 53 = .ok (.iaload, 1) := by decide +kernel
theorem dX6_comesMade_54 : decode cX6_comesMade 54 = .ok (.invokevirtual 94, 3) := by decide +kernel
theorem dX6_comesMade_57 : decode cX6_comesMade 57 = .ok (.ireturn, 1) := by decide +kernel
set_option maxRecDepth 20000 in
theorem ggX6_reads_X6_isBox : GoodIn wsX6_reads wsX6_isBox := goodIn_r _ [5, 6, 7, 8, 4, 9, 103, 104, 105, 106, 107, 108, 109, 110, 111, 112, 113, 114, 115, 116, 117, 118, 119, 120, 121, 122, 123] (by decide +kernel) (by decide +kernel)
set_option maxRecDepth 20000 in
theorem gX6_reads_X6_isBox : GoodIn wsX6_reads (wsV RX6 98 RX6 yX6_isBox wsX6_isBox) := goodIn_app (goodIn_of _ (by decide +kernel)) ggX6_reads_X6_isBox
set_option maxRecDepth 20000 in
theorem ggX6_reads_X6_canRead : GoodIn wsX6_reads wsX6_canRead := goodIn_r _ [13, 6, 14, 15, 16, 17, 4, 18, 19, 20, 21, 22, 23, 24, 25, 26, 27, 28, 29, 30, 31, 32, 33, 34, 35, 36, 37, 38, 39, 40, 41, 42, 43, 44, 45, 46, 47, 48, 49, 50, 51, 52, 53, 54, 55, 56, 57, 58, 59, 60, 61, 62, 63, 64, 65, 66, 67, 68, 69, 70, 71, 72, 73, 74, 75, 103, 104, 105, 106, 107, 108, 109, 110, 111, 112, 113, 114, 115, 116, 117, 118, 119, 120, 121, 122, 123] (by decide +kernel) (by decide +kernel)
set_option maxRecDepth 20000 in
theorem gX6_reads_X6_canRead : GoodIn wsX6_reads (wsV RX6 168 RX6 yX6_canRead wsX6_canRead) := goodIn_app (goodIn_of _ (by decide +kernel)) ggX6_reads_X6_canRead
set_option maxRecDepth 20000 in
theorem ggX6_reads_X6_comesMade : GoodIn wsX6_reads wsX6_comesMade := goodIn_r _ [79, 6, 20, 80, 81, 82, 4, 83, 84, 85, 86, 87, 88, 89, 90, 91, 92, 93, 94, 95, 96, 97, 98, 25, 26, 27, 28, 103, 104, 105, 106, 107, 108, 109, 110, 111, 112, 113, 114, 115, 116, 117, 118, 119, 120, 121, 122, 123] (by decide +kernel) (by decide +kernel)
set_option maxRecDepth 20000 in
theorem gX6_reads_X6_comesMade : GoodIn wsX6_reads (wsV RX6 171 RX6 yX6_comesMade wsX6_comesMade) := goodIn_app (goodIn_of _ (by decide +kernel)) ggX6_reads_X6_comesMade
set_option maxRecDepth 20000 in
theorem ggX6_reads_X6_bad : GoodIn wsX6_reads wsX6_bad := goodIn_r _ [102, 84, 103, 104, 105, 106, 107, 108, 109, 110, 111, 112, 113, 114, 115, 116, 117, 118, 119, 120, 121, 122, 123] (by decide +kernel) (by decide +kernel)
set_option maxRecDepth 20000 in
theorem gX6_reads_X6_bad : GoodIn wsX6_reads (wsV RX6 105 RX6 yX6_bad wsX6_bad) := goodIn_app (goodIn_of _ (by decide +kernel)) ggX6_reads_X6_bad
theorem dX6_reads_0 : decode cX6_reads 0 = .ok (.aload_n 0, 1) := by decide +kernel
theorem dX6_reads_1 : decode cX6_reads 1 = .ok (.iload_n 1, 1) := by decide +kernel
theorem dX6_reads_2 : decode cX6_reads 2 = .ok (.invokevirtual 98, 3) := by decide +kernel
theorem dX6_reads_5 : decode cX6_reads 5 = .ok (.ifCond .eq 15, 3) := by decide +kernel
theorem dX6_reads_8 : decode cX6_reads 8 = .ok (.aload_n 0, 1) := by decide +kernel
theorem dX6_reads_9 : decode cX6_reads 9 = .ok (.aload_n 0, 1) := by decide +kernel
theorem dX6_reads_10 : decode cX6_reads 10 = .ok (.iload_n 1, 1) := by decide +kernel
theorem dX6_reads_11 : decode cX6_reads 11 = .ok (.invokevirtual 168, 3) := by decide +kernel
theorem dX6_reads_14 : decode cX6_reads 14 = .ok (.invokevirtual 171, 3) := by decide +kernel
theorem dX6_reads_17 : decode cX6_reads 17 = .ok (.goto 7, 3) := by decide +kernel
theorem dX6_reads_20 : decode cX6_reads 20 = .ok (.aload_n 0, 1) := by decide +kernel
theorem dX6_reads_21 : decode cX6_reads 21 = .ok (.invokevirtual 105, 3) := by decide +kernel
theorem dX6_reads_24 : decode cX6_reads 24 = .ok (.ireturn, 1) := by decide +kernel
theorem dX6_copies_0 : decode cX6_copies 0 = .ok (.iconst 0, 1) := by decide +kernel
theorem dX6_copies_1 : decode cX6_copies 1 = .ok (.istore_n 3, 1) := by decide +kernel
theorem dX6_copies_2 : decode cX6_copies 2 = .ok (.iload_n 3, 1) := by decide +kernel
theorem dX6_copies_3 : decode cX6_copies 3 = .ok (.iconst 4, 1) := by decide +kernel
theorem dX6_copies_4 : decode cX6_copies 4 = .ok (.if_icmp .ge 15, 3) := by decide +kernel
theorem dX6_copies_7 : decode cX6_copies 7 = .ok (.aload_n 2, 1) := by decide +kernel
theorem dX6_copies_8 : decode cX6_copies 8 = .ok (.iload_n 3, 1) := by decide +kernel
theorem dX6_copies_9 : decode cX6_copies 9 = .ok (.aload_n 1, 1) := by decide +kernel
theorem dX6_copies_10 : decode cX6_copies 10 = .ok (.iload_n 3, 1) := by decide +kernel
theorem dX6_copies_11 : decode cX6_copies 11 = .ok (.iaload, 1) := by decide +kernel
theorem dX6_copies_12 : decode cX6_copies 12 = .ok (.iastore, 1) := by decide +kernel
theorem dX6_copies_13 : decode cX6_copies 13 = .ok (.iinc 3 1, 3) := by decide +kernel
theorem dX6_copies_16 : decode cX6_copies 16 = .ok (.goto (-14), 3) := by decide +kernel
theorem dX6_copies_19 : decode cX6_copies 19 = .ok (.return_, 1) := by decide +kernel
set_option maxRecDepth 20000 in
theorem ggX6_formsTo_X6_boxAt : GoodIn wsX6_formsTo wsX6_boxAt := goodIn_r _ [6] (by decide +kernel) (by decide +kernel)
set_option maxRecDepth 20000 in
theorem gX6_formsTo_X6_boxAt : GoodIn wsX6_formsTo (wsV RX6 85 RX6 yX6_boxAt wsX6_boxAt) := goodIn_app (goodIn_of _ (by decide +kernel)) ggX6_formsTo_X6_boxAt
set_option maxRecDepth 20000 in
theorem ggX6_formsTo_X6_detBox : GoodIn wsX6_formsTo wsX6_detBox := goodIn_r _ [10, 1, 2, 3, 4, 5, 6, 11, 12, 13, 14, 15, 16, 17, 18, 19, 20, 21, 22, 23, 24, 25, 37, 38, 39, 40, 41, 42, 43, 44, 45, 46, 47, 48, 49, 50, 51, 52, 53, 54, 55, 56, 57] (by decide +kernel) (by decide +kernel)
set_option maxRecDepth 20000 in
theorem gX6_formsTo_X6_detBox : GoodIn wsX6_formsTo (wsV RX6 175 RX6 yX6_detBox wsX6_detBox) := goodIn_app (goodIn_of _ (by decide +kernel)) ggX6_formsTo_X6_detBox
set_option maxRecDepth 20000 in
theorem ggX6_formsTo_X6_less : GoodIn wsX6_formsTo wsX6_less := goodIn_r _ [25, 17, 18, 5, 19, 20, 21, 22] (by decide +kernel) (by decide +kernel)
set_option maxRecDepth 20000 in
theorem gX6_formsTo_X6_less : GoodIn wsX6_formsTo (va_wsS RX6 114 yX6_less wsX6_less) := goodIn_app (goodIn_of _ (by decide +kernel)) ggX6_formsTo_X6_less
set_option maxRecDepth 20000 in
theorem ggX6_formsTo_X6_over : GoodIn wsX6_formsTo wsX6_over := goodIn_r _ [29, 30, 31, 32, 5, 33, 34, 35, 36, 17, 18, 19, 20, 21, 22, 14, 15, 16, 37, 38, 39, 40, 41, 42, 43, 44, 45, 46, 47, 48, 49, 50, 51, 52, 53, 54, 55, 56, 57] (by decide +kernel) (by decide +kernel)
set_option maxRecDepth 20000 in
theorem gX6_formsTo_X6_over : GoodIn wsX6_formsTo (wsV RX6 123 RX6 yX6_over wsX6_over) := goodIn_app (goodIn_of _ (by decide +kernel)) ggX6_formsTo_X6_over
theorem dX6_formsTo_0 : decode cX6_formsTo 0 = .ok (.aload_n 0, 1) := by decide +kernel
theorem dX6_formsTo_1 : decode cX6_formsTo 1 = .ok (.iload_n 1, 1) := by decide +kernel
theorem dX6_formsTo_2 : decode cX6_formsTo 2 = .ok (.invokevirtual 85, 3) := by decide +kernel
theorem dX6_formsTo_5 : decode cX6_formsTo 5 = .ok (.istore_n 3, 1) := by decide +kernel
theorem dX6_formsTo_6 : decode cX6_formsTo 6 = .ok (.aload_n 0, 1) := by decide +kernel
theorem dX6_formsTo_7 : decode cX6_formsTo 7 = .ok (.getfield 7, 3) := by decide +kernel
theorem dX6_formsTo_10 : decode cX6_formsTo 10 = .ok (.iload_n 3, 1) := by decide +kernel
theorem dX6_formsTo_11 : decode cX6_formsTo 11 = .ok (.iconst 2, 1) := by decide +kernel
theorem dX6_formsTo_12 : decode cX6_formsTo 12 = .ok (.iadd, 1) := by decide +kernel
theorem dX6_formsTo_13 : decode cX6_formsTo 13 = .ok (.iaload, 1) := by decide +kernel
theorem dX6_formsTo_14 : decode cX6_formsTo 14 = .ok (.istore 4, 2) := by decide +kernel
theorem dX6_formsTo_16 : decode cX6_formsTo 16 = .ok (.aload_n 2, 1) := by decide +kernel
theorem dX6_formsTo_17 : decode cX6_formsTo 17 = .ok (.iconst 0, 1) := by decide +kernel
theorem dX6_formsTo_18 : decode cX6_formsTo 18 = .ok (.aload_n 0, 1) := by decide +kernel
theorem dX6_formsTo_19 : decode cX6_formsTo 19 = .ok (.iconst 0, 1) := by decide +kernel
theorem dX6_formsTo_20 : decode cX6_formsTo 20 = .ok (.aload_n 0, 1) := by decide +kernel
theorem dX6_formsTo_21 : decode cX6_formsTo 21 = .ok (.iload_n 1, 1) := by decide +kernel
theorem dX6_formsTo_22 : decode cX6_formsTo 22 = .ok (.invokevirtual 175, 3) := by decide +kernel
theorem dX6_formsTo_25 : decode cX6_formsTo 25 = .ok (.invokestatic 114, 3) := by decide +kernel
theorem dX6_formsTo_28 : decode cX6_formsTo 28 = .ok (.iload 4, 2) := by decide +kernel
theorem dX6_formsTo_30 : decode cX6_formsTo 30 = .ok (.invokevirtual 123, 3) := by decide +kernel
theorem dX6_formsTo_33 : decode cX6_formsTo 33 = .ok (.iastore, 1) := by decide +kernel
theorem dX6_formsTo_34 : decode cX6_formsTo 34 = .ok (.aload_n 2, 1) := by decide +kernel
theorem dX6_formsTo_35 : decode cX6_formsTo 35 = .ok (.iconst 1, 1) := by decide +kernel
theorem dX6_formsTo_36 : decode cX6_formsTo 36 = .ok (.aload_n 0, 1) := by decide +kernel
theorem dX6_formsTo_37 : decode cX6_formsTo 37 = .ok (.aload_n 0, 1) := by decide +kernel
theorem dX6_formsTo_38 : decode cX6_formsTo 38 = .ok (.getfield 7, 3) := by decide +kernel
theorem dX6_formsTo_41 : decode cX6_formsTo 41 = .ok (.iload_n 3, 1) := by decide +kernel
theorem dX6_formsTo_42 : decode cX6_formsTo 42 = .ok (.iaload, 1) := by decide +kernel
theorem dX6_formsTo_43 : decode cX6_formsTo 43 = .ok (.iload 4, 2) := by decide +kernel
theorem dX6_formsTo_45 : decode cX6_formsTo 45 = .ok (.invokevirtual 123, 3) := by decide +kernel
theorem dX6_formsTo_48 : decode cX6_formsTo 48 = .ok (.iastore, 1) := by decide +kernel
theorem dX6_formsTo_49 : decode cX6_formsTo 49 = .ok (.aload_n 2, 1) := by decide +kernel
theorem dX6_formsTo_50 : decode cX6_formsTo 50 = .ok (.iconst 2, 1) := by decide +kernel
theorem dX6_formsTo_51 : decode cX6_formsTo 51 = .ok (.aload_n 0, 1) := by decide +kernel
theorem dX6_formsTo_52 : decode cX6_formsTo 52 = .ok (.iconst 0, 1) := by decide +kernel
theorem dX6_formsTo_53 : decode cX6_formsTo 53 = .ok (.aload_n 0, 1) := by decide +kernel
theorem dX6_formsTo_54 : decode cX6_formsTo 54 = .ok (.getfield 7, 3) := by decide +kernel
theorem dX6_formsTo_57 : decode cX6_formsTo 57 = .ok (.iload_n 3, 1) := by decide +kernel
theorem dX6_formsTo_58 : decode cX6_formsTo 58 = .ok (.iconst 3, 1) := by decide +kernel
theorem dX6_formsTo_59 : decode cX6_formsTo 59 = .ok (.iadd, 1) := by decide +kernel
theorem dX6_formsTo_60 : decode cX6_formsTo 60 = .ok (.iaload, 1) := by decide +kernel
theorem dX6_formsTo_61 : decode cX6_formsTo 61 = .ok (.invokestatic 114, 3) := by decide +kernel
theorem dX6_formsTo_64 : decode cX6_formsTo 64 = .ok (.iload 4, 2) := by decide +kernel
theorem dX6_formsTo_66 : decode cX6_formsTo 66 = .ok (.invokevirtual 123, 3) := by decide +kernel
theorem dX6_formsTo_69 : decode cX6_formsTo 69 = .ok (.iastore, 1) := by decide +kernel
theorem dX6_formsTo_70 : decode cX6_formsTo 70 = .ok (.aload_n 2, 1) := by decide +kernel
theorem dX6_formsTo_71 : decode cX6_formsTo 71 = .ok (.iconst 3, 1) := by decide +kernel
theorem dX6_formsTo_72 : decode cX6_formsTo 72 = .ok (.aload_n 0, 1) := by decide +kernel
theorem dX6_formsTo_73 : decode cX6_formsTo 73 = .ok (.sipush 10007, 3) := by decide +kernel
theorem dX6_formsTo_76 : decode cX6_formsTo 76 = .ok (.iload 4, 2) := by decide +kernel
theorem dX6_formsTo_78 : decode cX6_formsTo 78 = .ok (.invokevirtual 123, 3) := by decide +kernel
theorem dX6_formsTo_81 : decode cX6_formsTo 81 = .ok (.iastore, 1) := by decide +kernel
theorem dX6_formsTo_82 : decode cX6_formsTo 82 = .ok (.return_, 1) := by decide +kernel
set_option maxRecDepth 20000 in
theorem ggX6_multiplies_X6_by : GoodIn wsX6_multiplies wsX6_by := goodIn_r _ [7, 8, 9, 6, 10, 11, 12, 13] (by decide +kernel) (by decide +kernel)
set_option maxRecDepth 20000 in
theorem gX6_multiplies_X6_by : GoodIn wsX6_multiplies (va_wsS RX6 78 yX6_by wsX6_by) := goodIn_app (goodIn_of _ (by decide +kernel)) ggX6_multiplies_X6_by
set_option maxRecDepth 20000 in
theorem ggX6_multiplies_X6_plus : GoodIn wsX6_multiplies wsX6_plus := goodIn_r _ [16, 8, 9, 6, 10, 11, 12, 13] (by decide +kernel) (by decide +kernel)
set_option maxRecDepth 20000 in
theorem gX6_multiplies_X6_plus : GoodIn wsX6_multiplies (va_wsS RX6 117 yX6_plus wsX6_plus) := goodIn_app (goodIn_of _ (by decide +kernel)) ggX6_multiplies_X6_plus
theorem dX6_multiplies_0 : decode cX6_multiplies 0 = .ok (.iconst 0, 1) := by decide +kernel
theorem dX6_multiplies_1 : decode cX6_multiplies 1 = .ok (.istore_n 1, 1) := by decide +kernel
theorem dX6_multiplies_2 : decode cX6_multiplies 2 = .ok (.iload_n 1, 1) := by decide +kernel
theorem dX6_multiplies_3 : decode cX6_multiplies 3 = .ok (.iconst 4, 1) := by decide +kernel
theorem dX6_multiplies_4 : decode cX6_multiplies 4 = .ok (.if_icmp .ge 62, 3) := by decide +kernel
theorem dX6_multiplies_7 : decode cX6_multiplies 7 = .ok (.iload_n 1, 1) := by decide +kernel
theorem dX6_multiplies_8 : decode cX6_multiplies 8 = .ok (.iconst 2, 1) := by decide +kernel
theorem dX6_multiplies_9 : decode cX6_multiplies 9 = .ok (.idiv, 1) := by decide +kernel
theorem dX6_multiplies_10 : decode cX6_multiplies 10 = .ok (.iconst 2, 1) := by decide +kernel
theorem dX6_multiplies_11 : decode cX6_multiplies 11 = .ok (.imul, 1) := by decide +kernel
theorem dX6_multiplies_12 : decode cX6_multiplies 12 = .ok (.istore_n 2, 1) := by decide +kernel
theorem dX6_multiplies_13 : decode cX6_multiplies 13 = .ok (.iload_n 1, 1) := by decide +kernel
theorem dX6_multiplies_14 : decode cX6_multiplies 14 = .ok (.iconst 2, 1) := by decide +kernel
theorem dX6_multiplies_15 : decode cX6_multiplies 15 = .ok (.irem, 1) := by decide +kernel
theorem dX6_multiplies_16 : decode cX6_multiplies 16 = .ok (.istore_n 3, 1) := by decide +kernel
theorem dX6_multiplies_17 : decode cX6_multiplies 17 = .ok (.aload_n 0, 1) := by decide +kernel
theorem dX6_multiplies_18 : decode cX6_multiplies 18 = .ok (.getfield 40, 3) := by decide +kernel
theorem dX6_multiplies_21 : decode cX6_multiplies 21 = .ok (.iload_n 1, 1) := by decide +kernel
theorem dX6_multiplies_22 : decode cX6_multiplies 22 = .ok (.aload_n 0, 1) := by decide +kernel
theorem dX6_multiplies_23 : decode cX6_multiplies 23 = .ok (.getfield 34, 3) := by decide +kernel
theorem dX6_multiplies_26 : decode cX6_multiplies 26 = .ok (.iload_n 2, 1) := by decide +kernel
theorem dX6_multiplies_27 : decode cX6_multiplies 27 = .ok (.iaload, 1) := by decide +kernel
theorem dX6_multiplies_28 : decode cX6_multiplies 28 = .ok (.aload_n 0, 1) := by decide +kernel
theorem dX6_multiplies_29 : decode cX6_multiplies 29 = .ok (.getfield 37, 3) := by decide +kernel
theorem dX6_multiplies_32 : decode cX6_multiplies 32 = .ok (.iload_n 3, 1) := by decide +kernel
theorem dX6_multiplies_33 : decode cX6_multiplies 33 = .ok (.iaload, 1) := by decide +kernel
theorem dX6_multiplies_34 : decode cX6_multiplies 34 = .ok (.invokestatic 78, 3) := by decide +kernel
theorem dX6_multiplies_37 : decode cX6_multiplies 37 = .ok (.aload_n 0, 1) := by decide +kernel
theorem dX6_multiplies_38 : decode cX6_multiplies 38 = .ok (.getfield 34, 3) := by decide +kernel
theorem dX6_multiplies_41 : decode cX6_multiplies 41 = .ok (.iload_n 2, 1) := by decide +kernel
theorem dX6_multiplies_42 : decode cX6_multiplies 42 = .ok (.iconst 1, 1) := by decide +kernel
theorem dX6_multiplies_43 : decode cX6_multiplies 43 = .ok (.iadd, 1) := by decide +kernel
theorem dX6_multiplies_44 : decode cX6_multiplies 44 = .ok (.iaload, 1) := by decide +kernel
theorem dX6_multiplies_45 : decode cX6_multiplies 45 = .ok (.aload_n 0, 1) := by decide +kernel
theorem dX6_multiplies_46 : decode cX6_multiplies 46 = .ok (.getfield 37, 3) := by decide +kernel
theorem dX6_multiplies_49 : decode cX6_multiplies 49 = .ok (.iload_n 3, 1) := by decide +kernel
theorem dX6_multiplies_50 : decode cX6_multiplies 50 = .ok (.iconst 2, 1) := by decide +kernel
theorem dX6_multiplies_51 : decode cX6_multiplies 51 = .ok (.iadd, 1) := by decide +kernel
theorem dX6_multiplies_52 : decode cX6_multiplies 52 = .ok (.iaload, 1) := by decide +kernel
theorem dX6_multiplies_53 : decode cX6_multiplies 53 = .ok (.invokestatic 78, 3) := by decide +kernel
theorem dX6_multiplies_56 : decode cX6_multiplies 56 = .ok (.invokestatic 117, 3) := by decide +kernel
theorem dX6_multiplies_59 : decode cX6_multiplies 59 = .ok (.iastore, 1) := by decide +kernel
theorem dX6_multiplies_60 : decode cX6_multiplies 60 = .ok (.iinc 1 1, 3) := by decide +kernel
theorem dX6_multiplies_63 : decode cX6_multiplies 63 = .ok (.goto (-61), 3) := by decide +kernel
theorem dX6_multiplies_66 : decode cX6_multiplies 66 = .ok (.return_, 1) := by decide +kernel
set_option maxRecDepth 20000 in
theorem ggX6_inverts_X6_by : GoodIn wsX6_inverts wsX6_by := goodIn_r _ [4, 5, 6, 3, 7, 8, 9, 10] (by decide +kernel) (by decide +kernel)
set_option maxRecDepth 20000 in
theorem gX6_inverts_X6_by : GoodIn wsX6_inverts (va_wsS RX6 78 yX6_by wsX6_by) := goodIn_app (goodIn_of _ (by decide +kernel)) ggX6_inverts_X6_by
set_option maxRecDepth 20000 in
theorem ggX6_inverts_X6_less : GoodIn wsX6_inverts wsX6_less := goodIn_r _ [13, 5, 6, 3, 7, 8, 9, 10] (by decide +kernel) (by decide +kernel)
set_option maxRecDepth 20000 in
theorem gX6_inverts_X6_less : GoodIn wsX6_inverts (va_wsS RX6 114 yX6_less wsX6_less) := goodIn_app (goodIn_of _ (by decide +kernel)) ggX6_inverts_X6_less
set_option maxRecDepth 20000 in
theorem ggX6_inverts_X6_over : GoodIn wsX6_inverts wsX6_over := goodIn_r _ [17, 18, 19, 20, 3, 21, 22, 23, 24, 5, 6, 7, 8, 9, 10, 1, 2, 4, 25, 26, 27, 28, 29, 30, 31, 32, 33, 34, 35, 36, 37, 38, 39, 40, 41, 42, 43, 44, 45] (by decide +kernel) (by decide +kernel)
set_option maxRecDepth 20000 in
theorem gX6_inverts_X6_over : GoodIn wsX6_inverts (wsV RX6 123 RX6 yX6_over wsX6_over) := goodIn_app (goodIn_of _ (by decide +kernel)) ggX6_inverts_X6_over
theorem dX6_inverts_0 : decode cX6_inverts 0 = .ok (.aload_n 1, 1) := by decide +kernel
theorem dX6_inverts_1 : decode cX6_inverts 1 = .ok (.iconst 0, 1) := by decide +kernel
theorem dX6_inverts_2 : decode cX6_inverts 2 = .ok (.iaload, 1) := by decide +kernel
theorem dX6_inverts_3 : decode cX6_inverts 3 = .ok (.aload_n 1, 1) := by decide +kernel
theorem dX6_inverts_4 : decode cX6_inverts 4 = .ok (.iconst 3, 1) := by decide +kernel
theorem dX6_inverts_5 : decode cX6_inverts 5 = .ok (.iaload, 1) := by decide +kernel
theorem dX6_inverts_6 : decode cX6_inverts 6 = .ok (.invokestatic 78, 3) := by decide +kernel
theorem dX6_inverts_9 : decode cX6_inverts 9 = .ok (.aload_n 1, 1) := by decide +kernel
theorem dX6_inverts_10 : decode cX6_inverts 10 = .ok (.iconst 1, 1) := by decide +kernel
theorem dX6_inverts_11 : decode cX6_inverts 11 = .ok (.iaload, 1) := by decide +kernel
theorem dX6_inverts_12 : decode cX6_inverts 12 = .ok (.aload_n 1, 1) := by decide +kernel
theorem dX6_inverts_13 : decode cX6_inverts 13 = .ok (.iconst 2, 1) := by decide +kernel
theorem dX6_inverts_14 : decode cX6_inverts 14 = .ok (.iaload, 1) := by decide +kernel
theorem dX6_inverts_15 : decode cX6_inverts 15 = .ok (.invokestatic 78, 3) := by decide +kernel
theorem dX6_inverts_18 : decode cX6_inverts 18 = .ok (.invokestatic 114, 3) := by decide +kernel
theorem dX6_inverts_21 : decode cX6_inverts 21 = .ok (.istore_n 2, 1) := by decide +kernel
theorem dX6_inverts_22 : decode cX6_inverts 22 = .ok (.aload_n 0, 1) := by decide +kernel
theorem dX6_inverts_23 : decode cX6_inverts 23 = .ok (.aload_n 1, 1) := by decide +kernel
theorem dX6_inverts_24 : decode cX6_inverts 24 = .ok (.iconst 0, 1) := by decide +kernel
theorem dX6_inverts_25 : decode cX6_inverts 25 = .ok (.iaload, 1) := by decide +kernel
theorem dX6_inverts_26 : decode cX6_inverts 26 = .ok (.iload_n 2, 1) := by decide +kernel
theorem dX6_inverts_27 : decode cX6_inverts 27 = .ok (.invokevirtual 123, 3) := by decide +kernel
theorem dX6_inverts_30 : decode cX6_inverts 30 = .ok (.istore_n 3, 1) := by decide +kernel
theorem dX6_inverts_31 : decode cX6_inverts 31 = .ok (.aload_n 1, 1) := by decide +kernel
theorem dX6_inverts_32 : decode cX6_inverts 32 = .ok (.iconst 0, 1) := by decide +kernel
theorem dX6_inverts_33 : decode cX6_inverts 33 = .ok (.aload_n 0, 1) := by decide +kernel
theorem dX6_inverts_34 : decode cX6_inverts 34 = .ok (.aload_n 1, 1) := by decide +kernel
theorem dX6_inverts_35 : decode cX6_inverts 35 = .ok (.iconst 3, 1) := by decide +kernel
theorem dX6_inverts_36 : decode cX6_inverts 36 = .ok (.iaload, 1) := by decide +kernel
theorem dX6_inverts_37 : decode cX6_inverts 37 = .ok (.iload_n 2, 1) := by decide +kernel
theorem dX6_inverts_38 : decode cX6_inverts 38 = .ok (.invokevirtual 123, 3) := by decide +kernel
theorem dX6_inverts_41 : decode cX6_inverts 41 = .ok (.iastore, 1) := by decide +kernel
theorem dX6_inverts_42 : decode cX6_inverts 42 = .ok (.aload_n 1, 1) := by decide +kernel
theorem dX6_inverts_43 : decode cX6_inverts 43 = .ok (.iconst 1, 1) := by decide +kernel
theorem dX6_inverts_44 : decode cX6_inverts 44 = .ok (.aload_n 0, 1) := by decide +kernel
theorem dX6_inverts_45 : decode cX6_inverts 45 = .ok (.iconst 0, 1) := by decide +kernel
theorem dX6_inverts_46 : decode cX6_inverts 46 = .ok (.aload_n 1, 1) := by decide +kernel
theorem dX6_inverts_47 : decode cX6_inverts 47 = .ok (.iconst 1, 1) := by decide +kernel
theorem dX6_inverts_48 : decode cX6_inverts 48 = .ok (.iaload, 1) := by decide +kernel
theorem dX6_inverts_49 : decode cX6_inverts 49 = .ok (.invokestatic 114, 3) := by decide +kernel
theorem dX6_inverts_52 : decode cX6_inverts 52 = .ok (.iload_n 2, 1) := by decide +kernel
theorem dX6_inverts_53 : decode cX6_inverts 53 = .ok (.invokevirtual 123, 3) := by decide +kernel
theorem dX6_inverts_56 : decode cX6_inverts 56 = .ok (.iastore, 1) := by decide +kernel
theorem dX6_inverts_57 : decode cX6_inverts 57 = .ok (.aload_n 1, 1) := by decide +kernel
theorem dX6_inverts_58 : decode cX6_inverts 58 = .ok (.iconst 2, 1) := by decide +kernel
theorem dX6_inverts_59 : decode cX6_inverts 59 = .ok (.aload_n 0, 1) := by decide +kernel
theorem dX6_inverts_60 : decode cX6_inverts 60 = .ok (.iconst 0, 1) := by decide +kernel
theorem dX6_inverts_61 : decode cX6_inverts 61 = .ok (.aload_n 1, 1) := by decide +kernel
theorem dX6_inverts_62 : decode cX6_inverts 62 = .ok (.iconst 2, 1) := by decide +kernel
theorem dX6_inverts_63 : decode cX6_inverts 63 = .ok (.iaload, 1) := by decide +kernel
theorem dX6_inverts_64 : decode cX6_inverts 64 = .ok (.invokestatic 114, 3) := by decide +kernel
theorem dX6_inverts_67 : decode cX6_inverts 67 = .ok (.iload_n 2, 1) := by decide +kernel
theorem dX6_inverts_68 : decode cX6_inverts 68 = .ok (.invokevirtual 123, 3) := by decide +kernel
theorem dX6_inverts_71 : decode cX6_inverts 71 = .ok (.iastore, 1) := by decide +kernel
theorem dX6_inverts_72 : decode cX6_inverts 72 = .ok (.aload_n 1, 1) := by decide +kernel
theorem dX6_inverts_73 : decode cX6_inverts 73 = .ok (.iconst 3, 1) := by decide +kernel
theorem dX6_inverts_74 : decode cX6_inverts 74 = .ok (.iload_n 3, 1) := by decide +kernel
theorem dX6_inverts_75 : decode cX6_inverts 75 = .ok (.iastore, 1) := by decide +kernel
theorem dX6_inverts_76 : decode cX6_inverts 76 = .ok (.return_, 1) := by decide +kernel
set_option maxRecDepth 20000 in
theorem ggX6_goesBack_X6_by : GoodIn wsX6_goesBack wsX6_by := goodIn_r _ [6, 7, 8, 5, 9, 10, 11, 12] (by decide +kernel) (by decide +kernel)
set_option maxRecDepth 20000 in
theorem gX6_goesBack_X6_by : GoodIn wsX6_goesBack (va_wsS RX6 78 yX6_by wsX6_by) := goodIn_app (goodIn_of _ (by decide +kernel)) ggX6_goesBack_X6_by
set_option maxRecDepth 20000 in
theorem ggX6_goesBack_X6_less : GoodIn wsX6_goesBack wsX6_less := goodIn_r _ [15, 7, 8, 5, 9, 10, 11, 12] (by decide +kernel) (by decide +kernel)
set_option maxRecDepth 20000 in
theorem gX6_goesBack_X6_less : GoodIn wsX6_goesBack (va_wsS RX6 114 yX6_less wsX6_less) := goodIn_app (goodIn_of _ (by decide +kernel)) ggX6_goesBack_X6_less
set_option maxRecDepth 20000 in
theorem ggX6_goesBack_X6_over : GoodIn wsX6_goesBack wsX6_over := goodIn_r _ [19, 20, 21, 22, 5, 23, 24, 25, 26, 7, 8, 9, 10, 11, 12, 3, 4, 6, 27, 28, 29, 30, 31, 32, 33, 34, 35, 36, 37, 38, 39, 40, 41, 42, 43, 44, 45, 46, 47] (by decide +kernel) (by decide +kernel)
set_option maxRecDepth 20000 in
theorem gX6_goesBack_X6_over : GoodIn wsX6_goesBack (wsV RX6 123 RX6 yX6_over wsX6_over) := goodIn_app (goodIn_of _ (by decide +kernel)) ggX6_goesBack_X6_over
theorem dX6_goesBack_0 : decode cX6_goesBack 0 = .ok (.aload_n 0, 1) := by decide +kernel
theorem dX6_goesBack_1 : decode cX6_goesBack 1 = .ok (.getfield 40, 3) := by decide +kernel
theorem dX6_goesBack_4 : decode cX6_goesBack 4 = .ok (.iconst 0, 1) := by decide +kernel
theorem dX6_goesBack_5 : decode cX6_goesBack 5 = .ok (.iaload, 1) := by decide +kernel
theorem dX6_goesBack_6 : decode cX6_goesBack 6 = .ok (.aload_n 0, 1) := by decide +kernel
theorem dX6_goesBack_7 : decode cX6_goesBack 7 = .ok (.getfield 40, 3) := by decide +kernel
theorem dX6_goesBack_10 : decode cX6_goesBack 10 = .ok (.iconst 3, 1) := by decide +kernel
theorem dX6_goesBack_11 : decode cX6_goesBack 11 = .ok (.iaload, 1) := by decide +kernel
theorem dX6_goesBack_12 : decode cX6_goesBack 12 = .ok (.invokestatic 78, 3) := by decide +kernel
theorem dX6_goesBack_15 : decode cX6_goesBack 15 = .ok (.aload_n 0, 1) := by decide +kernel
theorem dX6_goesBack_16 : decode cX6_goesBack 16 = .ok (.getfield 40, 3) := by decide +kernel
theorem dX6_goesBack_19 : decode cX6_goesBack 19 = .ok (.iconst 1, 1) := by decide +kernel
theorem dX6_goesBack_20 : decode cX6_goesBack 20 = .ok (.iaload, 1) := by decide +kernel
theorem dX6_goesBack_21 : decode cX6_goesBack 21 = .ok (.aload_n 0, 1) := by decide +kernel
theorem dX6_goesBack_22 : decode cX6_goesBack 22 = .ok (.getfield 40, 3) := by decide +kernel
theorem dX6_goesBack_25 : decode cX6_goesBack 25 = .ok (.iconst 2, 1) := by decide +kernel
theorem dX6_goesBack_26 : decode cX6_goesBack 26 = .ok (.iaload, 1) := by decide +kernel
theorem dX6_goesBack_27 : decode cX6_goesBack 27 = .ok (.invokestatic 78, 3) := by decide +kernel
theorem dX6_goesBack_30 : decode cX6_goesBack 30 = .ok (.invokestatic 114, 3) := by decide +kernel
theorem dX6_goesBack_33 : decode cX6_goesBack 33 = .ok (.istore_n 1, 1) := by decide +kernel
theorem dX6_goesBack_34 : decode cX6_goesBack 34 = .ok (.aload_n 0, 1) := by decide +kernel
theorem dX6_goesBack_35 : decode cX6_goesBack 35 = .ok (.getfield 31, 3) := by decide +kernel
theorem dX6_goesBack_38 : decode cX6_goesBack 38 = .ok (.iconst 0, 1) := by decide +kernel
theorem dX6_goesBack_39 : decode cX6_goesBack 39 = .ok (.aload_n 0, 1) := by decide +kernel
theorem dX6_goesBack_40 : decode cX6_goesBack 40 = .ok (.aload_n 0, 1) := by decide +kernel
theorem dX6_goesBack_41 : decode cX6_goesBack 41 = .ok (.getfield 40, 3) := by decide +kernel
theorem dX6_goesBack_44 : decode cX6_goesBack 44 = .ok (.iconst 1, 1) := by decide +kernel
theorem dX6_goesBack_45 : decode cX6_goesBack 45 = .ok (.iaload, 1) := by decide +kernel
theorem dX6_goesBack_46 : decode cX6_goesBack 46 = .ok (.aload_n 0, 1) := by decide +kernel
theorem dX6_goesBack_47 : decode cX6_goesBack 47 = .ok (.getfield 40, 3) := by decide +kernel
theorem dX6_goesBack_50 : decode cX6_goesBack 50 = .ok (.iconst 3, 1) := by decide +kernel
theorem dX6_goesBack_51 : decode cX6_goesBack 51 = .ok (.iaload, 1) := by decide +kernel
theorem dX6_goesBack_52 : decode cX6_goesBack 52 = .ok (.invokevirtual 123, 3) := by decide +kernel
theorem dX6_goesBack_55 : decode cX6_goesBack 55 = .ok (.iastore, 1) := by decide +kernel
theorem dX6_goesBack_56 : decode cX6_goesBack 56 = .ok (.aload_n 0, 1) := by decide +kernel
theorem dX6_goesBack_57 : decode cX6_goesBack 57 = .ok (.getfield 31, 3) := by decide +kernel
theorem dX6_goesBack_60 : decode cX6_goesBack 60 = .ok (.iconst 1, 1) := by decide +kernel
theorem dX6_goesBack_61 : decode cX6_goesBack 61 = .ok (.aload_n 0, 1) := by decide +kernel
theorem dX6_goesBack_62 : decode cX6_goesBack 62 = .ok (.iload_n 1, 1) := by decide +kernel
theorem dX6_goesBack_63 : decode cX6_goesBack 63 = .ok (.aload_n 0, 1) := by decide +kernel
theorem dX6_goesBack_64 : decode cX6_goesBack 64 = .ok (.getfield 40, 3) := by decide +kernel
theorem dX6_goesBack_67 : decode cX6_goesBack 67 = .ok (.iconst 3, 1) := by decide +kernel
theorem dX6_goesBack_68 : decode cX6_goesBack 68 = .ok (.iaload, 1) := by decide +kernel
theorem dX6_goesBack_69 : decode cX6_goesBack 69 = .ok (.invokevirtual 123, 3) := by decide +kernel
theorem dX6_goesBack_72 : decode cX6_goesBack 72 = .ok (.iastore, 1) := by decide +kernel
theorem dX6_goesBack_73 : decode cX6_goesBack 73 = .ok (.aload_n 0, 1) := by decide +kernel
theorem dX6_goesBack_74 : decode cX6_goesBack 74 = .ok (.getfield 31, 3) := by decide +kernel
theorem dX6_goesBack_77 : decode cX6_goesBack 77 = .ok (.iconst 2, 1) := by decide +kernel
theorem dX6_goesBack_78 : decode cX6_goesBack 78 = .ok (.aload_n 0, 1) := by decide +kernel
theorem dX6_goesBack_79 : decode cX6_goesBack 79 = .ok (.sipush 10007, 3) := by decide +kernel
theorem dX6_goesBack_82 : decode cX6_goesBack 82 = .ok (.aload_n 0, 1) := by decide +kernel
theorem dX6_goesBack_83 : decode cX6_goesBack 83 = .ok (.getfield 40, 3) := by decide +kernel
theorem dX6_goesBack_86 : decode cX6_goesBack 86 = .ok (.iconst 3, 1) := by decide +kernel
theorem dX6_goesBack_87 : decode cX6_goesBack 87 = .ok (.iaload, 1) := by decide +kernel
theorem dX6_goesBack_88 : decode cX6_goesBack 88 = .ok (.invokevirtual 123, 3) := by decide +kernel
theorem dX6_goesBack_91 : decode cX6_goesBack 91 = .ok (.iastore, 1) := by decide +kernel
theorem dX6_goesBack_92 : decode cX6_goesBack 92 = .ok (.aload_n 0, 1) := by decide +kernel
theorem dX6_goesBack_93 : decode cX6_goesBack 93 = .ok (.getfield 31, 3) := by decide +kernel
theorem dX6_goesBack_96 : decode cX6_goesBack 96 = .ok (.iconst 3, 1) := by decide +kernel
theorem dX6_goesBack_97 : decode cX6_goesBack 97 = .ok (.aload_n 0, 1) := by decide +kernel
theorem dX6_goesBack_98 : decode cX6_goesBack 98 = .ok (.iconst 0, 1) := by decide +kernel
theorem dX6_goesBack_99 : decode cX6_goesBack 99 = .ok (.aload_n 0, 1) := by decide +kernel
theorem dX6_goesBack_100 : decode cX6_goesBack 100 = .ok (.getfield 40, 3) := by decide +kernel
theorem dX6_goesBack_103 : decode cX6_goesBack 103 = .ok (.iconst 2, 1) := by decide +kernel
theorem dX6_goesBack_104 : decode cX6_goesBack 104 = .ok (.iaload, 1) := by decide +kernel
theorem dX6_goesBack_105 : decode cX6_goesBack 105 = .ok (.invokestatic 114, 3) := by decide +kernel
theorem dX6_goesBack_108 : decode cX6_goesBack 108 = .ok (.aload_n 0, 1) := by decide +kernel
theorem dX6_goesBack_109 : decode cX6_goesBack 109 = .ok (.getfield 40, 3) := by decide +kernel
theorem dX6_goesBack_112 : decode cX6_goesBack 112 = .ok (.iconst 3, 1) := by decide +kernel
theorem dX6_goesBack_113 : decode cX6_goesBack 113 = .ok (.iaload, 1) := by decide +kernel
theorem dX6_goesBack_114 : decode cX6_goesBack 114 = .ok (.invokevirtual 123, 3) := by decide +kernel
theorem dX6_goesBack_117 : decode cX6_goesBack 117 = .ok (.iastore, 1) := by decide +kernel
theorem dX6_goesBack_118 : decode cX6_goesBack 118 = .ok (.return_, 1) := by decide +kernel
set_option maxRecDepth 20000 in
theorem ggX6_canChain_X6_formsTo : GoodIn wsX6_canChain wsX6_formsTo := goodIn_r _ [8, 9, 10, 11, 12, 7, 13, 14, 15, 16, 17, 18, 19, 20, 21, 22, 23, 24, 25, 26, 27, 28, 29, 30, 31, 32, 33, 34, 35, 36, 1, 37, 38, 39, 40, 41, 42, 56, 57, 58, 59, 60, 61, 62, 63, 64, 65, 66, 67, 68, 69, 70, 71, 72, 73, 74, 75, 76] (by decide +kernel) (by decide +kernel)
set_option maxRecDepth 20000 in
theorem gX6_canChain_X6_formsTo : GoodIn wsX6_canChain (wsV RX6 178 RX6 yX6_formsTo wsX6_formsTo) := goodIn_app (goodIn_of _ (by decide +kernel)) ggX6_canChain_X6_formsTo
set_option maxRecDepth 20000 in
theorem ggX6_canChain_X6_multiplies : GoodIn wsX6_canChain wsX6_multiplies := goodIn_r _ [46, 47, 2, 3, 21, 22, 7, 23, 24, 25, 26, 27, 28, 29, 48, 49, 50, 56, 57, 58, 59, 60, 61, 62, 63, 64, 65, 66, 67, 68, 69, 70, 71, 72, 73, 74, 75, 76] (by decide +kernel) (by decide +kernel)
set_option maxRecDepth 20000 in
theorem gX6_canChain_X6_multiplies : GoodIn wsX6_canChain (wsV RX6 182 RX6 yX6_multiplies wsX6_multiplies) := goodIn_app (goodIn_of _ (by decide +kernel)) ggX6_canChain_X6_multiplies
set_option maxRecDepth 20000 in
theorem ggX6_canChain_X6_goesBack : GoodIn wsX6_canChain wsX6_goesBack := goodIn_r _ [54, 47, 55, 21, 22, 7, 23, 24, 25, 26, 27, 28, 29, 30, 31, 32, 33, 34, 35, 36, 1, 37, 38, 39, 40, 41, 42, 56, 57, 58, 59, 60, 61, 62, 63, 64, 65, 66, 67, 68, 69, 70, 71, 72, 73, 74, 75, 76] (by decide +kernel) (by decide +kernel)
set_option maxRecDepth 20000 in
theorem gX6_canChain_X6_goesBack : GoodIn wsX6_canChain (wsV RX6 185 RX6 yX6_goesBack wsX6_goesBack) := goodIn_app (goodIn_of _ (by decide +kernel)) ggX6_canChain_X6_goesBack
theorem dX6_canChain_0 : decode cX6_canChain 0 = .ok (.aload_n 0, 1) := by decide +kernel
theorem dX6_canChain_1 : decode cX6_canChain 1 = .ok (.iconst 0, 1) := by decide +kernel
theorem dX6_canChain_2 : decode cX6_canChain 2 = .ok (.putfield 68, 3) := by decide +kernel
theorem dX6_canChain_5 : decode cX6_canChain 5 = .ok (.aload_n 0, 1) := by decide +kernel
theorem dX6_canChain_6 : decode cX6_canChain 6 = .ok (.iload_n 1, 1) := by decide +kernel
theorem dX6_canChain_7 : decode cX6_canChain 7 = .ok (.aload_n 0, 1) := by decide +kernel
theorem dX6_canChain_8 : decode cX6_canChain 8 = .ok (.getfield 34, 3) := by decide +kernel
theorem dX6_canChain_11 : decode cX6_canChain 11 = .ok (.invokevirtual 178, 3) := by decide +kernel
theorem dX6_canChain_14 : decode cX6_canChain 14 = .ok (.aload_n 0, 1) := by decide +kernel
theorem dX6_canChain_15 : decode cX6_canChain 15 = .ok (.iload_n 2, 1) := by decide +kernel
theorem dX6_canChain_16 : decode cX6_canChain 16 = .ok (.aload_n 0, 1) := by decide +kernel
theorem dX6_canChain_17 : decode cX6_canChain 17 = .ok (.getfield 37, 3) := by decide +kernel
theorem dX6_canChain_20 : decode cX6_canChain 20 = .ok (.invokevirtual 178, 3) := by decide +kernel
theorem dX6_canChain_23 : decode cX6_canChain 23 = .ok (.aload_n 0, 1) := by decide +kernel
theorem dX6_canChain_24 : decode cX6_canChain 24 = .ok (.invokevirtual 182, 3) := by decide +kernel
theorem dX6_canChain_27 : decode cX6_canChain 27 = .ok (.aload_n 0, 1) := by decide +kernel
theorem dX6_canChain_28 : decode cX6_canChain 28 = .ok (.invokevirtual 185, 3) := by decide +kernel
theorem dX6_canChain_31 : decode cX6_canChain 31 = .ok (.aload_n 0, 1) := by decide +kernel
theorem dX6_canChain_32 : decode cX6_canChain 32 = .ok (.getfield 68, 3) := by decide +kernel
theorem dX6_canChain_35 : decode cX6_canChain 35 = .ok (.ifCond .ne 7, 3) := by decide +kernel
theorem dX6_canChain_38 : decode cX6_canChain 38 = .ok (.iconst 1, 1) := by decide +kernel
theorem dX6_canChain_39 : decode cX6_canChain 39 = .ok (.goto 4, 3) := by decide +kernel
theorem dX6_canChain_42 : decode cX6_canChain 42 = .ok (.iconst 0, 1) := by decide +kernel
theorem dX6_canChain_43 : decode cX6_canChain 43 = .ok (.ireturn, 1) := by decide +kernel
set_option maxRecDepth 20000 in
theorem ggX6_chains_X6_isBox : GoodIn wsX6_chains wsX6_isBox := goodIn_r _ [5, 6, 7, 8, 4, 9, 94, 95, 96, 97, 98, 99, 100, 101, 102, 103, 104, 105, 106, 107, 108, 109, 110, 111, 112, 113, 114] (by decide +kernel) (by decide +kernel)
set_option maxRecDepth 20000 in
theorem gX6_chains_X6_isBox : GoodIn wsX6_chains (wsV RX6 98 RX6 yX6_isBox wsX6_isBox) := goodIn_app (goodIn_of _ (by decide +kernel)) ggX6_chains_X6_isBox
set_option maxRecDepth 20000 in
theorem ggX6_chains_X6_canChain : GoodIn wsX6_chains wsX6_canChain := goodIn_r _ [13, 14, 15, 16, 17, 18, 19, 4, 20, 6, 21, 22, 23, 24, 25, 26, 27, 28, 29, 30, 31, 32, 33, 34, 35, 36, 37, 38, 39, 40, 41, 42, 43, 44, 45, 46, 47, 48, 49, 50, 51, 52, 53, 54, 55, 56, 57, 58, 59, 60, 61, 62, 63, 64, 65, 66, 94, 95, 96, 97, 98, 99, 100, 101, 102, 103, 104, 105, 106, 107, 108, 109, 110, 111, 112, 113, 114] (by decide +kernel) (by decide +kernel)
set_option maxRecDepth 20000 in
theorem gX6_chains_X6_canChain : GoodIn wsX6_chains (wsV RX6 188 RX6 yX6_canChain wsX6_canChain) := goodIn_app (goodIn_of _ (by decide +kernel)) ggX6_chains_X6_canChain
set_option maxRecDepth 20000 in
theorem ggX6_chains_X6_comesMade : GoodIn wsX6_chains wsX6_comesMade := goodIn_r _ [70, 6, 66, 71, 72, 73, 4, 74, 75, 76, 77, 78, 79, 80, 81, 82, 83, 84, 85, 86, 87, 88, 89, 21, 22, 23, 24, 94, 95, 96, 97, 98, 99, 100, 101, 102, 103, 104, 105, 106, 107, 108, 109, 110, 111, 112, 113, 114] (by decide +kernel) (by decide +kernel)
set_option maxRecDepth 20000 in
theorem gX6_chains_X6_comesMade : GoodIn wsX6_chains (wsV RX6 171 RX6 yX6_comesMade wsX6_comesMade) := goodIn_app (goodIn_of _ (by decide +kernel)) ggX6_chains_X6_comesMade
set_option maxRecDepth 20000 in
theorem ggX6_chains_X6_bad : GoodIn wsX6_chains wsX6_bad := goodIn_r _ [93, 75, 94, 95, 96, 97, 98, 99, 100, 101, 102, 103, 104, 105, 106, 107, 108, 109, 110, 111, 112, 113, 114] (by decide +kernel) (by decide +kernel)
set_option maxRecDepth 20000 in
theorem gX6_chains_X6_bad : GoodIn wsX6_chains (wsV RX6 105 RX6 yX6_bad wsX6_bad) := goodIn_app (goodIn_of _ (by decide +kernel)) ggX6_chains_X6_bad
theorem dX6_chains_0 : decode cX6_chains 0 = .ok (.aload_n 0, 1) := by decide +kernel
theorem dX6_chains_1 : decode cX6_chains 1 = .ok (.iload_n 1, 1) := by decide +kernel
theorem dX6_chains_2 : decode cX6_chains 2 = .ok (.invokevirtual 98, 3) := by decide +kernel
theorem dX6_chains_5 : decode cX6_chains 5 = .ok (.ifCond .eq 24, 3) := by decide +kernel
theorem dX6_chains_8 : decode cX6_chains 8 = .ok (.aload_n 0, 1) := by decide +kernel
theorem dX6_chains_9 : decode cX6_chains 9 = .ok (.iload_n 2, 1) := by decide +kernel
theorem dX6_chains_10 : decode cX6_chains 10 = .ok (.invokevirtual 98, 3) := by decide +kernel
theorem dX6_chains_13 : decode cX6_chains 13 = .ok (.ifCond .eq 16, 3) := by decide +kernel
theorem dX6_chains_16 : decode cX6_chains 16 = .ok (.aload_n 0, 1) := by decide +kernel
theorem dX6_chains_17 : decode cX6_chains 17 = .ok (.aload_n 0, 1) := by decide +kernel
theorem dX6_chains_18 : decode cX6_chains 18 = .ok (.iload_n 1, 1) := by decide +kernel
theorem dX6_chains_19 : decode cX6_chains 19 = .ok (.iload_n 2, 1) := by decide +kernel
theorem dX6_chains_20 : decode cX6_chains 20 = .ok (.invokevirtual 188, 3) := by decide +kernel
theorem dX6_chains_23 : decode cX6_chains 23 = .ok (.invokevirtual 171, 3) := by decide +kernel
theorem dX6_chains_26 : decode cX6_chains 26 = .ok (.goto 7, 3) := by decide +kernel
theorem dX6_chains_29 : decode cX6_chains 29 = .ok (.aload_n 0, 1) := by decide +kernel
theorem dX6_chains_30 : decode cX6_chains 30 = .ok (.invokevirtual 105, 3) := by decide +kernel
theorem dX6_chains_33 : decode cX6_chains 33 = .ok (.ireturn, 1) := by decide +kernel
set_option maxRecDepth 20000 in
theorem ggX6_canPeel_X6_formsTo : GoodIn wsX6_canPeel wsX6_formsTo := goodIn_r _ [9, 10, 11, 12, 13, 8, 14, 15, 16, 17, 18, 19, 20, 21, 22, 23, 24, 25, 26, 27, 28, 29, 30, 31, 32, 33, 34, 35, 36, 37, 1, 38, 39, 40, 41, 42, 43, 64, 65, 66, 67, 68, 69, 70, 71, 72, 73, 74, 75, 76, 77, 78, 79, 80, 81, 82, 83, 84] (by decide +kernel) (by decide +kernel)
set_option maxRecDepth 20000 in
theorem gX6_canPeel_X6_formsTo : GoodIn wsX6_canPeel (wsV RX6 178 RX6 yX6_formsTo wsX6_formsTo) := goodIn_app (goodIn_of _ (by decide +kernel)) ggX6_canPeel_X6_formsTo
set_option maxRecDepth 20000 in
theorem ggX6_canPeel_X6_inverts : GoodIn wsX6_canPeel wsX6_inverts := goodIn_r _ [47, 22, 23, 8, 24, 25, 26, 27, 28, 29, 30, 31, 32, 33, 34, 35, 36, 37, 1, 38, 39, 40, 41, 42, 43, 64, 65, 66, 67, 68, 69, 70, 71, 72, 73, 74, 75, 76, 77, 78, 79, 80, 81, 82, 83, 84] (by decide +kernel) (by decide +kernel)
set_option maxRecDepth 20000 in
theorem gX6_canPeel_X6_inverts : GoodIn wsX6_canPeel (wsV RX6 192 RX6 yX6_inverts wsX6_inverts) := goodIn_app (goodIn_of _ (by decide +kernel)) ggX6_canPeel_X6_inverts
set_option maxRecDepth 20000 in
theorem ggX6_canPeel_X6_multiplies : GoodIn wsX6_canPeel wsX6_multiplies := goodIn_r _ [51, 4, 2, 3, 22, 23, 8, 24, 25, 26, 27, 28, 29, 30, 52, 53, 54, 64, 65, 66, 67, 68, 69, 70, 71, 72, 73, 74, 75, 76, 77, 78, 79, 80, 81, 82, 83, 84] (by decide +kernel) (by decide +kernel)
set_option maxRecDepth 20000 in
theorem gX6_canPeel_X6_multiplies : GoodIn wsX6_canPeel (wsV RX6 182 RX6 yX6_multiplies wsX6_multiplies) := goodIn_app (goodIn_of _ (by decide +kernel)) ggX6_canPeel_X6_multiplies
set_option maxRecDepth 20000 in
theorem ggX6_canPeel_X6_copies : GoodIn wsX6_canPeel wsX6_copies := goodIn_r _ [58] (by decide +kernel) (by decide +kernel)
set_option maxRecDepth 20000 in
theorem gX6_canPeel_X6_copies : GoodIn wsX6_canPeel (wsV RX6 196 RX6 yX6_copies wsX6_copies) := goodIn_app (goodIn_of _ (by decide +kernel)) ggX6_canPeel_X6_copies
set_option maxRecDepth 20000 in
theorem ggX6_canPeel_X6_goesBack : GoodIn wsX6_canPeel wsX6_goesBack := goodIn_r _ [62, 4, 63, 22, 23, 8, 24, 25, 26, 27, 28, 29, 30, 31, 32, 33, 34, 35, 36, 37, 1, 38, 39, 40, 41, 42, 43, 64, 65, 66, 67, 68, 69, 70, 71, 72, 73, 74, 75, 76, 77, 78, 79, 80, 81, 82, 83, 84] (by decide +kernel) (by decide +kernel)
set_option maxRecDepth 20000 in
theorem gX6_canPeel_X6_goesBack : GoodIn wsX6_canPeel (wsV RX6 185 RX6 yX6_goesBack wsX6_goesBack) := goodIn_app (goodIn_of _ (by decide +kernel)) ggX6_canPeel_X6_goesBack
theorem dX6_canPeel_0 : decode cX6_canPeel 0 = .ok (.aload_n 0, 1) := by decide +kernel
theorem dX6_canPeel_1 : decode cX6_canPeel 1 = .ok (.iconst 0, 1) := by decide +kernel
theorem dX6_canPeel_2 : decode cX6_canPeel 2 = .ok (.putfield 68, 3) := by decide +kernel
theorem dX6_canPeel_5 : decode cX6_canPeel 5 = .ok (.aload_n 0, 1) := by decide +kernel
theorem dX6_canPeel_6 : decode cX6_canPeel 6 = .ok (.iload_n 2, 1) := by decide +kernel
theorem dX6_canPeel_7 : decode cX6_canPeel 7 = .ok (.aload_n 0, 1) := by decide +kernel
theorem dX6_canPeel_8 : decode cX6_canPeel 8 = .ok (.getfield 34, 3) := by decide +kernel
theorem dX6_canPeel_11 : decode cX6_canPeel 11 = .ok (.invokevirtual 178, 3) := by decide +kernel
theorem dX6_canPeel_14 : decode cX6_canPeel 14 = .ok (.aload_n 0, 1) := by decide +kernel
theorem dX6_canPeel_15 : decode cX6_canPeel 15 = .ok (.aload_n 0, 1) := by decide +kernel
theorem dX6_canPeel_16 : decode cX6_canPeel 16 = .ok (.getfield 34, 3) := by decide +kernel
theorem dX6_canPeel_19 : decode cX6_canPeel 19 = .ok (.invokevirtual 192, 3) := by decide +kernel
theorem dX6_canPeel_22 : decode cX6_canPeel 22 = .ok (.aload_n 0, 1) := by decide +kernel
theorem dX6_canPeel_23 : decode cX6_canPeel 23 = .ok (.iload_n 1, 1) := by decide +kernel
theorem dX6_canPeel_24 : decode cX6_canPeel 24 = .ok (.aload_n 0, 1) := by decide +kernel
theorem dX6_canPeel_25 : decode cX6_canPeel 25 = .ok (.getfield 37, 3) := by decide +kernel
theorem dX6_canPeel_28 : decode cX6_canPeel 28 = .ok (.invokevirtual 178, 3) := by decide +kernel
theorem dX6_canPeel_31 : decode cX6_canPeel 31 = .ok (.aload_n 0, 1) := by decide +kernel
theorem dX6_canPeel_32 : decode cX6_canPeel 32 = .ok (.invokevirtual 182, 3) := by decide +kernel
theorem dX6_canPeel_35 : decode cX6_canPeel 35 = .ok (.aload_n 0, 1) := by decide +kernel
theorem dX6_canPeel_36 : decode cX6_canPeel 36 = .ok (.aload_n 0, 1) := by decide +kernel
theorem dX6_canPeel_37 : decode cX6_canPeel 37 = .ok (.getfield 40, 3) := by decide +kernel
theorem dX6_canPeel_40 : decode cX6_canPeel 40 = .ok (.aload_n 0, 1) := by decide +kernel
theorem dX6_canPeel_41 : decode cX6_canPeel 41 = .ok (.getfield 34, 3) := by decide +kernel
theorem dX6_canPeel_44 : decode cX6_canPeel 44 = .ok (.invokevirtual 196, 3) := by decide +kernel
theorem dX6_canPeel_47 : decode cX6_canPeel 47 = .ok (.aload_n 0, 1) := by decide +kernel
theorem dX6_canPeel_48 : decode cX6_canPeel 48 = .ok (.iload_n 3, 1) := by decide +kernel
theorem dX6_canPeel_49 : decode cX6_canPeel 49 = .ok (.aload_n 0, 1) := by decide +kernel
theorem dX6_canPeel_50 : decode cX6_canPeel 50 = .ok (.getfield 37, 3) := by decide +kernel
theorem dX6_canPeel_53 : decode cX6_canPeel 53 = .ok (.invokevirtual 178, 3) := by decide +kernel
theorem dX6_canPeel_56 : decode cX6_canPeel 56 = .ok (.aload_n 0, 1) := by decide +kernel
theorem dX6_canPeel_57 : decode cX6_canPeel 57 = .ok (.aload_n 0, 1) := by decide +kernel
theorem dX6_canPeel_58 : decode cX6_canPeel 58 = .ok (.getfield 37, 3) := by decide +kernel
theorem dX6_canPeel_61 : decode cX6_canPeel 61 = .ok (.invokevirtual 192, 3) := by decide +kernel
theorem dX6_canPeel_64 : decode cX6_canPeel 64 = .ok (.aload_n 0, 1) := by decide +kernel
theorem dX6_canPeel_65 : decode cX6_canPeel 65 = .ok (.invokevirtual 182, 3) := by decide +kernel
theorem dX6_canPeel_68 : decode cX6_canPeel 68 = .ok (.aload_n 0, 1) := by decide +kernel
theorem dX6_canPeel_69 : decode cX6_canPeel 69 = .ok (.invokevirtual 185, 3) := by decide +kernel
theorem dX6_canPeel_72 : decode cX6_canPeel 72 = .ok (.aload_n 0, 1) := by decide +kernel
theorem dX6_canPeel_73 : decode cX6_canPeel 73 = .ok (.getfield 68, 3) := by decide +kernel
theorem dX6_canPeel_76 : decode cX6_canPeel 76 = .ok (.ifCond .ne 7, 3) := by decide +kernel
theorem dX6_canPeel_79 : decode cX6_canPeel 79 = .ok (.iconst 1, 1) := by decide +kernel
theorem dX6_canPeel_80 : decode cX6_canPeel 80 = .ok (.goto 4, 3) := by decide +kernel
theorem dX6_canPeel_83 : decode cX6_canPeel 83 = .ok (.iconst 0, 1) := by decide +kernel
theorem dX6_canPeel_84 : decode cX6_canPeel 84 = .ok (.ireturn, 1) := by decide +kernel
set_option maxRecDepth 20000 in
theorem ggX6_peels_X6_isBox : GoodIn wsX6_peels wsX6_isBox := goodIn_r _ [5, 6, 7, 8, 4, 9, 102, 103, 104, 105, 106, 107, 108, 109, 110, 111, 112, 113, 114, 115, 116, 117, 118, 119, 120, 121, 122] (by decide +kernel) (by decide +kernel)
set_option maxRecDepth 20000 in
theorem gX6_peels_X6_isBox : GoodIn wsX6_peels (wsV RX6 98 RX6 yX6_isBox wsX6_isBox) := goodIn_app (goodIn_of _ (by decide +kernel)) ggX6_peels_X6_isBox
set_option maxRecDepth 20000 in
theorem ggX6_peels_X6_canPeel : GoodIn wsX6_peels wsX6_canPeel := goodIn_r _ [13, 14, 15, 16, 17, 18, 19, 20, 4, 21, 6, 22, 23, 24, 25, 26, 27, 28, 29, 30, 31, 32, 33, 34, 35, 36, 37, 38, 39, 40, 41, 42, 43, 44, 45, 46, 47, 48, 49, 50, 51, 52, 53, 54, 55, 56, 57, 58, 59, 60, 61, 62, 63, 64, 65, 66, 67, 68, 69, 70, 71, 72, 73, 74, 102, 103, 104, 105, 106, 107, 108, 109, 110, 111, 112, 113, 114, 115, 116, 117, 118, 119, 120, 121, 122] (by decide +kernel) (by decide +kernel)
set_option maxRecDepth 20000 in
theorem gX6_peels_X6_canPeel : GoodIn wsX6_peels (wsV RX6 200 RX6 yX6_canPeel wsX6_canPeel) := goodIn_app (goodIn_of _ (by decide +kernel)) ggX6_peels_X6_canPeel
set_option maxRecDepth 20000 in
theorem ggX6_peels_X6_comesMade : GoodIn wsX6_peels wsX6_comesMade := goodIn_r _ [78, 6, 74, 79, 80, 81, 4, 82, 83, 84, 85, 86, 87, 88, 89, 90, 91, 92, 93, 94, 95, 96, 97, 22, 23, 24, 25, 102, 103, 104, 105, 106, 107, 108, 109, 110, 111, 112, 113, 114, 115, 116, 117, 118, 119, 120, 121, 122] (by decide +kernel) (by decide +kernel)
set_option maxRecDepth 20000 in
theorem gX6_peels_X6_comesMade : GoodIn wsX6_peels (wsV RX6 171 RX6 yX6_comesMade wsX6_comesMade) := goodIn_app (goodIn_of _ (by decide +kernel)) ggX6_peels_X6_comesMade
set_option maxRecDepth 20000 in
theorem ggX6_peels_X6_bad : GoodIn wsX6_peels wsX6_bad := goodIn_r _ [101, 83, 102, 103, 104, 105, 106, 107, 108, 109, 110, 111, 112, 113, 114, 115, 116, 117, 118, 119, 120, 121, 122] (by decide +kernel) (by decide +kernel)
set_option maxRecDepth 20000 in
theorem gX6_peels_X6_bad : GoodIn wsX6_peels (wsV RX6 105 RX6 yX6_bad wsX6_bad) := goodIn_app (goodIn_of _ (by decide +kernel)) ggX6_peels_X6_bad
theorem dX6_peels_0 : decode cX6_peels 0 = .ok (.aload_n 0, 1) := by decide +kernel
theorem dX6_peels_1 : decode cX6_peels 1 = .ok (.iload_n 1, 1) := by decide +kernel
theorem dX6_peels_2 : decode cX6_peels 2 = .ok (.invokevirtual 98, 3) := by decide +kernel
theorem dX6_peels_5 : decode cX6_peels 5 = .ok (.ifCond .eq 33, 3) := by decide +kernel
theorem dX6_peels_8 : decode cX6_peels 8 = .ok (.aload_n 0, 1) := by decide +kernel
theorem dX6_peels_9 : decode cX6_peels 9 = .ok (.iload_n 2, 1) := by decide +kernel
theorem dX6_peels_10 : decode cX6_peels 10 = .ok (.invokevirtual 98, 3) := by decide +kernel
theorem dX6_peels_13 : decode cX6_peels 13 = .ok (.ifCond .eq 25, 3) := by decide +kernel
theorem dX6_peels_16 : decode cX6_peels 16 = .ok (.aload_n 0, 1) := by decide +kernel
theorem dX6_peels_17 : decode cX6_peels 17 = .ok (.iload_n 3, 1) := by decide +kernel
theorem dX6_peels_18 : decode cX6_peels 18 = .ok (.invokevirtual 98, 3) := by decide +kernel
theorem dX6_peels_21 : decode cX6_peels 21 = .ok (.ifCond .eq 17, 3) := by decide +kernel
theorem dX6_peels_24 : decode cX6_peels 24 = .ok (.aload_n 0, 1) := by decide +kernel
theorem dX6_peels_25 : decode cX6_peels 25 = .ok (.aload_n 0, 1) := by decide +kernel
theorem dX6_peels_26 : decode cX6_peels 26 = .ok (.iload_n 1, 1) := by decide +kernel
theorem dX6_peels_27 : decode cX6_peels 27 = .ok (.iload_n 2, 1) := by decide +kernel
theorem dX6_peels_28 : decode cX6_peels 28 = .ok (.iload_n 3, 1) := by decide +kernel
theorem dX6_peels_29 : decode cX6_peels 29 = .ok (.invokevirtual 200, 3) := by decide +kernel
theorem dX6_peels_32 : decode cX6_peels 32 = .ok (.invokevirtual 171, 3) := by decide +kernel
theorem dX6_peels_35 : decode cX6_peels 35 = .ok (.goto 7, 3) := by decide +kernel
theorem dX6_peels_38 : decode cX6_peels 38 = .ok (.aload_n 0, 1) := by decide +kernel
theorem dX6_peels_39 : decode cX6_peels 39 = .ok (.invokevirtual 105, 3) := by decide +kernel
theorem dX6_peels_42 : decode cX6_peels 42 = .ok (.ireturn, 1) := by decide +kernel
set_option maxRecDepth 20000 in
theorem ggX6_turns_X6_isBox : GoodIn wsX6_turns wsX6_isBox := goodIn_r _ [7, 2, 8, 9, 6, 10, 42, 43, 44, 45, 46, 47, 48, 49, 50, 51, 52, 53, 54, 55, 56, 57, 58, 59, 60, 61, 62] (by decide +kernel) (by decide +kernel)
set_option maxRecDepth 20000 in
theorem gX6_turns_X6_isBox : GoodIn wsX6_turns (wsV RX6 98 RX6 yX6_isBox wsX6_isBox) := goodIn_app (goodIn_of _ (by decide +kernel)) ggX6_turns_X6_isBox
set_option maxRecDepth 20000 in
theorem ggX6_turns_X6_bad : GoodIn wsX6_turns wsX6_bad := goodIn_r _ [14, 15, 42, 43, 44, 45, 46, 47, 48, 49, 50, 51, 52, 53, 54, 55, 56, 57, 58, 59, 60, 61, 62] (by decide +kernel) (by decide +kernel)
set_option maxRecDepth 20000 in
theorem gX6_turns_X6_bad : GoodIn wsX6_turns (wsV RX6 105 RX6 yX6_bad wsX6_bad) := goodIn_app (goodIn_of _ (by decide +kernel)) ggX6_turns_X6_bad
set_option maxRecDepth 20000 in
theorem ggX6_turns_X6_boxAt : GoodIn wsX6_turns wsX6_boxAt := goodIn_r _ [19] (by decide +kernel) (by decide +kernel)
set_option maxRecDepth 20000 in
theorem gX6_turns_X6_boxAt : GoodIn wsX6_turns (wsV RX6 85 RX6 yX6_boxAt wsX6_boxAt) := goodIn_app (goodIn_of _ (by decide +kernel)) ggX6_turns_X6_boxAt
set_option maxRecDepth 20000 in
theorem ggX6_turns_X6_comesMade : GoodIn wsX6_turns wsX6_comesMade := goodIn_r _ [23, 2, 1, 24, 25, 26, 6, 27, 15, 28, 29, 30, 31, 32, 33, 34, 35, 36, 37, 38, 39, 40, 41, 16, 17, 18, 19, 42, 43, 44, 45, 46, 47, 48, 49, 50, 51, 52, 53, 54, 55, 56, 57, 58, 59, 60, 61, 62] (by decide +kernel) (by decide +kernel)
set_option maxRecDepth 20000 in
theorem gX6_turns_X6_comesMade : GoodIn wsX6_turns (wsV RX6 171 RX6 yX6_comesMade wsX6_comesMade) := goodIn_app (goodIn_of _ (by decide +kernel)) ggX6_turns_X6_comesMade
theorem dX6_turns_0 : decode cX6_turns 0 = .ok (.aload_n 0, 1) := by decide +kernel
theorem dX6_turns_1 : decode cX6_turns 1 = .ok (.iload_n 1, 1) := by decide +kernel
theorem dX6_turns_2 : decode cX6_turns 2 = .ok (.invokevirtual 98, 3) := by decide +kernel
theorem dX6_turns_5 : decode cX6_turns 5 = .ok (.ifCond .ne 8, 3) := by decide +kernel
theorem dX6_turns_8 : decode cX6_turns 8 = .ok (.aload_n 0, 1) := by decide +kernel
theorem dX6_turns_9 : decode cX6_turns 9 = .ok (.invokevirtual 105, 3) := by decide +kernel
theorem dX6_turns_12 : decode cX6_turns 12 = .ok (.ireturn, 1) := by decide +kernel
theorem dX6_turns_13 : decode cX6_turns 13 = .ok (.iconst 0, 1) := by decide +kernel
theorem dX6_turns_14 : decode cX6_turns 14 = .ok (.istore_n 2, 1) := by decide +kernel
theorem dX6_turns_15 : decode cX6_turns 15 = .ok (.iload_n 2, 1) := by decide +kernel
theorem dX6_turns_16 : decode cX6_turns 16 = .ok (.iconst 4, 1) := by decide +kernel
theorem dX6_turns_17 : decode cX6_turns 17 = .ok (.if_icmp .ge 29, 3) := by decide +kernel
theorem dX6_turns_20 : decode cX6_turns 20 = .ok (.aload_n 0, 1) := by decide +kernel
theorem dX6_turns_21 : decode cX6_turns 21 = .ok (.getfield 31, 3) := by decide +kernel
theorem dX6_turns_24 : decode cX6_turns 24 = .ok (.iload_n 2, 1) := by decide +kernel
theorem dX6_turns_25 : decode cX6_turns 25 = .ok (.aload_n 0, 1) := by decide +kernel
theorem dX6_turns_26 : decode cX6_turns 26 = .ok (.getfield 7, 3) := by decide +kernel
theorem dX6_turns_29 : decode cX6_turns 29 = .ok (.aload_n 0, 1) := by decide +kernel
theorem dX6_turns_30 : decode cX6_turns 30 = .ok (.iload_n 1, 1) := by decide +kernel
theorem dX6_turns_31 : decode cX6_turns 31 = .ok (.invokevirtual 85, 3) := by decide +kernel
theorem dX6_turns_34 : decode cX6_turns 34 = .ok (.iconst 3, 1) := by decide +kernel
theorem dX6_turns_35 : decode cX6_turns 35 = .ok (.iadd, 1) := by decide +kernel
theorem dX6_turns_36 : decode cX6_turns 36 = .ok (.iload_n 2, 1) := by decide +kernel
theorem dX6_turns_37 : decode cX6_turns 37 = .ok (.isub, 1) := by decide +kernel
theorem dX6_turns_38 : decode cX6_turns 38 = .ok (.iaload, 1) := by decide +kernel
theorem dX6_turns_39 : decode cX6_turns 39 = .ok (.iastore, 1) := by decide +kernel
theorem dX6_turns_40 : decode cX6_turns 40 = .ok (.iinc 2 1, 3) := by decide +kernel
theorem dX6_turns_43 : decode cX6_turns 43 = .ok (.goto (-28), 3) := by decide +kernel
theorem dX6_turns_46 : decode cX6_turns 46 = .ok (.aload_n 0, 1) := by decide +kernel
theorem dX6_turns_47 : decode cX6_turns 47 = .ok (.iconst 1, 1) := by decide +kernel
theorem dX6_turns_48 : decode cX6_turns 48 = .ok (.invokevirtual 171, 3) := by decide +kernel
theorem dX6_turns_51 : decode cX6_turns 51 = .ok (.ireturn, 1) := by decide +kernel
set_option maxRecDepth 20000 in
theorem ggX6_formsSecond_X6_boxAt : GoodIn wsX6_formsSecond wsX6_boxAt := goodIn_r _ [7] (by decide +kernel) (by decide +kernel)
set_option maxRecDepth 20000 in
theorem gX6_formsSecond_X6_boxAt : GoodIn wsX6_formsSecond (wsV RX6 85 RX6 yX6_boxAt wsX6_boxAt) := goodIn_app (goodIn_of _ (by decide +kernel)) ggX6_formsSecond_X6_boxAt
set_option maxRecDepth 20000 in
theorem ggX6_formsSecond_X6_by : GoodIn wsX6_formsSecond wsX6_by := goodIn_r _ [10, 11, 12, 6, 13, 14, 15, 16] (by decide +kernel) (by decide +kernel)
set_option maxRecDepth 20000 in
theorem gX6_formsSecond_X6_by : GoodIn wsX6_formsSecond (va_wsS RX6 78 yX6_by wsX6_by) := goodIn_app (goodIn_of _ (by decide +kernel)) ggX6_formsSecond_X6_by
set_option maxRecDepth 20000 in
theorem ggX6_formsSecond_X6_less : GoodIn wsX6_formsSecond wsX6_less := goodIn_r _ [19, 11, 12, 6, 13, 14, 15, 16] (by decide +kernel) (by decide +kernel)
set_option maxRecDepth 20000 in
theorem gX6_formsSecond_X6_less : GoodIn wsX6_formsSecond (va_wsS RX6 114 yX6_less wsX6_less) := goodIn_app (goodIn_of _ (by decide +kernel)) ggX6_formsSecond_X6_less
set_option maxRecDepth 20000 in
theorem ggX6_formsSecond_X6_plus : GoodIn wsX6_formsSecond wsX6_plus := goodIn_r _ [22, 11, 12, 6, 13, 14, 15, 16] (by decide +kernel) (by decide +kernel)
set_option maxRecDepth 20000 in
theorem gX6_formsSecond_X6_plus : GoodIn wsX6_formsSecond (va_wsS RX6 117 yX6_plus wsX6_plus) := goodIn_app (goodIn_of _ (by decide +kernel)) ggX6_formsSecond_X6_plus
set_option maxRecDepth 20000 in
theorem ggX6_formsSecond_X6_over : GoodIn wsX6_formsSecond wsX6_over := goodIn_r _ [26, 27, 28, 29, 6, 30, 31, 32, 33, 11, 12, 13, 14, 15, 16, 8, 9, 10, 34, 35, 36, 37, 38, 39, 40, 41, 42, 43, 44, 45, 46, 47, 48, 49, 50, 51, 52, 53, 54] (by decide +kernel) (by decide +kernel)
set_option maxRecDepth 20000 in
theorem gX6_formsSecond_X6_over : GoodIn wsX6_formsSecond (wsV RX6 123 RX6 yX6_over wsX6_over) := goodIn_app (goodIn_of _ (by decide +kernel)) ggX6_formsSecond_X6_over
theorem dX6_formsSecond_0 : decode cX6_formsSecond 0 = .ok (.aload_n 0, 1) := by decide +kernel
theorem dX6_formsSecond_1 : decode cX6_formsSecond 1 = .ok (.iload_n 1, 1) := by decide +kernel
theorem dX6_formsSecond_2 : decode cX6_formsSecond 2 = .ok (.invokevirtual 85, 3) := by decide +kernel
theorem dX6_formsSecond_5 : decode cX6_formsSecond 5 = .ok (.istore_n 2, 1) := by decide +kernel
theorem dX6_formsSecond_6 : decode cX6_formsSecond 6 = .ok (.aload_n 0, 1) := by decide +kernel
theorem dX6_formsSecond_7 : decode cX6_formsSecond 7 = .ok (.getfield 7, 3) := by decide +kernel
theorem dX6_formsSecond_10 : decode cX6_formsSecond 10 = .ok (.iload_n 2, 1) := by decide +kernel
theorem dX6_formsSecond_11 : decode cX6_formsSecond 11 = .ok (.iaload, 1) := by decide +kernel
theorem dX6_formsSecond_12 : decode cX6_formsSecond 12 = .ok (.istore_n 3, 1) := by decide +kernel
theorem dX6_formsSecond_13 : decode cX6_formsSecond 13 = .ok (.aload_n 0, 1) := by decide +kernel
theorem dX6_formsSecond_14 : decode cX6_formsSecond 14 = .ok (.getfield 7, 3) := by decide +kernel
theorem dX6_formsSecond_17 : decode cX6_formsSecond 17 = .ok (.iload_n 2, 1) := by decide +kernel
theorem dX6_formsSecond_18 : decode cX6_formsSecond 18 = .ok (.iconst 3, 1) := by decide +kernel
theorem dX6_formsSecond_19 : decode cX6_formsSecond 19 = .ok (.iadd, 1) := by decide +kernel
theorem dX6_formsSecond_20 : decode cX6_formsSecond 20 = .ok (.iaload, 1) := by decide +kernel
theorem dX6_formsSecond_21 : decode cX6_formsSecond 21 = .ok (.istore 4, 2) := by decide +kernel
theorem dX6_formsSecond_23 : decode cX6_formsSecond 23 = .ok (.aload_n 0, 1) := by decide +kernel
theorem dX6_formsSecond_24 : decode cX6_formsSecond 24 = .ok (.getfield 7, 3) := by decide +kernel
theorem dX6_formsSecond_27 : decode cX6_formsSecond 27 = .ok (.iload_n 2, 1) := by decide +kernel
theorem dX6_formsSecond_28 : decode cX6_formsSecond 28 = .ok (.iconst 1, 1) := by decide +kernel
theorem dX6_formsSecond_29 : decode cX6_formsSecond 29 = .ok (.iadd, 1) := by decide +kernel
theorem dX6_formsSecond_30 : decode cX6_formsSecond 30 = .ok (.iaload, 1) := by decide +kernel
theorem dX6_formsSecond_31 : decode cX6_formsSecond 31 = .ok (.aload_n 0, 1) := by decide +kernel
theorem dX6_formsSecond_32 : decode cX6_formsSecond 32 = .ok (.getfield 7, 3) := by decide +kernel
theorem dX6_formsSecond_35 : decode cX6_formsSecond 35 = .ok (.iload_n 2, 1) := by decide +kernel
theorem dX6_formsSecond_36 : decode cX6_formsSecond 36 = .ok (.iconst 2, 1) := by decide +kernel
theorem dX6_formsSecond_37 : decode cX6_formsSecond 37 = .ok (.iadd, 1) := by decide +kernel
theorem dX6_formsSecond_38 : decode cX6_formsSecond 38 = .ok (.iaload, 1) := by decide +kernel
theorem dX6_formsSecond_39 : decode cX6_formsSecond 39 = .ok (.invokestatic 78, 3) := by decide +kernel
theorem dX6_formsSecond_42 : decode cX6_formsSecond 42 = .ok (.istore 5, 2) := by decide +kernel
theorem dX6_formsSecond_44 : decode cX6_formsSecond 44 = .ok (.sipush 10007, 3) := by decide +kernel
theorem dX6_formsSecond_47 : decode cX6_formsSecond 47 = .ok (.iload_n 3, 1) := by decide +kernel
theorem dX6_formsSecond_48 : decode cX6_formsSecond 48 = .ok (.invokestatic 114, 3) := by decide +kernel
theorem dX6_formsSecond_51 : decode cX6_formsSecond 51 = .ok (.sipush 10007, 3) := by decide +kernel
theorem dX6_formsSecond_54 : decode cX6_formsSecond 54 = .ok (.iload 4, 2) := by decide +kernel
theorem dX6_formsSecond_56 : decode cX6_formsSecond 56 = .ok (.invokestatic 114, 3) := by decide +kernel
theorem dX6_formsSecond_59 : decode cX6_formsSecond 59 = .ok (.invokestatic 78, 3) := by decide +kernel
theorem dX6_formsSecond_62 : decode cX6_formsSecond 62 = .ok (.iload 5, 2) := by decide +kernel
theorem dX6_formsSecond_64 : decode cX6_formsSecond 64 = .ok (.invokestatic 114, 3) := by decide +kernel
theorem dX6_formsSecond_67 : decode cX6_formsSecond 67 = .ok (.istore 6, 2) := by decide +kernel
theorem dX6_formsSecond_69 : decode cX6_formsSecond 69 = .ok (.aload_n 0, 1) := by decide +kernel
theorem dX6_formsSecond_70 : decode cX6_formsSecond 70 = .ok (.getfield 34, 3) := by decide +kernel
theorem dX6_formsSecond_73 : decode cX6_formsSecond 73 = .ok (.iconst 0, 1) := by decide +kernel
theorem dX6_formsSecond_74 : decode cX6_formsSecond 74 = .ok (.aload_n 0, 1) := by decide +kernel
theorem dX6_formsSecond_75 : decode cX6_formsSecond 75 = .ok (.sipush 10007, 3) := by decide +kernel
theorem dX6_formsSecond_78 : decode cX6_formsSecond 78 = .ok (.iload_n 3, 1) := by decide +kernel
theorem dX6_formsSecond_79 : decode cX6_formsSecond 79 = .ok (.invokestatic 117, 3) := by decide +kernel
theorem dX6_formsSecond_82 : decode cX6_formsSecond 82 = .ok (.sipush 10007, 3) := by decide +kernel
theorem dX6_formsSecond_85 : decode cX6_formsSecond 85 = .ok (.iload 4, 2) := by decide +kernel
theorem dX6_formsSecond_87 : decode cX6_formsSecond 87 = .ok (.invokestatic 114, 3) := by decide +kernel
theorem dX6_formsSecond_90 : decode cX6_formsSecond 90 = .ok (.invokestatic 78, 3) := by decide +kernel
theorem dX6_formsSecond_93 : decode cX6_formsSecond 93 = .ok (.iload 5, 2) := by decide +kernel
theorem dX6_formsSecond_95 : decode cX6_formsSecond 95 = .ok (.invokestatic 117, 3) := by decide +kernel
theorem dX6_formsSecond_98 : decode cX6_formsSecond 98 = .ok (.iload 6, 2) := by decide +kernel
theorem dX6_formsSecond_100 : decode cX6_formsSecond 100 = .ok (.invokevirtual 123, 3) := by decide +kernel
theorem dX6_formsSecond_103 : decode cX6_formsSecond 103 = .ok (.iastore, 1) := by decide +kernel
theorem dX6_formsSecond_104 : decode cX6_formsSecond 104 = .ok (.aload_n 0, 1) := by decide +kernel
theorem dX6_formsSecond_105 : decode cX6_formsSecond 105 = .ok (.getfield 34, 3) := by decide +kernel
theorem dX6_formsSecond_108 : decode cX6_formsSecond 108 = .ok (.iconst 1, 1) := by decide +kernel
theorem dX6_formsSecond_109 : decode cX6_formsSecond 109 = .ok (.aload_n 0, 1) := by decide +kernel
theorem dX6_formsSecond_110 : decode cX6_formsSecond 110 = .ok (.aload_n 0, 1) := by decide +kernel
theorem dX6_formsSecond_111 : decode cX6_formsSecond 111 = .ok (.getfield 7, 3) := by decide +kernel
theorem dX6_formsSecond_114 : decode cX6_formsSecond 114 = .ok (.iload_n 2, 1) := by decide +kernel
theorem dX6_formsSecond_115 : decode cX6_formsSecond 115 = .ok (.iconst 1, 1) := by decide +kernel
theorem dX6_formsSecond_116 : decode cX6_formsSecond 116 = .ok (.iadd, 1) := by decide +kernel
theorem dX6_formsSecond_117 : decode cX6_formsSecond 117 = .ok (.iaload, 1) := by decide +kernel
theorem dX6_formsSecond_118 : decode cX6_formsSecond 118 = .ok (.aload_n 0, 1) := by decide +kernel
theorem dX6_formsSecond_119 : decode cX6_formsSecond 119 = .ok (.getfield 7, 3) := by decide +kernel
theorem dX6_formsSecond_122 : decode cX6_formsSecond 122 = .ok (.iload_n 2, 1) := by decide +kernel
theorem dX6_formsSecond_123 : decode cX6_formsSecond 123 = .ok (.iconst 1, 1) := by decide +kernel
theorem dX6_formsSecond_124 : decode cX6_formsSecond 124 = .ok (.iadd, 1) := by decide +kernel
theorem dX6_formsSecond_125 : decode cX6_formsSecond 125 = .ok (.iaload, 1) := by decide +kernel
theorem dX6_formsSecond_126 : decode cX6_formsSecond 126 = .ok (.invokestatic 117, 3) := by decide +kernel
theorem dX6_formsSecond_129 : decode cX6_formsSecond 129 = .ok (.iload 6, 2) := by decide +kernel
theorem dX6_formsSecond_131 : decode cX6_formsSecond 131 = .ok (.invokevirtual 123, 3) := by decide +kernel
theorem dX6_formsSecond_134 : decode cX6_formsSecond 134 = .ok (.iastore, 1) := by decide +kernel
theorem dX6_formsSecond_135 : decode cX6_formsSecond 135 = .ok (.aload_n 0, 1) := by decide +kernel
theorem dX6_formsSecond_136 : decode cX6_formsSecond 136 = .ok (.getfield 34, 3) := by decide +kernel
theorem dX6_formsSecond_139 : decode cX6_formsSecond 139 = .ok (.iconst 2, 1) := by decide +kernel
theorem dX6_formsSecond_140 : decode cX6_formsSecond 140 = .ok (.aload_n 0, 1) := by decide +kernel
theorem dX6_formsSecond_141 : decode cX6_formsSecond 141 = .ok (.aload_n 0, 1) := by decide +kernel
theorem dX6_formsSecond_142 : decode cX6_formsSecond 142 = .ok (.getfield 7, 3) := by decide +kernel
theorem dX6_formsSecond_145 : decode cX6_formsSecond 145 = .ok (.iload_n 2, 1) := by decide +kernel
theorem dX6_formsSecond_146 : decode cX6_formsSecond 146 = .ok (.iconst 2, 1) := by decide +kernel
theorem dX6_formsSecond_147 : decode cX6_formsSecond 147 = .ok (.iadd, 1) := by decide +kernel
theorem dX6_formsSecond_148 : decode cX6_formsSecond 148 = .ok (.iaload, 1) := by decide +kernel
theorem dX6_formsSecond_149 : decode cX6_formsSecond 149 = .ok (.aload_n 0, 1) := by decide +kernel
theorem dX6_formsSecond_150 : decode cX6_formsSecond 150 = .ok (.getfield 7, 3) := by decide +kernel
theorem dX6_formsSecond_153 : decode cX6_formsSecond 153 = .ok (.iload_n 2, 1) := by decide +kernel
theorem dX6_formsSecond_154 : decode cX6_formsSecond 154 = .ok (.iconst 2, 1) := by decide +kernel
theorem dX6_formsSecond_155 : decode cX6_formsSecond 155 = .ok (.iadd, 1) := by decide +kernel
theorem dX6_formsSecond_156 : decode cX6_formsSecond 156 = .ok (.iaload, 1) := by decide +kernel
theorem dX6_formsSecond_157 : decode cX6_formsSecond 157 = .ok (.invokestatic 117, 3) := by decide +kernel
theorem dX6_formsSecond_160 : decode cX6_formsSecond 160 = .ok (.iload 6, 2) := by decide +kernel
theorem dX6_formsSecond_162 : decode cX6_formsSecond 162 = .ok (.invokevirtual 123, 3) := by decide +kernel
theorem dX6_formsSecond_165 : decode cX6_formsSecond 165 = .ok (.iastore, 1) := by decide +kernel
theorem dX6_formsSecond_166 : decode cX6_formsSecond 166 = .ok (.aload_n 0, 1) := by decide +kernel
theorem dX6_formsSecond_167 : decode cX6_formsSecond 167 = .ok (.getfield 34, 3) := by decide +kernel
theorem dX6_formsSecond_170 : decode cX6_formsSecond 170 = .ok (.iconst 3, 1) := by decide +kernel
theorem dX6_formsSecond_171 : decode cX6_formsSecond 171 = .ok (.aload_n 0, 1) := by decide +kernel
theorem dX6_formsSecond_172 : decode cX6_formsSecond 172 = .ok (.sipush 10007, 3) := by decide +kernel
theorem dX6_formsSecond_175 : decode cX6_formsSecond 175 = .ok (.iload_n 3, 1) := by decide +kernel
theorem dX6_formsSecond_176 : decode cX6_formsSecond 176 = .ok (.invokestatic 114, 3) := by decide +kernel
theorem dX6_formsSecond_179 : decode cX6_formsSecond 179 = .ok (.sipush 10007, 3) := by decide +kernel
theorem dX6_formsSecond_182 : decode cX6_formsSecond 182 = .ok (.iload 4, 2) := by decide +kernel
theorem dX6_formsSecond_184 : decode cX6_formsSecond 184 = .ok (.invokestatic 117, 3) := by decide +kernel
theorem dX6_formsSecond_187 : decode cX6_formsSecond 187 = .ok (.invokestatic 78, 3) := by decide +kernel
theorem dX6_formsSecond_190 : decode cX6_formsSecond 190 = .ok (.iload 5, 2) := by decide +kernel
theorem dX6_formsSecond_192 : decode cX6_formsSecond 192 = .ok (.invokestatic 117, 3) := by decide +kernel
theorem dX6_formsSecond_195 : decode cX6_formsSecond 195 = .ok (.iload 6, 2) := by decide +kernel
theorem dX6_formsSecond_197 : decode cX6_formsSecond 197 = .ok (.invokevirtual 123, 3) := by decide +kernel
theorem dX6_formsSecond_200 : decode cX6_formsSecond 200 = .ok (.iastore, 1) := by decide +kernel
theorem dX6_formsSecond_201 : decode cX6_formsSecond 201 = .ok (.return_, 1) := by decide +kernel
set_option maxRecDepth 20000 in
theorem ggX6_form_X6_isBox : GoodIn wsX6_form wsX6_isBox := goodIn_r _ [7, 8, 9, 10, 6, 11, 69, 70, 71, 72, 73, 74, 75, 76, 77, 78, 79, 80, 81, 82, 83, 84, 85, 86, 87, 88, 89] (by decide +kernel) (by decide +kernel)
set_option maxRecDepth 20000 in
theorem gX6_form_X6_isBox : GoodIn wsX6_form (wsV RX6 98 RX6 yX6_isBox wsX6_isBox) := goodIn_app (goodIn_of _ (by decide +kernel)) ggX6_form_X6_isBox
set_option maxRecDepth 20000 in
theorem ggX6_form_X6_in : GoodIn wsX6_form wsX6_in := goodIn_r _ [11] (by decide +kernel) (by decide +kernel)
set_option maxRecDepth 20000 in
theorem gX6_form_X6_in : GoodIn wsX6_form (va_wsS RX6 81 yX6_in wsX6_in) := goodIn_app (goodIn_of _ (by decide +kernel)) ggX6_form_X6_in
set_option maxRecDepth 20000 in
theorem ggX6_form_X6_bad : GoodIn wsX6_form wsX6_bad := goodIn_r _ [15, 16, 69, 70, 71, 72, 73, 74, 75, 76, 77, 78, 79, 80, 81, 82, 83, 84, 85, 86, 87, 88, 89] (by decide +kernel) (by decide +kernel)
set_option maxRecDepth 20000 in
theorem gX6_form_X6_bad : GoodIn wsX6_form (wsV RX6 105 RX6 yX6_bad wsX6_bad) := goodIn_app (goodIn_of _ (by decide +kernel)) ggX6_form_X6_bad
set_option maxRecDepth 20000 in
theorem ggX6_form_X6_formsTo : GoodIn wsX6_form wsX6_formsTo := goodIn_r _ [20, 8, 21, 22, 23, 6, 24, 25, 26, 27, 28, 29, 30, 31, 32, 33, 34, 35, 36, 37, 38, 39, 40, 41, 42, 43, 44, 45, 46, 47, 1, 48, 49, 50, 51, 52, 53, 69, 70, 71, 72, 73, 74, 75, 76, 77, 78, 79, 80, 81, 82, 83, 84, 85, 86, 87, 88, 89] (by decide +kernel) (by decide +kernel)
set_option maxRecDepth 20000 in
theorem gX6_form_X6_formsTo : GoodIn wsX6_form (wsV RX6 178 RX6 yX6_formsTo wsX6_formsTo) := goodIn_app (goodIn_of _ (by decide +kernel)) ggX6_form_X6_formsTo
set_option maxRecDepth 20000 in
theorem ggX6_form_X6_formsSecond : GoodIn wsX6_form wsX6_formsSecond := goodIn_r _ [57, 8, 2, 21, 22, 23, 6, 24, 32, 33, 34, 35, 36, 37, 38, 39, 40, 41, 42, 43, 58, 59, 60, 44, 45, 46, 47, 1, 48, 49, 50, 51, 52, 53, 69, 70, 71, 72, 73, 74, 75, 76, 77, 78, 79, 80, 81, 82, 83, 84, 85, 86, 87, 88, 89] (by decide +kernel) (by decide +kernel)
set_option maxRecDepth 20000 in
theorem gX6_form_X6_formsSecond : GoodIn wsX6_form (wsV RX6 203 RX6 yX6_formsSecond wsX6_formsSecond) := goodIn_app (goodIn_of _ (by decide +kernel)) ggX6_form_X6_formsSecond
set_option maxRecDepth 20000 in
theorem ggX6_form_X6_inverts : GoodIn wsX6_form wsX6_inverts := goodIn_r _ [64, 32, 33, 6, 34, 35, 36, 37, 38, 39, 40, 41, 42, 43, 44, 45, 46, 47, 1, 48, 49, 50, 51, 52, 53, 69, 70, 71, 72, 73, 74, 75, 76, 77, 78, 79, 80, 81, 82, 83, 84, 85, 86, 87, 88, 89] (by decide +kernel) (by decide +kernel)
set_option maxRecDepth 20000 in
theorem gX6_form_X6_inverts : GoodIn wsX6_form (wsV RX6 192 RX6 yX6_inverts wsX6_inverts) := goodIn_app (goodIn_of _ (by decide +kernel)) ggX6_form_X6_inverts
set_option maxRecDepth 20000 in
theorem ggX6_form_X6_no : GoodIn wsX6_form wsX6_no := goodIn_r _ [68, 16, 69, 70, 71, 72, 73, 74, 75, 76, 77, 78, 79, 80, 81, 82, 83, 84, 85, 86, 87, 88, 89] (by decide +kernel) (by decide +kernel)
set_option maxRecDepth 20000 in
theorem gX6_form_X6_no : GoodIn wsX6_form (wsV RX6 56 RX6 yX6_no wsX6_no) := goodIn_app (goodIn_of _ (by decide +kernel)) ggX6_form_X6_no
theorem dX6_form_0 : decode cX6_form 0 = .ok (.aload_n 0, 1) := by decide +kernel
theorem dX6_form_1 : decode cX6_form 1 = .ok (.iload_n 1, 1) := by decide +kernel
theorem dX6_form_2 : decode cX6_form 2 = .ok (.invokevirtual 98, 3) := by decide +kernel
theorem dX6_form_5 : decode cX6_form 5 = .ok (.ifCond .eq 21, 3) := by decide +kernel
theorem dX6_form_8 : decode cX6_form 8 = .ok (.iload_n 2, 1) := by decide +kernel
theorem dX6_form_9 : decode cX6_form 9 = .ok (.iconst 1, 1) := by decide +kernel
theorem dX6_form_10 : decode cX6_form 10 = .ok (.iconst 3, 1) := by decide +kernel
theorem dX6_form_11 : decode cX6_form 11 = .ok (.invokestatic 81, 3) := by decide +kernel
theorem dX6_form_14 : decode cX6_form 14 = .ok (.ifCond .eq 12, 3) := by decide +kernel
theorem dX6_form_17 : decode cX6_form 17 = .ok (.iload_n 3, 1) := by decide +kernel
theorem dX6_form_18 : decode cX6_form 18 = .ok (.iconst 0, 1) := by decide +kernel
theorem dX6_form_19 : decode cX6_form 19 = .ok (.iconst 3, 1) := by decide +kernel
theorem dX6_form_20 : decode cX6_form 20 = .ok (.invokestatic 81, 3) := by decide +kernel
theorem dX6_form_23 : decode cX6_form 23 = .ok (.ifCond .ne 8, 3) := by decide +kernel
theorem dX6_form_26 : decode cX6_form 26 = .ok (.aload_n 0, 1) := by decide +kernel
theorem dX6_form_27 : decode cX6_form 27 = .ok (.invokevirtual 105, 3) := by decide +kernel
theorem dX6_form_30 : decode cX6_form 30 = .ok (.ireturn, 1) := by decide +kernel
theorem dX6_form_31 : decode cX6_form 31 = .ok (.aload_n 0, 1) := by decide +kernel
theorem dX6_form_32 : decode cX6_form 32 = .ok (.iconst 0, 1) := by decide +kernel
theorem dX6_form_33 : decode cX6_form 33 = .ok (.putfield 68, 3) := by decide +kernel
theorem dX6_form_36 : decode cX6_form 36 = .ok (.iload_n 2, 1) := by decide +kernel
theorem dX6_form_37 : decode cX6_form 37 = .ok (.iconst 1, 1) := by decide +kernel
theorem dX6_form_38 : decode cX6_form 38 = .ok (.if_icmp .ne 15, 3) := by decide +kernel
theorem dX6_form_41 : decode cX6_form 41 = .ok (.aload_n 0, 1) := by decide +kernel
theorem dX6_form_42 : decode cX6_form 42 = .ok (.iload_n 1, 1) := by decide +kernel
theorem dX6_form_43 : decode cX6_form 43 = .ok (.aload_n 0, 1) := by decide +kernel
theorem dX6_form_44 : decode cX6_form 44 = .ok (.getfield 34, 3) := by decide +kernel
theorem dX6_form_47 : decode cX6_form 47 = .ok (.invokevirtual 178, 3) := by decide +kernel
theorem dX6_form_50 : decode cX6_form 50 = .ok (.goto 8, 3) := by decide +kernel
theorem dX6_form_53 : decode cX6_form 53 = .ok (.aload_n 0, 1) := by decide +kernel
theorem dX6_form_54 : decode cX6_form 54 = .ok (.iload_n 1, 1) := by decide +kernel
theorem dX6_form_55 : decode cX6_form 55 = .ok (.invokevirtual 203, 3) := by decide +kernel
theorem dX6_form_58 : decode cX6_form 58 = .ok (.iload_n 2, 1) := by decide +kernel
theorem dX6_form_59 : decode cX6_form 59 = .ok (.iconst 3, 1) := by decide +kernel
theorem dX6_form_60 : decode cX6_form 60 = .ok (.if_icmp .ne 18, 3) := by decide +kernel
theorem dX6_form_63 : decode cX6_form 63 = .ok (.aload_n 0, 1) := by decide +kernel
theorem dX6_form_64 : decode cX6_form 64 = .ok (.getfield 68, 3) := by decide +kernel
theorem dX6_form_67 : decode cX6_form 67 = .ok (.ifCond .ne 11, 3) := by decide +kernel
theorem dX6_form_70 : decode cX6_form 70 = .ok (.aload_n 0, 1) := by decide +kernel
theorem dX6_form_71 : decode cX6_form 71 = .ok (.aload_n 0, 1) := by decide +kernel
theorem dX6_form_72 : decode cX6_form 72 = .ok (.getfield 34, 3) := by decide +kernel
theorem dX6_form_75 : decode cX6_form 75 = .ok (.invokevirtual 192, 3) := by decide +kernel
theorem dX6_form_78 : decode cX6_form 78 = .ok (.aload_n 0, 1) := by decide +kernel
theorem dX6_form_79 : decode cX6_form 79 = .ok (.getfield 68, 3) := by decide +kernel
theorem dX6_form_82 : decode cX6_form 82 = .ok (.ifCond .eq 10, 3) := by decide +kernel
theorem dX6_form_85 : decode cX6_form 85 = .ok (.aload_n 0, 1) := by decide +kernel
theorem dX6_form_86 : decode cX6_form 86 = .ok (.invokevirtual 56, 3) := by decide +kernel
theorem dX6_form_89 : decode cX6_form 89 = .ok (.goto 9, 3) := by decide +kernel
theorem dX6_form_92 : decode cX6_form 92 = .ok (.aload_n 0, 1) := by decide +kernel
theorem dX6_form_93 : decode cX6_form 93 = .ok (.getfield 34, 3) := by decide +kernel
theorem dX6_form_96 : decode cX6_form 96 = .ok (.iload_n 3, 1) := by decide +kernel
theorem dX6_form_97 : decode cX6_form 97 = .ok (.iaload, 1) := by decide +kernel
theorem dX6_form_98 : decode cX6_form 98 = .ok (.ireturn, 1) := by decide +kernel
set_option maxRecDepth 20000 in
theorem ggX6_detBox_X6_boxAt : GoodIn wsX6_detBox wsX6_boxAt := goodIn_r _ [6] (by decide +kernel) (by decide +kernel)
set_option maxRecDepth 20000 in
theorem gX6_detBox_X6_boxAt : GoodIn wsX6_detBox (wsV RX6 85 RX6 yX6_boxAt wsX6_boxAt) := goodIn_app (goodIn_of _ (by decide +kernel)) ggX6_detBox_X6_boxAt
set_option maxRecDepth 20000 in
theorem ggX6_detBox_X6_detOf : GoodIn wsX6_detBox wsX6_detOf := goodIn_r _ [9, 10, 11, 5, 12, 13, 14, 15, 16, 17, 18, 19, 20, 21] (by decide +kernel) (by decide +kernel)
set_option maxRecDepth 20000 in
theorem gX6_detBox_X6_detOf : GoodIn wsX6_detBox (va_wsS RX6 126 yX6_detOf wsX6_detOf) := goodIn_app (goodIn_of _ (by decide +kernel)) ggX6_detBox_X6_detOf
theorem dX6_detBox_0 : decode cX6_detBox 0 = .ok (.aload_n 0, 1) := by decide +kernel
theorem dX6_detBox_1 : decode cX6_detBox 1 = .ok (.iload_n 1, 1) := by decide +kernel
theorem dX6_detBox_2 : decode cX6_detBox 2 = .ok (.invokevirtual 85, 3) := by decide +kernel
theorem dX6_detBox_5 : decode cX6_detBox 5 = .ok (.istore_n 2, 1) := by decide +kernel
theorem dX6_detBox_6 : decode cX6_detBox 6 = .ok (.aload_n 0, 1) := by decide +kernel
theorem dX6_detBox_7 : decode cX6_detBox 7 = .ok (.getfield 7, 3) := by decide +kernel
theorem dX6_detBox_10 : decode cX6_detBox 10 = .ok (.iload_n 2, 1) := by decide +kernel
theorem dX6_detBox_11 : decode cX6_detBox 11 = .ok (.iaload, 1) := by decide +kernel
theorem dX6_detBox_12 : decode cX6_detBox 12 = .ok (.aload_n 0, 1) := by decide +kernel
theorem dX6_detBox_13 : decode cX6_detBox 13 = .ok (.getfield 7, 3) := by decide +kernel
theorem dX6_detBox_16 : decode cX6_detBox 16 = .ok (.iload_n 2, 1) := by decide +kernel
theorem dX6_detBox_17 : decode cX6_detBox 17 = .ok (.iconst 1, 1) := by decide +kernel
theorem dX6_detBox_18 : decode cX6_detBox 18 = .ok (.iadd, 1) := by decide +kernel
theorem dX6_detBox_19 : decode cX6_detBox 19 = .ok (.iaload, 1) := by decide +kernel
theorem dX6_detBox_20 : decode cX6_detBox 20 = .ok (.aload_n 0, 1) := by decide +kernel
theorem dX6_detBox_21 : decode cX6_detBox 21 = .ok (.getfield 7, 3) := by decide +kernel
theorem dX6_detBox_24 : decode cX6_detBox 24 = .ok (.iload_n 2, 1) := by decide +kernel
theorem dX6_detBox_25 : decode cX6_detBox 25 = .ok (.iconst 2, 1) := by decide +kernel
theorem dX6_detBox_26 : decode cX6_detBox 26 = .ok (.iadd, 1) := by decide +kernel
theorem dX6_detBox_27 : decode cX6_detBox 27 = .ok (.iaload, 1) := by decide +kernel
theorem dX6_detBox_28 : decode cX6_detBox 28 = .ok (.aload_n 0, 1) := by decide +kernel
theorem dX6_detBox_29 : decode cX6_detBox 29 = .ok (.getfield 7, 3) := by decide +kernel
theorem dX6_detBox_32 : decode cX6_detBox 32 = .ok (.iload_n 2, 1) := by decide +kernel
theorem dX6_detBox_33 : decode cX6_detBox 33 = .ok (.iconst 3, 1) := by decide +kernel
theorem dX6_detBox_34 : decode cX6_detBox 34 = .ok (.iadd, 1) := by decide +kernel
theorem dX6_detBox_35 : decode cX6_detBox 35 = .ok (.iaload, 1) := by decide +kernel
theorem dX6_detBox_36 : decode cX6_detBox 36 = .ok (.invokestatic 126, 3) := by decide +kernel
theorem dX6_detBox_39 : decode cX6_detBox 39 = .ok (.ireturn, 1) := by decide +kernel
set_option maxRecDepth 20000 in
theorem ggX6_det_X6_isBox : GoodIn wsX6_det wsX6_isBox := goodIn_r _ [5, 6, 7, 8, 4, 9, 38, 39, 40, 41, 42, 43, 44, 45, 46, 47, 48, 49, 50, 51, 52, 53, 54, 55, 56, 57, 58] (by decide +kernel) (by decide +kernel)
set_option maxRecDepth 20000 in
theorem gX6_det_X6_isBox : GoodIn wsX6_det (wsV RX6 98 RX6 yX6_isBox wsX6_isBox) := goodIn_app (goodIn_of _ (by decide +kernel)) ggX6_det_X6_isBox
set_option maxRecDepth 20000 in
theorem ggX6_det_X6_detBox : GoodIn wsX6_det wsX6_detBox := goodIn_r _ [13, 6, 14, 15, 16, 4, 17, 18, 19, 20, 21, 22, 23, 24, 25, 26, 27, 28, 29, 30, 31, 32, 38, 39, 40, 41, 42, 43, 44, 45, 46, 47, 48, 49, 50, 51, 52, 53, 54, 55, 56, 57, 58] (by decide +kernel) (by decide +kernel)
set_option maxRecDepth 20000 in
theorem gX6_det_X6_detBox : GoodIn wsX6_det (wsV RX6 175 RX6 yX6_detBox wsX6_detBox) := goodIn_app (goodIn_of _ (by decide +kernel)) ggX6_det_X6_detBox
set_option maxRecDepth 20000 in
theorem ggX6_det_X6_bad : GoodIn wsX6_det wsX6_bad := goodIn_r _ [36, 37, 38, 39, 40, 41, 42, 43, 44, 45, 46, 47, 48, 49, 50, 51, 52, 53, 54, 55, 56, 57, 58] (by decide +kernel) (by decide +kernel)
set_option maxRecDepth 20000 in
theorem gX6_det_X6_bad : GoodIn wsX6_det (wsV RX6 105 RX6 yX6_bad wsX6_bad) := goodIn_app (goodIn_of _ (by decide +kernel)) ggX6_det_X6_bad
theorem dX6_det_0 : decode cX6_det 0 = .ok (.aload_n 0, 1) := by decide +kernel
theorem dX6_det_1 : decode cX6_det 1 = .ok (.iload_n 1, 1) := by decide +kernel
theorem dX6_det_2 : decode cX6_det 2 = .ok (.invokevirtual 98, 3) := by decide +kernel
theorem dX6_det_5 : decode cX6_det 5 = .ok (.ifCond .eq 11, 3) := by decide +kernel
theorem dX6_det_8 : decode cX6_det 8 = .ok (.aload_n 0, 1) := by decide +kernel
theorem dX6_det_9 : decode cX6_det 9 = .ok (.iload_n 1, 1) := by decide +kernel
theorem dX6_det_10 : decode cX6_det 10 = .ok (.invokevirtual 175, 3) := by decide +kernel
theorem dX6_det_13 : decode cX6_det 13 = .ok (.goto 7, 3) := by decide +kernel
theorem dX6_det_16 : decode cX6_det 16 = .ok (.aload_n 0, 1) := by decide +kernel
theorem dX6_det_17 : decode cX6_det 17 = .ok (.invokevirtual 105, 3) := by decide +kernel
theorem dX6_det_20 : decode cX6_det 20 = .ok (.ireturn, 1) := by decide +kernel
set_option maxRecDepth 20000 in
theorem ggX6_ends_X6_isBox : GoodIn wsX6_ends wsX6_isBox := goodIn_r _ [7, 1, 8, 9, 6, 10, 52, 53, 54, 55, 56, 57, 58, 59, 60, 61, 62, 63, 64, 65, 66, 67, 68, 69, 70, 71, 72] (by decide +kernel) (by decide +kernel)
set_option maxRecDepth 20000 in
theorem gX6_ends_X6_isBox : GoodIn wsX6_ends (wsV RX6 98 RX6 yX6_isBox wsX6_isBox) := goodIn_app (goodIn_of _ (by decide +kernel)) ggX6_ends_X6_isBox
set_option maxRecDepth 20000 in
theorem ggX6_ends_X6_in : GoodIn wsX6_ends wsX6_in := goodIn_r _ [10] (by decide +kernel) (by decide +kernel)
set_option maxRecDepth 20000 in
theorem gX6_ends_X6_in : GoodIn wsX6_ends (va_wsS RX6 81 yX6_in wsX6_in) := goodIn_app (goodIn_of _ (by decide +kernel)) ggX6_ends_X6_in
set_option maxRecDepth 20000 in
theorem ggX6_ends_X6_isPart : GoodIn wsX6_ends wsX6_isPart := goodIn_r _ [13, 8, 9, 6, 10] (by decide +kernel) (by decide +kernel)
set_option maxRecDepth 20000 in
theorem gX6_ends_X6_isPart : GoodIn wsX6_ends (va_wsS RX6 102 yX6_isPart wsX6_isPart) := goodIn_app (goodIn_of _ (by decide +kernel)) ggX6_ends_X6_isPart
set_option maxRecDepth 20000 in
theorem ggX6_ends_X6_bad : GoodIn wsX6_ends wsX6_bad := goodIn_r _ [17, 18, 52, 53, 54, 55, 56, 57, 58, 59, 60, 61, 62, 63, 64, 65, 66, 67, 68, 69, 70, 71, 72] (by decide +kernel) (by decide +kernel)
set_option maxRecDepth 20000 in
theorem gX6_ends_X6_bad : GoodIn wsX6_ends (wsV RX6 105 RX6 yX6_bad wsX6_bad) := goodIn_app (goodIn_of _ (by decide +kernel)) ggX6_ends_X6_bad
set_option maxRecDepth 20000 in
theorem ggX6_ends_X6_boxAt : GoodIn wsX6_ends wsX6_boxAt := goodIn_r _ [22] (by decide +kernel) (by decide +kernel)
set_option maxRecDepth 20000 in
theorem gX6_ends_X6_boxAt : GoodIn wsX6_ends (wsV RX6 85 RX6 yX6_boxAt wsX6_boxAt) := goodIn_app (goodIn_of _ (by decide +kernel)) ggX6_ends_X6_boxAt
set_option maxRecDepth 20000 in
theorem ggX6_ends_X6_number : GoodIn wsX6_ends wsX6_number := goodIn_r _ [25, 26, 27, 6, 28] (by decide +kernel) (by decide +kernel)
set_option maxRecDepth 20000 in
theorem gX6_ends_X6_number : GoodIn wsX6_ends (va_wsS RX6 64 yX6_number wsX6_number) := goodIn_app (goodIn_of _ (by decide +kernel)) ggX6_ends_X6_number
set_option maxRecDepth 20000 in
theorem ggX6_ends_X6_by : GoodIn wsX6_ends wsX6_by := goodIn_r _ [31, 23, 24, 6, 25, 26, 27, 28] (by decide +kernel) (by decide +kernel)
set_option maxRecDepth 20000 in
theorem gX6_ends_X6_by : GoodIn wsX6_ends (va_wsS RX6 78 yX6_by wsX6_by) := goodIn_app (goodIn_of _ (by decide +kernel)) ggX6_ends_X6_by
set_option maxRecDepth 20000 in
theorem ggX6_ends_X6_less : GoodIn wsX6_ends wsX6_less := goodIn_r _ [34, 23, 24, 6, 25, 26, 27, 28] (by decide +kernel) (by decide +kernel)
set_option maxRecDepth 20000 in
theorem gX6_ends_X6_less : GoodIn wsX6_ends (va_wsS RX6 114 yX6_less wsX6_less) := goodIn_app (goodIn_of _ (by decide +kernel)) ggX6_ends_X6_less
set_option maxRecDepth 20000 in
theorem ggX6_ends_X6_over : GoodIn wsX6_ends wsX6_over := goodIn_r _ [38, 2, 39, 40, 6, 41, 42, 43, 44, 23, 24, 25, 26, 27, 28, 29, 30, 31, 52, 53, 54, 55, 56, 57, 58, 59, 60, 61, 62, 63, 64, 65, 66, 67, 68, 69, 70, 71, 72] (by decide +kernel) (by decide +kernel)
set_option maxRecDepth 20000 in
theorem gX6_ends_X6_over : GoodIn wsX6_ends (wsV RX6 123 RX6 yX6_over wsX6_over) := goodIn_app (goodIn_of _ (by decide +kernel)) ggX6_ends_X6_over
set_option maxRecDepth 20000 in
theorem ggX6_ends_X6_no : GoodIn wsX6_ends wsX6_no := goodIn_r _ [48, 18, 52, 53, 54, 55, 56, 57, 58, 59, 60, 61, 62, 63, 64, 65, 66, 67, 68, 69, 70, 71, 72] (by decide +kernel) (by decide +kernel)
set_option maxRecDepth 20000 in
theorem gX6_ends_X6_no : GoodIn wsX6_ends (wsV RX6 56 RX6 yX6_no wsX6_no) := goodIn_app (goodIn_of _ (by decide +kernel)) ggX6_ends_X6_no
set_option maxRecDepth 20000 in
theorem ggX6_ends_X6_plus : GoodIn wsX6_ends wsX6_plus := goodIn_r _ [51, 23, 24, 6, 25, 26, 27, 28] (by decide +kernel) (by decide +kernel)
set_option maxRecDepth 20000 in
theorem gX6_ends_X6_plus : GoodIn wsX6_ends (va_wsS RX6 117 yX6_plus wsX6_plus) := goodIn_app (goodIn_of _ (by decide +kernel)) ggX6_ends_X6_plus
theorem dX6_ends_0 : decode cX6_ends 0 = .ok (.aload_n 0, 1) := by decide +kernel
theorem dX6_ends_1 : decode cX6_ends 1 = .ok (.iload_n 1, 1) := by decide +kernel
theorem dX6_ends_2 : decode cX6_ends 2 = .ok (.invokevirtual 98, 3) := by decide +kernel
theorem dX6_ends_5 : decode cX6_ends 5 = .ok (.ifCond .eq 27, 3) := by decide +kernel
theorem dX6_ends_8 : decode cX6_ends 8 = .ok (.iload_n 2, 1) := by decide +kernel
theorem dX6_ends_9 : decode cX6_ends 9 = .ok (.iconst 0, 1) := by decide +kernel
theorem dX6_ends_10 : decode cX6_ends 10 = .ok (.iconst 1, 1) := by decide +kernel
theorem dX6_ends_11 : decode cX6_ends 11 = .ok (.invokestatic 81, 3) := by decide +kernel
theorem dX6_ends_14 : decode cX6_ends 14 = .ok (.ifCond .eq 18, 3) := by decide +kernel
theorem dX6_ends_17 : decode cX6_ends 17 = .ok (.iload_n 3, 1) := by decide +kernel
theorem dX6_ends_18 : decode cX6_ends 18 = .ok (.invokestatic 102, 3) := by decide +kernel
theorem dX6_ends_21 : decode cX6_ends 21 = .ok (.ifCond .eq 11, 3) := by decide +kernel
theorem dX6_ends_24 : decode cX6_ends 24 = .ok (.iload 4, 2) := by decide +kernel
theorem dX6_ends_26 : decode cX6_ends 26 = .ok (.invokestatic 102, 3) := by decide +kernel
theorem dX6_ends_29 : decode cX6_ends 29 = .ok (.ifCond .ne 8, 3) := by decide +kernel
theorem dX6_ends_32 : decode cX6_ends 32 = .ok (.aload_n 0, 1) := by decide +kernel
theorem dX6_ends_33 : decode cX6_ends 33 = .ok (.invokevirtual 105, 3) := by decide +kernel
theorem dX6_ends_36 : decode cX6_ends 36 = .ok (.ireturn, 1) := by decide +kernel
theorem dX6_ends_37 : decode cX6_ends 37 = .ok (.aload_n 0, 1) := by decide +kernel
theorem dX6_ends_38 : decode cX6_ends 38 = .ok (.iload_n 1, 1) := by decide +kernel
theorem dX6_ends_39 : decode cX6_ends 39 = .ok (.invokevirtual 85, 3) := by decide +kernel
theorem dX6_ends_42 : decode cX6_ends 42 = .ok (.istore 5, 2) := by decide +kernel
theorem dX6_ends_44 : decode cX6_ends 44 = .ok (.iload_n 3, 1) := by decide +kernel
theorem dX6_ends_45 : decode cX6_ends 45 = .ok (.iload 4, 2) := by decide +kernel
theorem dX6_ends_47 : decode cX6_ends 47 = .ok (.invokestatic 64, 3) := by decide +kernel
theorem dX6_ends_50 : decode cX6_ends 50 = .ok (.istore 6, 2) := by decide +kernel
theorem dX6_ends_52 : decode cX6_ends 52 = .ok (.aload_n 0, 1) := by decide +kernel
theorem dX6_ends_53 : decode cX6_ends 53 = .ok (.getfield 7, 3) := by decide +kernel
theorem dX6_ends_56 : decode cX6_ends 56 = .ok (.iload 5, 2) := by decide +kernel
theorem dX6_ends_58 : decode cX6_ends 58 = .ok (.iconst 3, 1) := by decide +kernel
theorem dX6_ends_59 : decode cX6_ends 59 = .ok (.iload_n 2, 1) := by decide +kernel
theorem dX6_ends_60 : decode cX6_ends 60 = .ok (.imul, 1) := by decide +kernel
theorem dX6_ends_61 : decode cX6_ends 61 = .ok (.iadd, 1) := by decide +kernel
theorem dX6_ends_62 : decode cX6_ends 62 = .ok (.iaload, 1) := by decide +kernel
theorem dX6_ends_63 : decode cX6_ends 63 = .ok (.istore 7, 2) := by decide +kernel
theorem dX6_ends_65 : decode cX6_ends 65 = .ok (.aload_n 0, 1) := by decide +kernel
theorem dX6_ends_66 : decode cX6_ends 66 = .ok (.getfield 7, 3) := by decide +kernel
theorem dX6_ends_69 : decode cX6_ends 69 = .ok (.iload 5, 2) := by decide +kernel
theorem dX6_ends_71 : decode cX6_ends 71 = .ok (.iconst 3, 1) := by decide +kernel
theorem dX6_ends_72 : decode cX6_ends 72 = .ok (.iadd, 1) := by decide +kernel
theorem dX6_ends_73 : decode cX6_ends 73 = .ok (.iconst 3, 1) := by decide +kernel
theorem dX6_ends_74 : decode cX6_ends 74 = .ok (.iload_n 2, 1) := by decide +kernel
theorem dX6_ends_75 : decode cX6_ends 75 = .ok (.imul, 1) := by decide +kernel
theorem dX6_ends_76 : decode cX6_ends 76 = .ok (.isub, 1) := by decide +kernel
theorem dX6_ends_77 : decode cX6_ends 77 = .ok (.iaload, 1) := by decide +kernel
theorem dX6_ends_78 : decode cX6_ends 78 = .ok (.istore 8, 2) := by decide +kernel
theorem dX6_ends_80 : decode cX6_ends 80 = .ok (.aload_n 0, 1) := by decide +kernel
theorem dX6_ends_81 : decode cX6_ends 81 = .ok (.iconst 0, 1) := by decide +kernel
theorem dX6_ends_82 : decode cX6_ends 82 = .ok (.putfield 68, 3) := by decide +kernel
theorem dX6_ends_85 : decode cX6_ends 85 = .ok (.aload_n 0, 1) := by decide +kernel
theorem dX6_ends_86 : decode cX6_ends 86 = .ok (.aload_n 0, 1) := by decide +kernel
theorem dX6_ends_87 : decode cX6_ends 87 = .ok (.getfield 7, 3) := by decide +kernel
theorem dX6_ends_90 : decode cX6_ends 90 = .ok (.iload 5, 2) := by decide +kernel
theorem dX6_ends_92 : decode cX6_ends 92 = .ok (.iconst 1, 1) := by decide +kernel
theorem dX6_ends_93 : decode cX6_ends 93 = .ok (.iadd, 1) := by decide +kernel
theorem dX6_ends_94 : decode cX6_ends 94 = .ok (.iaload, 1) := by decide +kernel
theorem dX6_ends_95 : decode cX6_ends 95 = .ok (.aload_n 0, 1) := by decide +kernel
theorem dX6_ends_96 : decode cX6_ends 96 = .ok (.getfield 7, 3) := by decide +kernel
theorem dX6_ends_99 : decode cX6_ends 99 = .ok (.iload 5, 2) := by decide +kernel
theorem dX6_ends_101 : decode cX6_ends 101 = .ok (.iconst 2, 1) := by decide +kernel
theorem dX6_ends_102 : decode cX6_ends 102 = .ok (.iadd, 1) := by decide +kernel
theorem dX6_ends_103 : decode cX6_ends 103 = .ok (.iaload, 1) := by decide +kernel
theorem dX6_ends_104 : decode cX6_ends 104 = .ok (.invokestatic 78, 3) := by decide +kernel
theorem dX6_ends_107 : decode cX6_ends 107 = .ok (.iload 6, 2) := by decide +kernel
theorem dX6_ends_109 : decode cX6_ends 109 = .ok (.invokestatic 78, 3) := by decide +kernel
theorem dX6_ends_112 : decode cX6_ends 112 = .ok (.sipush 10007, 3) := by decide +kernel
theorem dX6_ends_115 : decode cX6_ends 115 = .ok (.iload 8, 2) := by decide +kernel
theorem dX6_ends_117 : decode cX6_ends 117 = .ok (.iload 6, 2) := by decide +kernel
theorem dX6_ends_119 : decode cX6_ends 119 = .ok (.invokestatic 78, 3) := by decide +kernel
theorem dX6_ends_122 : decode cX6_ends 122 = .ok (.invokestatic 114, 3) := by decide +kernel
theorem dX6_ends_125 : decode cX6_ends 125 = .ok (.invokevirtual 123, 3) := by decide +kernel
theorem dX6_ends_128 : decode cX6_ends 128 = .ok (.istore 9, 2) := by decide +kernel
theorem dX6_ends_130 : decode cX6_ends 130 = .ok (.aload_n 0, 1) := by decide +kernel
theorem dX6_ends_131 : decode cX6_ends 131 = .ok (.getfield 68, 3) := by decide +kernel
theorem dX6_ends_134 : decode cX6_ends 134 = .ok (.ifCond .eq 10, 3) := by decide +kernel
theorem dX6_ends_137 : decode cX6_ends 137 = .ok (.aload_n 0, 1) := by decide +kernel
theorem dX6_ends_138 : decode cX6_ends 138 = .ok (.invokevirtual 56, 3) := by decide +kernel
theorem dX6_ends_141 : decode cX6_ends 141 = .ok (.goto 10, 3) := by decide +kernel
theorem dX6_ends_144 : decode cX6_ends 144 = .ok (.iload 7, 2) := by decide +kernel
theorem dX6_ends_146 : decode cX6_ends 146 = .ok (.iload 9, 2) := by decide +kernel
theorem dX6_ends_148 : decode cX6_ends 148 = .ok (.invokestatic 117, 3) := by decide +kernel
theorem dX6_ends_151 : decode cX6_ends 151 = .ok (.ireturn, 1) := by decide +kernel
set_option maxRecDepth 20000 in
theorem ggX6_acrossOf_X6_otherOf : GoodIn wsX6_acrossOf wsX6_otherOf := goodIn_r _ [5, 6, 7, 4, 8, 9, 10, 11] (by decide +kernel) (by decide +kernel)
set_option maxRecDepth 20000 in
theorem gX6_acrossOf_X6_otherOf : GoodIn wsX6_acrossOf (va_wsS RX6 75 yX6_otherOf wsX6_otherOf) := goodIn_app (goodIn_of _ (by decide +kernel)) ggX6_acrossOf_X6_otherOf
set_option maxRecDepth 20000 in
theorem ggX6_acrossOf_X6_by : GoodIn wsX6_acrossOf wsX6_by := goodIn_r _ [14, 6, 7, 4, 8, 9, 10, 11] (by decide +kernel) (by decide +kernel)
set_option maxRecDepth 20000 in
theorem gX6_acrossOf_X6_by : GoodIn wsX6_acrossOf (va_wsS RX6 78 yX6_by wsX6_by) := goodIn_app (goodIn_of _ (by decide +kernel)) ggX6_acrossOf_X6_by
set_option maxRecDepth 20000 in
theorem ggX6_acrossOf_X6_plus : GoodIn wsX6_acrossOf wsX6_plus := goodIn_r _ [17, 6, 7, 4, 8, 9, 10, 11] (by decide +kernel) (by decide +kernel)
set_option maxRecDepth 20000 in
theorem gX6_acrossOf_X6_plus : GoodIn wsX6_acrossOf (va_wsS RX6 117 yX6_plus wsX6_plus) := goodIn_app (goodIn_of _ (by decide +kernel)) ggX6_acrossOf_X6_plus
theorem dX6_acrossOf_0 : decode cX6_acrossOf 0 = .ok (.aload_n 0, 1) := by decide +kernel
theorem dX6_acrossOf_1 : decode cX6_acrossOf 1 = .ok (.getfield 7, 3) := by decide +kernel
theorem dX6_acrossOf_4 : decode cX6_acrossOf 4 = .ok (.iload_n 1, 1) := by decide +kernel
theorem dX6_acrossOf_5 : decode cX6_acrossOf 5 = .ok (.iload_n 2, 1) := by decide +kernel
theorem dX6_acrossOf_6 : decode cX6_acrossOf 6 = .ok (.iadd, 1) := by decide +kernel
theorem dX6_acrossOf_7 : decode cX6_acrossOf 7 = .ok (.iaload, 1) := by decide +kernel
theorem dX6_acrossOf_8 : decode cX6_acrossOf 8 = .ok (.invokestatic 75, 3) := by decide +kernel
theorem dX6_acrossOf_11 : decode cX6_acrossOf 11 = .ok (.aload_n 0, 1) := by decide +kernel
theorem dX6_acrossOf_12 : decode cX6_acrossOf 12 = .ok (.getfield 7, 3) := by decide +kernel
theorem dX6_acrossOf_15 : decode cX6_acrossOf 15 = .ok (.iload_n 1, 1) := by decide +kernel
theorem dX6_acrossOf_16 : decode cX6_acrossOf 16 = .ok (.iload_n 3, 1) := by decide +kernel
theorem dX6_acrossOf_17 : decode cX6_acrossOf 17 = .ok (.iadd, 1) := by decide +kernel
theorem dX6_acrossOf_18 : decode cX6_acrossOf 18 = .ok (.iaload, 1) := by decide +kernel
theorem dX6_acrossOf_19 : decode cX6_acrossOf 19 = .ok (.invokestatic 78, 3) := by decide +kernel
theorem dX6_acrossOf_22 : decode cX6_acrossOf 22 = .ok (.aload_n 0, 1) := by decide +kernel
theorem dX6_acrossOf_23 : decode cX6_acrossOf 23 = .ok (.getfield 7, 3) := by decide +kernel
theorem dX6_acrossOf_26 : decode cX6_acrossOf 26 = .ok (.iload_n 1, 1) := by decide +kernel
theorem dX6_acrossOf_27 : decode cX6_acrossOf 27 = .ok (.iload_n 2, 1) := by decide +kernel
theorem dX6_acrossOf_28 : decode cX6_acrossOf 28 = .ok (.iadd, 1) := by decide +kernel
theorem dX6_acrossOf_29 : decode cX6_acrossOf 29 = .ok (.iconst 2, 1) := by decide +kernel
theorem dX6_acrossOf_30 : decode cX6_acrossOf 30 = .ok (.iadd, 1) := by decide +kernel
theorem dX6_acrossOf_31 : decode cX6_acrossOf 31 = .ok (.iaload, 1) := by decide +kernel
theorem dX6_acrossOf_32 : decode cX6_acrossOf 32 = .ok (.invokestatic 75, 3) := by decide +kernel
theorem dX6_acrossOf_35 : decode cX6_acrossOf 35 = .ok (.aload_n 0, 1) := by decide +kernel
theorem dX6_acrossOf_36 : decode cX6_acrossOf 36 = .ok (.getfield 7, 3) := by decide +kernel
theorem dX6_acrossOf_39 : decode cX6_acrossOf 39 = .ok (.iload_n 1, 1) := by decide +kernel
theorem dX6_acrossOf_40 : decode cX6_acrossOf 40 = .ok (.iload_n 3, 1) := by decide +kernel
theorem dX6_acrossOf_41 : decode cX6_acrossOf 41 = .ok (.iadd, 1) := by decide +kernel
theorem dX6_acrossOf_42 : decode cX6_acrossOf 42 = .ok (.iconst 2, 1) := by decide +kernel
theorem dX6_acrossOf_43 : decode cX6_acrossOf 43 = .ok (.iadd, 1) := by decide +kernel
theorem dX6_acrossOf_44 : decode cX6_acrossOf 44 = .ok (.iaload, 1) := by decide +kernel
theorem dX6_acrossOf_45 : decode cX6_acrossOf 45 = .ok (.invokestatic 78, 3) := by decide +kernel
theorem dX6_acrossOf_48 : decode cX6_acrossOf 48 = .ok (.invokestatic 117, 3) := by decide +kernel
theorem dX6_acrossOf_51 : decode cX6_acrossOf 51 = .ok (.ireturn, 1) := by decide +kernel
set_option maxRecDepth 20000 in
theorem ggX6_isSo_X6_acrossOf : GoodIn wsX6_isSo wsX6_acrossOf := goodIn_r _ [6, 1, 7, 8, 5, 9, 10, 11, 12, 13, 14, 15, 16, 17, 18, 19, 20, 21, 22, 23, 24, 25, 26, 27, 28, 29, 30, 31, 32, 33, 34, 35, 36, 37, 38, 39, 40, 41, 42] (by decide +kernel) (by decide +kernel)
set_option maxRecDepth 20000 in
theorem gX6_isSo_X6_acrossOf : GoodIn wsX6_isSo (wsV RX6 206 RX6 yX6_acrossOf wsX6_acrossOf) := goodIn_app (goodIn_of _ (by decide +kernel)) ggX6_isSo_X6_acrossOf
theorem dX6_isSo_0 : decode cX6_isSo 0 = .ok (.iload_n 2, 1) := by decide +kernel
theorem dX6_isSo_1 : decode cX6_isSo 1 = .ok (.tableswitch 101 0 2 #[27, 52, 75], 27) := by decide +kernel
theorem dX6_isSo_28 : decode cX6_isSo 28 = .ok (.aload_n 0, 1) := by decide +kernel
theorem dX6_isSo_29 : decode cX6_isSo 29 = .ok (.getfield 7, 3) := by decide +kernel
theorem dX6_isSo_32 : decode cX6_isSo 32 = .ok (.iload_n 1, 1) := by decide +kernel
theorem dX6_isSo_33 : decode cX6_isSo 33 = .ok (.iconst 1, 1) := by decide +kernel
theorem dX6_isSo_34 : decode cX6_isSo 34 = .ok (.iadd, 1) := by decide +kernel
theorem dX6_isSo_35 : decode cX6_isSo 35 = .ok (.iaload, 1) := by decide +kernel
theorem dX6_isSo_36 : decode cX6_isSo 36 = .ok (.aload_n 0, 1) := by decide +kernel
theorem dX6_isSo_37 : decode cX6_isSo 37 = .ok (.getfield 7, 3) := by decide +kernel
theorem dX6_isSo_40 : decode cX6_isSo 40 = .ok (.iload_n 1, 1) := by decide +kernel
theorem dX6_isSo_41 : decode cX6_isSo 41 = .ok (.iconst 2, 1) := by decide +kernel
theorem dX6_isSo_42 : decode cX6_isSo 42 = .ok (.iadd, 1) := by decide +kernel
theorem dX6_isSo_43 : decode cX6_isSo 43 = .ok (.iaload, 1) := by decide +kernel
theorem dX6_isSo_44 : decode cX6_isSo 44 = .ok (.if_icmp .ne 7, 3) := by decide +kernel
theorem dX6_isSo_47 : decode cX6_isSo 47 = .ok (.iconst 1, 1) := by decide +kernel
theorem dX6_isSo_48 : decode cX6_isSo 48 = .ok (.goto 4, 3) := by decide +kernel
theorem dX6_isSo_51 : decode cX6_isSo 51 = .ok (.iconst 0, 1) := by decide +kernel
theorem dX6_isSo_52 : decode cX6_isSo 52 = .ok (.ireturn, 1) := by decide +kernel
theorem dX6_isSo_53 : decode cX6_isSo 53 = .ok (.aload_n 0, 1) := by decide +kernel
theorem dX6_isSo_54 : decode cX6_isSo 54 = .ok (.getfield 7, 3) := by decide +kernel
theorem dX6_isSo_57 : decode cX6_isSo 57 = .ok (.iload_n 1, 1) := by decide +kernel
theorem dX6_isSo_58 : decode cX6_isSo 58 = .ok (.iaload, 1) := by decide +kernel
theorem dX6_isSo_59 : decode cX6_isSo 59 = .ok (.aload_n 0, 1) := by decide +kernel
theorem dX6_isSo_60 : decode cX6_isSo 60 = .ok (.getfield 7, 3) := by decide +kernel
theorem dX6_isSo_63 : decode cX6_isSo 63 = .ok (.iload_n 1, 1) := by decide +kernel
theorem dX6_isSo_64 : decode cX6_isSo 64 = .ok (.iconst 3, 1) := by decide +kernel
theorem dX6_isSo_65 : decode cX6_isSo 65 = .ok (.iadd, 1) := by decide +kernel
theorem dX6_isSo_66 : decode cX6_isSo 66 = .ok (.iaload, 1) := by decide +kernel
theorem dX6_isSo_67 : decode cX6_isSo 67 = .ok (.if_icmp .ne 7, 3) := by decide +kernel
theorem dX6_isSo_70 : decode cX6_isSo 70 = .ok (.iconst 1, 1) := by decide +kernel
theorem dX6_isSo_71 : decode cX6_isSo 71 = .ok (.goto 4, 3) := by decide +kernel
theorem dX6_isSo_74 : decode cX6_isSo 74 = .ok (.iconst 0, 1) := by decide +kernel
theorem dX6_isSo_75 : decode cX6_isSo 75 = .ok (.ireturn, 1) := by decide +kernel
theorem dX6_isSo_76 : decode cX6_isSo 76 = .ok (.aload_n 0, 1) := by decide +kernel
theorem dX6_isSo_77 : decode cX6_isSo 77 = .ok (.getfield 7, 3) := by decide +kernel
theorem dX6_isSo_80 : decode cX6_isSo 80 = .ok (.iload_n 1, 1) := by decide +kernel
theorem dX6_isSo_81 : decode cX6_isSo 81 = .ok (.iaload, 1) := by decide +kernel
theorem dX6_isSo_82 : decode cX6_isSo 82 = .ok (.ifCond .ne 18, 3) := by decide +kernel
theorem dX6_isSo_85 : decode cX6_isSo 85 = .ok (.aload_n 0, 1) := by decide +kernel
theorem dX6_isSo_86 : decode cX6_isSo 86 = .ok (.getfield 7, 3) := by decide +kernel
theorem dX6_isSo_89 : decode cX6_isSo 89 = .ok (.iload_n 1, 1) := by decide +kernel
theorem dX6_isSo_90 : decode cX6_isSo 90 = .ok (.iconst 3, 1) := by decide +kernel
theorem dX6_isSo_91 : decode cX6_isSo 91 = .ok (.iadd, 1) := by decide +kernel
theorem dX6_isSo_92 : decode cX6_isSo 92 = .ok (.iaload, 1) := by decide +kernel
theorem dX6_isSo_93 : decode cX6_isSo 93 = .ok (.ifCond .ne 7, 3) := by decide +kernel
theorem dX6_isSo_96 : decode cX6_isSo 96 = .ok (.iconst 1, 1) := by decide +kernel
theorem dX6_isSo_97 : decode cX6_isSo 97 = .ok (.goto 4, 3) := by decide +kernel
theorem dX6_isSo_100 : decode cX6_isSo 100 = .ok (.iconst 0, 1) := by decide +kernel
theorem dX6_isSo_101 : decode cX6_isSo 101 = .ok (.ireturn, 1) := by decide +kernel
theorem dX6_isSo_102 : decode cX6_isSo 102 = .ok (.aload_n 0, 1) := by decide +kernel
theorem dX6_isSo_103 : decode cX6_isSo 103 = .ok (.iload_n 1, 1) := by decide +kernel
theorem dX6_isSo_104 : decode cX6_isSo 104 = .ok (.iconst 0, 1) := by decide +kernel
theorem dX6_isSo_105 : decode cX6_isSo 105 = .ok (.iconst 0, 1) := by decide +kernel
theorem dX6_isSo_106 : decode cX6_isSo 106 = .ok (.invokevirtual 206, 3) := by decide +kernel
theorem dX6_isSo_109 : decode cX6_isSo 109 = .ok (.sipush 10007, 3) := by decide +kernel
theorem dX6_isSo_112 : decode cX6_isSo 112 = .ok (.if_icmp .ne 30, 3) := by decide +kernel
theorem dX6_isSo_115 : decode cX6_isSo 115 = .ok (.aload_n 0, 1) := by decide +kernel
theorem dX6_isSo_116 : decode cX6_isSo 116 = .ok (.iload_n 1, 1) := by decide +kernel
theorem dX6_isSo_117 : decode cX6_isSo 117 = .ok (.iconst 1, 1) := by decide +kernel
theorem dX6_isSo_118 : decode cX6_isSo 118 = .ok (.iconst 1, 1) := by decide +kernel
theorem dX6_isSo_119 : decode cX6_isSo 119 = .ok (.invokevirtual 206, 3) := by decide +kernel
theorem dX6_isSo_122 : decode cX6_isSo 122 = .ok (.sipush 10007, 3) := by decide +kernel
theorem dX6_isSo_125 : decode cX6_isSo 125 = .ok (.if_icmp .ne 17, 3) := by decide +kernel
theorem dX6_isSo_128 : decode cX6_isSo 128 = .ok (.aload_n 0, 1) := by decide +kernel
theorem dX6_isSo_129 : decode cX6_isSo 129 = .ok (.iload_n 1, 1) := by decide +kernel
theorem dX6_isSo_130 : decode cX6_isSo 130 = .ok (.iconst 0, 1) := by decide +kernel
theorem dX6_isSo_131 : decode cX6_isSo 131 = .ok (.iconst 1, 1) := by decide +kernel
theorem dX6_isSo_132 : decode cX6_isSo 132 = .ok (.invokevirtual 206, 3) := by decide +kernel
theorem dX6_isSo_135 : decode cX6_isSo 135 = .ok (.ifCond .ne 7, 3) := by decide +kernel
theorem dX6_isSo_138 : decode cX6_isSo 138 = .ok (.iconst 1, 1) := by decide +kernel
theorem dX6_isSo_139 : decode cX6_isSo 139 = .ok (.goto 4, 3) := by decide +kernel
theorem dX6_isSo_142 : decode cX6_isSo 142 = .ok (.iconst 0, 1) := by decide +kernel
theorem dX6_isSo_143 : decode cX6_isSo 143 = .ok (.ireturn, 1) := by decide +kernel
set_option maxRecDepth 20000 in
theorem ggX6_testOf_X6_boxAt : GoodIn wsX6_testOf wsX6_boxAt := goodIn_r _ [5] (by decide +kernel) (by decide +kernel)
set_option maxRecDepth 20000 in
theorem gX6_testOf_X6_boxAt : GoodIn wsX6_testOf (wsV RX6 85 RX6 yX6_boxAt wsX6_boxAt) := goodIn_app (goodIn_of _ (by decide +kernel)) ggX6_testOf_X6_boxAt
set_option maxRecDepth 20000 in
theorem ggX6_testOf_X6_isSo : GoodIn wsX6_testOf wsX6_isSo := goodIn_r _ [9, 10, 11, 12, 13, 4, 14, 15, 16, 17, 18, 19, 20, 21, 22, 23, 24, 25, 26, 27, 28, 29, 30, 31, 32, 33, 34, 35, 36, 37, 38, 39, 40, 41, 42, 43, 44, 45, 46, 47, 48, 49, 50] (by decide +kernel) (by decide +kernel)
set_option maxRecDepth 20000 in
theorem gX6_testOf_X6_isSo : GoodIn wsX6_testOf (wsV RX6 210 RX6 yX6_isSo wsX6_isSo) := goodIn_app (goodIn_of _ (by decide +kernel)) ggX6_testOf_X6_isSo
theorem dX6_testOf_0 : decode cX6_testOf 0 = .ok (.aload_n 0, 1) := by decide +kernel
theorem dX6_testOf_1 : decode cX6_testOf 1 = .ok (.aload_n 0, 1) := by decide +kernel
theorem dX6_testOf_2 : decode cX6_testOf 2 = .ok (.iload_n 1, 1) := by decide +kernel
theorem dX6_testOf_3 : decode cX6_testOf 3 = .ok (.invokevirtual 85, 3) := by decide +kernel
theorem dX6_testOf_6 : decode cX6_testOf 6 = .ok (.iload_n 2, 1) := by decide +kernel
theorem dX6_testOf_7 : decode cX6_testOf 7 = .ok (.invokevirtual 210, 3) := by decide +kernel
theorem dX6_testOf_10 : decode cX6_testOf 10 = .ok (.ifCond .eq 7, 3) := by decide +kernel
theorem dX6_testOf_13 : decode cX6_testOf 13 = .ok (.iconst 1, 1) := by decide +kernel
theorem dX6_testOf_14 : decode cX6_testOf 14 = .ok (.goto 4, 3) := by decide +kernel
theorem dX6_testOf_17 : decode cX6_testOf 17 = .ok (.iconst 0, 1) := by decide +kernel
theorem dX6_testOf_18 : decode cX6_testOf 18 = .ok (.ireturn, 1) := by decide +kernel
set_option maxRecDepth 20000 in
theorem ggX6_test_X6_isBox : GoodIn wsX6_test wsX6_isBox := goodIn_r _ [5, 6, 7, 8, 4, 9, 46, 47, 48, 49, 50, 51, 52, 53, 54, 55, 56, 57, 58, 59, 60, 61, 62, 63, 64, 65, 66] (by decide +kernel) (by decide +kernel)
set_option maxRecDepth 20000 in
theorem gX6_test_X6_isBox : GoodIn wsX6_test (wsV RX6 98 RX6 yX6_isBox wsX6_isBox) := goodIn_app (goodIn_of _ (by decide +kernel)) ggX6_test_X6_isBox
set_option maxRecDepth 20000 in
theorem ggX6_test_X6_in : GoodIn wsX6_test wsX6_in := goodIn_r _ [9] (by decide +kernel) (by decide +kernel)
set_option maxRecDepth 20000 in
theorem gX6_test_X6_in : GoodIn wsX6_test (va_wsS RX6 81 yX6_in wsX6_in) := goodIn_app (goodIn_of _ (by decide +kernel)) ggX6_test_X6_in
set_option maxRecDepth 20000 in
theorem ggX6_test_X6_testOf : GoodIn wsX6_test wsX6_testOf := goodIn_r _ [13, 14, 15, 16, 4, 17, 18, 19, 20, 21, 6, 22, 23, 24, 25, 26, 27, 28, 29, 30, 31, 32, 33, 34, 35, 36, 37, 38, 39, 40, 46, 47, 48, 49, 50, 51, 52, 53, 54, 55, 56, 57, 58, 59, 60, 61, 62, 63, 64, 65, 66] (by decide +kernel) (by decide +kernel)
set_option maxRecDepth 20000 in
theorem gX6_test_X6_testOf : GoodIn wsX6_test (wsV RX6 213 RX6 yX6_testOf wsX6_testOf) := goodIn_app (goodIn_of _ (by decide +kernel)) ggX6_test_X6_testOf
set_option maxRecDepth 20000 in
theorem ggX6_test_X6_bad : GoodIn wsX6_test wsX6_bad := goodIn_r _ [44, 45, 46, 47, 48, 49, 50, 51, 52, 53, 54, 55, 56, 57, 58, 59, 60, 61, 62, 63, 64, 65, 66] (by decide +kernel) (by decide +kernel)
set_option maxRecDepth 20000 in
theorem gX6_test_X6_bad : GoodIn wsX6_test (wsV RX6 105 RX6 yX6_bad wsX6_bad) := goodIn_app (goodIn_of _ (by decide +kernel)) ggX6_test_X6_bad
theorem dX6_test_0 : decode cX6_test 0 = .ok (.aload_n 0, 1) := by decide +kernel
theorem dX6_test_1 : decode cX6_test 1 = .ok (.iload_n 1, 1) := by decide +kernel
theorem dX6_test_2 : decode cX6_test 2 = .ok (.invokevirtual 98, 3) := by decide +kernel
theorem dX6_test_5 : decode cX6_test 5 = .ok (.ifCond .eq 21, 3) := by decide +kernel
theorem dX6_test_8 : decode cX6_test 8 = .ok (.iload_n 2, 1) := by decide +kernel
theorem dX6_test_9 : decode cX6_test 9 = .ok (.iconst 0, 1) := by decide +kernel
theorem dX6_test_10 : decode cX6_test 10 = .ok (.iconst 3, 1) := by decide +kernel
theorem dX6_test_11 : decode cX6_test 11 = .ok (.invokestatic 81, 3) := by decide +kernel
theorem dX6_test_14 : decode cX6_test 14 = .ok (.ifCond .eq 12, 3) := by decide +kernel
theorem dX6_test_17 : decode cX6_test 17 = .ok (.aload_n 0, 1) := by decide +kernel
theorem dX6_test_18 : decode cX6_test 18 = .ok (.iload_n 1, 1) := by decide +kernel
theorem dX6_test_19 : decode cX6_test 19 = .ok (.iload_n 2, 1) := by decide +kernel
theorem dX6_test_20 : decode cX6_test 20 = .ok (.invokevirtual 213, 3) := by decide +kernel
theorem dX6_test_23 : decode cX6_test 23 = .ok (.goto 7, 3) := by decide +kernel
theorem dX6_test_26 : decode cX6_test 26 = .ok (.aload_n 0, 1) := by decide +kernel
theorem dX6_test_27 : decode cX6_test 27 = .ok (.invokevirtual 105, 3) := by decide +kernel
theorem dX6_test_30 : decode cX6_test 30 = .ok (.ireturn, 1) := by decide +kernel
set_option maxRecDepth 20000 in
theorem ggX6_likeOf_X6_boxAt : GoodIn wsX6_likeOf wsX6_boxAt := goodIn_r _ [6] (by decide +kernel) (by decide +kernel)
set_option maxRecDepth 20000 in
theorem gX6_likeOf_X6_boxAt : GoodIn wsX6_likeOf (wsV RX6 85 RX6 yX6_boxAt wsX6_boxAt) := goodIn_app (goodIn_of _ (by decide +kernel)) ggX6_likeOf_X6_boxAt
theorem dX6_likeOf_0 : decode cX6_likeOf 0 = .ok (.iconst (-1), 1) := by decide +kernel
theorem dX6_likeOf_1 : decode cX6_likeOf 1 = .ok (.istore_n 2, 1) := by decide +kernel
theorem dX6_likeOf_2 : decode cX6_likeOf 2 = .ok (.iload_n 1, 1) := by decide +kernel
theorem dX6_likeOf_3 : decode cX6_likeOf 3 = .ok (.istore_n 3, 1) := by decide +kernel
theorem dX6_likeOf_4 : decode cX6_likeOf 4 = .ok (.iload_n 3, 1) := by decide +kernel
theorem dX6_likeOf_5 : decode cX6_likeOf 5 = .ok (.ifCond .lt 79, 3) := by decide +kernel
theorem dX6_likeOf_8 : decode cX6_likeOf 8 = .ok (.iconst 1, 1) := by decide +kernel
theorem dX6_likeOf_9 : decode cX6_likeOf 9 = .ok (.istore 4, 2) := by decide +kernel
theorem dX6_likeOf_11 : decode cX6_likeOf 11 = .ok (.iconst 0, 1) := by decide +kernel
theorem dX6_likeOf_12 : decode cX6_likeOf 12 = .ok (.istore 5, 2) := by decide +kernel
theorem dX6_likeOf_14 : decode cX6_likeOf 14 = .ok (.iload 5, 2) := by decide +kernel
theorem dX6_likeOf_16 : decode cX6_likeOf 16 = .ok (.iconst 4, 1) := by decide +kernel
theorem dX6_likeOf_17 : decode cX6_likeOf 17 = .ok (.if_icmp .ge 50, 3) := by decide +kernel
theorem dX6_likeOf_20 : decode cX6_likeOf 20 = .ok (.iload 4, 2) := by decide +kernel
theorem dX6_likeOf_22 : decode cX6_likeOf 22 = .ok (.ifCond .eq 36, 3) := by decide +kernel
theorem dX6_likeOf_25 : decode cX6_likeOf 25 = .ok (.aload_n 0, 1) := by decide +kernel
theorem dX6_likeOf_26 : decode cX6_likeOf 26 = .ok (.getfield 7, 3) := by decide +kernel
theorem dX6_likeOf_29 : decode cX6_likeOf 29 = .ok (.aload_n 0, 1) := by decide +kernel
theorem dX6_likeOf_30 : decode cX6_likeOf 30 = .ok (.iload_n 3, 1) := by decide +kernel
theorem dX6_likeOf_31 : decode cX6_likeOf 31 = .ok (.invokevirtual 85, 3) := by decide +kernel
theorem dX6_likeOf_34 : decode cX6_likeOf 34 = .ok (.iload 5, 2) := by decide +kernel
theorem dX6_likeOf_36 : decode cX6_likeOf 36 = .ok (.iadd, 1) := by decide +kernel
theorem dX6_likeOf_37 : decode cX6_likeOf 37 = .ok (.iaload, 1) := by decide +kernel
theorem dX6_likeOf_38 : decode cX6_likeOf 38 = .ok (.aload_n 0, 1) := by decide +kernel
theorem dX6_likeOf_39 : decode cX6_likeOf 39 = .ok (.getfield 7, 3) := by decide +kernel
theorem dX6_likeOf_42 : decode cX6_likeOf 42 = .ok (.aload_n 0, 1) := by decide +kernel
theorem dX6_likeOf_43 : decode cX6_likeOf 43 = .ok (.iload_n 1, 1) := by decide +kernel
theorem dX6_likeOf_44 : decode cX6_likeOf 44 = .ok (.invokevirtual 85, 3) := by decide +kernel
theorem dX6_likeOf_47 : decode cX6_likeOf 47 = .ok (.iload 5, 2) := by decide +kernel
theorem dX6_likeOf_49 : decode cX6_likeOf 49 = .ok (.iadd, 1) := by decide +kernel
theorem dX6_likeOf_50 : decode cX6_likeOf 50 = .ok (.iaload, 1) := by decide +kernel
theorem dX6_likeOf_51 : decode cX6_likeOf 51 = .ok (.if_icmp .ne 7, 3) := by decide +kernel
theorem dX6_likeOf_54 : decode cX6_likeOf 54 = .ok (.iconst 1, 1) := by decide +kernel
theorem dX6_likeOf_55 : decode cX6_likeOf 55 = .ok (.goto 4, 3) := by decide +kernel
theorem dX6_likeOf_58 : decode cX6_likeOf 58 = .ok (.iconst 0, 1) := by decide +kernel
theorem dX6_likeOf_59 : decode cX6_likeOf 59 = .ok (.istore 4, 2) := by decide +kernel
theorem dX6_likeOf_61 : decode cX6_likeOf 61 = .ok (.iinc 5 1, 3) := by decide +kernel
theorem dX6_likeOf_64 : decode cX6_likeOf 64 = .ok (.goto (-50), 3) := by decide +kernel
theorem dX6_likeOf_67 : decode cX6_likeOf 67 = .ok (.iload 4, 2) := by decide +kernel
theorem dX6_likeOf_69 : decode cX6_likeOf 69 = .ok (.ifCond .eq 7, 3) := by decide +kernel
theorem dX6_likeOf_72 : decode cX6_likeOf 72 = .ok (.iload_n 3, 1) := by decide +kernel
theorem dX6_likeOf_73 : decode cX6_likeOf 73 = .ok (.goto 4, 3) := by decide +kernel
theorem dX6_likeOf_76 : decode cX6_likeOf 76 = .ok (.iload_n 2, 1) := by decide +kernel
theorem dX6_likeOf_77 : decode cX6_likeOf 77 = .ok (.istore_n 2, 1) := by decide +kernel
theorem dX6_likeOf_78 : decode cX6_likeOf 78 = .ok (.iinc 3 (-1), 3) := by decide +kernel
theorem dX6_likeOf_81 : decode cX6_likeOf 81 = .ok (.goto (-77), 3) := by decide +kernel
theorem dX6_likeOf_84 : decode cX6_likeOf 84 = .ok (.iload_n 2, 1) := by decide +kernel
theorem dX6_likeOf_85 : decode cX6_likeOf 85 = .ok (.ireturn, 1) := by decide +kernel
set_option maxRecDepth 20000 in
theorem ggX6_like_X6_isBox : GoodIn wsX6_like wsX6_isBox := goodIn_r _ [5, 6, 7, 8, 4, 9, 23, 24, 25, 26, 27, 28, 29, 30, 31, 32, 33, 34, 35, 36, 37, 38, 39, 40, 41, 42, 43] (by decide +kernel) (by decide +kernel)
set_option maxRecDepth 20000 in
theorem gX6_like_X6_isBox : GoodIn wsX6_like (wsV RX6 98 RX6 yX6_isBox wsX6_isBox) := goodIn_app (goodIn_of _ (by decide +kernel)) ggX6_like_X6_isBox
set_option maxRecDepth 20000 in
theorem ggX6_like_X6_likeOf : GoodIn wsX6_like wsX6_likeOf := goodIn_r _ [13, 6, 14, 15, 16, 4, 17, 23, 24, 25, 26, 27, 28, 29, 30, 31, 32, 33, 34, 35, 36, 37, 38, 39, 40, 41, 42, 43] (by decide +kernel) (by decide +kernel)
set_option maxRecDepth 20000 in
theorem gX6_like_X6_likeOf : GoodIn wsX6_like (wsV RX6 216 RX6 yX6_likeOf wsX6_likeOf) := goodIn_app (goodIn_of _ (by decide +kernel)) ggX6_like_X6_likeOf
set_option maxRecDepth 20000 in
theorem ggX6_like_X6_bad : GoodIn wsX6_like wsX6_bad := goodIn_r _ [21, 22, 23, 24, 25, 26, 27, 28, 29, 30, 31, 32, 33, 34, 35, 36, 37, 38, 39, 40, 41, 42, 43] (by decide +kernel) (by decide +kernel)
set_option maxRecDepth 20000 in
theorem gX6_like_X6_bad : GoodIn wsX6_like (wsV RX6 105 RX6 yX6_bad wsX6_bad) := goodIn_app (goodIn_of _ (by decide +kernel)) ggX6_like_X6_bad
theorem dX6_like_0 : decode cX6_like 0 = .ok (.aload_n 0, 1) := by decide +kernel
theorem dX6_like_1 : decode cX6_like 1 = .ok (.iload_n 1, 1) := by decide +kernel
theorem dX6_like_2 : decode cX6_like 2 = .ok (.invokevirtual 98, 3) := by decide +kernel
theorem dX6_like_5 : decode cX6_like 5 = .ok (.ifCond .eq 11, 3) := by decide +kernel
theorem dX6_like_8 : decode cX6_like 8 = .ok (.aload_n 0, 1) := by decide +kernel
theorem dX6_like_9 : decode cX6_like 9 = .ok (.iload_n 1, 1) := by decide +kernel
theorem dX6_like_10 : decode cX6_like 10 = .ok (.invokevirtual 216, 3) := by decide +kernel
theorem dX6_like_13 : decode cX6_like 13 = .ok (.goto 7, 3) := by decide +kernel
theorem dX6_like_16 : decode cX6_like 16 = .ok (.aload_n 0, 1) := by decide +kernel
theorem dX6_like_17 : decode cX6_like 17 = .ok (.invokevirtual 105, 3) := by decide +kernel
theorem dX6_like_20 : decode cX6_like 20 = .ok (.ireturn, 1) := by decide +kernel
set_option maxRecDepth 20000 in
theorem ggX6_type_X6_in : GoodIn wsX6_type wsX6_in := goodIn_r _ [6] (by decide +kernel) (by decide +kernel)
set_option maxRecDepth 20000 in
theorem gX6_type_X6_in : GoodIn wsX6_type (va_wsS RX6 81 yX6_in wsX6_in) := goodIn_app (goodIn_of _ (by decide +kernel)) ggX6_type_X6_in
set_option maxRecDepth 20000 in
theorem ggX6_type_X6_bad : GoodIn wsX6_type wsX6_bad := goodIn_r _ [10, 11, 16, 17, 18, 19, 20, 21, 22, 23, 24, 25, 26, 27, 28, 29, 30, 31, 32, 33, 34, 35, 36] (by decide +kernel) (by decide +kernel)
set_option maxRecDepth 20000 in
theorem gX6_type_X6_bad : GoodIn wsX6_type (wsV RX6 105 RX6 yX6_bad wsX6_bad) := goodIn_app (goodIn_of _ (by decide +kernel)) ggX6_type_X6_bad
set_option maxRecDepth 20000 in
theorem ggX6_type_X6_full : GoodIn wsX6_type wsX6_full := goodIn_r _ [15, 11, 16, 17, 18, 19, 20, 21, 22, 23, 24, 25, 26, 27, 28, 29, 30, 31, 32, 33, 34, 35, 36] (by decide +kernel) (by decide +kernel)
set_option maxRecDepth 20000 in
theorem gX6_type_X6_full : GoodIn wsX6_type (wsV RX6 88 RX6 yX6_full wsX6_full) := goodIn_app (goodIn_of _ (by decide +kernel)) ggX6_type_X6_full
theorem dX6_type_0 : decode cX6_type 0 = .ok (.iload_n 1, 1) := by decide +kernel
theorem dX6_type_1 : decode cX6_type 1 = .ok (.iconst 0, 1) := by decide +kernel
theorem dX6_type_2 : decode cX6_type 2 = .ok (.bipush 127, 2) := by decide +kernel
theorem dX6_type_4 : decode cX6_type 4 = .ok (.invokestatic 81, 3) := by decide +kernel
theorem dX6_type_7 : decode cX6_type 7 = .ok (.ifCond .ne 8, 3) := by decide +kernel
theorem dX6_type_10 : decode cX6_type 10 = .ok (.aload_n 0, 1) := by decide +kernel
theorem dX6_type_11 : decode cX6_type 11 = .ok (.invokevirtual 105, 3) := by decide +kernel
theorem dX6_type_14 : decode cX6_type 14 = .ok (.ireturn, 1) := by decide +kernel
theorem dX6_type_15 : decode cX6_type 15 = .ok (.aload_n 0, 1) := by decide +kernel
theorem dX6_type_16 : decode cX6_type 16 = .ok (.getfield 219, 3) := by decide +kernel
theorem dX6_type_19 : decode cX6_type 19 = .ok (.bipush 120, 2) := by decide +kernel
theorem dX6_type_21 : decode cX6_type 21 = .ok (.if_icmp .ne 8, 3) := by decide +kernel
theorem dX6_type_24 : decode cX6_type 24 = .ok (.aload_n 0, 1) := by decide +kernel
theorem dX6_type_25 : decode cX6_type 25 = .ok (.invokevirtual 88, 3) := by decide +kernel
theorem dX6_type_28 : decode cX6_type 28 = .ok (.ireturn, 1) := by decide +kernel
theorem dX6_type_29 : decode cX6_type 29 = .ok (.aload_n 0, 1) := by decide +kernel
theorem dX6_type_30 : decode cX6_type 30 = .ok (.getfield 22, 3) := by decide +kernel
theorem dX6_type_33 : decode cX6_type 33 = .ok (.aload_n 0, 1) := by decide +kernel
theorem dX6_type_34 : decode cX6_type 34 = .ok (.getfield 219, 3) := by decide +kernel
theorem dX6_type_37 : decode cX6_type 37 = .ok (.iload_n 1, 1) := by decide +kernel
theorem dX6_type_38 : decode cX6_type 38 = .ok (.iastore, 1) := by decide +kernel
theorem dX6_type_39 : decode cX6_type 39 = .ok (.aload_n 0, 1) := by decide +kernel
theorem dX6_type_40 : decode cX6_type 40 = .ok (.dup, 1) := by decide +kernel
theorem dX6_type_41 : decode cX6_type 41 = .ok (.getfield 219, 3) := by decide +kernel
theorem dX6_type_44 : decode cX6_type 44 = .ok (.iconst 1, 1) := by decide +kernel
theorem dX6_type_45 : decode cX6_type 45 = .ok (.iadd, 1) := by decide +kernel
theorem dX6_type_46 : decode cX6_type 46 = .ok (.putfield 219, 3) := by decide +kernel
theorem dX6_type_49 : decode cX6_type 49 = .ok (.aload_n 0, 1) := by decide +kernel
theorem dX6_type_50 : decode cX6_type 50 = .ok (.getfield 219, 3) := by decide +kernel
theorem dX6_type_53 : decode cX6_type 53 = .ok (.ireturn, 1) := by decide +kernel
theorem dX6_clear_0 : decode cX6_clear 0 = .ok (.aload_n 0, 1) := by decide +kernel
theorem dX6_clear_1 : decode cX6_clear 1 = .ok (.getfield 219, 3) := by decide +kernel
theorem dX6_clear_4 : decode cX6_clear 4 = .ok (.istore_n 1, 1) := by decide +kernel
theorem dX6_clear_5 : decode cX6_clear 5 = .ok (.aload_n 0, 1) := by decide +kernel
theorem dX6_clear_6 : decode cX6_clear 6 = .ok (.iconst 0, 1) := by decide +kernel
theorem dX6_clear_7 : decode cX6_clear 7 = .ok (.putfield 219, 3) := by decide +kernel
theorem dX6_clear_10 : decode cX6_clear 10 = .ok (.iload_n 1, 1) := by decide +kernel
theorem dX6_clear_11 : decode cX6_clear 11 = .ok (.ireturn, 1) := by decide +kernel
set_option maxRecDepth 20000 in
theorem ggX6_isAt_X6_in : GoodIn wsX6_isAt wsX6_in := goodIn_r _ [7] (by decide +kernel) (by decide +kernel)
set_option maxRecDepth 20000 in
theorem gX6_isAt_X6_in : GoodIn wsX6_isAt (va_wsS RX6 81 yX6_in wsX6_in) := goodIn_app (goodIn_of _ (by decide +kernel)) ggX6_isAt_X6_in
theorem dX6_isAt_0 : decode cX6_isAt 0 = .ok (.aload_n 0, 1) := by decide +kernel
theorem dX6_isAt_1 : decode cX6_isAt 1 = .ok (.getfield 222, 3) := by decide +kernel
theorem dX6_isAt_4 : decode cX6_isAt 4 = .ok (.aload_n 0, 1) := by decide +kernel
theorem dX6_isAt_5 : decode cX6_isAt 5 = .ok (.getfield 219, 3) := by decide +kernel
theorem dX6_isAt_8 : decode cX6_isAt 8 = .ok (.if_icmp .ge 24, 3) := by decide +kernel
theorem dX6_isAt_11 : decode cX6_isAt 11 = .ok (.aload_n 0, 1) := by decide +kernel
theorem dX6_isAt_12 : decode cX6_isAt 12 = .ok (.getfield 22, 3) := by decide +kernel
theorem dX6_isAt_15 : decode cX6_isAt 15 = .ok (.aload_n 0, 1) := by decide +kernel
theorem dX6_isAt_16 : decode cX6_isAt 16 = .ok (.getfield 222, 3) := by decide +kernel
theorem dX6_isAt_19 : decode cX6_isAt 19 = .ok (.iaload, 1) := by decide +kernel
theorem dX6_isAt_20 : decode cX6_isAt 20 = .ok (.iload_n 1, 1) := by decide +kernel
theorem dX6_isAt_21 : decode cX6_isAt 21 = .ok (.iload_n 2, 1) := by decide +kernel
theorem dX6_isAt_22 : decode cX6_isAt 22 = .ok (.invokestatic 81, 3) := by decide +kernel
theorem dX6_isAt_25 : decode cX6_isAt 25 = .ok (.ifCond .eq 7, 3) := by decide +kernel
theorem dX6_isAt_28 : decode cX6_isAt 28 = .ok (.iconst 1, 1) := by decide +kernel
theorem dX6_isAt_29 : decode cX6_isAt 29 = .ok (.goto 4, 3) := by decide +kernel
theorem dX6_isAt_32 : decode cX6_isAt 32 = .ok (.iconst 0, 1) := by decide +kernel
theorem dX6_isAt_33 : decode cX6_isAt 33 = .ok (.ireturn, 1) := by decide +kernel
set_option maxRecDepth 20000 in
theorem ggX6_blanks_X6_isAt : GoodIn wsX6_blanks wsX6_isAt := goodIn_r _ [6, 1, 7, 8, 9, 10, 5, 11, 12, 13, 14, 15, 16, 17, 18, 19, 20, 21, 22, 23, 24, 25, 26, 27, 28, 29, 30, 31, 32] (by decide +kernel) (by decide +kernel)
set_option maxRecDepth 20000 in
theorem gX6_blanks_X6_isAt : GoodIn wsX6_blanks (wsV RX6 225 RX6 yX6_isAt wsX6_isAt) := goodIn_app (goodIn_of _ (by decide +kernel)) ggX6_blanks_X6_isAt
theorem dX6_blanks_0 : decode cX6_blanks 0 = .ok (.aload_n 0, 1) := by decide +kernel
theorem dX6_blanks_1 : decode cX6_blanks 1 = .ok (.bipush 32, 2) := by decide +kernel
theorem dX6_blanks_3 : decode cX6_blanks 3 = .ok (.bipush 32, 2) := by decide +kernel
theorem dX6_blanks_5 : decode cX6_blanks 5 = .ok (.invokevirtual 225, 3) := by decide +kernel
theorem dX6_blanks_8 : decode cX6_blanks 8 = .ok (.ifCond .eq 16, 3) := by decide +kernel
theorem dX6_blanks_11 : decode cX6_blanks 11 = .ok (.aload_n 0, 1) := by decide +kernel
theorem dX6_blanks_12 : decode cX6_blanks 12 = .ok (.dup, 1) := by decide +kernel
theorem dX6_blanks_13 : decode cX6_blanks 13 = .ok (.getfield 222, 3) := by decide +kernel
theorem dX6_blanks_16 : decode cX6_blanks 16 = .ok (.iconst 1, 1) := by decide +kernel
theorem dX6_blanks_17 : decode cX6_blanks 17 = .ok (.iadd, 1) := by decide +kernel
theorem dX6_blanks_18 : decode cX6_blanks 18 = .ok (.putfield 222, 3) := by decide +kernel
theorem dX6_blanks_21 : decode cX6_blanks 21 = .ok (.goto (-21), 3) := by decide +kernel
theorem dX6_blanks_24 : decode cX6_blanks 24 = .ok (.return_, 1) := by decide +kernel
